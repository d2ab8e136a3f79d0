theorem dX12_shrink_0 : decode cX12_shrink 0 = .ok (.aload_n 0, 1) := by decide +kernel
theorem dX12_shrink_1 : decode cX12_shrink 1 = .ok (.aload_n 0, 1) := by decide +kernel
theorem dX12_shrink_2 : decode cX12_shrink 2 = .ok (.invokevirtual 346, 3) := by decide +kernel
theorem dX12_shrink_5 : decode cX12_shrink 5 = .ok (.ifCond .ne 7, 3) := by decide +kernel
theorem dX12_shrink_8 : decode cX12_shrink 8 = .ok (.iconst 1, 1) := by decide +kernel
theorem dX12_shrink_9 : decode cX12_shrink 9 = .ok (.goto 4, 3) := by decide +kernel
theorem dX12_shrink_12 : decode cX12_shrink 12 = .ok (.iconst 0, 1) := by decide +kernel
theorem dX12_shrink_13 : decode cX12_shrink 13 = .ok (.invokevirtual 100, 3) := by decide +kernel
theorem dX12_shrink_16 : decode cX12_shrink 16 = .ok (.ifCond .ne 5, 3) := by decide +kernel
theorem dX12_shrink_19 : decode cX12_shrink 19 = .ok (.iconst 0, 1) := by decide +kernel
theorem dX12_shrink_20 : decode cX12_shrink 20 = .ok (.ireturn, 1) := by decide +kernel
theorem dX12_shrink_21 : decode cX12_shrink 21 = .ok (.aload_n 0, 1) := by decide +kernel
theorem dX12_shrink_22 : decode cX12_shrink 22 = .ok (.invokevirtual 233, 3) := by decide +kernel
theorem dX12_shrink_25 : decode cX12_shrink 25 = .ok (.aload_n 0, 1) := by decide +kernel
theorem dX12_shrink_26 : decode cX12_shrink 26 = .ok (.aload_n 0, 1) := by decide +kernel
theorem dX12_shrink_27 : decode cX12_shrink 27 = .ok (.invokevirtual 405, 3) := by decide +kernel
theorem dX12_shrink_30 : decode cX12_shrink 30 = .ok (.invokevirtual 408, 3) := by decide +kernel
theorem dX12_shrink_33 : decode cX12_shrink 33 = .ok (.ireturn, 1) := by decide +kernel
set_option maxRecDepth 20000 in
theorem ggX12_grow_X12_goes : GoodIn wsX12_grow wsX12_goes := goodIn_r _ [6, 7, 8, 9, 5, 10, 34, 35, 36, 37, 38, 39, 40, 41, 42, 43, 44, 45, 46, 47, 48, 49, 50, 51, 52, 53, 54, 55, 56, 57, 58, 59, 60, 61, 62, 63, 64, 65, 66, 67, 68, 69, 70, 71, 72, 73, 74, 75, 76, 77, 78, 79, 80, 81] (by decide +kernel) (by decide +kernel)
set_option maxRecDepth 20000 in
theorem gX12_grow_X12_goes : GoodIn wsX12_grow (wsV RX12 100 RX12 yX12_goes wsX12_goes) := goodIn_app (goodIn_of _ (by decide +kernel)) ggX12_grow_X12_goes
set_option maxRecDepth 20000 in
theorem ggX12_grow_X12_laysAside : GoodIn wsX12_grow wsX12_laysAside := goodIn_r _ [14, 15, 1, 34, 35, 36, 37, 38, 39, 40, 41, 42, 43, 44, 45, 46, 47, 48, 49, 50, 51, 52, 53, 54, 55, 56, 57, 58, 59, 60, 61, 62, 63, 64, 65, 66, 67, 68, 69, 70, 71, 72, 73, 74, 75, 76, 77, 78, 79, 80, 81] (by decide +kernel) (by decide +kernel)
set_option maxRecDepth 20000 in
theorem gX12_grow_X12_laysAside : GoodIn wsX12_grow (wsV RX12 233 RX12 yX12_laysAside wsX12_laysAside) := goodIn_app (goodIn_of _ (by decide +kernel)) ggX12_grow_X12_laysAside
set_option maxRecDepth 20000 in
theorem ggX12_grow_X12_grows : GoodIn wsX12_grow wsX12_grows := goodIn_r _ [19, 1, 20, 21, 22, 5, 23, 34, 35, 36, 37, 38, 39, 40, 41, 42, 43, 44, 45, 46, 47, 48, 49, 50, 51, 52, 53, 54, 55, 56, 57, 58, 59, 60, 61, 62, 63, 64, 65, 66, 67, 68, 69, 70, 71, 72, 73, 74, 75, 76, 77, 78, 79, 80, 81] (by decide +kernel) (by decide +kernel)
set_option maxRecDepth 20000 in
theorem gX12_grow_X12_grows : GoodIn wsX12_grow (wsV RX12 410 RX12 yX12_grows wsX12_grows) := goodIn_app (goodIn_of _ (by decide +kernel)) ggX12_grow_X12_grows
set_option maxRecDepth 20000 in
theorem ggX12_grow_X12_kept : GoodIn wsX12_grow wsX12_kept := goodIn_r _ [27, 28, 29, 30, 5, 31, 32, 33, 15, 34, 35, 36, 37, 38, 39, 40, 41, 42, 43, 44, 45, 46, 47, 48, 49, 50, 51, 52, 53, 54, 55, 56, 57, 58, 59, 60, 61, 62, 63, 64, 65, 66, 67, 68, 69, 70, 71, 72, 73, 74, 75, 76, 77, 78, 79, 80, 81] (by decide +kernel) (by decide +kernel)
set_option maxRecDepth 20000 in
theorem gX12_grow_X12_kept : GoodIn wsX12_grow (wsV RX12 408 RX12 yX12_kept wsX12_kept) := goodIn_app (goodIn_of _ (by decide +kernel)) ggX12_grow_X12_kept
theorem dX12_grow_0 : decode cX12_grow 0 = .ok (.aload_n 0, 1) := by decide +kernel
theorem dX12_grow_1 : decode cX12_grow 1 = .ok (.aload_n 0, 1) := by decide +kernel
theorem dX12_grow_2 : decode cX12_grow 2 = .ok (.getfield 26, 3) := by decide +kernel
theorem dX12_grow_5 : decode cX12_grow 5 = .ok (.iconst 5, 1) := by decide +kernel
theorem dX12_grow_6 : decode cX12_grow 6 = .ok (.iaload, 1) := by decide +kernel
theorem dX12_grow_7 : decode cX12_grow 7 = .ok (.ifCond .le 7, 3) := by decide +kernel
theorem dX12_grow_10 : decode cX12_grow 10 = .ok (.iconst 1, 1) := by decide +kernel
theorem dX12_grow_11 : decode cX12_grow 11 = .ok (.goto 4, 3) := by decide +kernel
theorem dX12_grow_14 : decode cX12_grow 14 = .ok (.iconst 0, 1) := by decide +kernel
theorem dX12_grow_15 : decode cX12_grow 15 = .ok (.invokevirtual 100, 3) := by decide +kernel
theorem dX12_grow_18 : decode cX12_grow 18 = .ok (.ifCond .ne 5, 3) := by decide +kernel
theorem dX12_grow_21 : decode cX12_grow 21 = .ok (.iconst 0, 1) := by decide +kernel
theorem dX12_grow_22 : decode cX12_grow 22 = .ok (.ireturn, 1) := by decide +kernel
theorem dX12_grow_23 : decode cX12_grow 23 = .ok (.aload_n 0, 1) := by decide +kernel
theorem dX12_grow_24 : decode cX12_grow 24 = .ok (.invokevirtual 233, 3) := by decide +kernel
theorem dX12_grow_27 : decode cX12_grow 27 = .ok (.aload_n 0, 1) := by decide +kernel
theorem dX12_grow_28 : decode cX12_grow 28 = .ok (.aload_n 0, 1) := by decide +kernel
theorem dX12_grow_29 : decode cX12_grow 29 = .ok (.invokevirtual 410, 3) := by decide +kernel
theorem dX12_grow_32 : decode cX12_grow 32 = .ok (.invokevirtual 408, 3) := by decide +kernel
theorem dX12_grow_35 : decode cX12_grow 35 = .ok (.ireturn, 1) := by decide +kernel
set_option maxRecDepth 20000 in
theorem ggX12_move_X12_areThere : GoodIn wsX12_move wsX12_areThere := goodIn_r _ [5, 6, 7, 8, 4, 9, 10, 11, 12, 13, 14, 15, 16, 17, 18, 19, 20, 21, 101, 102, 103, 104, 105, 106, 107, 108, 109, 110, 111, 112, 113, 114, 115, 116, 117, 118, 119, 120, 121, 122, 123, 124, 125, 126, 127, 128, 129, 130, 131, 132, 133, 134, 135, 136, 137, 138, 139, 140, 141, 142, 143, 144, 145, 146, 147, 148] (by decide +kernel) (by decide +kernel)
set_option maxRecDepth 20000 in
theorem gX12_move_X12_areThere : GoodIn wsX12_move (wsV RX12 352 RX12 yX12_areThere wsX12_areThere) := goodIn_app (goodIn_of _ (by decide +kernel)) ggX12_move_X12_areThere
set_option maxRecDepth 20000 in
theorem ggX12_move_X12_whyMove : GoodIn wsX12_move wsX12_whyMove := goodIn_r _ [25, 14, 26, 27, 28, 4, 29, 30, 31, 32, 33, 34, 35, 36, 37, 38, 39, 40, 41, 42, 43, 44, 45, 46, 47, 48, 49, 50, 51, 52, 53, 54, 55, 56, 57, 58, 59, 60, 61, 62, 63, 64, 101, 102, 103, 104, 105, 106, 107, 108, 109, 110, 111, 112, 113, 114, 115, 116, 117, 118, 119, 120, 121, 122, 123, 124, 125, 126, 127, 128, 129, 130, 131, 132, 133, 134, 135, 136, 137, 138, 139, 140, 141, 142, 143, 144, 145, 146, 147, 148] (by decide +kernel) (by decide +kernel)
set_option maxRecDepth 20000 in
theorem gX12_move_X12_whyMove : GoodIn wsX12_move (wsV RX12 358 RX12 yX12_whyMove wsX12_whyMove) := goodIn_app (goodIn_of _ (by decide +kernel)) ggX12_move_X12_whyMove
set_option maxRecDepth 20000 in
theorem ggX12_move_X12_goesBoth : GoodIn wsX12_move wsX12_goesBoth := goodIn_r _ [68, 69, 101, 102, 103, 104, 105, 106, 107, 108, 109, 110, 111, 112, 113, 114, 115, 116, 117, 118, 119, 120, 121, 122, 123, 124, 125, 126, 127, 128, 129, 130, 131, 132, 133, 134, 135, 136, 137, 138, 139, 140, 141, 142, 143, 144, 145, 146, 147, 148] (by decide +kernel) (by decide +kernel)
set_option maxRecDepth 20000 in
theorem gX12_move_X12_goesBoth : GoodIn wsX12_move (wsV RX12 273 RX12 yX12_goesBoth wsX12_goesBoth) := goodIn_app (goodIn_of _ (by decide +kernel)) ggX12_move_X12_goesBoth
set_option maxRecDepth 20000 in
theorem ggX12_move_X12_laysAside : GoodIn wsX12_move wsX12_laysAside := goodIn_r _ [73, 74, 14, 101, 102, 103, 104, 105, 106, 107, 108, 109, 110, 111, 112, 113, 114, 115, 116, 117, 118, 119, 120, 121, 122, 123, 124, 125, 126, 127, 128, 129, 130, 131, 132, 133, 134, 135, 136, 137, 138, 139, 140, 141, 142, 143, 144, 145, 146, 147, 148] (by decide +kernel) (by decide +kernel)
set_option maxRecDepth 20000 in
theorem gX12_move_X12_laysAside : GoodIn wsX12_move (wsV RX12 233 RX12 yX12_laysAside wsX12_laysAside) := goodIn_app (goodIn_of _ (by decide +kernel)) ggX12_move_X12_laysAside
set_option maxRecDepth 20000 in
theorem ggX12_move_X12_moves : GoodIn wsX12_move wsX12_moves := goodIn_r _ [78, 79, 80, 81, 4, 82, 14, 26, 27, 28, 29, 30, 31, 32, 33, 83, 84, 85, 86, 87, 88, 89, 90, 101, 102, 103, 104, 105, 106, 107, 108, 109, 110, 111, 112, 113, 114, 115, 116, 117, 118, 119, 120, 121, 122, 123, 124, 125, 126, 127, 128, 129, 130, 131, 132, 133, 134, 135, 136, 137, 138, 139, 140, 141, 142, 143, 144, 145, 146, 147, 148] (by decide +kernel) (by decide +kernel)
set_option maxRecDepth 20000 in
theorem gX12_move_X12_moves : GoodIn wsX12_move (wsV RX12 402 RX12 yX12_moves wsX12_moves) := goodIn_app (goodIn_of _ (by decide +kernel)) ggX12_move_X12_moves
set_option maxRecDepth 20000 in
theorem ggX12_move_X12_kept : GoodIn wsX12_move wsX12_kept := goodIn_r _ [94, 95, 96, 97, 4, 98, 99, 100, 74, 101, 102, 103, 104, 105, 106, 107, 108, 109, 110, 111, 112, 113, 114, 115, 116, 117, 118, 119, 120, 121, 122, 123, 124, 125, 126, 127, 128, 129, 130, 131, 132, 133, 134, 135, 136, 137, 138, 139, 140, 141, 142, 143, 144, 145, 146, 147, 148] (by decide +kernel) (by decide +kernel)
set_option maxRecDepth 20000 in
theorem gX12_move_X12_kept : GoodIn wsX12_move (wsV RX12 408 RX12 yX12_kept wsX12_kept) := goodIn_app (goodIn_of _ (by decide +kernel)) ggX12_move_X12_kept
theorem dX12_move_0 : decode cX12_move 0 = .ok (.aload_n 0, 1) := by decide +kernel
theorem dX12_move_1 : decode cX12_move 1 = .ok (.iload_n 1, 1) := by decide +kernel
theorem dX12_move_2 : decode cX12_move 2 = .ok (.iload_n 2, 1) := by decide +kernel
theorem dX12_move_3 : decode cX12_move 3 = .ok (.invokevirtual 352, 3) := by decide +kernel
theorem dX12_move_6 : decode cX12_move 6 = .ok (.istore_n 3, 1) := by decide +kernel
theorem dX12_move_7 : decode cX12_move 7 = .ok (.aload_n 0, 1) := by decide +kernel
theorem dX12_move_8 : decode cX12_move 8 = .ok (.iload_n 3, 1) := by decide +kernel
theorem dX12_move_9 : decode cX12_move 9 = .ok (.iload_n 3, 1) := by decide +kernel
theorem dX12_move_10 : decode cX12_move 10 = .ok (.ifCond .eq 16, 3) := by decide +kernel
theorem dX12_move_13 : decode cX12_move 13 = .ok (.aload_n 0, 1) := by decide +kernel
theorem dX12_move_14 : decode cX12_move 14 = .ok (.iload_n 1, 1) := by decide +kernel
theorem dX12_move_15 : decode cX12_move 15 = .ok (.iload_n 2, 1) := by decide +kernel
theorem dX12_move_16 : decode cX12_move 16 = .ok (.invokevirtual 358, 3) := by decide +kernel
theorem dX12_move_19 : decode cX12_move 19 = .ok (.ifCond .ne 7, 3) := by decide +kernel
theorem dX12_move_22 : decode cX12_move 22 = .ok (.iconst 1, 1) := by decide +kernel
theorem dX12_move_23 : decode cX12_move 23 = .ok (.goto 4, 3) := by decide +kernel
theorem dX12_move_26 : decode cX12_move 26 = .ok (.iconst 0, 1) := by decide +kernel
theorem dX12_move_27 : decode cX12_move 27 = .ok (.invokevirtual 273, 3) := by decide +kernel
theorem dX12_move_30 : decode cX12_move 30 = .ok (.ifCond .ne 5, 3) := by decide +kernel
theorem dX12_move_33 : decode cX12_move 33 = .ok (.iconst 0, 1) := by decide +kernel
theorem dX12_move_34 : decode cX12_move 34 = .ok (.ireturn, 1) := by decide +kernel
theorem dX12_move_35 : decode cX12_move 35 = .ok (.aload_n 0, 1) := by decide +kernel
theorem dX12_move_36 : decode cX12_move 36 = .ok (.invokevirtual 233, 3) := by decide +kernel
theorem dX12_move_39 : decode cX12_move 39 = .ok (.aload_n 0, 1) := by decide +kernel
theorem dX12_move_40 : decode cX12_move 40 = .ok (.aload_n 0, 1) := by decide +kernel
theorem dX12_move_41 : decode cX12_move 41 = .ok (.iload_n 1, 1) := by decide +kernel
theorem dX12_move_42 : decode cX12_move 42 = .ok (.iload_n 2, 1) := by decide +kernel
theorem dX12_move_43 : decode cX12_move 43 = .ok (.invokevirtual 402, 3) := by decide +kernel
theorem dX12_move_46 : decode cX12_move 46 = .ok (.invokevirtual 408, 3) := by decide +kernel
theorem dX12_move_49 : decode cX12_move 49 = .ok (.ireturn, 1) := by decide +kernel
set_option maxRecDepth 20000 in
theorem ggX12_step_X12_laysAside : GoodIn wsX12_step wsX12_laysAside := goodIn_r _ [6, 7, 8, 98, 99, 100, 101, 102, 103, 104, 105, 106, 107, 108, 109, 110, 111, 112, 113, 114, 115, 116, 117, 118, 119, 120, 121, 122, 123, 124, 125, 126, 127, 128, 129, 130, 131, 132, 133, 134, 135, 136, 137, 138, 139, 140, 141, 142, 143, 144, 145] (by decide +kernel) (by decide +kernel)
set_option maxRecDepth 20000 in
theorem gX12_step_X12_laysAside : GoodIn wsX12_step (wsV RX12 233 RX12 yX12_laysAside wsX12_laysAside) := goodIn_app (goodIn_of _ (by decide +kernel)) ggX12_step_X12_laysAside
set_option maxRecDepth 20000 in
theorem ggX12_step_X12_stepNow : GoodIn wsX12_step wsX12_stepNow := goodIn_r _ [12, 13, 14, 15, 5, 16, 17, 18, 19, 20, 8, 21, 22, 23, 24, 25, 26, 27, 28, 29, 30, 31, 32, 33, 34, 35, 36, 37, 38, 39, 40, 41, 42, 43, 44, 45, 46, 47, 48, 49, 50, 51, 52, 53, 54, 55, 56, 57, 58, 59, 60, 61, 62, 63, 64, 65, 66, 67, 68, 69, 70, 71, 72, 73, 74, 75, 76, 77, 78, 79, 80, 81, 82, 83, 84, 85, 86, 87, 98, 99, 100, 101, 102, 103, 104, 105, 106, 107, 108, 109, 110, 111, 112, 113, 114, 115, 116, 117, 118, 119, 120, 121, 122, 123, 124, 125, 126, 127, 128, 129, 130, 131, 132, 133, 134, 135, 136, 137, 138, 139, 140, 141, 142, 143, 144, 145] (by decide +kernel) (by decide +kernel)
set_option maxRecDepth 20000 in
theorem gX12_step_X12_stepNow : GoodIn wsX12_step (wsV RX12 384 RX12 yX12_stepNow wsX12_stepNow) := goodIn_app (goodIn_of _ (by decide +kernel)) ggX12_step_X12_stepNow
set_option maxRecDepth 20000 in
theorem ggX12_step_X12_kept : GoodIn wsX12_step wsX12_kept := goodIn_r _ [91, 92, 93, 94, 5, 95, 96, 97, 7, 98, 99, 100, 101, 102, 103, 104, 105, 106, 107, 108, 109, 110, 111, 112, 113, 114, 115, 116, 117, 118, 119, 120, 121, 122, 123, 124, 125, 126, 127, 128, 129, 130, 131, 132, 133, 134, 135, 136, 137, 138, 139, 140, 141, 142, 143, 144, 145] (by decide +kernel) (by decide +kernel)
set_option maxRecDepth 20000 in
theorem gX12_step_X12_kept : GoodIn wsX12_step (wsV RX12 408 RX12 yX12_kept wsX12_kept) := goodIn_app (goodIn_of _ (by decide +kernel)) ggX12_step_X12_kept
theorem dX12_step_0 : decode cX12_step 0 = .ok (.aload_n 0, 1) := by decide +kernel
theorem dX12_step_1 : decode cX12_step 1 = .ok (.iconst 0, 1) := by decide +kernel
theorem dX12_step_2 : decode cX12_step 2 = .ok (.putfield 90, 3) := by decide +kernel
theorem dX12_step_5 : decode cX12_step 5 = .ok (.aload_n 0, 1) := by decide +kernel
theorem dX12_step_6 : decode cX12_step 6 = .ok (.invokevirtual 233, 3) := by decide +kernel
theorem dX12_step_9 : decode cX12_step 9 = .ok (.aload_n 0, 1) := by decide +kernel
theorem dX12_step_10 : decode cX12_step 10 = .ok (.invokevirtual 384, 3) := by decide +kernel
theorem dX12_step_13 : decode cX12_step 13 = .ok (.istore_n 1, 1) := by decide +kernel
theorem dX12_step_14 : decode cX12_step 14 = .ok (.iload_n 1, 1) := by decide +kernel
theorem dX12_step_15 : decode cX12_step 15 = .ok (.iconst (-1), 1) := by decide +kernel
theorem dX12_step_16 : decode cX12_step 16 = .ok (.if_icmp .ne 7, 3) := by decide +kernel
theorem dX12_step_19 : decode cX12_step 19 = .ok (.iconst (-1), 1) := by decide +kernel
theorem dX12_step_20 : decode cX12_step 20 = .ok (.goto 8, 3) := by decide +kernel
theorem dX12_step_23 : decode cX12_step 23 = .ok (.aload_n 0, 1) := by decide +kernel
theorem dX12_step_24 : decode cX12_step 24 = .ok (.iload_n 1, 1) := by decide +kernel
theorem dX12_step_25 : decode cX12_step 25 = .ok (.invokevirtual 408, 3) := by decide +kernel
theorem dX12_step_28 : decode cX12_step 28 = .ok (.ireturn, 1) := by decide +kernel
set_option maxRecDepth 20000 in
theorem ggX12_steps_X12_isIn : GoodIn wsX12_steps wsX12_isIn := goodIn_r _ [5] (by decide +kernel) (by decide +kernel)
set_option maxRecDepth 20000 in
theorem gX12_steps_X12_isIn : GoodIn wsX12_steps (va_wsS RX12 108 yX12_isIn wsX12_isIn) := goodIn_app (goodIn_of _ (by decide +kernel)) ggX12_steps_X12_isIn
set_option maxRecDepth 20000 in
theorem ggX12_steps_X12_goes : GoodIn wsX12_steps wsX12_goes := goodIn_r _ [9, 10, 11, 12, 4, 13, 110, 111, 112, 113, 114, 115, 116, 117, 118, 119, 120, 121, 122, 123, 124, 125, 126, 127, 128, 129, 130, 131, 132, 133, 134, 135, 136, 137, 138, 139, 140, 141, 142, 143, 144, 145, 146, 147, 148, 149, 150, 151, 152, 153, 154, 155, 156, 157] (by decide +kernel) (by decide +kernel)
set_option maxRecDepth 20000 in
theorem gX12_steps_X12_goes : GoodIn wsX12_steps (wsV RX12 100 RX12 yX12_goes wsX12_goes) := goodIn_app (goodIn_of _ (by decide +kernel)) ggX12_steps_X12_goes
set_option maxRecDepth 20000 in
theorem ggX12_steps_X12_laysAside : GoodIn wsX12_steps wsX12_laysAside := goodIn_r _ [17, 18, 19, 110, 111, 112, 113, 114, 115, 116, 117, 118, 119, 120, 121, 122, 123, 124, 125, 126, 127, 128, 129, 130, 131, 132, 133, 134, 135, 136, 137, 138, 139, 140, 141, 142, 143, 144, 145, 146, 147, 148, 149, 150, 151, 152, 153, 154, 155, 156, 157] (by decide +kernel) (by decide +kernel)
set_option maxRecDepth 20000 in
theorem gX12_steps_X12_laysAside : GoodIn wsX12_steps (wsV RX12 233 RX12 yX12_laysAside wsX12_laysAside) := goodIn_app (goodIn_of _ (by decide +kernel)) ggX12_steps_X12_laysAside
set_option maxRecDepth 20000 in
theorem ggX12_steps_X12_stepsNow : GoodIn wsX12_steps wsX12_stepsNow := goodIn_r _ [23, 24, 25, 26, 4, 27, 28, 29, 30, 31, 32, 33, 34, 35, 19, 36, 37, 38, 39, 40, 41, 42, 43, 44, 45, 46, 47, 48, 49, 50, 51, 52, 53, 54, 55, 56, 57, 58, 59, 60, 61, 62, 63, 64, 65, 66, 67, 68, 69, 70, 71, 72, 73, 74, 75, 76, 77, 78, 79, 11, 12, 13, 80, 81, 82, 83, 84, 85, 86, 87, 88, 89, 90, 91, 92, 93, 94, 95, 96, 97, 98, 99, 110, 111, 112, 113, 114, 115, 116, 117, 118, 119, 120, 121, 122, 123, 124, 125, 126, 127, 128, 129, 130, 131, 132, 133, 134, 135, 136, 137, 138, 139, 140, 141, 142, 143, 144, 145, 146, 147, 148, 149, 150, 151, 152, 153, 154, 155, 156, 157] (by decide +kernel) (by decide +kernel)
set_option maxRecDepth 20000 in
theorem gX12_steps_X12_stepsNow : GoodIn wsX12_steps (wsV RX12 390 RX12 yX12_stepsNow wsX12_stepsNow) := goodIn_app (goodIn_of _ (by decide +kernel)) ggX12_steps_X12_stepsNow
set_option maxRecDepth 20000 in
theorem ggX12_steps_X12_kept : GoodIn wsX12_steps wsX12_kept := goodIn_r _ [103, 104, 105, 106, 4, 107, 108, 109, 18, 110, 111, 112, 113, 114, 115, 116, 117, 118, 119, 120, 121, 122, 123, 124, 125, 126, 127, 128, 129, 130, 131, 132, 133, 134, 135, 136, 137, 138, 139, 140, 141, 142, 143, 144, 145, 146, 147, 148, 149, 150, 151, 152, 153, 154, 155, 156, 157] (by decide +kernel) (by decide +kernel)
set_option maxRecDepth 20000 in
theorem gX12_steps_X12_kept : GoodIn wsX12_steps (wsV RX12 408 RX12 yX12_kept wsX12_kept) := goodIn_app (goodIn_of _ (by decide +kernel)) ggX12_steps_X12_kept
theorem dX12_steps_0 : decode cX12_steps 0 = .ok (.aload_n 0, 1) := by decide +kernel
theorem dX12_steps_1 : decode cX12_steps 1 = .ok (.iload_n 1, 1) := by decide +kernel
theorem dX12_steps_2 : decode cX12_steps 2 = .ok (.i2l, 1) := by decide +kernel
theorem dX12_steps_3 : decode cX12_steps 3 = .ok (.lconst 1, 1) := by decide +kernel
theorem dX12_steps_4 : decode cX12_steps 4 = .ok (.ldc2_w 413, 3) := by decide +kernel
theorem dX12_steps_7 : decode cX12_steps 7 = .ok (.invokestatic 108, 3) := by decide +kernel
theorem dX12_steps_10 : decode cX12_steps 10 = .ok (.invokevirtual 100, 3) := by decide +kernel
theorem dX12_steps_13 : decode cX12_steps 13 = .ok (.ifCond .ne 5, 3) := by decide +kernel
theorem dX12_steps_16 : decode cX12_steps 16 = .ok (.iconst 0, 1) := by decide +kernel
theorem dX12_steps_17 : decode cX12_steps 17 = .ok (.ireturn, 1) := by decide +kernel
theorem dX12_steps_18 : decode cX12_steps 18 = .ok (.aload_n 0, 1) := by decide +kernel
theorem dX12_steps_19 : decode cX12_steps 19 = .ok (.invokevirtual 233, 3) := by decide +kernel
theorem dX12_steps_22 : decode cX12_steps 22 = .ok (.aload_n 0, 1) := by decide +kernel
theorem dX12_steps_23 : decode cX12_steps 23 = .ok (.aload_n 0, 1) := by decide +kernel
theorem dX12_steps_24 : decode cX12_steps 24 = .ok (.iload_n 1, 1) := by decide +kernel
theorem dX12_steps_25 : decode cX12_steps 25 = .ok (.invokevirtual 390, 3) := by decide +kernel
theorem dX12_steps_28 : decode cX12_steps 28 = .ok (.invokevirtual 408, 3) := by decide +kernel
theorem dX12_steps_31 : decode cX12_steps 31 = .ok (.ireturn, 1) := by decide +kernel
set_option maxRecDepth 20000 in
theorem ggX12_placeBest_X12_groups : GoodIn wsX12_placeBest wsX12_groups := goodIn_r _ [5, 6, 85, 86, 87, 88, 89, 90, 91, 92, 93, 94, 95, 96, 97, 98, 99, 100, 101, 102, 103, 104, 105, 106, 107, 108, 109, 110, 111, 112, 113, 114, 115, 116, 117, 118, 119, 120, 121, 122, 123, 124, 125, 126, 127, 128, 129, 130, 131, 132] (by decide +kernel) (by decide +kernel)
set_option maxRecDepth 20000 in
theorem gX12_placeBest_X12_groups : GoodIn wsX12_placeBest (wsV RX12 177 RX12 yX12_groups wsX12_groups) := goodIn_app (goodIn_of _ (by decide +kernel)) ggX12_placeBest_X12_groups
set_option maxRecDepth 20000 in
theorem ggX12_placeBest_X12_goes : GoodIn wsX12_placeBest wsX12_goes := goodIn_r _ [10, 11, 12, 13, 4, 14, 85, 86, 87, 88, 89, 90, 91, 92, 93, 94, 95, 96, 97, 98, 99, 100, 101, 102, 103, 104, 105, 106, 107, 108, 109, 110, 111, 112, 113, 114, 115, 116, 117, 118, 119, 120, 121, 122, 123, 124, 125, 126, 127, 128, 129, 130, 131, 132] (by decide +kernel) (by decide +kernel)
set_option maxRecDepth 20000 in
theorem gX12_placeBest_X12_goes : GoodIn wsX12_placeBest (wsV RX12 100 RX12 yX12_goes wsX12_goes) := goodIn_app (goodIn_of _ (by decide +kernel)) ggX12_placeBest_X12_goes
set_option maxRecDepth 20000 in
theorem ggX12_placeBest_X12_laysAside : GoodIn wsX12_placeBest wsX12_laysAside := goodIn_r _ [18, 19, 6, 85, 86, 87, 88, 89, 90, 91, 92, 93, 94, 95, 96, 97, 98, 99, 100, 101, 102, 103, 104, 105, 106, 107, 108, 109, 110, 111, 112, 113, 114, 115, 116, 117, 118, 119, 120, 121, 122, 123, 124, 125, 126, 127, 128, 129, 130, 131, 132] (by decide +kernel) (by decide +kernel)
set_option maxRecDepth 20000 in
theorem gX12_placeBest_X12_laysAside : GoodIn wsX12_placeBest (wsV RX12 233 RX12 yX12_laysAside wsX12_laysAside) := goodIn_app (goodIn_of _ (by decide +kernel)) ggX12_placeBest_X12_laysAside
set_option maxRecDepth 20000 in
theorem ggX12_placeBest_X12_placesBest : GoodIn wsX12_placeBest wsX12_placesBest := goodIn_r _ [23, 24, 25, 26, 27, 4, 28, 6, 29, 30, 31, 32, 1, 2, 3, 5, 33, 34, 35, 36, 37, 38, 39, 40, 41, 42, 43, 44, 45, 46, 47, 48, 49, 50, 51, 52, 53, 54, 55, 56, 57, 58, 59, 60, 61, 62, 63, 64, 65, 66, 67, 68, 69, 70, 71, 72, 73, 74, 12, 13, 14, 85, 86, 87, 88, 89, 90, 91, 92, 93, 94, 95, 96, 97, 98, 99, 100, 101, 102, 103, 104, 105, 106, 107, 108, 109, 110, 111, 112, 113, 114, 115, 116, 117, 118, 119, 120, 121, 122, 123, 124, 125, 126, 127, 128, 129, 130, 131, 132] (by decide +kernel) (by decide +kernel)
set_option maxRecDepth 20000 in
theorem gX12_placeBest_X12_placesBest : GoodIn wsX12_placeBest (wsV RX12 415 RX12 yX12_placesBest wsX12_placesBest) := goodIn_app (goodIn_of _ (by decide +kernel)) ggX12_placeBest_X12_placesBest
set_option maxRecDepth 20000 in
theorem ggX12_placeBest_X12_kept : GoodIn wsX12_placeBest wsX12_kept := goodIn_r _ [78, 79, 80, 81, 4, 82, 83, 84, 19, 85, 86, 87, 88, 89, 90, 91, 92, 93, 94, 95, 96, 97, 98, 99, 100, 101, 102, 103, 104, 105, 106, 107, 108, 109, 110, 111, 112, 113, 114, 115, 116, 117, 118, 119, 120, 121, 122, 123, 124, 125, 126, 127, 128, 129, 130, 131, 132] (by decide +kernel) (by decide +kernel)
set_option maxRecDepth 20000 in
theorem gX12_placeBest_X12_kept : GoodIn wsX12_placeBest (wsV RX12 408 RX12 yX12_kept wsX12_kept) := goodIn_app (goodIn_of _ (by decide +kernel)) ggX12_placeBest_X12_kept
theorem dX12_placeBest_0 : decode cX12_placeBest 0 = .ok (.aload_n 0, 1) := by decide +kernel
theorem dX12_placeBest_1 : decode cX12_placeBest 1 = .ok (.aload_n 0, 1) := by decide +kernel
theorem dX12_placeBest_2 : decode cX12_placeBest 2 = .ok (.invokevirtual 177, 3) := by decide +kernel
theorem dX12_placeBest_5 : decode cX12_placeBest 5 = .ok (.bipush 7, 2) := by decide +kernel
theorem dX12_placeBest_7 : decode cX12_placeBest 7 = .ok (.if_icmp .gt 7, 3) := by decide +kernel
theorem dX12_placeBest_10 : decode cX12_placeBest 10 = .ok (.iconst 1, 1) := by decide +kernel
theorem dX12_placeBest_11 : decode cX12_placeBest 11 = .ok (.goto 4, 3) := by decide +kernel
theorem dX12_placeBest_14 : decode cX12_placeBest 14 = .ok (.iconst 0, 1) := by decide +kernel
theorem dX12_placeBest_15 : decode cX12_placeBest 15 = .ok (.invokevirtual 100, 3) := by decide +kernel
theorem dX12_placeBest_18 : decode cX12_placeBest 18 = .ok (.ifCond .ne 5, 3) := by decide +kernel
theorem dX12_placeBest_21 : decode cX12_placeBest 21 = .ok (.iconst 0, 1) := by decide +kernel
theorem dX12_placeBest_22 : decode cX12_placeBest 22 = .ok (.ireturn, 1) := by decide +kernel
theorem dX12_placeBest_23 : decode cX12_placeBest 23 = .ok (.aload_n 0, 1) := by decide +kernel
theorem dX12_placeBest_24 : decode cX12_placeBest 24 = .ok (.invokevirtual 233, 3) := by decide +kernel
theorem dX12_placeBest_27 : decode cX12_placeBest 27 = .ok (.aload_n 0, 1) := by decide +kernel
theorem dX12_placeBest_28 : decode cX12_placeBest 28 = .ok (.aload_n 0, 1) := by decide +kernel
theorem dX12_placeBest_29 : decode cX12_placeBest 29 = .ok (.invokevirtual 415, 3) := by decide +kernel
theorem dX12_placeBest_32 : decode cX12_placeBest 32 = .ok (.invokevirtual 408, 3) := by decide +kernel
theorem dX12_placeBest_35 : decode cX12_placeBest 35 = .ok (.ireturn, 1) := by decide +kernel
set_option maxRecDepth 20000 in
theorem ggX12_placeApart_X12_areVertices : GoodIn wsX12_placeApart wsX12_areVertices := goodIn_r _ [6, 7, 8, 9, 5, 10, 11, 12, 13, 14, 82, 83, 84, 85, 86, 87, 88, 89, 90, 91, 92, 93, 94, 95, 96, 97, 98, 99, 100, 101, 102, 103, 104, 105, 106, 107, 108, 109, 110, 111, 112, 113, 114, 115, 116, 117, 118, 119, 120, 121, 122, 123, 124, 125, 126, 127, 128, 129] (by decide +kernel) (by decide +kernel)
set_option maxRecDepth 20000 in
theorem gX12_placeApart_X12_areVertices : GoodIn wsX12_placeApart (wsV RX12 280 RX12 yX12_areVertices wsX12_areVertices) := goodIn_app (goodIn_of _ (by decide +kernel)) ggX12_placeApart_X12_areVertices
set_option maxRecDepth 20000 in
theorem ggX12_placeApart_X12_goesBoth : GoodIn wsX12_placeApart wsX12_goesBoth := goodIn_r _ [18, 1, 82, 83, 84, 85, 86, 87, 88, 89, 90, 91, 92, 93, 94, 95, 96, 97, 98, 99, 100, 101, 102, 103, 104, 105, 106, 107, 108, 109, 110, 111, 112, 113, 114, 115, 116, 117, 118, 119, 120, 121, 122, 123, 124, 125, 126, 127, 128, 129] (by decide +kernel) (by decide +kernel)
set_option maxRecDepth 20000 in
theorem gX12_placeApart_X12_goesBoth : GoodIn wsX12_placeApart (wsV RX12 273 RX12 yX12_goesBoth wsX12_goesBoth) := goodIn_app (goodIn_of _ (by decide +kernel)) ggX12_placeApart_X12_goesBoth
set_option maxRecDepth 20000 in
theorem ggX12_placeApart_X12_mayApart : GoodIn wsX12_placeApart wsX12_mayApart := goodIn_r _ [22, 11, 82, 83, 84, 85, 86, 87, 88, 89, 90, 91, 92, 93, 94, 95, 96, 97, 98, 99, 100, 101, 102, 103, 104, 105, 106, 107, 108, 109, 110, 111, 112, 113, 114, 115, 116, 117, 118, 119, 120, 121, 122, 123, 124, 125, 126, 127, 128, 129] (by decide +kernel) (by decide +kernel)
set_option maxRecDepth 20000 in
theorem gX12_placeApart_X12_mayApart : GoodIn wsX12_placeApart (wsV RX12 418 RX12 yX12_mayApart wsX12_mayApart) := goodIn_app (goodIn_of _ (by decide +kernel)) ggX12_placeApart_X12_mayApart
set_option maxRecDepth 20000 in
theorem ggX12_placeApart_X12_laysAside : GoodIn wsX12_placeApart wsX12_laysAside := goodIn_r _ [26, 27, 11, 82, 83, 84, 85, 86, 87, 88, 89, 90, 91, 92, 93, 94, 95, 96, 97, 98, 99, 100, 101, 102, 103, 104, 105, 106, 107, 108, 109, 110, 111, 112, 113, 114, 115, 116, 117, 118, 119, 120, 121, 122, 123, 124, 125, 126, 127, 128, 129] (by decide +kernel) (by decide +kernel)
set_option maxRecDepth 20000 in
theorem gX12_placeApart_X12_laysAside : GoodIn wsX12_placeApart (wsV RX12 233 RX12 yX12_laysAside wsX12_laysAside) := goodIn_app (goodIn_of _ (by decide +kernel)) ggX12_placeApart_X12_laysAside
set_option maxRecDepth 20000 in
theorem ggX12_placeApart_X12_placesApart : GoodIn wsX12_placeApart wsX12_placesApart := goodIn_r _ [31, 32, 11, 33, 34, 35, 5, 36, 37, 38, 39, 40, 41, 42, 43, 44, 45, 46, 47, 48, 49, 50, 51, 52, 53, 54, 55, 56, 57, 58, 59, 60, 61, 62, 63, 64, 65, 66, 67, 68, 69, 70, 71, 82, 83, 84, 85, 86, 87, 88, 89, 90, 91, 92, 93, 94, 95, 96, 97, 98, 99, 100, 101, 102, 103, 104, 105, 106, 107, 108, 109, 110, 111, 112, 113, 114, 115, 116, 117, 118, 119, 120, 121, 122, 123, 124, 125, 126, 127, 128, 129] (by decide +kernel) (by decide +kernel)
set_option maxRecDepth 20000 in
theorem gX12_placeApart_X12_placesApart : GoodIn wsX12_placeApart (wsV RX12 421 RX12 yX12_placesApart wsX12_placesApart) := goodIn_app (goodIn_of _ (by decide +kernel)) ggX12_placeApart_X12_placesApart
set_option maxRecDepth 20000 in
theorem ggX12_placeApart_X12_kept : GoodIn wsX12_placeApart wsX12_kept := goodIn_r _ [75, 76, 77, 78, 5, 79, 80, 81, 27, 82, 83, 84, 85, 86, 87, 88, 89, 90, 91, 92, 93, 94, 95, 96, 97, 98, 99, 100, 101, 102, 103, 104, 105, 106, 107, 108, 109, 110, 111, 112, 113, 114, 115, 116, 117, 118, 119, 120, 121, 122, 123, 124, 125, 126, 127, 128, 129] (by decide +kernel) (by decide +kernel)
set_option maxRecDepth 20000 in
theorem gX12_placeApart_X12_kept : GoodIn wsX12_placeApart (wsV RX12 408 RX12 yX12_kept wsX12_kept) := goodIn_app (goodIn_of _ (by decide +kernel)) ggX12_placeApart_X12_kept
theorem dX12_placeApart_0 : decode cX12_placeApart 0 = .ok (.aload_n 0, 1) := by decide +kernel
theorem dX12_placeApart_1 : decode cX12_placeApart 1 = .ok (.iload_n 1, 1) := by decide +kernel
theorem dX12_placeApart_2 : decode cX12_placeApart 2 = .ok (.iload_n 2, 1) := by decide +kernel
theorem dX12_placeApart_3 : decode cX12_placeApart 3 = .ok (.invokevirtual 280, 3) := by decide +kernel
theorem dX12_placeApart_6 : decode cX12_placeApart 6 = .ok (.istore_n 3, 1) := by decide +kernel
theorem dX12_placeApart_7 : decode cX12_placeApart 7 = .ok (.aload_n 0, 1) := by decide +kernel
theorem dX12_placeApart_8 : decode cX12_placeApart 8 = .ok (.iload_n 3, 1) := by decide +kernel
theorem dX12_placeApart_9 : decode cX12_placeApart 9 = .ok (.iload_n 3, 1) := by decide +kernel
theorem dX12_placeApart_10 : decode cX12_placeApart 10 = .ok (.ifCond .eq 12, 3) := by decide +kernel
theorem dX12_placeApart_13 : decode cX12_placeApart 13 = .ok (.iload_n 1, 1) := by decide +kernel
theorem dX12_placeApart_14 : decode cX12_placeApart 14 = .ok (.iload_n 2, 1) := by decide +kernel
theorem dX12_placeApart_15 : decode cX12_placeApart 15 = .ok (.if_icmp .eq 7, 3) := by decide +kernel
theorem dX12_placeApart_18 : decode cX12_placeApart 18 = .ok (.iconst 1, 1) := by decide +kernel
theorem dX12_placeApart_19 : decode cX12_placeApart 19 = .ok (.goto 4, 3) := by decide +kernel
theorem dX12_placeApart_22 : decode cX12_placeApart 22 = .ok (.iconst 0, 1) := by decide +kernel
theorem dX12_placeApart_23 : decode cX12_placeApart 23 = .ok (.invokevirtual 273, 3) := by decide +kernel
theorem dX12_placeApart_26 : decode cX12_placeApart 26 = .ok (.ifCond .ne 5, 3) := by decide +kernel
theorem dX12_placeApart_29 : decode cX12_placeApart 29 = .ok (.iconst 0, 1) := by decide +kernel
theorem dX12_placeApart_30 : decode cX12_placeApart 30 = .ok (.ireturn, 1) := by decide +kernel
theorem dX12_placeApart_31 : decode cX12_placeApart 31 = .ok (.aload_n 0, 1) := by decide +kernel
theorem dX12_placeApart_32 : decode cX12_placeApart 32 = .ok (.aload_n 0, 1) := by decide +kernel
theorem dX12_placeApart_33 : decode cX12_placeApart 33 = .ok (.invokevirtual 418, 3) := by decide +kernel
theorem dX12_placeApart_36 : decode cX12_placeApart 36 = .ok (.ifCond .eq 7, 3) := by decide +kernel
theorem dX12_placeApart_39 : decode cX12_placeApart 39 = .ok (.iconst 0, 1) := by decide +kernel
theorem dX12_placeApart_40 : decode cX12_placeApart 40 = .ok (.goto 4, 3) := by decide +kernel
theorem dX12_placeApart_43 : decode cX12_placeApart 43 = .ok (.iconst 3, 1) := by decide +kernel
theorem dX12_placeApart_44 : decode cX12_placeApart 44 = .ok (.putfield 90, 3) := by decide +kernel
theorem dX12_placeApart_47 : decode cX12_placeApart 47 = .ok (.aload_n 0, 1) := by decide +kernel
theorem dX12_placeApart_48 : decode cX12_placeApart 48 = .ok (.getfield 90, 3) := by decide +kernel
theorem dX12_placeApart_51 : decode cX12_placeApart 51 = .ok (.ifCond .le 5, 3) := by decide +kernel
theorem dX12_placeApart_54 : decode cX12_placeApart 54 = .ok (.iconst 0, 1) := by decide +kernel
theorem dX12_placeApart_55 : decode cX12_placeApart 55 = .ok (.ireturn, 1) := by decide +kernel
theorem dX12_placeApart_56 : decode cX12_placeApart 56 = .ok (.aload_n 0, 1) := by decide +kernel
theorem dX12_placeApart_57 : decode cX12_placeApart 57 = .ok (.invokevirtual 233, 3) := by decide +kernel
theorem dX12_placeApart_60 : decode cX12_placeApart 60 = .ok (.aload_n 0, 1) := by decide +kernel
theorem dX12_placeApart_61 : decode cX12_placeApart 61 = .ok (.aload_n 0, 1) := by decide +kernel
theorem dX12_placeApart_62 : decode cX12_placeApart 62 = .ok (.iload_n 1, 1) := by decide +kernel
theorem dX12_placeApart_63 : decode cX12_placeApart 63 = .ok (.iload_n 2, 1) := by decide +kernel
theorem dX12_placeApart_64 : decode cX12_placeApart 64 = .ok (.invokevirtual 421, 3) := by decide +kernel
theorem dX12_placeApart_67 : decode cX12_placeApart 67 = .ok (.invokevirtual 408, 3) := by decide +kernel
theorem dX12_placeApart_70 : decode cX12_placeApart 70 = .ok (.ireturn, 1) := by decide +kernel
set_option maxRecDepth 20000 in
theorem ggX12_setCredit_X12_isIn : GoodIn wsX12_setCredit wsX12_isIn := goodIn_r _ [5] (by decide +kernel) (by decide +kernel)
set_option maxRecDepth 20000 in
theorem gX12_setCredit_X12_isIn : GoodIn wsX12_setCredit (va_wsS RX12 108 yX12_isIn wsX12_isIn) := goodIn_app (goodIn_of _ (by decide +kernel)) ggX12_setCredit_X12_isIn
set_option maxRecDepth 20000 in
theorem ggX12_setCredit_X12_goes : GoodIn wsX12_setCredit wsX12_goes := goodIn_r _ [9, 10, 11, 12, 4, 13, 34, 35, 36, 37, 38, 39, 40, 41, 42, 43, 44, 45, 46, 47, 48, 49, 50, 51, 52, 53, 54, 55, 56, 57, 58, 59, 60, 61, 62, 63, 64, 65, 66, 67, 68, 69, 70, 71, 72, 73, 74, 75, 76, 77, 78, 79, 80, 81] (by decide +kernel) (by decide +kernel)
set_option maxRecDepth 20000 in
theorem gX12_setCredit_X12_goes : GoodIn wsX12_setCredit (wsV RX12 100 RX12 yX12_goes wsX12_goes) := goodIn_app (goodIn_of _ (by decide +kernel)) ggX12_setCredit_X12_goes
set_option maxRecDepth 20000 in
theorem ggX12_setCredit_X12_laysAside : GoodIn wsX12_setCredit wsX12_laysAside := goodIn_r _ [17, 18, 19, 34, 35, 36, 37, 38, 39, 40, 41, 42, 43, 44, 45, 46, 47, 48, 49, 50, 51, 52, 53, 54, 55, 56, 57, 58, 59, 60, 61, 62, 63, 64, 65, 66, 67, 68, 69, 70, 71, 72, 73, 74, 75, 76, 77, 78, 79, 80, 81] (by decide +kernel) (by decide +kernel)
set_option maxRecDepth 20000 in
theorem gX12_setCredit_X12_laysAside : GoodIn wsX12_setCredit (wsV RX12 233 RX12 yX12_laysAside wsX12_laysAside) := goodIn_app (goodIn_of _ (by decide +kernel)) ggX12_setCredit_X12_laysAside
set_option maxRecDepth 20000 in
theorem ggX12_setCredit_X12_setsCredit : GoodIn wsX12_setCredit wsX12_setsCredit := goodIn_r _ [23, 19, 34, 35, 36, 37, 38, 39, 40, 41, 42, 43, 44, 45, 46, 47, 48, 49, 50, 51, 52, 53, 54, 55, 56, 57, 58, 59, 60, 61, 62, 63, 64, 65, 66, 67, 68, 69, 70, 71, 72, 73, 74, 75, 76, 77, 78, 79, 80, 81] (by decide +kernel) (by decide +kernel)
set_option maxRecDepth 20000 in
theorem gX12_setCredit_X12_setsCredit : GoodIn wsX12_setCredit (wsV RX12 424 RX12 yX12_setsCredit wsX12_setsCredit) := goodIn_app (goodIn_of _ (by decide +kernel)) ggX12_setCredit_X12_setsCredit
set_option maxRecDepth 20000 in
theorem ggX12_setCredit_X12_kept : GoodIn wsX12_setCredit wsX12_kept := goodIn_r _ [27, 28, 29, 30, 4, 31, 32, 33, 18, 34, 35, 36, 37, 38, 39, 40, 41, 42, 43, 44, 45, 46, 47, 48, 49, 50, 51, 52, 53, 54, 55, 56, 57, 58, 59, 60, 61, 62, 63, 64, 65, 66, 67, 68, 69, 70, 71, 72, 73, 74, 75, 76, 77, 78, 79, 80, 81] (by decide +kernel) (by decide +kernel)
set_option maxRecDepth 20000 in
theorem gX12_setCredit_X12_kept : GoodIn wsX12_setCredit (wsV RX12 408 RX12 yX12_kept wsX12_kept) := goodIn_app (goodIn_of _ (by decide +kernel)) ggX12_setCredit_X12_kept
theorem dX12_setCredit_0 : decode cX12_setCredit 0 = .ok (.aload_n 0, 1) := by decide +kernel
theorem dX12_setCredit_1 : decode cX12_setCredit 1 = .ok (.iload_n 1, 1) := by decide +kernel
theorem dX12_setCredit_2 : decode cX12_setCredit 2 = .ok (.i2l, 1) := by decide +kernel
theorem dX12_setCredit_3 : decode cX12_setCredit 3 = .ok (.lconst 0, 1) := by decide +kernel
theorem dX12_setCredit_4 : decode cX12_setCredit 4 = .ok (.ldc2_w 413, 3) := by decide +kernel
theorem dX12_setCredit_7 : decode cX12_setCredit 7 = .ok (.invokestatic 108, 3) := by decide +kernel
theorem dX12_setCredit_10 : decode cX12_setCredit 10 = .ok (.invokevirtual 100, 3) := by decide +kernel
theorem dX12_setCredit_13 : decode cX12_setCredit 13 = .ok (.ifCond .ne 5, 3) := by decide +kernel
theorem dX12_setCredit_16 : decode cX12_setCredit 16 = .ok (.iconst 0, 1) := by decide +kernel
theorem dX12_setCredit_17 : decode cX12_setCredit 17 = .ok (.ireturn, 1) := by decide +kernel
theorem dX12_setCredit_18 : decode cX12_setCredit 18 = .ok (.aload_n 0, 1) := by decide +kernel
theorem dX12_setCredit_19 : decode cX12_setCredit 19 = .ok (.invokevirtual 233, 3) := by decide +kernel
theorem dX12_setCredit_22 : decode cX12_setCredit 22 = .ok (.aload_n 0, 1) := by decide +kernel
theorem dX12_setCredit_23 : decode cX12_setCredit 23 = .ok (.aload_n 0, 1) := by decide +kernel
theorem dX12_setCredit_24 : decode cX12_setCredit 24 = .ok (.iload_n 1, 1) := by decide +kernel
theorem dX12_setCredit_25 : decode cX12_setCredit 25 = .ok (.invokevirtual 424, 3) := by decide +kernel
theorem dX12_setCredit_28 : decode cX12_setCredit 28 = .ok (.invokevirtual 408, 3) := by decide +kernel
theorem dX12_setCredit_31 : decode cX12_setCredit 31 = .ok (.ireturn, 1) := by decide +kernel
set_option maxRecDepth 20000 in
theorem ggX12_commandHere_X12_isWord : GoodIn wsX12_commandHere wsX12_isWord := goodIn_r _ [14, 15, 16, 17, 18, 19, 13, 20, 21, 22, 23, 24, 25, 26, 27, 28, 29, 30, 31, 32, 33, 34, 35, 36, 37, 38, 39, 40, 41, 42, 43, 44, 45, 46, 47, 48, 49, 50, 51, 52, 53, 54, 55, 56, 57, 58, 59, 60, 61, 62, 63, 64, 65, 66, 67, 68, 69] (by decide +kernel) (by decide +kernel)
set_option maxRecDepth 20000 in
theorem gX12_commandHere_X12_isWord : GoodIn wsX12_commandHere (wsV RX12 205 RX12 yX12_isWord wsX12_isWord) := goodIn_app (goodIn_of _ (by decide +kernel)) ggX12_commandHere_X12_isWord
theorem dX12_commandHere_0 : decode cX12_commandHere 0 = .ok (.aload_n 0, 1) := by decide +kernel
theorem dX12_commandHere_1 : decode cX12_commandHere 1 = .ok (.ldc2_w 427, 3) := by decide +kernel
theorem dX12_commandHere_4 : decode cX12_commandHere 4 = .ok (.invokevirtual 205, 3) := by decide +kernel
theorem dX12_commandHere_7 : decode cX12_commandHere 7 = .ok (.ifCond .eq 5, 3) := by decide +kernel
theorem dX12_commandHere_10 : decode cX12_commandHere 10 = .ok (.iconst 0, 1) := by decide +kernel
theorem dX12_commandHere_11 : decode cX12_commandHere 11 = .ok (.ireturn, 1) := by decide +kernel
theorem dX12_commandHere_12 : decode cX12_commandHere 12 = .ok (.aload_n 0, 1) := by decide +kernel
theorem dX12_commandHere_13 : decode cX12_commandHere 13 = .ok (.ldc2_w 429, 3) := by decide +kernel
theorem dX12_commandHere_16 : decode cX12_commandHere 16 = .ok (.invokevirtual 205, 3) := by decide +kernel
theorem dX12_commandHere_19 : decode cX12_commandHere 19 = .ok (.ifCond .eq 5, 3) := by decide +kernel
theorem dX12_commandHere_22 : decode cX12_commandHere 22 = .ok (.iconst 1, 1) := by decide +kernel
theorem dX12_commandHere_23 : decode cX12_commandHere 23 = .ok (.ireturn, 1) := by decide +kernel
theorem dX12_commandHere_24 : decode cX12_commandHere 24 = .ok (.aload_n 0, 1) := by decide +kernel
theorem dX12_commandHere_25 : decode cX12_commandHere 25 = .ok (.ldc2_w 431, 3) := by decide +kernel
theorem dX12_commandHere_28 : decode cX12_commandHere 28 = .ok (.invokevirtual 205, 3) := by decide +kernel
theorem dX12_commandHere_31 : decode cX12_commandHere 31 = .ok (.ifCond .eq 5, 3) := by decide +kernel
theorem dX12_commandHere_34 : decode cX12_commandHere 34 = .ok (.iconst 2, 1) := by decide +kernel
theorem dX12_commandHere_35 : decode cX12_commandHere 35 = .ok (.ireturn, 1) := by decide +kernel
theorem dX12_commandHere_36 : decode cX12_commandHere 36 = .ok (.aload_n 0, 1) := by decide +kernel
theorem dX12_commandHere_37 : decode cX12_commandHere 37 = .ok (.ldc2_w 433, 3) := by decide +kernel
theorem dX12_commandHere_40 : decode cX12_commandHere 40 = .ok (.invokevirtual 205, 3) := by decide +kernel
theorem dX12_commandHere_43 : decode cX12_commandHere 43 = .ok (.ifCond .eq 5, 3) := by decide +kernel
theorem dX12_commandHere_46 : decode cX12_commandHere 46 = .ok (.iconst 3, 1) := by decide +kernel
theorem dX12_commandHere_47 : decode cX12_commandHere 47 = .ok (.ireturn, 1) := by decide +kernel
theorem dX12_commandHere_48 : decode cX12_commandHere 48 = .ok (.aload_n 0, 1) := by decide +kernel
theorem dX12_commandHere_49 : decode cX12_commandHere 49 = .ok (.ldc2_w 435, 3) := by decide +kernel
theorem dX12_commandHere_52 : decode cX12_commandHere 52 = .ok (.invokevirtual 205, 3) := by decide +kernel
theorem dX12_commandHere_55 : decode cX12_commandHere 55 = .ok (.ifCond .eq 5, 3) := by decide +kernel
theorem dX12_commandHere_58 : decode cX12_commandHere 58 = .ok (.iconst 4, 1) := by decide +kernel
theorem dX12_commandHere_59 : decode cX12_commandHere 59 = .ok (.ireturn, 1) := by decide +kernel
theorem dX12_commandHere_60 : decode cX12_commandHere 60 = .ok (.aload_n 0, 1) := by decide +kernel
theorem dX12_commandHere_61 : decode cX12_commandHere 61 = .ok (.ldc2_w 437, 3) := by decide +kernel
theorem dX12_commandHere_64 : decode cX12_commandHere 64 = .ok (.invokevirtual 205, 3) := by decide +kernel
theorem dX12_commandHere_67 : decode cX12_commandHere 67 = .ok (.ifCond .eq 5, 3) := by decide +kernel
theorem dX12_commandHere_70 : decode cX12_commandHere 70 = .ok (.iconst 5, 1) := by decide +kernel
theorem dX12_commandHere_71 : decode cX12_commandHere 71 = .ok (.ireturn, 1) := by decide +kernel
theorem dX12_commandHere_72 : decode cX12_commandHere 72 = .ok (.aload_n 0, 1) := by decide +kernel
theorem dX12_commandHere_73 : decode cX12_commandHere 73 = .ok (.ldc2_w 439, 3) := by decide +kernel
theorem dX12_commandHere_76 : decode cX12_commandHere 76 = .ok (.invokevirtual 205, 3) := by decide +kernel
theorem dX12_commandHere_79 : decode cX12_commandHere 79 = .ok (.ifCond .eq 6, 3) := by decide +kernel
theorem dX12_commandHere_82 : decode cX12_commandHere 82 = .ok (.bipush 6, 2) := by decide +kernel
theorem dX12_commandHere_84 : decode cX12_commandHere 84 = .ok (.ireturn, 1) := by decide +kernel
theorem dX12_commandHere_85 : decode cX12_commandHere 85 = .ok (.aload_n 0, 1) := by decide +kernel
theorem dX12_commandHere_86 : decode cX12_commandHere 86 = .ok (.ldc2_w 225, 3) := by decide +kernel
theorem dX12_commandHere_89 : decode cX12_commandHere 89 = .ok (.invokevirtual 205, 3) := by decide +kernel
theorem dX12_commandHere_92 : decode cX12_commandHere 92 = .ok (.ifCond .eq 6, 3) := by decide +kernel
theorem dX12_commandHere_95 : decode cX12_commandHere 95 = .ok (.bipush 7, 2) := by decide +kernel
theorem dX12_commandHere_97 : decode cX12_commandHere 97 = .ok (.ireturn, 1) := by decide +kernel
theorem dX12_commandHere_98 : decode cX12_commandHere 98 = .ok (.aload_n 0, 1) := by decide +kernel
theorem dX12_commandHere_99 : decode cX12_commandHere 99 = .ok (.ldc2_w 441, 3) := by decide +kernel
theorem dX12_commandHere_102 : decode cX12_commandHere 102 = .ok (.invokevirtual 205, 3) := by decide +kernel
theorem dX12_commandHere_105 : decode cX12_commandHere 105 = .ok (.ifCond .eq 8, 3) := by decide +kernel
theorem dX12_commandHere_108 : decode cX12_commandHere 108 = .ok (.bipush 8, 2) := by decide +kernel
theorem dX12_commandHere_110 : decode cX12_commandHere 110 = .ok (.goto 4, 3) := by decide +kernel
theorem dX12_commandHere_113 : decode cX12_commandHere 113 = .ok (.iconst (-1), 1) := by decide +kernel
theorem dX12_commandHere_114 : decode cX12_commandHere 114 = .ok (.ireturn, 1) := by decide +kernel
set_option maxRecDepth 20000 in
theorem ggX12_command_X12_commandHere : GoodIn wsX12_command wsX12_commandHere := goodIn_r _ [11, 12, 13, 14, 15, 16, 17, 18, 19, 20, 21, 22, 23, 10, 24, 25, 26, 27, 28, 29, 30, 31, 89, 90, 91, 92, 93, 94, 95, 96, 97, 98, 99, 100, 101, 102, 103, 104, 105, 106, 107, 108, 109, 110, 111, 112, 113, 114, 115, 116, 117, 118, 119, 120, 121, 122, 123, 124, 125, 126, 127, 128, 129, 130, 131, 132, 133, 134, 135, 136] (by decide +kernel) (by decide +kernel)
set_option maxRecDepth 20000 in
theorem gX12_command_X12_commandHere : GoodIn wsX12_command (wsV RX12 443 RX12 yX12_commandHere wsX12_commandHere) := goodIn_app (goodIn_of _ (by decide +kernel)) ggX12_command_X12_commandHere
set_option maxRecDepth 20000 in
theorem ggX12_command_X12_wrong : GoodIn wsX12_command wsX12_wrong := goodIn_r _ [35, 31, 25, 36, 37, 1, 38, 89, 90, 91, 92, 93, 94, 95, 96, 97, 98, 99, 100, 101, 102, 103, 104, 105, 106, 107, 108, 109, 110, 111, 112, 113, 114, 115, 116, 117, 118, 119, 120, 121, 122, 123, 124, 125, 126, 127, 128, 129, 130, 131, 132, 133, 134, 135, 136] (by decide +kernel) (by decide +kernel)
set_option maxRecDepth 20000 in
theorem gX12_command_X12_wrong : GoodIn wsX12_command (wsV RX12 155 RX12 yX12_wrong wsX12_wrong) := goodIn_app (goodIn_of _ (by decide +kernel)) ggX12_command_X12_wrong
set_option maxRecDepth 20000 in
theorem ggX12_command_X12_isGood : GoodIn wsX12_command wsX12_isGood := goodIn_r _ [30, 31, 89, 90, 91, 92, 93, 94, 95, 96, 97, 98, 99, 100, 101, 102, 103, 104, 105, 106, 107, 108, 109, 110, 111, 112, 113, 114, 115, 116, 117, 118, 119, 120, 121, 122, 123, 124, 125, 126, 127, 128, 129, 130, 131, 132, 133, 134, 135, 136] (by decide +kernel) (by decide +kernel)
set_option maxRecDepth 20000 in
theorem gX12_command_X12_isGood : GoodIn wsX12_command (wsV RX12 148 RX12 yX12_isGood wsX12_isGood) := goodIn_app (goodIn_of _ (by decide +kernel)) ggX12_command_X12_isGood
set_option maxRecDepth 20000 in
theorem ggX12_command_X12_goOn : GoodIn wsX12_command wsX12_goOn := goodIn_r _ [42, 43, 36, 26, 44, 25, 45, 46, 47, 10, 48, 49, 50, 51, 52, 53, 54, 55, 56, 89, 90, 91, 92, 93, 94, 95, 96, 97, 98, 99, 100, 101, 102, 103, 104, 105, 106, 107, 108, 109, 110, 111, 112, 113, 114, 115, 116, 117, 118, 119, 120, 121, 122, 123, 124, 125, 126, 127, 128, 129, 130, 131, 132, 133, 134, 135, 136] (by decide +kernel) (by decide +kernel)
set_option maxRecDepth 20000 in
theorem gX12_command_X12_goOn : GoodIn wsX12_command (wsV RX12 158 RX12 yX12_goOn wsX12_goOn) := goodIn_app (goodIn_of _ (by decide +kernel)) ggX12_command_X12_goOn
set_option maxRecDepth 20000 in
theorem ggX12_command_X12_number : GoodIn wsX12_command wsX12_number := goodIn_r _ [60, 25, 44, 27, 28, 29, 10, 30, 31, 32, 33, 34, 35, 36, 37, 1, 38, 61, 62, 63, 39, 40, 41, 42, 43, 26, 45, 46, 47, 48, 49, 50, 51, 52, 53, 54, 55, 56, 89, 90, 91, 92, 93, 94, 95, 96, 97, 98, 99, 100, 101, 102, 103, 104, 105, 106, 107, 108, 109, 110, 111, 112, 113, 114, 115, 116, 117, 118, 119, 120, 121, 122, 123, 124, 125, 126, 127, 128, 129, 130, 131, 132, 133, 134, 135, 136] (by decide +kernel) (by decide +kernel)
set_option maxRecDepth 20000 in
theorem gX12_command_X12_number : GoodIn wsX12_command (wsV RX12 186 RX12 yX12_number wsX12_number) := goodIn_app (goodIn_of _ (by decide +kernel)) ggX12_command_X12_number
set_option maxRecDepth 20000 in
theorem ggX12_command_X12_toldVertex : GoodIn wsX12_command wsX12_toldVertex := goodIn_r _ [67, 68, 69, 70, 10, 71, 25, 27, 28, 29, 30, 31, 32, 33, 34, 35, 36, 37, 1, 38, 72, 73, 74, 75, 76, 77, 26, 39, 40, 41, 42, 43, 44, 45, 46, 47, 48, 49, 50, 51, 52, 53, 54, 55, 56, 89, 90, 91, 92, 93, 94, 95, 96, 97, 98, 99, 100, 101, 102, 103, 104, 105, 106, 107, 108, 109, 110, 111, 112, 113, 114, 115, 116, 117, 118, 119, 120, 121, 122, 123, 124, 125, 126, 127, 128, 129, 130, 131, 132, 133, 134, 135, 136] (by decide +kernel) (by decide +kernel)
set_option maxRecDepth 20000 in
theorem gX12_command_X12_toldVertex : GoodIn wsX12_command (wsV RX12 190 RX12 yX12_toldVertex wsX12_toldVertex) := goodIn_app (goodIn_of _ (by decide +kernel)) ggX12_command_X12_toldVertex
set_option maxRecDepth 20000 in
theorem ggX12_command_X12_mustSign : GoodIn wsX12_command wsX12_mustSign := goodIn_r _ [81, 27, 28, 29, 10, 30, 31, 82, 83, 84, 85, 25, 44, 32, 33, 34, 35, 36, 37, 1, 38, 39, 40, 41, 42, 43, 26, 45, 46, 47, 48, 49, 50, 51, 52, 53, 54, 55, 56, 89, 90, 91, 92, 93, 94, 95, 96, 97, 98, 99, 100, 101, 102, 103, 104, 105, 106, 107, 108, 109, 110, 111, 112, 113, 114, 115, 116, 117, 118, 119, 120, 121, 122, 123, 124, 125, 126, 127, 128, 129, 130, 131, 132, 133, 134, 135, 136] (by decide +kernel) (by decide +kernel)
set_option maxRecDepth 20000 in
theorem gX12_command_X12_mustSign : GoodIn wsX12_command (wsV RX12 227 RX12 yX12_mustSign wsX12_mustSign) := goodIn_app (goodIn_of _ (by decide +kernel)) ggX12_command_X12_mustSign
set_option maxRecDepth 20000 in
theorem ggX12_command_X12_truth : GoodIn wsX12_command wsX12_truth := goodIn_r _ [88] (by decide +kernel) (by decide +kernel)
set_option maxRecDepth 20000 in
theorem gX12_command_X12_truth : GoodIn wsX12_command (va_wsS RX12 93 yX12_truth wsX12_truth) := goodIn_app (goodIn_of _ (by decide +kernel)) ggX12_command_X12_truth
theorem dX12_command_0 : decode cX12_command 0 = .ok (.aload_n 0, 1) := by decide +kernel
theorem dX12_command_1 : decode cX12_command 1 = .ok (.invokevirtual 443, 3) := by decide +kernel
theorem dX12_command_4 : decode cX12_command 4 = .ok (.istore_n 1, 1) := by decide +kernel
theorem dX12_command_5 : decode cX12_command 5 = .ok (.iload_n 1, 1) := by decide +kernel
theorem dX12_command_6 : decode cX12_command 6 = .ok (.iconst (-1), 1) := by decide +kernel
theorem dX12_command_7 : decode cX12_command 7 = .ok (.if_icmp .ne 8, 3) := by decide +kernel
theorem dX12_command_10 : decode cX12_command 10 = .ok (.aload_n 0, 1) := by decide +kernel
theorem dX12_command_11 : decode cX12_command 11 = .ok (.iconst 1, 1) := by decide +kernel
theorem dX12_command_12 : decode cX12_command 12 = .ok (.invokevirtual 155, 3) := by decide +kernel
theorem dX12_command_15 : decode cX12_command 15 = .ok (.iload_n 1, 1) := by decide +kernel
theorem dX12_command_16 : decode cX12_command 16 = .ok (.bipush 8, 2) := by decide +kernel
theorem dX12_command_18 : decode cX12_command 18 = .ok (.if_icmp .ne 16, 3) := by decide +kernel
theorem dX12_command_21 : decode cX12_command 21 = .ok (.aload_n 0, 1) := by decide +kernel
theorem dX12_command_22 : decode cX12_command 22 = .ok (.getfield 145, 3) := by decide +kernel
theorem dX12_command_25 : decode cX12_command 25 = .ok (.iconst 2, 1) := by decide +kernel
theorem dX12_command_26 : decode cX12_command 26 = .ok (.if_icmp .ne 8, 3) := by decide +kernel
theorem dX12_command_29 : decode cX12_command 29 = .ok (.aload_n 0, 1) := by decide +kernel
theorem dX12_command_30 : decode cX12_command 30 = .ok (.iconst 4, 1) := by decide +kernel
theorem dX12_command_31 : decode cX12_command 31 = .ok (.invokevirtual 155, 3) := by decide +kernel
theorem dX12_command_34 : decode cX12_command 34 = .ok (.aload_n 0, 1) := by decide +kernel
theorem dX12_command_35 : decode cX12_command 35 = .ok (.getfield 446, 3) := by decide +kernel
theorem dX12_command_38 : decode cX12_command 38 = .ok (.bipush 30, 2) := by decide +kernel
theorem dX12_command_40 : decode cX12_command 40 = .ok (.if_icmp .ne 9, 3) := by decide +kernel
theorem dX12_command_43 : decode cX12_command 43 = .ok (.aload_n 0, 1) := by decide +kernel
theorem dX12_command_44 : decode cX12_command 44 = .ok (.bipush 6, 2) := by decide +kernel
theorem dX12_command_46 : decode cX12_command 46 = .ok (.invokevirtual 155, 3) := by decide +kernel
theorem dX12_command_49 : decode cX12_command 49 = .ok (.aload_n 0, 1) := by decide +kernel
theorem dX12_command_50 : decode cX12_command 50 = .ok (.invokevirtual 148, 3) := by decide +kernel
theorem dX12_command_53 : decode cX12_command 53 = .ok (.ifCond .ne 4, 3) := by decide +kernel
theorem dX12_command_56 : decode cX12_command 56 = .ok (.return_, 1) := by decide +kernel
theorem dX12_command_57 : decode cX12_command 57 = .ok (.aload_n 0, 1) := by decide +kernel
theorem dX12_command_58 : decode cX12_command 58 = .ok (.dup, 1) := by decide +kernel
theorem dX12_command_59 : decode cX12_command 59 = .ok (.getfield 446, 3) := by decide +kernel
theorem dX12_command_62 : decode cX12_command 62 = .ok (.iconst 1, 1) := by decide +kernel
theorem dX12_command_63 : decode cX12_command 63 = .ok (.iadd, 1) := by decide +kernel
theorem dX12_command_64 : decode cX12_command 64 = .ok (.putfield 446, 3) := by decide +kernel
theorem dX12_command_67 : decode cX12_command 67 = .ok (.aload_n 0, 1) := by decide +kernel
theorem dX12_command_68 : decode cX12_command 68 = .ok (.invokevirtual 158, 3) := by decide +kernel
theorem dX12_command_71 : decode cX12_command 71 = .ok (.aload_n 0, 1) := by decide +kernel
theorem dX12_command_72 : decode cX12_command 72 = .ok (.getfield 449, 3) := by decide +kernel
theorem dX12_command_75 : decode cX12_command 75 = .ok (.istore_n 2, 1) := by decide +kernel
theorem dX12_command_76 : decode cX12_command 76 = .ok (.aload_n 0, 1) := by decide +kernel
theorem dX12_command_77 : decode cX12_command 77 = .ok (.getfield 69, 3) := by decide +kernel
theorem dX12_command_80 : decode cX12_command 80 = .ok (.iload_n 2, 1) := by decide +kernel
theorem dX12_command_81 : decode cX12_command 81 = .ok (.iload_n 1, 1) := by decide +kernel
theorem dX12_command_82 : decode cX12_command 82 = .ok (.iastore, 1) := by decide +kernel
theorem dX12_command_83 : decode cX12_command 83 = .ok (.iload_n 1, 1) := by decide +kernel
theorem dX12_command_84 : decode cX12_command 84 = .ok (.iconst 2, 1) := by decide +kernel
theorem dX12_command_85 : decode cX12_command 85 = .ok (.if_icmp .eq 14, 3) := by decide +kernel
theorem dX12_command_88 : decode cX12_command 88 = .ok (.iload_n 1, 1) := by decide +kernel
theorem dX12_command_89 : decode cX12_command 89 = .ok (.iconst 4, 1) := by decide +kernel
theorem dX12_command_90 : decode cX12_command 90 = .ok (.if_icmp .eq 9, 3) := by decide +kernel
theorem dX12_command_93 : decode cX12_command 93 = .ok (.iload_n 1, 1) := by decide +kernel
theorem dX12_command_94 : decode cX12_command 94 = .ok (.bipush 7, 2) := by decide +kernel
theorem dX12_command_96 : decode cX12_command 96 = .ok (.if_icmp .ne 17, 3) := by decide +kernel
theorem dX12_command_99 : decode cX12_command 99 = .ok (.aload_n 0, 1) := by decide +kernel
theorem dX12_command_100 : decode cX12_command 100 = .ok (.getfield 72, 3) := by decide +kernel
theorem dX12_command_103 : decode cX12_command 103 = .ok (.iload_n 2, 1) := by decide +kernel
theorem dX12_command_104 : decode cX12_command 104 = .ok (.aload_n 0, 1) := by decide +kernel
theorem dX12_command_105 : decode cX12_command 105 = .ok (.iconst 0, 1) := by decide +kernel
theorem dX12_command_106 : decode cX12_command 106 = .ok (.sipush 999, 3) := by decide +kernel
theorem dX12_command_109 : decode cX12_command 109 = .ok (.invokevirtual 186, 3) := by decide +kernel
theorem dX12_command_112 : decode cX12_command 112 = .ok (.iastore, 1) := by decide +kernel
theorem dX12_command_113 : decode cX12_command 113 = .ok (.iload_n 1, 1) := by decide +kernel
theorem dX12_command_114 : decode cX12_command 114 = .ok (.iconst 2, 1) := by decide +kernel
theorem dX12_command_115 : decode cX12_command 115 = .ok (.if_icmp .ne 17, 3) := by decide +kernel
theorem dX12_command_118 : decode cX12_command 118 = .ok (.aload_n 0, 1) := by decide +kernel
theorem dX12_command_119 : decode cX12_command 119 = .ok (.getfield 75, 3) := by decide +kernel
theorem dX12_command_122 : decode cX12_command 122 = .ok (.iload_n 2, 1) := by decide +kernel
theorem dX12_command_123 : decode cX12_command 123 = .ok (.aload_n 0, 1) := by decide +kernel
theorem dX12_command_124 : decode cX12_command 124 = .ok (.iconst 0, 1) := by decide +kernel
theorem dX12_command_125 : decode cX12_command 125 = .ok (.sipush 999, 3) := by decide +kernel
theorem dX12_command_128 : decode cX12_command 128 = .ok (.invokevirtual 186, 3) := by decide +kernel
theorem dX12_command_131 : decode cX12_command 131 = .ok (.iastore, 1) := by decide +kernel
theorem dX12_command_132 : decode cX12_command 132 = .ok (.iload_n 1, 1) := by decide +kernel
theorem dX12_command_133 : decode cX12_command 133 = .ok (.bipush 6, 2) := by decide +kernel
theorem dX12_command_135 : decode cX12_command 135 = .ok (.if_icmp .ne 13, 3) := by decide +kernel
theorem dX12_command_138 : decode cX12_command 138 = .ok (.aload_n 0, 1) := by decide +kernel
theorem dX12_command_139 : decode cX12_command 139 = .ok (.getfield 72, 3) := by decide +kernel
theorem dX12_command_142 : decode cX12_command 142 = .ok (.iload_n 2, 1) := by decide +kernel
theorem dX12_command_143 : decode cX12_command 143 = .ok (.aload_n 0, 1) := by decide +kernel
theorem dX12_command_144 : decode cX12_command 144 = .ok (.invokevirtual 190, 3) := by decide +kernel
theorem dX12_command_147 : decode cX12_command 147 = .ok (.iastore, 1) := by decide +kernel
theorem dX12_command_148 : decode cX12_command 148 = .ok (.iload_n 1, 1) := by decide +kernel
theorem dX12_command_149 : decode cX12_command 149 = .ok (.bipush 6, 2) := by decide +kernel
theorem dX12_command_151 : decode cX12_command 151 = .ok (.if_icmp .ne 13, 3) := by decide +kernel
theorem dX12_command_154 : decode cX12_command 154 = .ok (.aload_n 0, 1) := by decide +kernel
theorem dX12_command_155 : decode cX12_command 155 = .ok (.getfield 75, 3) := by decide +kernel
theorem dX12_command_158 : decode cX12_command 158 = .ok (.iload_n 2, 1) := by decide +kernel
theorem dX12_command_159 : decode cX12_command 159 = .ok (.aload_n 0, 1) := by decide +kernel
theorem dX12_command_160 : decode cX12_command 160 = .ok (.invokevirtual 190, 3) := by decide +kernel
theorem dX12_command_163 : decode cX12_command 163 = .ok (.iastore, 1) := by decide +kernel
theorem dX12_command_164 : decode cX12_command 164 = .ok (.iload_n 1, 1) := by decide +kernel
theorem dX12_command_165 : decode cX12_command 165 = .ok (.bipush 8, 2) := by decide +kernel
theorem dX12_command_167 : decode cX12_command 167 = .ok (.if_icmp .ne 16, 3) := by decide +kernel
theorem dX12_command_170 : decode cX12_command 170 = .ok (.aload_n 0, 1) := by decide +kernel
theorem dX12_command_171 : decode cX12_command 171 = .ok (.getfield 72, 3) := by decide +kernel
theorem dX12_command_174 : decode cX12_command 174 = .ok (.iload_n 2, 1) := by decide +kernel
theorem dX12_command_175 : decode cX12_command 175 = .ok (.aload_n 0, 1) := by decide +kernel
theorem dX12_command_176 : decode cX12_command 176 = .ok (.iconst 1, 1) := by decide +kernel
theorem dX12_command_177 : decode cX12_command 177 = .ok (.bipush 20, 2) := by decide +kernel
theorem dX12_command_179 : decode cX12_command 179 = .ok (.invokevirtual 186, 3) := by decide +kernel
theorem dX12_command_182 : decode cX12_command 182 = .ok (.iastore, 1) := by decide +kernel
theorem dX12_command_183 : decode cX12_command 183 = .ok (.iload_n 1, 1) := by decide +kernel
theorem dX12_command_184 : decode cX12_command 184 = .ok (.bipush 8, 2) := by decide +kernel
theorem dX12_command_186 : decode cX12_command 186 = .ok (.if_icmp .ne 9, 3) := by decide +kernel
theorem dX12_command_189 : decode cX12_command 189 = .ok (.aload_n 0, 1) := by decide +kernel
theorem dX12_command_190 : decode cX12_command 190 = .ok (.bipush 40, 2) := by decide +kernel
theorem dX12_command_192 : decode cX12_command 192 = .ok (.invokevirtual 227, 3) := by decide +kernel
theorem dX12_command_195 : decode cX12_command 195 = .ok (.aload_n 0, 1) := by decide +kernel
theorem dX12_command_196 : decode cX12_command 196 = .ok (.invokevirtual 148, 3) := by decide +kernel
theorem dX12_command_199 : decode cX12_command 199 = .ok (.ifCond .ne 4, 3) := by decide +kernel
theorem dX12_command_202 : decode cX12_command 202 = .ok (.return_, 1) := by decide +kernel
theorem dX12_command_203 : decode cX12_command 203 = .ok (.aload_n 0, 1) := by decide +kernel
theorem dX12_command_204 : decode cX12_command 204 = .ok (.dup, 1) := by decide +kernel
theorem dX12_command_205 : decode cX12_command 205 = .ok (.getfield 449, 3) := by decide +kernel
theorem dX12_command_208 : decode cX12_command 208 = .ok (.iconst 1, 1) := by decide +kernel
theorem dX12_command_209 : decode cX12_command 209 = .ok (.iadd, 1) := by decide +kernel
theorem dX12_command_210 : decode cX12_command 210 = .ok (.putfield 449, 3) := by decide +kernel
theorem dX12_command_213 : decode cX12_command 213 = .ok (.aload_n 0, 1) := by decide +kernel
theorem dX12_command_214 : decode cX12_command 214 = .ok (.dup, 1) := by decide +kernel
theorem dX12_command_215 : decode cX12_command 215 = .ok (.getfield 145, 3) := by decide +kernel
theorem dX12_command_218 : decode cX12_command 218 = .ok (.iload_n 1, 1) := by decide +kernel
theorem dX12_command_219 : decode cX12_command 219 = .ok (.bipush 8, 2) := by decide +kernel
theorem dX12_command_221 : decode cX12_command 221 = .ok (.if_icmp .ne 7, 3) := by decide +kernel
theorem dX12_command_224 : decode cX12_command 224 = .ok (.iconst 1, 1) := by decide +kernel
theorem dX12_command_225 : decode cX12_command 225 = .ok (.goto 4, 3) := by decide +kernel
theorem dX12_command_228 : decode cX12_command 228 = .ok (.iconst 0, 1) := by decide +kernel
theorem dX12_command_229 : decode cX12_command 229 = .ok (.invokestatic 93, 3) := by decide +kernel
theorem dX12_command_232 : decode cX12_command 232 = .ok (.iadd, 1) := by decide +kernel
theorem dX12_command_233 : decode cX12_command 233 = .ok (.putfield 145, 3) := by decide +kernel
theorem dX12_command_236 : decode cX12_command 236 = .ok (.return_, 1) := by decide +kernel
set_option maxRecDepth 20000 in
theorem ggX12_closes_X12_isSign : GoodIn wsX12_closes wsX12_isSign := goodIn_r _ [8, 9, 10, 11, 12, 13, 7, 14, 15, 45, 46, 47, 48, 49, 50, 51, 52, 53, 54, 55, 56, 57, 58, 59, 60, 61, 62, 63, 64, 65, 66, 67, 68, 69, 70, 71, 72, 73, 74, 75, 76, 77, 78, 79, 80, 81, 82, 83, 84, 85, 86, 87, 88, 89, 90, 91, 92] (by decide +kernel) (by decide +kernel)
set_option maxRecDepth 20000 in
theorem gX12_closes_X12_isSign : GoodIn wsX12_closes (wsV RX12 152 RX12 yX12_isSign wsX12_isSign) := goodIn_app (goodIn_of _ (by decide +kernel)) ggX12_closes_X12_isSign
set_option maxRecDepth 20000 in
theorem ggX12_closes_X12_goOn : GoodIn wsX12_closes wsX12_goOn := goodIn_r _ [19, 20, 21, 22, 10, 9, 23, 24, 25, 7, 26, 27, 28, 29, 30, 31, 32, 33, 34, 45, 46, 47, 48, 49, 50, 51, 52, 53, 54, 55, 56, 57, 58, 59, 60, 61, 62, 63, 64, 65, 66, 67, 68, 69, 70, 71, 72, 73, 74, 75, 76, 77, 78, 79, 80, 81, 82, 83, 84, 85, 86, 87, 88, 89, 90, 91, 92] (by decide +kernel) (by decide +kernel)
set_option maxRecDepth 20000 in
theorem gX12_closes_X12_goOn : GoodIn wsX12_closes (wsV RX12 158 RX12 yX12_goOn wsX12_goOn) := goodIn_app (goodIn_of _ (by decide +kernel)) ggX12_closes_X12_goOn
set_option maxRecDepth 20000 in
theorem ggX12_closes_X12_mustSign : GoodIn wsX12_closes wsX12_mustSign := goodIn_r _ [38, 11, 12, 13, 7, 14, 15, 4, 5, 6, 8, 9, 10, 39, 40, 41, 42, 21, 43, 1, 44, 16, 17, 18, 19, 20, 22, 23, 24, 25, 26, 27, 28, 29, 30, 31, 32, 33, 34, 45, 46, 47, 48, 49, 50, 51, 52, 53, 54, 55, 56, 57, 58, 59, 60, 61, 62, 63, 64, 65, 66, 67, 68, 69, 70, 71, 72, 73, 74, 75, 76, 77, 78, 79, 80, 81, 82, 83, 84, 85, 86, 87, 88, 89, 90, 91, 92] (by decide +kernel) (by decide +kernel)
set_option maxRecDepth 20000 in
theorem gX12_closes_X12_mustSign : GoodIn wsX12_closes (wsV RX12 227 RX12 yX12_mustSign wsX12_mustSign) := goodIn_app (goodIn_of _ (by decide +kernel)) ggX12_closes_X12_mustSign
theorem dX12_closes_0 : decode cX12_closes 0 = .ok (.aload_n 0, 1) := by decide +kernel
theorem dX12_closes_1 : decode cX12_closes 1 = .ok (.getfield 145, 3) := by decide +kernel
theorem dX12_closes_4 : decode cX12_closes 4 = .ok (.ifCond .le 56, 3) := by decide +kernel
theorem dX12_closes_7 : decode cX12_closes 7 = .ok (.aload_n 0, 1) := by decide +kernel
theorem dX12_closes_8 : decode cX12_closes 8 = .ok (.bipush 41, 2) := by decide +kernel
theorem dX12_closes_10 : decode cX12_closes 10 = .ok (.invokevirtual 152, 3) := by decide +kernel
theorem dX12_closes_13 : decode cX12_closes 13 = .ok (.ifCond .eq 47, 3) := by decide +kernel
theorem dX12_closes_16 : decode cX12_closes 16 = .ok (.aload_n 0, 1) := by decide +kernel
theorem dX12_closes_17 : decode cX12_closes 17 = .ok (.dup, 1) := by decide +kernel
theorem dX12_closes_18 : decode cX12_closes 18 = .ok (.getfield 145, 3) := by decide +kernel
theorem dX12_closes_21 : decode cX12_closes 21 = .ok (.iconst 1, 1) := by decide +kernel
theorem dX12_closes_22 : decode cX12_closes 22 = .ok (.isub, 1) := by decide +kernel
theorem dX12_closes_23 : decode cX12_closes 23 = .ok (.putfield 145, 3) := by decide +kernel
theorem dX12_closes_26 : decode cX12_closes 26 = .ok (.aload_n 0, 1) := by decide +kernel
theorem dX12_closes_27 : decode cX12_closes 27 = .ok (.getfield 69, 3) := by decide +kernel
theorem dX12_closes_30 : decode cX12_closes 30 = .ok (.aload_n 0, 1) := by decide +kernel
theorem dX12_closes_31 : decode cX12_closes 31 = .ok (.getfield 449, 3) := by decide +kernel
theorem dX12_closes_34 : decode cX12_closes 34 = .ok (.bipush 9, 2) := by decide +kernel
theorem dX12_closes_36 : decode cX12_closes 36 = .ok (.iastore, 1) := by decide +kernel
theorem dX12_closes_37 : decode cX12_closes 37 = .ok (.aload_n 0, 1) := by decide +kernel
theorem dX12_closes_38 : decode cX12_closes 38 = .ok (.dup, 1) := by decide +kernel
theorem dX12_closes_39 : decode cX12_closes 39 = .ok (.getfield 449, 3) := by decide +kernel
theorem dX12_closes_42 : decode cX12_closes 42 = .ok (.iconst 1, 1) := by decide +kernel
theorem dX12_closes_43 : decode cX12_closes 43 = .ok (.iadd, 1) := by decide +kernel
theorem dX12_closes_44 : decode cX12_closes 44 = .ok (.putfield 449, 3) := by decide +kernel
theorem dX12_closes_47 : decode cX12_closes 47 = .ok (.aload_n 0, 1) := by decide +kernel
theorem dX12_closes_48 : decode cX12_closes 48 = .ok (.invokevirtual 158, 3) := by decide +kernel
theorem dX12_closes_51 : decode cX12_closes 51 = .ok (.aload_n 0, 1) := by decide +kernel
theorem dX12_closes_52 : decode cX12_closes 52 = .ok (.bipush 59, 2) := by decide +kernel
theorem dX12_closes_54 : decode cX12_closes 54 = .ok (.invokevirtual 227, 3) := by decide +kernel
theorem dX12_closes_57 : decode cX12_closes 57 = .ok (.goto (-57), 3) := by decide +kernel
theorem dX12_closes_60 : decode cX12_closes 60 = .ok (.return_, 1) := by decide +kernel
set_option maxRecDepth 20000 in
theorem ggX12_may_X12_whyShrink : GoodIn wsX12_may wsX12_whyShrink := goodIn_r _ [7, 1, 8, 9, 10, 6, 11, 12, 13, 14, 15, 16, 17, 18, 19, 20, 21, 22, 23, 24, 25, 26, 27, 28, 29, 30, 31, 32, 33, 34, 35, 36, 37, 38, 39, 40, 41, 42, 43, 44, 99, 100, 101, 102, 103, 104, 105, 106, 107, 108, 109, 110, 111, 112, 113, 114, 115, 116, 117, 118, 119, 120, 121, 122, 123, 124, 125, 126, 127, 128, 129, 130, 131, 132, 133, 134, 135, 136, 137, 138, 139, 140, 141, 142, 143, 144, 145, 146] (by decide +kernel) (by decide +kernel)
set_option maxRecDepth 20000 in
theorem gX12_may_X12_whyShrink : GoodIn wsX12_may (wsV RX12 346 RX12 yX12_whyShrink wsX12_whyShrink) := goodIn_app (goodIn_of _ (by decide +kernel)) ggX12_may_X12_whyShrink
set_option maxRecDepth 20000 in
theorem ggX12_may_X12_areThere : GoodIn wsX12_may wsX12_areThere := goodIn_r _ [48, 49, 50, 51, 6, 52, 13, 14, 15, 16, 1, 53, 54, 55, 56, 57, 58, 59, 99, 100, 101, 102, 103, 104, 105, 106, 107, 108, 109, 110, 111, 112, 113, 114, 115, 116, 117, 118, 119, 120, 121, 122, 123, 124, 125, 126, 127, 128, 129, 130, 131, 132, 133, 134, 135, 136, 137, 138, 139, 140, 141, 142, 143, 144, 145, 146] (by decide +kernel) (by decide +kernel)
set_option maxRecDepth 20000 in
theorem gX12_may_X12_areThere : GoodIn wsX12_may (wsV RX12 352 RX12 yX12_areThere wsX12_areThere) := goodIn_app (goodIn_of _ (by decide +kernel)) ggX12_may_X12_areThere
set_option maxRecDepth 20000 in
theorem ggX12_may_X12_whyMove : GoodIn wsX12_may wsX12_whyMove := goodIn_r _ [63, 1, 29, 30, 31, 6, 32, 25, 26, 27, 28, 64, 65, 66, 67, 33, 34, 35, 36, 68, 69, 70, 71, 72, 73, 74, 37, 38, 39, 40, 41, 42, 43, 44, 75, 76, 77, 78, 79, 80, 81, 82, 99, 100, 101, 102, 103, 104, 105, 106, 107, 108, 109, 110, 111, 112, 113, 114, 115, 116, 117, 118, 119, 120, 121, 122, 123, 124, 125, 126, 127, 128, 129, 130, 131, 132, 133, 134, 135, 136, 137, 138, 139, 140, 141, 142, 143, 144, 145, 146] (by decide +kernel) (by decide +kernel)
set_option maxRecDepth 20000 in
theorem gX12_may_X12_whyMove : GoodIn wsX12_may (wsV RX12 358 RX12 yX12_whyMove wsX12_whyMove) := goodIn_app (goodIn_of _ (by decide +kernel)) ggX12_may_X12_whyMove
set_option maxRecDepth 20000 in
theorem ggX12_may_X12_nextNow : GoodIn wsX12_may wsX12_nextNow := goodIn_r _ [86, 75, 76, 77, 6, 78, 1, 79, 80, 81, 82, 68, 69, 70, 71, 37, 38, 39, 40, 41, 42, 43, 44, 87, 88, 89, 90, 13, 14, 15, 16, 91, 92, 93, 94, 29, 30, 31, 32, 25, 26, 27, 28, 64, 65, 66, 67, 33, 34, 35, 36, 72, 73, 74, 60, 61, 62, 63, 99, 100, 101, 102, 103, 104, 105, 106, 107, 108, 109, 110, 111, 112, 113, 114, 115, 116, 117, 118, 119, 120, 121, 122, 123, 124, 125, 126, 127, 128, 129, 130, 131, 132, 133, 134, 135, 136, 137, 138, 139, 140, 141, 142, 143, 144, 145, 146] (by decide +kernel) (by decide +kernel)
set_option maxRecDepth 20000 in
theorem gX12_may_X12_nextNow : GoodIn wsX12_may (wsV RX12 364 RX12 yX12_nextNow wsX12_nextNow) := goodIn_app (goodIn_of _ (by decide +kernel)) ggX12_may_X12_nextNow
set_option maxRecDepth 20000 in
theorem ggX12_may_X12_isIn : GoodIn wsX12_may wsX12_isIn := goodIn_r _ [55] (by decide +kernel) (by decide +kernel)
set_option maxRecDepth 20000 in
theorem gX12_may_X12_isIn : GoodIn wsX12_may (va_wsS RX12 108 yX12_isIn wsX12_isIn) := goodIn_app (goodIn_of _ (by decide +kernel)) ggX12_may_X12_isIn
set_option maxRecDepth 20000 in
theorem ggX12_may_X12_groups : GoodIn wsX12_may wsX12_groups := goodIn_r _ [16, 1, 99, 100, 101, 102, 103, 104, 105, 106, 107, 108, 109, 110, 111, 112, 113, 114, 115, 116, 117, 118, 119, 120, 121, 122, 123, 124, 125, 126, 127, 128, 129, 130, 131, 132, 133, 134, 135, 136, 137, 138, 139, 140, 141, 142, 143, 144, 145, 146] (by decide +kernel) (by decide +kernel)
set_option maxRecDepth 20000 in
theorem gX12_may_X12_groups : GoodIn wsX12_may (wsV RX12 177 RX12 yX12_groups wsX12_groups) := goodIn_app (goodIn_of _ (by decide +kernel)) ggX12_may_X12_groups
set_option maxRecDepth 20000 in
theorem ggX12_may_X12_mayApart : GoodIn wsX12_may wsX12_mayApart := goodIn_r _ [98, 1, 99, 100, 101, 102, 103, 104, 105, 106, 107, 108, 109, 110, 111, 112, 113, 114, 115, 116, 117, 118, 119, 120, 121, 122, 123, 124, 125, 126, 127, 128, 129, 130, 131, 132, 133, 134, 135, 136, 137, 138, 139, 140, 141, 142, 143, 144, 145, 146] (by decide +kernel) (by decide +kernel)
set_option maxRecDepth 20000 in
theorem gX12_may_X12_mayApart : GoodIn wsX12_may (wsV RX12 418 RX12 yX12_mayApart wsX12_mayApart) := goodIn_app (goodIn_of _ (by decide +kernel)) ggX12_may_X12_mayApart
theorem dX12_may_0 : decode cX12_may 0 = .ok (.iload_n 1, 1) := by decide +kernel
theorem dX12_may_1 : decode cX12_may 1 = .ok (.tableswitch 152 0 6 #[43, 56, 71, 95, 109, 119, 134], 43) := by decide +kernel
theorem dX12_may_44 : decode cX12_may 44 = .ok (.aload_n 0, 1) := by decide +kernel
theorem dX12_may_45 : decode cX12_may 45 = .ok (.invokevirtual 346, 3) := by decide +kernel
theorem dX12_may_48 : decode cX12_may 48 = .ok (.ifCond .ne 7, 3) := by decide +kernel
theorem dX12_may_51 : decode cX12_may 51 = .ok (.iconst 1, 1) := by decide +kernel
theorem dX12_may_52 : decode cX12_may 52 = .ok (.goto 4, 3) := by decide +kernel
theorem dX12_may_55 : decode cX12_may 55 = .ok (.iconst 0, 1) := by decide +kernel
theorem dX12_may_56 : decode cX12_may 56 = .ok (.ireturn, 1) := by decide +kernel
theorem dX12_may_57 : decode cX12_may 57 = .ok (.aload_n 0, 1) := by decide +kernel
theorem dX12_may_58 : decode cX12_may 58 = .ok (.getfield 26, 3) := by decide +kernel
theorem dX12_may_61 : decode cX12_may 61 = .ok (.iconst 5, 1) := by decide +kernel
theorem dX12_may_62 : decode cX12_may 62 = .ok (.iaload, 1) := by decide +kernel
theorem dX12_may_63 : decode cX12_may 63 = .ok (.ifCond .le 7, 3) := by decide +kernel
theorem dX12_may_66 : decode cX12_may 66 = .ok (.iconst 1, 1) := by decide +kernel
theorem dX12_may_67 : decode cX12_may 67 = .ok (.goto 4, 3) := by decide +kernel
theorem dX12_may_70 : decode cX12_may 70 = .ok (.iconst 0, 1) := by decide +kernel
theorem dX12_may_71 : decode cX12_may 71 = .ok (.ireturn, 1) := by decide +kernel
theorem dX12_may_72 : decode cX12_may 72 = .ok (.aload_n 0, 1) := by decide +kernel
theorem dX12_may_73 : decode cX12_may 73 = .ok (.iload_n 2, 1) := by decide +kernel
theorem dX12_may_74 : decode cX12_may 74 = .ok (.iload_n 3, 1) := by decide +kernel
theorem dX12_may_75 : decode cX12_may 75 = .ok (.invokevirtual 352, 3) := by decide +kernel
theorem dX12_may_78 : decode cX12_may 78 = .ok (.ifCond .eq 16, 3) := by decide +kernel
theorem dX12_may_81 : decode cX12_may 81 = .ok (.aload_n 0, 1) := by decide +kernel
theorem dX12_may_82 : decode cX12_may 82 = .ok (.iload_n 2, 1) := by decide +kernel
theorem dX12_may_83 : decode cX12_may 83 = .ok (.iload_n 3, 1) := by decide +kernel
theorem dX12_may_84 : decode cX12_may 84 = .ok (.invokevirtual 358, 3) := by decide +kernel
theorem dX12_may_87 : decode cX12_may 87 = .ok (.ifCond .ne 7, 3) := by decide +kernel
theorem dX12_may_90 : decode cX12_may 90 = .ok (.iconst 1, 1) := by decide +kernel
theorem dX12_may_91 : decode cX12_may 91 = .ok (.goto 4, 3) := by decide +kernel
theorem dX12_may_94 : decode cX12_may 94 = .ok (.iconst 0, 1) := by decide +kernel
theorem dX12_may_95 : decode cX12_may 95 = .ok (.ireturn, 1) := by decide +kernel
theorem dX12_may_96 : decode cX12_may 96 = .ok (.aload_n 0, 1) := by decide +kernel
theorem dX12_may_97 : decode cX12_may 97 = .ok (.invokevirtual 364, 3) := by decide +kernel
theorem dX12_may_100 : decode cX12_may 100 = .ok (.iconst (-1), 1) := by decide +kernel
theorem dX12_may_101 : decode cX12_may 101 = .ok (.if_icmp .eq 7, 3) := by decide +kernel
theorem dX12_may_104 : decode cX12_may 104 = .ok (.iconst 1, 1) := by decide +kernel
theorem dX12_may_105 : decode cX12_may 105 = .ok (.goto 4, 3) := by decide +kernel
theorem dX12_may_108 : decode cX12_may 108 = .ok (.iconst 0, 1) := by decide +kernel
theorem dX12_may_109 : decode cX12_may 109 = .ok (.ireturn, 1) := by decide +kernel
theorem dX12_may_110 : decode cX12_may 110 = .ok (.iload_n 2, 1) := by decide +kernel
theorem dX12_may_111 : decode cX12_may 111 = .ok (.i2l, 1) := by decide +kernel
theorem dX12_may_112 : decode cX12_may 112 = .ok (.lconst 1, 1) := by decide +kernel
theorem dX12_may_113 : decode cX12_may 113 = .ok (.ldc2_w 413, 3) := by decide +kernel
theorem dX12_may_116 : decode cX12_may 116 = .ok (.invokestatic 108, 3) := by decide +kernel
theorem dX12_may_119 : decode cX12_may 119 = .ok (.ireturn, 1) := by decide +kernel
theorem dX12_may_120 : decode cX12_may 120 = .ok (.aload_n 0, 1) := by decide +kernel
theorem dX12_may_121 : decode cX12_may 121 = .ok (.invokevirtual 177, 3) := by decide +kernel
theorem dX12_may_124 : decode cX12_may 124 = .ok (.bipush 7, 2) := by decide +kernel
theorem dX12_may_126 : decode cX12_may 126 = .ok (.if_icmp .gt 7, 3) := by decide +kernel
theorem dX12_may_129 : decode cX12_may 129 = .ok (.iconst 1, 1) := by decide +kernel
theorem dX12_may_130 : decode cX12_may 130 = .ok (.goto 4, 3) := by decide +kernel
theorem dX12_may_133 : decode cX12_may 133 = .ok (.iconst 0, 1) := by decide +kernel
theorem dX12_may_134 : decode cX12_may 134 = .ok (.ireturn, 1) := by decide +kernel
theorem dX12_may_135 : decode cX12_may 135 = .ok (.iload_n 2, 1) := by decide +kernel
theorem dX12_may_136 : decode cX12_may 136 = .ok (.iload_n 3, 1) := by decide +kernel
theorem dX12_may_137 : decode cX12_may 137 = .ok (.if_icmp .eq 14, 3) := by decide +kernel
theorem dX12_may_140 : decode cX12_may 140 = .ok (.aload_n 0, 1) := by decide +kernel
theorem dX12_may_141 : decode cX12_may 141 = .ok (.invokevirtual 418, 3) := by decide +kernel
theorem dX12_may_144 : decode cX12_may 144 = .ok (.ifCond .eq 7, 3) := by decide +kernel
theorem dX12_may_147 : decode cX12_may 147 = .ok (.iconst 1, 1) := by decide +kernel
theorem dX12_may_148 : decode cX12_may 148 = .ok (.goto 4, 3) := by decide +kernel
theorem dX12_may_151 : decode cX12_may 151 = .ok (.iconst 0, 1) := by decide +kernel
theorem dX12_may_152 : decode cX12_may 152 = .ok (.ireturn, 1) := by decide +kernel
theorem dX12_may_153 : decode cX12_may 153 = .ok (.iload_n 2, 1) := by decide +kernel
theorem dX12_may_154 : decode cX12_may 154 = .ok (.i2l, 1) := by decide +kernel
theorem dX12_may_155 : decode cX12_may 155 = .ok (.lconst 0, 1) := by decide +kernel
theorem dX12_may_156 : decode cX12_may 156 = .ok (.ldc2_w 413, 3) := by decide +kernel
theorem dX12_may_159 : decode cX12_may 159 = .ok (.invokestatic 108, 3) := by decide +kernel
theorem dX12_may_162 : decode cX12_may 162 = .ok (.ireturn, 1) := by decide +kernel
set_option maxRecDepth 20000 in
theorem ggX12_does_X12_may : GoodIn wsX12_does wsX12_may := goodIn_r _ [6, 7, 8, 9, 10, 11, 5, 12, 13, 14, 15, 16, 17, 18, 19, 20, 21, 22, 23, 24, 25, 26, 27, 28, 29, 30, 31, 32, 33, 34, 35, 36, 37, 38, 39, 40, 41, 42, 43, 44, 45, 46, 47, 48, 49, 50, 51, 52, 53, 54, 55, 56, 57, 58, 59, 60, 61, 62, 63, 64, 65, 66, 67, 68, 69, 70, 71, 72, 73, 74, 75, 76, 77, 78, 79, 80, 81, 82, 83, 84, 85, 86, 87, 88, 89, 90, 91, 92, 93, 94, 95, 96, 97, 98, 99, 100, 101, 102, 103, 180, 181, 182, 183, 184, 185, 186, 187, 188, 189, 190, 191, 192, 193, 194, 195, 196, 197, 198, 199, 200, 201, 202, 203, 204, 205, 206, 207, 208, 209, 210, 211, 212, 213, 214, 215, 216, 217, 218, 219, 220, 221, 222, 223, 224, 225, 226, 227] (by decide +kernel) (by decide +kernel)
set_option maxRecDepth 20000 in
theorem gX12_does_X12_may : GoodIn wsX12_does (wsV RX12 452 RX12 yX12_may wsX12_may) := goodIn_app (goodIn_of _ (by decide +kernel)) ggX12_does_X12_may
set_option maxRecDepth 20000 in
theorem ggX12_does_X12_shrinks : GoodIn wsX12_does wsX12_shrinks := goodIn_r _ [107, 7, 17, 13, 14, 15, 5, 16, 18, 19, 20, 21, 22, 23, 24, 25, 26, 27, 28, 29, 30, 31, 32, 33, 34, 35, 36, 37, 38, 39, 40, 41, 42, 43, 44, 45, 46, 47, 48, 49, 180, 181, 182, 183, 184, 185, 186, 187, 188, 189, 190, 191, 192, 193, 194, 195, 196, 197, 198, 199, 200, 201, 202, 203, 204, 205, 206, 207, 208, 209, 210, 211, 212, 213, 214, 215, 216, 217, 218, 219, 220, 221, 222, 223, 224, 225, 226, 227] (by decide +kernel) (by decide +kernel)
set_option maxRecDepth 20000 in
theorem gX12_does_X12_shrinks : GoodIn wsX12_does (wsV RX12 405 RX12 yX12_shrinks wsX12_shrinks) := goodIn_app (goodIn_of _ (by decide +kernel)) ggX12_does_X12_shrinks
set_option maxRecDepth 20000 in
theorem ggX12_does_X12_grows : GoodIn wsX12_does wsX12_grows := goodIn_r _ [111, 7, 18, 19, 20, 5, 21, 180, 181, 182, 183, 184, 185, 186, 187, 188, 189, 190, 191, 192, 193, 194, 195, 196, 197, 198, 199, 200, 201, 202, 203, 204, 205, 206, 207, 208, 209, 210, 211, 212, 213, 214, 215, 216, 217, 218, 219, 220, 221, 222, 223, 224, 225, 226, 227] (by decide +kernel) (by decide +kernel)
set_option maxRecDepth 20000 in
theorem gX12_does_X12_grows : GoodIn wsX12_does (wsV RX12 410 RX12 yX12_grows wsX12_grows) := goodIn_app (goodIn_of _ (by decide +kernel)) ggX12_does_X12_grows
set_option maxRecDepth 20000 in
theorem ggX12_does_X12_moves : GoodIn wsX12_does wsX12_moves := goodIn_r _ [115, 116, 117, 118, 5, 119, 7, 34, 35, 36, 37, 30, 31, 32, 33, 120, 121, 122, 123, 124, 125, 126, 127, 180, 181, 182, 183, 184, 185, 186, 187, 188, 189, 190, 191, 192, 193, 194, 195, 196, 197, 198, 199, 200, 201, 202, 203, 204, 205, 206, 207, 208, 209, 210, 211, 212, 213, 214, 215, 216, 217, 218, 219, 220, 221, 222, 223, 224, 225, 226, 227] (by decide +kernel) (by decide +kernel)
set_option maxRecDepth 20000 in
theorem gX12_does_X12_moves : GoodIn wsX12_does (wsV RX12 402 RX12 yX12_moves wsX12_moves) := goodIn_app (goodIn_of _ (by decide +kernel)) ggX12_does_X12_moves
set_option maxRecDepth 20000 in
theorem ggX12_does_X12_stepNow : GoodIn wsX12_does wsX12_stepNow := goodIn_r _ [131, 88, 89, 90, 5, 91, 80, 81, 82, 83, 7, 84, 85, 86, 87, 73, 74, 75, 76, 42, 43, 44, 45, 46, 47, 48, 49, 92, 93, 94, 95, 18, 19, 20, 21, 96, 97, 98, 99, 34, 35, 36, 37, 30, 31, 32, 33, 69, 70, 71, 72, 38, 39, 40, 41, 77, 78, 79, 65, 66, 67, 68, 112, 113, 114, 115, 116, 117, 118, 119, 120, 121, 122, 123, 124, 125, 126, 127, 180, 181, 182, 183, 184, 185, 186, 187, 188, 189, 190, 191, 192, 193, 194, 195, 196, 197, 198, 199, 200, 201, 202, 203, 204, 205, 206, 207, 208, 209, 210, 211, 212, 213, 214, 215, 216, 217, 218, 219, 220, 221, 222, 223, 224, 225, 226, 227] (by decide +kernel) (by decide +kernel)
set_option maxRecDepth 20000 in
theorem gX12_does_X12_stepNow : GoodIn wsX12_does (wsV RX12 384 RX12 yX12_stepNow wsX12_stepNow) := goodIn_app (goodIn_of _ (by decide +kernel)) ggX12_does_X12_stepNow
set_option maxRecDepth 20000 in
theorem ggX12_does_X12_stepsNow : GoodIn wsX12_does wsX12_stepsNow := goodIn_r _ [135, 128, 129, 130, 5, 131, 88, 89, 90, 91, 80, 81, 82, 83, 7, 84, 85, 86, 87, 73, 74, 75, 76, 42, 43, 44, 45, 46, 47, 48, 49, 92, 93, 94, 95, 18, 19, 20, 21, 96, 97, 98, 99, 34, 35, 36, 37, 30, 31, 32, 33, 69, 70, 71, 72, 38, 39, 40, 41, 77, 78, 79, 65, 66, 67, 68, 112, 113, 114, 115, 116, 117, 118, 119, 120, 121, 122, 123, 124, 125, 126, 127, 180, 181, 182, 183, 184, 185, 186, 187, 188, 189, 190, 191, 192, 193, 194, 195, 196, 197, 198, 199, 200, 201, 202, 203, 204, 205, 206, 207, 208, 209, 210, 211, 212, 213, 214, 215, 216, 217, 218, 219, 220, 221, 222, 223, 224, 225, 226, 227] (by decide +kernel) (by decide +kernel)
set_option maxRecDepth 20000 in
theorem gX12_does_X12_stepsNow : GoodIn wsX12_does (wsV RX12 390 RX12 yX12_stepsNow wsX12_stepsNow) := goodIn_app (goodIn_of _ (by decide +kernel)) ggX12_does_X12_stepsNow
set_option maxRecDepth 20000 in
theorem ggX12_does_X12_placesBest : GoodIn wsX12_does wsX12_placesBest := goodIn_r _ [139, 140, 141, 142, 143, 5, 144, 7, 145, 146, 147, 148, 18, 19, 20, 21, 38, 39, 40, 41, 30, 31, 32, 33, 26, 27, 28, 29, 149, 150, 151, 152, 153, 154, 42, 43, 44, 45, 46, 47, 48, 49, 116, 117, 118, 119, 34, 35, 36, 37, 120, 121, 122, 123, 124, 125, 126, 127, 77, 78, 79, 180, 181, 182, 183, 184, 185, 186, 187, 188, 189, 190, 191, 192, 193, 194, 195, 196, 197, 198, 199, 200, 201, 202, 203, 204, 205, 206, 207, 208, 209, 210, 211, 212, 213, 214, 215, 216, 217, 218, 219, 220, 221, 222, 223, 224, 225, 226, 227] (by decide +kernel) (by decide +kernel)
set_option maxRecDepth 20000 in
theorem gX12_does_X12_placesBest : GoodIn wsX12_does (wsV RX12 415 RX12 yX12_placesBest wsX12_placesBest) := goodIn_app (goodIn_of _ (by decide +kernel)) ggX12_does_X12_placesBest
set_option maxRecDepth 20000 in
theorem ggX12_does_X12_placesApart : GoodIn wsX12_does wsX12_placesApart := goodIn_r _ [158, 159, 7, 160, 161, 162, 5, 163, 164, 165, 166, 167, 168, 169, 170, 171, 172, 173, 174, 175, 116, 117, 118, 119, 34, 35, 36, 37, 30, 31, 32, 33, 120, 121, 122, 123, 124, 125, 126, 127, 77, 78, 79, 180, 181, 182, 183, 184, 185, 186, 187, 188, 189, 190, 191, 192, 193, 194, 195, 196, 197, 198, 199, 200, 201, 202, 203, 204, 205, 206, 207, 208, 209, 210, 211, 212, 213, 214, 215, 216, 217, 218, 219, 220, 221, 222, 223, 224, 225, 226, 227] (by decide +kernel) (by decide +kernel)
set_option maxRecDepth 20000 in
theorem gX12_does_X12_placesApart : GoodIn wsX12_does (wsV RX12 421 RX12 yX12_placesApart wsX12_placesApart) := goodIn_app (goodIn_of _ (by decide +kernel)) ggX12_does_X12_placesApart
set_option maxRecDepth 20000 in
theorem ggX12_does_X12_setsCredit : GoodIn wsX12_does wsX12_setsCredit := goodIn_r _ [179, 7, 180, 181, 182, 183, 184, 185, 186, 187, 188, 189, 190, 191, 192, 193, 194, 195, 196, 197, 198, 199, 200, 201, 202, 203, 204, 205, 206, 207, 208, 209, 210, 211, 212, 213, 214, 215, 216, 217, 218, 219, 220, 221, 222, 223, 224, 225, 226, 227] (by decide +kernel) (by decide +kernel)
set_option maxRecDepth 20000 in
theorem gX12_does_X12_setsCredit : GoodIn wsX12_does (wsV RX12 424 RX12 yX12_setsCredit wsX12_setsCredit) := goodIn_app (goodIn_of _ (by decide +kernel)) ggX12_does_X12_setsCredit
theorem dX12_does_0 : decode cX12_does 0 = .ok (.aload_n 0, 1) := by decide +kernel
theorem dX12_does_1 : decode cX12_does 1 = .ok (.iload_n 1, 1) := by decide +kernel
theorem dX12_does_2 : decode cX12_does 2 = .ok (.iload_n 2, 1) := by decide +kernel
theorem dX12_does_3 : decode cX12_does 3 = .ok (.iload_n 3, 1) := by decide +kernel
theorem dX12_does_4 : decode cX12_does 4 = .ok (.invokevirtual 452, 3) := by decide +kernel
theorem dX12_does_7 : decode cX12_does 7 = .ok (.ifCond .ne 5, 3) := by decide +kernel
theorem dX12_does_10 : decode cX12_does 10 = .ok (.iconst 0, 1) := by decide +kernel
theorem dX12_does_11 : decode cX12_does 11 = .ok (.ireturn, 1) := by decide +kernel
theorem dX12_does_12 : decode cX12_does 12 = .ok (.iload_n 1, 1) := by decide +kernel
theorem dX12_does_13 : decode cX12_does 13 = .ok (.ifCond .ne 11, 3) := by decide +kernel
theorem dX12_does_16 : decode cX12_does 16 = .ok (.aload_n 0, 1) := by decide +kernel
theorem dX12_does_17 : decode cX12_does 17 = .ok (.aload_n 0, 1) := by decide +kernel
theorem dX12_does_18 : decode cX12_does 18 = .ok (.invokevirtual 405, 3) := by decide +kernel
theorem dX12_does_21 : decode cX12_does 21 = .ok (.putfield 456, 3) := by decide +kernel
theorem dX12_does_24 : decode cX12_does 24 = .ok (.iload_n 1, 1) := by decide +kernel
theorem dX12_does_25 : decode cX12_does 25 = .ok (.iconst 1, 1) := by decide +kernel
theorem dX12_does_26 : decode cX12_does 26 = .ok (.if_icmp .ne 11, 3) := by decide +kernel
theorem dX12_does_29 : decode cX12_does 29 = .ok (.aload_n 0, 1) := by decide +kernel
theorem dX12_does_30 : decode cX12_does 30 = .ok (.aload_n 0, 1) := by decide +kernel
theorem dX12_does_31 : decode cX12_does 31 = .ok (.invokevirtual 410, 3) := by decide +kernel
theorem dX12_does_34 : decode cX12_does 34 = .ok (.putfield 456, 3) := by decide +kernel
theorem dX12_does_37 : decode cX12_does 37 = .ok (.iload_n 1, 1) := by decide +kernel
theorem dX12_does_38 : decode cX12_does 38 = .ok (.iconst 2, 1) := by decide +kernel
theorem dX12_does_39 : decode cX12_does 39 = .ok (.if_icmp .ne 13, 3) := by decide +kernel
theorem dX12_does_42 : decode cX12_does 42 = .ok (.aload_n 0, 1) := by decide +kernel
theorem dX12_does_43 : decode cX12_does 43 = .ok (.aload_n 0, 1) := by decide +kernel
theorem dX12_does_44 : decode cX12_does 44 = .ok (.iload_n 2, 1) := by decide +kernel
theorem dX12_does_45 : decode cX12_does 45 = .ok (.iload_n 3, 1) := by decide +kernel
theorem dX12_does_46 : decode cX12_does 46 = .ok (.invokevirtual 402, 3) := by decide +kernel
theorem dX12_does_49 : decode cX12_does 49 = .ok (.putfield 456, 3) := by decide +kernel
theorem dX12_does_52 : decode cX12_does 52 = .ok (.iload_n 1, 1) := by decide +kernel
theorem dX12_does_53 : decode cX12_does 53 = .ok (.iconst 3, 1) := by decide +kernel
theorem dX12_does_54 : decode cX12_does 54 = .ok (.if_icmp .ne 11, 3) := by decide +kernel
theorem dX12_does_57 : decode cX12_does 57 = .ok (.aload_n 0, 1) := by decide +kernel
theorem dX12_does_58 : decode cX12_does 58 = .ok (.aload_n 0, 1) := by decide +kernel
theorem dX12_does_59 : decode cX12_does 59 = .ok (.invokevirtual 384, 3) := by decide +kernel
theorem dX12_does_62 : decode cX12_does 62 = .ok (.putfield 456, 3) := by decide +kernel
theorem dX12_does_65 : decode cX12_does 65 = .ok (.iload_n 1, 1) := by decide +kernel
theorem dX12_does_66 : decode cX12_does 66 = .ok (.iconst 4, 1) := by decide +kernel
theorem dX12_does_67 : decode cX12_does 67 = .ok (.if_icmp .ne 12, 3) := by decide +kernel
theorem dX12_does_70 : decode cX12_does 70 = .ok (.aload_n 0, 1) := by decide +kernel
theorem dX12_does_71 : decode cX12_does 71 = .ok (.aload_n 0, 1) := by decide +kernel
theorem dX12_does_72 : decode cX12_does 72 = .ok (.iload_n 2, 1) := by decide +kernel
theorem dX12_does_73 : decode cX12_does 73 = .ok (.invokevirtual 390, 3) := by decide +kernel
theorem dX12_does_76 : decode cX12_does 76 = .ok (.putfield 456, 3) := by decide +kernel
theorem dX12_does_79 : decode cX12_does 79 = .ok (.iload_n 1, 1) := by decide +kernel
theorem dX12_does_80 : decode cX12_does 80 = .ok (.iconst 5, 1) := by decide +kernel
theorem dX12_does_81 : decode cX12_does 81 = .ok (.if_icmp .ne 11, 3) := by decide +kernel
theorem dX12_does_84 : decode cX12_does 84 = .ok (.aload_n 0, 1) := by decide +kernel
theorem dX12_does_85 : decode cX12_does 85 = .ok (.aload_n 0, 1) := by decide +kernel
theorem dX12_does_86 : decode cX12_does 86 = .ok (.invokevirtual 415, 3) := by decide +kernel
theorem dX12_does_89 : decode cX12_does 89 = .ok (.putfield 456, 3) := by decide +kernel
theorem dX12_does_92 : decode cX12_does 92 = .ok (.iload_n 1, 1) := by decide +kernel
theorem dX12_does_93 : decode cX12_does 93 = .ok (.bipush 6, 2) := by decide +kernel
theorem dX12_does_95 : decode cX12_does 95 = .ok (.if_icmp .ne 13, 3) := by decide +kernel
theorem dX12_does_98 : decode cX12_does 98 = .ok (.aload_n 0, 1) := by decide +kernel
theorem dX12_does_99 : decode cX12_does 99 = .ok (.aload_n 0, 1) := by decide +kernel
theorem dX12_does_100 : decode cX12_does 100 = .ok (.iload_n 2, 1) := by decide +kernel
theorem dX12_does_101 : decode cX12_does 101 = .ok (.iload_n 3, 1) := by decide +kernel
theorem dX12_does_102 : decode cX12_does 102 = .ok (.invokevirtual 421, 3) := by decide +kernel
theorem dX12_does_105 : decode cX12_does 105 = .ok (.putfield 456, 3) := by decide +kernel
theorem dX12_does_108 : decode cX12_does 108 = .ok (.iload_n 1, 1) := by decide +kernel
theorem dX12_does_109 : decode cX12_does 109 = .ok (.bipush 7, 2) := by decide +kernel
theorem dX12_does_111 : decode cX12_does 111 = .ok (.if_icmp .ne 12, 3) := by decide +kernel
theorem dX12_does_114 : decode cX12_does 114 = .ok (.aload_n 0, 1) := by decide +kernel
theorem dX12_does_115 : decode cX12_does 115 = .ok (.aload_n 0, 1) := by decide +kernel
theorem dX12_does_116 : decode cX12_does 116 = .ok (.iload_n 2, 1) := by decide +kernel
theorem dX12_does_117 : decode cX12_does 117 = .ok (.invokevirtual 424, 3) := by decide +kernel
theorem dX12_does_120 : decode cX12_does 120 = .ok (.putfield 456, 3) := by decide +kernel
theorem dX12_does_123 : decode cX12_does 123 = .ok (.iconst 1, 1) := by decide +kernel
theorem dX12_does_124 : decode cX12_does 124 = .ok (.ireturn, 1) := by decide +kernel
set_option maxRecDepth 20000 in
theorem ggX12_runScript_X12_beginsText : GoodIn wsX12_runScript wsX12_beginsText := goodIn_r _ [9, 10, 11, 12, 13, 14, 15, 4, 16, 17, 18, 8, 19, 20, 21, 22, 3, 23, 24, 25, 26, 27, 28, 29, 30, 31, 32, 33, 306, 307, 308, 309, 310, 311, 312, 313, 314, 315, 316, 317, 318, 319, 320, 321, 322, 323, 324, 325, 326, 327, 328, 329, 330, 331, 332, 333, 334, 335, 336, 337, 338, 339, 340, 341, 342, 343, 344, 345, 346, 347, 348, 349, 350, 351, 352, 353] (by decide +kernel) (by decide +kernel)
set_option maxRecDepth 20000 in
theorem gX12_runScript_X12_beginsText : GoodIn wsX12_runScript (wsV RX12 230 RX12 yX12_beginsText wsX12_beginsText) := goodIn_app (goodIn_of _ (by decide +kernel)) ggX12_runScript_X12_beginsText
set_option maxRecDepth 20000 in
theorem ggX12_runScript_X12_isGood : GoodIn wsX12_runScript wsX12_isGood := goodIn_r _ [37, 13, 306, 307, 308, 309, 310, 311, 312, 313, 314, 315, 316, 317, 318, 319, 320, 321, 322, 323, 324, 325, 326, 327, 328, 329, 330, 331, 332, 333, 334, 335, 336, 337, 338, 339, 340, 341, 342, 343, 344, 345, 346, 347, 348, 349, 350, 351, 352, 353] (by decide +kernel) (by decide +kernel)
set_option maxRecDepth 20000 in
theorem gX12_runScript_X12_isGood : GoodIn wsX12_runScript (wsV RX12 148 RX12 yX12_isGood wsX12_isGood) := goodIn_app (goodIn_of _ (by decide +kernel)) ggX12_runScript_X12_isGood
set_option maxRecDepth 20000 in
theorem ggX12_runScript_X12_command : GoodIn wsX12_runScript wsX12_command := goodIn_r _ [41, 4, 2, 1, 42, 43, 44, 45, 46, 47, 8, 48, 49, 50, 51, 52, 53, 54, 55, 56, 57, 58, 59, 60, 61, 3, 21, 34, 35, 36, 37, 13, 62, 63, 64, 65, 20, 14, 15, 16, 17, 18, 19, 12, 22, 23, 24, 25, 26, 11, 27, 28, 29, 30, 31, 32, 33, 66, 67, 68, 69, 70, 71, 72, 73, 74, 75, 76, 77, 78, 79, 80, 81, 82, 83, 84, 85, 86, 87, 88, 89, 90, 91, 92, 93, 94, 95, 96, 97, 306, 307, 308, 309, 310, 311, 312, 313, 314, 315, 316, 317, 318, 319, 320, 321, 322, 323, 324, 325, 326, 327, 328, 329, 330, 331, 332, 333, 334, 335, 336, 337, 338, 339, 340, 341, 342, 343, 344, 345, 346, 347, 348, 349, 350, 351, 352, 353] (by decide +kernel) (by decide +kernel)
set_option maxRecDepth 20000 in
theorem gX12_runScript_X12_command : GoodIn wsX12_runScript (wsV RX12 459 RX12 yX12_command wsX12_command) := goodIn_app (goodIn_of _ (by decide +kernel)) ggX12_runScript_X12_command
set_option maxRecDepth 20000 in
theorem ggX12_runScript_X12_mustSign : GoodIn wsX12_runScript wsX12_mustSign := goodIn_r _ [90, 34, 35, 36, 8, 37, 13, 91, 92, 93, 94, 3, 22, 62, 63, 64, 65, 20, 14, 4, 15, 16, 17, 18, 19, 12, 21, 23, 24, 25, 26, 11, 27, 28, 29, 30, 31, 32, 33, 306, 307, 308, 309, 310, 311, 312, 313, 314, 315, 316, 317, 318, 319, 320, 321, 322, 323, 324, 325, 326, 327, 328, 329, 330, 331, 332, 333, 334, 335, 336, 337, 338, 339, 340, 341, 342, 343, 344, 345, 346, 347, 348, 349, 350, 351, 352, 353] (by decide +kernel) (by decide +kernel)
set_option maxRecDepth 20000 in
theorem gX12_runScript_X12_mustSign : GoodIn wsX12_runScript (wsV RX12 227 RX12 yX12_mustSign wsX12_mustSign) := goodIn_app (goodIn_of _ (by decide +kernel)) ggX12_runScript_X12_mustSign
set_option maxRecDepth 20000 in
theorem ggX12_runScript_X12_closes : GoodIn wsX12_runScript wsX12_closes := goodIn_r _ [101, 4, 42, 1, 91, 92, 93, 8, 94, 3, 22, 34, 35, 36, 37, 13, 16, 17, 18, 19, 12, 20, 21, 23, 24, 25, 26, 11, 27, 28, 29, 30, 31, 32, 33, 87, 88, 89, 90, 62, 63, 64, 65, 14, 15, 306, 307, 308, 309, 310, 311, 312, 313, 314, 315, 316, 317, 318, 319, 320, 321, 322, 323, 324, 325, 326, 327, 328, 329, 330, 331, 332, 333, 334, 335, 336, 337, 338, 339, 340, 341, 342, 343, 344, 345, 346, 347, 348, 349, 350, 351, 352, 353] (by decide +kernel) (by decide +kernel)
set_option maxRecDepth 20000 in
theorem gX12_runScript_X12_closes : GoodIn wsX12_runScript (wsV RX12 462 RX12 yX12_closes wsX12_closes) := goodIn_app (goodIn_of _ (by decide +kernel)) ggX12_runScript_X12_closes
set_option maxRecDepth 20000 in
theorem ggX12_runScript_X12_wrong : GoodIn wsX12_runScript wsX12_wrong := goodIn_r _ [65, 13, 3, 20, 14, 4, 15, 306, 307, 308, 309, 310, 311, 312, 313, 314, 315, 316, 317, 318, 319, 320, 321, 322, 323, 324, 325, 326, 327, 328, 329, 330, 331, 332, 333, 334, 335, 336, 337, 338, 339, 340, 341, 342, 343, 344, 345, 346, 347, 348, 349, 350, 351, 352, 353] (by decide +kernel) (by decide +kernel)
set_option maxRecDepth 20000 in
theorem gX12_runScript_X12_wrong : GoodIn wsX12_runScript (wsV RX12 155 RX12 yX12_wrong wsX12_wrong) := goodIn_app (goodIn_of _ (by decide +kernel)) ggX12_runScript_X12_wrong
set_option maxRecDepth 20000 in
theorem ggX12_runScript_X12_endsText : GoodIn wsX12_runScript wsX12_endsText := goodIn_r _ [105, 13, 106, 14, 107, 15, 108, 109, 110, 111, 8, 112, 113, 95, 96, 97, 306, 307, 308, 309, 310, 311, 312, 313, 314, 315, 316, 317, 318, 319, 320, 321, 322, 323, 324, 325, 326, 327, 328, 329, 330, 331, 332, 333, 334, 335, 336, 337, 338, 339, 340, 341, 342, 343, 344, 345, 346, 347, 348, 349, 350, 351, 352, 353] (by decide +kernel) (by decide +kernel)
set_option maxRecDepth 20000 in
theorem gX12_runScript_X12_endsText : GoodIn wsX12_runScript (wsV RX12 239 RX12 yX12_endsText wsX12_endsText) := goodIn_app (goodIn_of _ (by decide +kernel)) ggX12_runScript_X12_endsText
set_option maxRecDepth 20000 in
theorem ggX12_runScript_X12_laysAside : GoodIn wsX12_runScript wsX12_laysAside := goodIn_r _ [117, 118, 85, 306, 307, 308, 309, 310, 311, 312, 313, 314, 315, 316, 317, 318, 319, 320, 321, 322, 323, 324, 325, 326, 327, 328, 329, 330, 331, 332, 333, 334, 335, 336, 337, 338, 339, 340, 341, 342, 343, 344, 345, 346, 347, 348, 349, 350, 351, 352, 353] (by decide +kernel) (by decide +kernel)
set_option maxRecDepth 20000 in
theorem gX12_runScript_X12_laysAside : GoodIn wsX12_runScript (wsV RX12 233 RX12 yX12_laysAside wsX12_laysAside) := goodIn_app (goodIn_of _ (by decide +kernel)) ggX12_runScript_X12_laysAside
set_option maxRecDepth 20000 in
theorem ggX12_runScript_X12_runs : GoodIn wsX12_runScript wsX12_runs := goodIn_r _ [122, 1, 42, 123, 124, 43, 44, 95, 96, 8, 97, 125, 126, 127, 128, 129, 130, 131, 132, 133, 85, 134, 135, 136, 137, 138, 139, 140, 141, 142, 143, 144, 145, 146, 147, 148, 149, 150, 151, 152, 153, 154, 155, 156, 157, 158, 159, 160, 161, 162, 163, 164, 165, 166, 167, 168, 169, 170, 171, 172, 173, 174, 175, 176, 177, 178, 179, 180, 181, 182, 183, 70, 71, 72, 184, 185, 186, 187, 188, 189, 190, 191, 192, 193, 194, 195, 196, 197, 198, 199, 200, 201, 202, 203, 204, 205, 206, 207, 208, 209, 210, 211, 212, 213, 214, 215, 216, 217, 218, 219, 220, 221, 222, 223, 224, 225, 226, 227, 228, 229, 230, 231, 232, 233, 234, 235, 236, 237, 238, 239, 240, 241, 242, 243, 244, 245, 246, 247, 248, 249, 250, 251, 252, 253, 254, 255, 256, 257, 258, 259, 260, 261, 262, 263, 264, 265, 266, 267, 268, 269, 270, 271, 272, 273, 274, 275, 276, 277, 278, 279, 280, 281, 282, 283, 284, 285, 286, 287, 288, 289, 290, 291, 292, 293, 294, 295, 296, 297, 298, 299, 306, 307, 308, 309, 310, 311, 312, 313, 314, 315, 316, 317, 318, 319, 320, 321, 322, 323, 324, 325, 326, 327, 328, 329, 330, 331, 332, 333, 334, 335, 336, 337, 338, 339, 340, 341, 342, 343, 344, 345, 346, 347, 348, 349, 350, 351, 352, 353] (by decide +kernel) (by decide +kernel)
set_option maxRecDepth 20000 in
theorem gX12_runScript_X12_runs : GoodIn wsX12_runScript (wsV RX12 465 RX12 yX12_runs wsX12_runs) := goodIn_app (goodIn_of _ (by decide +kernel)) ggX12_runScript_X12_runs
set_option maxRecDepth 20000 in
theorem ggX12_runScript_X12_keeps : GoodIn wsX12_runScript wsX12_keeps := goodIn_r _ [303, 304, 305, 118, 306, 307, 308, 309, 310, 311, 312, 313, 314, 315, 316, 317, 318, 319, 320, 321, 322, 323, 324, 325, 326, 327, 328, 329, 330, 331, 332, 333, 334, 335, 336, 337, 338, 339, 340, 341, 342, 343, 344, 345, 346, 347, 348, 349, 350, 351, 352, 353] (by decide +kernel) (by decide +kernel)
set_option maxRecDepth 20000 in
theorem gX12_runScript_X12_keeps : GoodIn wsX12_runScript (wsV RX12 396 RX12 yX12_keeps wsX12_keeps) := goodIn_app (goodIn_of _ (by decide +kernel)) ggX12_runScript_X12_keeps
theorem dX12_runScript_0 : decode cX12_runScript 0 = .ok (.aload_n 0, 1) := by decide +kernel
theorem dX12_runScript_1 : decode cX12_runScript 1 = .ok (.invokevirtual 230, 3) := by decide +kernel
theorem dX12_runScript_4 : decode cX12_runScript 4 = .ok (.aload_n 0, 1) := by decide +kernel
theorem dX12_runScript_5 : decode cX12_runScript 5 = .ok (.iconst 0, 1) := by decide +kernel
theorem dX12_runScript_6 : decode cX12_runScript 6 = .ok (.putfield 449, 3) := by decide +kernel
theorem dX12_runScript_9 : decode cX12_runScript 9 = .ok (.aload_n 0, 1) := by decide +kernel
theorem dX12_runScript_10 : decode cX12_runScript 10 = .ok (.iconst 0, 1) := by decide +kernel
theorem dX12_runScript_11 : decode cX12_runScript 11 = .ok (.putfield 446, 3) := by decide +kernel
theorem dX12_runScript_14 : decode cX12_runScript 14 = .ok (.aload_n 0, 1) := by decide +kernel
theorem dX12_runScript_15 : decode cX12_runScript 15 = .ok (.invokevirtual 148, 3) := by decide +kernel
theorem dX12_runScript_18 : decode cX12_runScript 18 = .ok (.ifCond .eq 40, 3) := by decide +kernel
theorem dX12_runScript_21 : decode cX12_runScript 21 = .ok (.aload_n 0, 1) := by decide +kernel
theorem dX12_runScript_22 : decode cX12_runScript 22 = .ok (.getfield 132, 3) := by decide +kernel
theorem dX12_runScript_25 : decode cX12_runScript 25 = .ok (.ifCond .eq 33, 3) := by decide +kernel
theorem dX12_runScript_28 : decode cX12_runScript 28 = .ok (.aload_n 0, 1) := by decide +kernel
theorem dX12_runScript_29 : decode cX12_runScript 29 = .ok (.getfield 145, 3) := by decide +kernel
theorem dX12_runScript_32 : decode cX12_runScript 32 = .ok (.istore_n 1, 1) := by decide +kernel
theorem dX12_runScript_33 : decode cX12_runScript 33 = .ok (.aload_n 0, 1) := by decide +kernel
theorem dX12_runScript_34 : decode cX12_runScript 34 = .ok (.invokevirtual 459, 3) := by decide +kernel
theorem dX12_runScript_37 : decode cX12_runScript 37 = .ok (.aload_n 0, 1) := by decide +kernel
theorem dX12_runScript_38 : decode cX12_runScript 38 = .ok (.getfield 145, 3) := by decide +kernel
theorem dX12_runScript_41 : decode cX12_runScript 41 = .ok (.iload_n 1, 1) := by decide +kernel
theorem dX12_runScript_42 : decode cX12_runScript 42 = .ok (.if_icmp .ne 9, 3) := by decide +kernel
theorem dX12_runScript_45 : decode cX12_runScript 45 = .ok (.aload_n 0, 1) := by decide +kernel
theorem dX12_runScript_46 : decode cX12_runScript 46 = .ok (.bipush 59, 2) := by decide +kernel
theorem dX12_runScript_48 : decode cX12_runScript 48 = .ok (.invokevirtual 227, 3) := by decide +kernel
theorem dX12_runScript_51 : decode cX12_runScript 51 = .ok (.aload_n 0, 1) := by decide +kernel
theorem dX12_runScript_52 : decode cX12_runScript 52 = .ok (.invokevirtual 462, 3) := by decide +kernel
theorem dX12_runScript_55 : decode cX12_runScript 55 = .ok (.goto (-41), 3) := by decide +kernel
theorem dX12_runScript_58 : decode cX12_runScript 58 = .ok (.aload_n 0, 1) := by decide +kernel
theorem dX12_runScript_59 : decode cX12_runScript 59 = .ok (.invokevirtual 148, 3) := by decide +kernel
theorem dX12_runScript_62 : decode cX12_runScript 62 = .ok (.ifCond .eq 15, 3) := by decide +kernel
theorem dX12_runScript_65 : decode cX12_runScript 65 = .ok (.aload_n 0, 1) := by decide +kernel
theorem dX12_runScript_66 : decode cX12_runScript 66 = .ok (.getfield 145, 3) := by decide +kernel
theorem dX12_runScript_69 : decode cX12_runScript 69 = .ok (.ifCond .le 8, 3) := by decide +kernel
theorem dX12_runScript_72 : decode cX12_runScript 72 = .ok (.aload_n 0, 1) := by decide +kernel
theorem dX12_runScript_73 : decode cX12_runScript 73 = .ok (.iconst 1, 1) := by decide +kernel
theorem dX12_runScript_74 : decode cX12_runScript 74 = .ok (.invokevirtual 155, 3) := by decide +kernel
theorem dX12_runScript_77 : decode cX12_runScript 77 = .ok (.aload_n 0, 1) := by decide +kernel
theorem dX12_runScript_78 : decode cX12_runScript 78 = .ok (.invokevirtual 239, 3) := by decide +kernel
theorem dX12_runScript_81 : decode cX12_runScript 81 = .ok (.ifCond .ne 5, 3) := by decide +kernel
theorem dX12_runScript_84 : decode cX12_runScript 84 = .ok (.iconst 0, 1) := by decide +kernel
theorem dX12_runScript_85 : decode cX12_runScript 85 = .ok (.ireturn, 1) := by decide +kernel
theorem dX12_runScript_86 : decode cX12_runScript 86 = .ok (.aload_n 0, 1) := by decide +kernel
theorem dX12_runScript_87 : decode cX12_runScript 87 = .ok (.invokevirtual 233, 3) := by decide +kernel
theorem dX12_runScript_90 : decode cX12_runScript 90 = .ok (.aload_n 0, 1) := by decide +kernel
theorem dX12_runScript_91 : decode cX12_runScript 91 = .ok (.invokevirtual 465, 3) := by decide +kernel
theorem dX12_runScript_94 : decode cX12_runScript 94 = .ok (.istore_n 1, 1) := by decide +kernel
theorem dX12_runScript_95 : decode cX12_runScript 95 = .ok (.aload_n 0, 1) := by decide +kernel
theorem dX12_runScript_96 : decode cX12_runScript 96 = .ok (.invokevirtual 396, 3) := by decide +kernel
theorem dX12_runScript_99 : decode cX12_runScript 99 = .ok (.iload_n 1, 1) := by decide +kernel
theorem dX12_runScript_100 : decode cX12_runScript 100 = .ok (.ireturn, 1) := by decide +kernel
set_option maxRecDepth 20000 in
theorem ggX12_runs_X12_truth : GoodIn wsX12_runs wsX12_truth := goodIn_r _ [10] (by decide +kernel) (by decide +kernel)
set_option maxRecDepth 20000 in
theorem gX12_runs_X12_truth : GoodIn wsX12_runs (va_wsS RX12 93 yX12_truth wsX12_truth) := goodIn_app (goodIn_of _ (by decide +kernel)) ggX12_runs_X12_truth
set_option maxRecDepth 20000 in
theorem ggX12_runs_X12_does : GoodIn wsX12_runs wsX12_does := goodIn_r _ [14, 15, 16, 17, 18, 9, 19, 20, 21, 22, 23, 24, 25, 26, 27, 28, 29, 30, 31, 32, 33, 34, 35, 36, 37, 38, 39, 40, 41, 42, 43, 44, 45, 46, 47, 48, 49, 50, 51, 52, 53, 54, 55, 56, 57, 58, 59, 60, 61, 62, 63, 64, 65, 66, 67, 68, 69, 70, 71, 72, 73, 74, 75, 76, 77, 78, 79, 80, 81, 82, 83, 84, 85, 86, 87, 88, 89, 7, 8, 10, 90, 91, 92, 93, 94, 95, 96, 97, 98, 99, 100, 101, 102, 103, 104, 105, 106, 107, 108, 109, 110, 111, 112, 113, 114, 115, 116, 117, 118, 119, 120, 121, 122, 123, 124, 125, 126, 127, 128, 129, 130, 131, 132, 133, 134, 135, 136, 137, 138, 139, 140, 141, 142, 143, 144, 145, 146, 147, 148, 149, 150, 151, 152, 153, 154, 155, 156, 157, 158, 159, 160, 161, 162, 163, 164, 165, 166, 167, 168, 169, 170, 171, 172, 173, 174, 175, 176, 177, 178, 179, 180, 181, 182, 183, 184, 185, 186, 187, 188, 189, 190, 191, 192, 193, 194, 195, 196, 197, 198, 199, 200, 201, 202, 203, 204, 205, 206, 207, 208, 209, 210, 211, 212, 213, 214, 215, 216, 217, 218, 219, 220, 221, 222, 223, 224, 225, 226, 227, 228, 229, 230, 231, 232, 233, 234, 235, 236, 237] (by decide +kernel) (by decide +kernel)
set_option maxRecDepth 20000 in
theorem gX12_runs_X12_does : GoodIn wsX12_runs (wsV RX12 468 RX12 yX12_does wsX12_does) := goodIn_app (goodIn_of _ (by decide +kernel)) ggX12_runs_X12_does
theorem dX12_runs_0 : decode cX12_runs 0 = .ok (.iconst 0, 1) := by decide +kernel
theorem dX12_runs_1 : decode cX12_runs 1 = .ok (.istore_n 1, 1) := by decide +kernel
theorem dX12_runs_2 : decode cX12_runs 2 = .ok (.iconst 0, 1) := by decide +kernel
theorem dX12_runs_3 : decode cX12_runs 3 = .ok (.istore_n 2, 1) := by decide +kernel
theorem dX12_runs_4 : decode cX12_runs 4 = .ok (.iconst 0, 1) := by decide +kernel
theorem dX12_runs_5 : decode cX12_runs 5 = .ok (.istore_n 3, 1) := by decide +kernel
theorem dX12_runs_6 : decode cX12_runs 6 = .ok (.iconst 1, 1) := by decide +kernel
theorem dX12_runs_7 : decode cX12_runs 7 = .ok (.istore 4, 2) := by decide +kernel
theorem dX12_runs_9 : decode cX12_runs 9 = .ok (.iload 4, 2) := by decide +kernel
theorem dX12_runs_11 : decode cX12_runs 11 = .ok (.ifCond .eq 176, 3) := by decide +kernel
theorem dX12_runs_14 : decode cX12_runs 14 = .ok (.iload_n 3, 1) := by decide +kernel
theorem dX12_runs_15 : decode cX12_runs 15 = .ok (.aload_n 0, 1) := by decide +kernel
theorem dX12_runs_16 : decode cX12_runs 16 = .ok (.getfield 449, 3) := by decide +kernel
theorem dX12_runs_19 : decode cX12_runs 19 = .ok (.if_icmp .ge 168, 3) := by decide +kernel
theorem dX12_runs_22 : decode cX12_runs 22 = .ok (.iload_n 1, 1) := by decide +kernel
theorem dX12_runs_23 : decode cX12_runs 23 = .ok (.bipush 40, 2) := by decide +kernel
theorem dX12_runs_25 : decode cX12_runs 25 = .ok (.if_icmp .ge 162, 3) := by decide +kernel
theorem dX12_runs_28 : decode cX12_runs 28 = .ok (.aload_n 0, 1) := by decide +kernel
theorem dX12_runs_29 : decode cX12_runs 29 = .ok (.getfield 69, 3) := by decide +kernel
theorem dX12_runs_32 : decode cX12_runs 32 = .ok (.iload_n 3, 1) := by decide +kernel
theorem dX12_runs_33 : decode cX12_runs 33 = .ok (.iaload, 1) := by decide +kernel
theorem dX12_runs_34 : decode cX12_runs 34 = .ok (.bipush 8, 2) := by decide +kernel
theorem dX12_runs_36 : decode cX12_runs 36 = .ok (.if_icmp .ne 31, 3) := by decide +kernel
theorem dX12_runs_39 : decode cX12_runs 39 = .ok (.aload_n 0, 1) := by decide +kernel
theorem dX12_runs_40 : decode cX12_runs 40 = .ok (.getfield 78, 3) := by decide +kernel
theorem dX12_runs_43 : decode cX12_runs 43 = .ok (.iload_n 2, 1) := by decide +kernel
theorem dX12_runs_44 : decode cX12_runs 44 = .ok (.iload_n 3, 1) := by decide +kernel
theorem dX12_runs_45 : decode cX12_runs 45 = .ok (.iastore, 1) := by decide +kernel
theorem dX12_runs_46 : decode cX12_runs 46 = .ok (.aload_n 0, 1) := by decide +kernel
theorem dX12_runs_47 : decode cX12_runs 47 = .ok (.getfield 81, 3) := by decide +kernel
theorem dX12_runs_50 : decode cX12_runs 50 = .ok (.iload_n 2, 1) := by decide +kernel
theorem dX12_runs_51 : decode cX12_runs 51 = .ok (.aload_n 0, 1) := by decide +kernel
theorem dX12_runs_52 : decode cX12_runs 52 = .ok (.getfield 72, 3) := by decide +kernel
theorem dX12_runs_55 : decode cX12_runs 55 = .ok (.iload_n 3, 1) := by decide +kernel
theorem dX12_runs_56 : decode cX12_runs 56 = .ok (.iaload, 1) := by decide +kernel
theorem dX12_runs_57 : decode cX12_runs 57 = .ok (.iastore, 1) := by decide +kernel
theorem dX12_runs_58 : decode cX12_runs 58 = .ok (.iinc 2 1, 3) := by decide +kernel
theorem dX12_runs_61 : decode cX12_runs 61 = .ok (.iinc 3 1, 3) := by decide +kernel
theorem dX12_runs_64 : decode cX12_runs 64 = .ok (.goto (-55), 3) := by decide +kernel
theorem dX12_runs_67 : decode cX12_runs 67 = .ok (.aload_n 0, 1) := by decide +kernel
theorem dX12_runs_68 : decode cX12_runs 68 = .ok (.getfield 69, 3) := by decide +kernel
theorem dX12_runs_71 : decode cX12_runs 71 = .ok (.iload_n 3, 1) := by decide +kernel
theorem dX12_runs_72 : decode cX12_runs 72 = .ok (.iaload, 1) := by decide +kernel
theorem dX12_runs_73 : decode cX12_runs 73 = .ok (.bipush 9, 2) := by decide +kernel
theorem dX12_runs_75 : decode cX12_runs 75 = .ok (.if_icmp .ne 74, 3) := by decide +kernel
theorem dX12_runs_78 : decode cX12_runs 78 = .ok (.aload_n 0, 1) := by decide +kernel
theorem dX12_runs_79 : decode cX12_runs 79 = .ok (.getfield 81, 3) := by decide +kernel
theorem dX12_runs_82 : decode cX12_runs 82 = .ok (.iload_n 2, 1) := by decide +kernel
theorem dX12_runs_83 : decode cX12_runs 83 = .ok (.iconst 1, 1) := by decide +kernel
theorem dX12_runs_84 : decode cX12_runs 84 = .ok (.isub, 1) := by decide +kernel
theorem dX12_runs_85 : decode cX12_runs 85 = .ok (.dup2, 1) := by decide +kernel
theorem dX12_runs_86 : decode cX12_runs 86 = .ok (.iaload, 1) := by decide +kernel
theorem dX12_runs_87 : decode cX12_runs 87 = .ok (.iconst 1, 1) := by decide +kernel
theorem dX12_runs_88 : decode cX12_runs 88 = .ok (.isub, 1) := by decide +kernel
theorem dX12_runs_89 : decode cX12_runs 89 = .ok (.iastore, 1) := by decide +kernel
theorem dX12_runs_90 : decode cX12_runs 90 = .ok (.aload_n 0, 1) := by decide +kernel
theorem dX12_runs_91 : decode cX12_runs 91 = .ok (.getfield 81, 3) := by decide +kernel
theorem dX12_runs_94 : decode cX12_runs 94 = .ok (.iload_n 2, 1) := by decide +kernel
theorem dX12_runs_95 : decode cX12_runs 95 = .ok (.iconst 1, 1) := by decide +kernel
theorem dX12_runs_96 : decode cX12_runs 96 = .ok (.isub, 1) := by decide +kernel
theorem dX12_runs_97 : decode cX12_runs 97 = .ok (.iaload, 1) := by decide +kernel
theorem dX12_runs_98 : decode cX12_runs 98 = .ok (.ifCond .le 7, 3) := by decide +kernel
theorem dX12_runs_101 : decode cX12_runs 101 = .ok (.iconst 1, 1) := by decide +kernel
theorem dX12_runs_102 : decode cX12_runs 102 = .ok (.goto 4, 3) := by decide +kernel
theorem dX12_runs_105 : decode cX12_runs 105 = .ok (.iconst 0, 1) := by decide +kernel
theorem dX12_runs_106 : decode cX12_runs 106 = .ok (.istore 5, 2) := by decide +kernel
theorem dX12_runs_108 : decode cX12_runs 108 = .ok (.iload 5, 2) := by decide +kernel
theorem dX12_runs_110 : decode cX12_runs 110 = .ok (.ifCond .eq 16, 3) := by decide +kernel
theorem dX12_runs_113 : decode cX12_runs 113 = .ok (.aload_n 0, 1) := by decide +kernel
theorem dX12_runs_114 : decode cX12_runs 114 = .ok (.getfield 78, 3) := by decide +kernel
theorem dX12_runs_117 : decode cX12_runs 117 = .ok (.iload_n 2, 1) := by decide +kernel
theorem dX12_runs_118 : decode cX12_runs 118 = .ok (.iconst 1, 1) := by decide +kernel
theorem dX12_runs_119 : decode cX12_runs 119 = .ok (.isub, 1) := by decide +kernel
theorem dX12_runs_120 : decode cX12_runs 120 = .ok (.iaload, 1) := by decide +kernel
theorem dX12_runs_121 : decode cX12_runs 121 = .ok (.iconst 1, 1) := by decide +kernel
theorem dX12_runs_122 : decode cX12_runs 122 = .ok (.iadd, 1) := by decide +kernel
theorem dX12_runs_123 : decode cX12_runs 123 = .ok (.goto 6, 3) := by decide +kernel
theorem dX12_runs_126 : decode cX12_runs 126 = .ok (.iload_n 3, 1) := by decide +kernel
theorem dX12_runs_127 : decode cX12_runs 127 = .ok (.iconst 1, 1) := by decide +kernel
theorem dX12_runs_128 : decode cX12_runs 128 = .ok (.iadd, 1) := by decide +kernel
theorem dX12_runs_129 : decode cX12_runs 129 = .ok (.istore_n 3, 1) := by decide +kernel
theorem dX12_runs_130 : decode cX12_runs 130 = .ok (.iload_n 2, 1) := by decide +kernel
theorem dX12_runs_131 : decode cX12_runs 131 = .ok (.iload 5, 2) := by decide +kernel
theorem dX12_runs_133 : decode cX12_runs 133 = .ok (.ifCond .ne 7, 3) := by decide +kernel
theorem dX12_runs_136 : decode cX12_runs 136 = .ok (.iconst 1, 1) := by decide +kernel
theorem dX12_runs_137 : decode cX12_runs 137 = .ok (.goto 4, 3) := by decide +kernel
theorem dX12_runs_140 : decode cX12_runs 140 = .ok (.iconst 0, 1) := by decide +kernel
theorem dX12_runs_141 : decode cX12_runs 141 = .ok (.invokestatic 93, 3) := by decide +kernel
theorem dX12_runs_144 : decode cX12_runs 144 = .ok (.isub, 1) := by decide +kernel
theorem dX12_runs_145 : decode cX12_runs 145 = .ok (.istore_n 2, 1) := by decide +kernel
theorem dX12_runs_146 : decode cX12_runs 146 = .ok (.goto (-137), 3) := by decide +kernel
theorem dX12_runs_149 : decode cX12_runs 149 = .ok (.aload_n 0, 1) := by decide +kernel
theorem dX12_runs_150 : decode cX12_runs 150 = .ok (.aload_n 0, 1) := by decide +kernel
theorem dX12_runs_151 : decode cX12_runs 151 = .ok (.getfield 69, 3) := by decide +kernel
theorem dX12_runs_154 : decode cX12_runs 154 = .ok (.iload_n 3, 1) := by decide +kernel
theorem dX12_runs_155 : decode cX12_runs 155 = .ok (.iaload, 1) := by decide +kernel
theorem dX12_runs_156 : decode cX12_runs 156 = .ok (.aload_n 0, 1) := by decide +kernel
theorem dX12_runs_157 : decode cX12_runs 157 = .ok (.getfield 72, 3) := by decide +kernel
theorem dX12_runs_160 : decode cX12_runs 160 = .ok (.iload_n 3, 1) := by decide +kernel
theorem dX12_runs_161 : decode cX12_runs 161 = .ok (.iaload, 1) := by decide +kernel
theorem dX12_runs_162 : decode cX12_runs 162 = .ok (.aload_n 0, 1) := by decide +kernel
theorem dX12_runs_163 : decode cX12_runs 163 = .ok (.getfield 75, 3) := by decide +kernel
theorem dX12_runs_166 : decode cX12_runs 166 = .ok (.iload_n 3, 1) := by decide +kernel
theorem dX12_runs_167 : decode cX12_runs 167 = .ok (.iaload, 1) := by decide +kernel
theorem dX12_runs_168 : decode cX12_runs 168 = .ok (.invokevirtual 468, 3) := by decide +kernel
theorem dX12_runs_171 : decode cX12_runs 171 = .ok (.istore 4, 2) := by decide +kernel
theorem dX12_runs_173 : decode cX12_runs 173 = .ok (.iload_n 1, 1) := by decide +kernel
theorem dX12_runs_174 : decode cX12_runs 174 = .ok (.iload 4, 2) := by decide +kernel
theorem dX12_runs_176 : decode cX12_runs 176 = .ok (.invokestatic 93, 3) := by decide +kernel
theorem dX12_runs_179 : decode cX12_runs 179 = .ok (.iadd, 1) := by decide +kernel
theorem dX12_runs_180 : decode cX12_runs 180 = .ok (.istore_n 1, 1) := by decide +kernel
theorem dX12_runs_181 : decode cX12_runs 181 = .ok (.iinc 3 1, 3) := by decide +kernel
theorem dX12_runs_184 : decode cX12_runs 184 = .ok (.goto (-175), 3) := by decide +kernel
theorem dX12_runs_187 : decode cX12_runs 187 = .ok (.iload_n 1, 1) := by decide +kernel
theorem dX12_runs_188 : decode cX12_runs 188 = .ok (.ireturn, 1) := by decide +kernel
theorem dX12_tell_0 : decode cX12_tell 0 = .ok (.aload_n 0, 1) := by decide +kernel
theorem dX12_tell_1 : decode cX12_tell 1 = .ok (.getfield 84, 3) := by decide +kernel
theorem dX12_tell_4 : decode cX12_tell 4 = .ok (.aload_n 0, 1) := by decide +kernel
theorem dX12_tell_5 : decode cX12_tell 5 = .ok (.getfield 471, 3) := by decide +kernel
theorem dX12_tell_8 : decode cX12_tell 8 = .ok (.iload_n 1, 1) := by decide +kernel
theorem dX12_tell_9 : decode cX12_tell 9 = .ok (.iastore, 1) := by decide +kernel
theorem dX12_tell_10 : decode cX12_tell 10 = .ok (.aload_n 0, 1) := by decide +kernel
theorem dX12_tell_11 : decode cX12_tell 11 = .ok (.dup, 1) := by decide +kernel
theorem dX12_tell_12 : decode cX12_tell 12 = .ok (.getfield 471, 3) := by decide +kernel
theorem dX12_tell_15 : decode cX12_tell 15 = .ok (.iconst 1, 1) := by decide +kernel
theorem dX12_tell_16 : decode cX12_tell 16 = .ok (.iadd, 1) := by decide +kernel
theorem dX12_tell_17 : decode cX12_tell 17 = .ok (.putfield 471, 3) := by decide +kernel
theorem dX12_tell_20 : decode cX12_tell 20 = .ok (.return_, 1) := by decide +kernel
set_option maxRecDepth 20000 in
theorem ggX12_tellName_X12_tell : GoodIn wsX12_tellName wsX12_tell := goodIn_r _ [6, 7, 8, 9, 10, 11, 12, 13, 14, 15, 16, 17, 18, 19, 20, 21, 22, 23, 24, 25, 26, 27, 28, 29, 30, 31, 32, 33, 34, 35, 36, 37, 38, 39, 40, 41, 42, 43, 44, 45, 46, 47, 48, 49, 50, 51, 52, 53, 54, 55, 56] (by decide +kernel) (by decide +kernel)
set_option maxRecDepth 20000 in
theorem gX12_tellName_X12_tell : GoodIn wsX12_tellName (wsV RX12 476 RX12 yX12_tell wsX12_tell) := goodIn_app (goodIn_of _ (by decide +kernel)) ggX12_tellName_X12_tell
theorem dX12_tellName_0 : decode cX12_tellName 0 = .ok (.bipush 35, 2) := by decide +kernel
theorem dX12_tellName_2 : decode cX12_tellName 2 = .ok (.istore_n 3, 1) := by decide +kernel
theorem dX12_tellName_3 : decode cX12_tellName 3 = .ok (.iload_n 3, 1) := by decide +kernel
theorem dX12_tellName_4 : decode cX12_tellName 4 = .ok (.ifCond .lt 32, 3) := by decide +kernel
theorem dX12_tellName_7 : decode cX12_tellName 7 = .ok (.lload_n 1, 1) := by decide +kernel
theorem dX12_tellName_8 : decode cX12_tellName 8 = .ok (.iload_n 3, 1) := by decide +kernel
theorem dX12_tellName_9 : decode cX12_tellName 9 = .ok (.lshr, 1) := by decide +kernel
theorem dX12_tellName_10 : decode cX12_tellName 10 = .ok (.lconst 0, 1) := by decide +kernel
theorem dX12_tellName_11 : decode cX12_tellName 11 = .ok (.lcmp, 1) := by decide +kernel
theorem dX12_tellName_12 : decode cX12_tellName 12 = .ok (.ifCond .le 18, 3) := by decide +kernel
theorem dX12_tellName_15 : decode cX12_tellName 15 = .ok (.aload_n 0, 1) := by decide +kernel
theorem dX12_tellName_16 : decode cX12_tellName 16 = .ok (.bipush 96, 2) := by decide +kernel
theorem dX12_tellName_18 : decode cX12_tellName 18 = .ok (.lload_n 1, 1) := by decide +kernel
theorem dX12_tellName_19 : decode cX12_tellName 19 = .ok (.iload_n 3, 1) := by decide +kernel
theorem dX12_tellName_20 : decode cX12_tellName 20 = .ok (.lshr, 1) := by decide +kernel
theorem dX12_tellName_21 : decode cX12_tellName 21 = .ok (.ldc2_w 474, 3) := by decide +kernel
theorem dX12_tellName_24 : decode cX12_tellName 24 = .ok (.land, 1) := by decide +kernel
theorem dX12_tellName_25 : decode cX12_tellName 25 = .ok (.l2i, 1) := by decide +kernel
theorem dX12_tellName_26 : decode cX12_tellName 26 = .ok (.iadd, 1) := by decide +kernel
theorem dX12_tellName_27 : decode cX12_tellName 27 = .ok (.invokevirtual 476, 3) := by decide +kernel
theorem dX12_tellName_30 : decode cX12_tellName 30 = .ok (.iinc 3 (-5), 3) := by decide +kernel
theorem dX12_tellName_33 : decode cX12_tellName 33 = .ok (.goto (-30), 3) := by decide +kernel
theorem dX12_tellName_36 : decode cX12_tellName 36 = .ok (.return_, 1) := by decide +kernel
set_option maxRecDepth 20000 in
theorem ggX12_report_X12_borderNow : GoodIn wsX12_report wsX12_borderNow := goodIn_r _ [10, 4, 11, 12, 13, 9, 14, 28, 29, 30, 31, 32, 33, 34, 35, 36, 37, 38, 39, 40, 41, 42, 43, 44, 45, 46, 47, 48, 49, 50, 51, 52, 53, 54, 55, 56, 57, 58, 59, 60, 61, 62, 63, 64, 65, 66, 67, 68, 69, 70, 71, 72, 73, 74, 75] (by decide +kernel) (by decide +kernel)
set_option maxRecDepth 20000 in
theorem gX12_report_X12_borderNow : GoodIn wsX12_report (wsV RX12 316 RX12 yX12_borderNow wsX12_borderNow) := goodIn_app (goodIn_of _ (by decide +kernel)) ggX12_report_X12_borderNow
set_option maxRecDepth 20000 in
theorem ggX12_report_X12_tell : GoodIn wsX12_report wsX12_tell := goodIn_r _ [18, 19, 2, 28, 29, 30, 31, 32, 33, 34, 35, 36, 37, 38, 39, 40, 41, 42, 43, 44, 45, 46, 47, 48, 49, 50, 51, 52, 53, 54, 55, 56, 57, 58, 59, 60, 61, 62, 63, 64, 65, 66, 67, 68, 69, 70, 71, 72, 73, 74, 75] (by decide +kernel) (by decide +kernel)
set_option maxRecDepth 20000 in
theorem gX12_report_X12_tell : GoodIn wsX12_report (wsV RX12 476 RX12 yX12_tell wsX12_tell) := goodIn_app (goodIn_of _ (by decide +kernel)) ggX12_report_X12_tell
set_option maxRecDepth 20000 in
theorem ggX12_report_X12_tellName : GoodIn wsX12_report wsX12_tellName := goodIn_r _ [23, 24, 15, 16, 17, 9, 18, 19, 2, 28, 29, 30, 31, 32, 33, 34, 35, 36, 37, 38, 39, 40, 41, 42, 43, 44, 45, 46, 47, 48, 49, 50, 51, 52, 53, 54, 55, 56, 57, 58, 59, 60, 61, 62, 63, 64, 65, 66, 67, 68, 69, 70, 71, 72, 73, 74, 75] (by decide +kernel) (by decide +kernel)
set_option maxRecDepth 20000 in
theorem gX12_report_X12_tellName : GoodIn wsX12_report (wsV RX12 482 RX12 yX12_tellName wsX12_tellName) := goodIn_app (goodIn_of _ (by decide +kernel)) ggX12_report_X12_tellName
set_option maxRecDepth 20000 in
theorem ggX12_report_X12_hasBit : GoodIn wsX12_report wsX12_hasBit := goodIn_r _ [27] (by decide +kernel) (by decide +kernel)
set_option maxRecDepth 20000 in
theorem gX12_report_X12_hasBit : GoodIn wsX12_report (va_wsS RX12 199 yX12_hasBit wsX12_hasBit) := goodIn_app (goodIn_of _ (by decide +kernel)) ggX12_report_X12_hasBit
theorem dX12_report_0 : decode cX12_report 0 = .ok (.aload_n 0, 1) := by decide +kernel
theorem dX12_report_1 : decode cX12_report 1 = .ok (.iconst 0, 1) := by decide +kernel
theorem dX12_report_2 : decode cX12_report 2 = .ok (.putfield 90, 3) := by decide +kernel
theorem dX12_report_5 : decode cX12_report 5 = .ok (.aload_n 0, 1) := by decide +kernel
theorem dX12_report_6 : decode cX12_report 6 = .ok (.iconst 0, 1) := by decide +kernel
theorem dX12_report_7 : decode cX12_report 7 = .ok (.putfield 471, 3) := by decide +kernel
theorem dX12_report_10 : decode cX12_report 10 = .ok (.aload_n 0, 1) := by decide +kernel
theorem dX12_report_11 : decode cX12_report 11 = .ok (.iconst 1, 1) := by decide +kernel
theorem dX12_report_12 : decode cX12_report 12 = .ok (.putfield 479, 3) := by decide +kernel
theorem dX12_report_15 : decode cX12_report 15 = .ok (.aload_n 0, 1) := by decide +kernel
theorem dX12_report_16 : decode cX12_report 16 = .ok (.invokevirtual 316, 3) := by decide +kernel
theorem dX12_report_19 : decode cX12_report 19 = .ok (.istore_n 1, 1) := by decide +kernel
theorem dX12_report_20 : decode cX12_report 20 = .ok (.iconst 0, 1) := by decide +kernel
theorem dX12_report_21 : decode cX12_report 21 = .ok (.istore_n 2, 1) := by decide +kernel
theorem dX12_report_22 : decode cX12_report 22 = .ok (.iload_n 2, 1) := by decide +kernel
theorem dX12_report_23 : decode cX12_report 23 = .ok (.aload_n 0, 1) := by decide +kernel
theorem dX12_report_24 : decode cX12_report 24 = .ok (.getfield 26, 3) := by decide +kernel
theorem dX12_report_27 : decode cX12_report 27 = .ok (.iconst 2, 1) := by decide +kernel
theorem dX12_report_28 : decode cX12_report 28 = .ok (.iaload, 1) := by decide +kernel
theorem dX12_report_29 : decode cX12_report 29 = .ok (.if_icmp .ge 93, 3) := by decide +kernel
theorem dX12_report_32 : decode cX12_report 32 = .ok (.aload_n 0, 1) := by decide +kernel
theorem dX12_report_33 : decode cX12_report 33 = .ok (.bipush 48, 2) := by decide +kernel
theorem dX12_report_35 : decode cX12_report 35 = .ok (.iload_n 2, 1) := by decide +kernel
theorem dX12_report_36 : decode cX12_report 36 = .ok (.iadd, 1) := by decide +kernel
theorem dX12_report_37 : decode cX12_report 37 = .ok (.invokevirtual 476, 3) := by decide +kernel
theorem dX12_report_40 : decode cX12_report 40 = .ok (.aload_n 0, 1) := by decide +kernel
theorem dX12_report_41 : decode cX12_report 41 = .ok (.bipush 58, 2) := by decide +kernel
theorem dX12_report_43 : decode cX12_report 43 = .ok (.invokevirtual 476, 3) := by decide +kernel
theorem dX12_report_46 : decode cX12_report 46 = .ok (.iconst 0, 1) := by decide +kernel
theorem dX12_report_47 : decode cX12_report 47 = .ok (.istore_n 3, 1) := by decide +kernel
theorem dX12_report_48 : decode cX12_report 48 = .ok (.iload_n 3, 1) := by decide +kernel
theorem dX12_report_49 : decode cX12_report 49 = .ok (.aload_n 0, 1) := by decide +kernel
theorem dX12_report_50 : decode cX12_report 50 = .ok (.getfield 26, 3) := by decide +kernel
theorem dX12_report_53 : decode cX12_report 53 = .ok (.iconst 0, 1) := by decide +kernel
theorem dX12_report_54 : decode cX12_report 54 = .ok (.iaload, 1) := by decide +kernel
theorem dX12_report_55 : decode cX12_report 55 = .ok (.if_icmp .ge 55, 3) := by decide +kernel
theorem dX12_report_58 : decode cX12_report 58 = .ok (.aload_n 0, 1) := by decide +kernel
theorem dX12_report_59 : decode cX12_report 59 = .ok (.getfield 26, 3) := by decide +kernel
theorem dX12_report_62 : decode cX12_report 62 = .ok (.bipush 21, 2) := by decide +kernel
theorem dX12_report_64 : decode cX12_report 64 = .ok (.iload_n 3, 1) := by decide +kernel
theorem dX12_report_65 : decode cX12_report 65 = .ok (.iadd, 1) := by decide +kernel
theorem dX12_report_66 : decode cX12_report 66 = .ok (.iaload, 1) := by decide +kernel
theorem dX12_report_67 : decode cX12_report 67 = .ok (.iload_n 2, 1) := by decide +kernel
theorem dX12_report_68 : decode cX12_report 68 = .ok (.if_icmp .eq 6, 3) := by decide +kernel
theorem dX12_report_71 : decode cX12_report 71 = .ok (.goto 33, 3) := by decide +kernel
theorem dX12_report_74 : decode cX12_report 74 = .ok (.aload_n 0, 1) := by decide +kernel
theorem dX12_report_75 : decode cX12_report 75 = .ok (.bipush 32, 2) := by decide +kernel
theorem dX12_report_77 : decode cX12_report 77 = .ok (.invokevirtual 476, 3) := by decide +kernel
theorem dX12_report_80 : decode cX12_report 80 = .ok (.aload_n 0, 1) := by decide +kernel
theorem dX12_report_81 : decode cX12_report 81 = .ok (.aload_n 0, 1) := by decide +kernel
theorem dX12_report_82 : decode cX12_report 82 = .ok (.getfield 41, 3) := by decide +kernel
theorem dX12_report_85 : decode cX12_report 85 = .ok (.iload_n 3, 1) := by decide +kernel
theorem dX12_report_86 : decode cX12_report 86 = .ok (.laload, 1) := by decide +kernel
theorem dX12_report_87 : decode cX12_report 87 = .ok (.invokevirtual 482, 3) := by decide +kernel
theorem dX12_report_90 : decode cX12_report 90 = .ok (.iload_n 1, 1) := by decide +kernel
theorem dX12_report_91 : decode cX12_report 91 = .ok (.iload_n 3, 1) := by decide +kernel
theorem dX12_report_92 : decode cX12_report 92 = .ok (.invokestatic 199, 3) := by decide +kernel
theorem dX12_report_95 : decode cX12_report 95 = .ok (.ifCond .eq 9, 3) := by decide +kernel
theorem dX12_report_98 : decode cX12_report 98 = .ok (.aload_n 0, 1) := by decide +kernel
theorem dX12_report_99 : decode cX12_report 99 = .ok (.bipush 43, 2) := by decide +kernel
theorem dX12_report_101 : decode cX12_report 101 = .ok (.invokevirtual 476, 3) := by decide +kernel
theorem dX12_report_104 : decode cX12_report 104 = .ok (.iinc 3 1, 3) := by decide +kernel
theorem dX12_report_107 : decode cX12_report 107 = .ok (.goto (-59), 3) := by decide +kernel
theorem dX12_report_110 : decode cX12_report 110 = .ok (.aload_n 0, 1) := by decide +kernel
theorem dX12_report_111 : decode cX12_report 111 = .ok (.bipush 10, 2) := by decide +kernel
theorem dX12_report_113 : decode cX12_report 113 = .ok (.invokevirtual 476, 3) := by decide +kernel
theorem dX12_report_116 : decode cX12_report 116 = .ok (.iinc 2 1, 3) := by decide +kernel
theorem dX12_report_119 : decode cX12_report 119 = .ok (.goto (-97), 3) := by decide +kernel
theorem dX12_report_122 : decode cX12_report 122 = .ok (.aload_n 0, 1) := by decide +kernel
theorem dX12_report_123 : decode cX12_report 123 = .ok (.getfield 471, 3) := by decide +kernel
theorem dX12_report_126 : decode cX12_report 126 = .ok (.ireturn, 1) := by decide +kernel
set_option maxRecDepth 20000 in
theorem ggX12_reportByte_X12_isIn : GoodIn wsX12_reportByte wsX12_isIn := goodIn_r _ [7] (by decide +kernel) (by decide +kernel)
set_option maxRecDepth 20000 in
theorem gX12_reportByte_X12_isIn : GoodIn wsX12_reportByte (va_wsS RX12 108 yX12_isIn wsX12_isIn) := goodIn_app (goodIn_of _ (by decide +kernel)) ggX12_reportByte_X12_isIn
set_option maxRecDepth 20000 in
theorem ggX12_reportByte_X12_goes : GoodIn wsX12_reportByte wsX12_goes := goodIn_r _ [11, 12, 13, 14, 6, 15, 16, 17, 18, 19, 20, 21, 22, 23, 24, 25, 26, 27, 28, 29, 30, 31, 32, 33, 34, 35, 36, 37, 38, 39, 40, 41, 42, 43, 44, 45, 46, 47, 48, 49, 50, 51, 52, 53, 54, 55, 56, 57, 58, 59, 60, 61, 62, 63] (by decide +kernel) (by decide +kernel)
set_option maxRecDepth 20000 in
theorem gX12_reportByte_X12_goes : GoodIn wsX12_reportByte (wsV RX12 100 RX12 yX12_goes wsX12_goes) := goodIn_app (goodIn_of _ (by decide +kernel)) ggX12_reportByte_X12_goes
theorem dX12_reportByte_0 : decode cX12_reportByte 0 = .ok (.aload_n 0, 1) := by decide +kernel
theorem dX12_reportByte_1 : decode cX12_reportByte 1 = .ok (.aload_n 0, 1) := by decide +kernel
theorem dX12_reportByte_2 : decode cX12_reportByte 2 = .ok (.getfield 479, 3) := by decide +kernel
theorem dX12_reportByte_5 : decode cX12_reportByte 5 = .ok (.ifCond .eq 23, 3) := by decide +kernel
theorem dX12_reportByte_8 : decode cX12_reportByte 8 = .ok (.iload_n 1, 1) := by decide +kernel
theorem dX12_reportByte_9 : decode cX12_reportByte 9 = .ok (.i2l, 1) := by decide +kernel
theorem dX12_reportByte_10 : decode cX12_reportByte 10 = .ok (.lconst 0, 1) := by decide +kernel
theorem dX12_reportByte_11 : decode cX12_reportByte 11 = .ok (.aload_n 0, 1) := by decide +kernel
theorem dX12_reportByte_12 : decode cX12_reportByte 12 = .ok (.getfield 471, 3) := by decide +kernel
theorem dX12_reportByte_15 : decode cX12_reportByte 15 = .ok (.iconst 1, 1) := by decide +kernel
theorem dX12_reportByte_16 : decode cX12_reportByte 16 = .ok (.isub, 1) := by decide +kernel
theorem dX12_reportByte_17 : decode cX12_reportByte 17 = .ok (.i2l, 1) := by decide +kernel
theorem dX12_reportByte_18 : decode cX12_reportByte 18 = .ok (.invokestatic 108, 3) := by decide +kernel
theorem dX12_reportByte_21 : decode cX12_reportByte 21 = .ok (.ifCond .eq 7, 3) := by decide +kernel
theorem dX12_reportByte_24 : decode cX12_reportByte 24 = .ok (.iconst 1, 1) := by decide +kernel
theorem dX12_reportByte_25 : decode cX12_reportByte 25 = .ok (.goto 4, 3) := by decide +kernel
theorem dX12_reportByte_28 : decode cX12_reportByte 28 = .ok (.iconst 0, 1) := by decide +kernel
theorem dX12_reportByte_29 : decode cX12_reportByte 29 = .ok (.invokevirtual 100, 3) := by decide +kernel
theorem dX12_reportByte_32 : decode cX12_reportByte 32 = .ok (.ifCond .eq 12, 3) := by decide +kernel
theorem dX12_reportByte_35 : decode cX12_reportByte 35 = .ok (.aload_n 0, 1) := by decide +kernel
theorem dX12_reportByte_36 : decode cX12_reportByte 36 = .ok (.getfield 84, 3) := by decide +kernel
theorem dX12_reportByte_39 : decode cX12_reportByte 39 = .ok (.iload_n 1, 1) := by decide +kernel
theorem dX12_reportByte_40 : decode cX12_reportByte 40 = .ok (.iaload, 1) := by decide +kernel
theorem dX12_reportByte_41 : decode cX12_reportByte 41 = .ok (.goto 4, 3) := by decide +kernel
theorem dX12_reportByte_44 : decode cX12_reportByte 44 = .ok (.iconst 0, 1) := by decide +kernel
theorem dX12_reportByte_45 : decode cX12_reportByte 45 = .ok (.ireturn, 1) := by decide +kernel
