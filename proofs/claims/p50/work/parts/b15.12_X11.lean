theorem dX11_whyNotShrink_27 : decode cX11_whyNotShrink 27 = .ok (.iconst 0, 1) := by decide +kernel
theorem dX11_whyNotShrink_28 : decode cX11_whyNotShrink 28 = .ok (.goto 4, 3) := by decide +kernel
theorem dX11_whyNotShrink_31 : decode cX11_whyNotShrink 31 = .ok (.iconst 2, 1) := by decide +kernel
theorem dX11_whyNotShrink_32 : decode cX11_whyNotShrink 32 = .ok (.ireturn, 1) := by decide +kernel
set_option maxRecDepth 20000 in
theorem ggX11_findPairs_X4_take : GoodIn wsX11_findPairs wsX4_take := goodIn_s _ [(9, 30), (8, 1), (39, 35), (119, 31)] rfl (by decide +kernel)
set_option maxRecDepth 20000 in
theorem gX11_findPairs_X4_take : GoodIn wsX11_findPairs (wsV RX11 333 RX4 yX4_take wsX4_take) := goodIn_app (goodIn_of _ (by decide +kernel)) ggX11_findPairs_X4_take
set_option maxRecDepth 20000 in
theorem ggX11_findPairs_X5_join : GoodIn wsX11_findPairs wsX5_join := goodIn_s _ [(78, 8), (49, 3), (86, 1), (53, 2), (21, 1), (55, 1), (24, 4), (56, 2), (150, 5), (131, 19)] rfl (by decide +kernel)
set_option maxRecDepth 20000 in
theorem gX11_findPairs_X5_join : GoodIn wsX11_findPairs (wsV RX11 399 RX5 yX5_join wsX5_join) := goodIn_app (goodIn_of _ (by decide +kernel)) ggX11_findPairs_X5_join
set_option maxRecDepth 20000 in
theorem ggX11_findPairs_X5_findMates : GoodIn wsX11_findPairs wsX5_findMates := goodIn_s _ [(90, 4), (85, 1), (49, 3), (25, 3), (94, 3), (77, 1), (97, 4), (79, 1), (58, 2), (150, 5), (119, 12)] rfl (by decide +kernel)
set_option maxRecDepth 20000 in
theorem gX11_findPairs_X5_findMates : GoodIn wsX11_findPairs (wsV RX11 402 RX5 yX5_findMates wsX5_findMates) := goodIn_app (goodIn_of _ (by decide +kernel)) ggX11_findPairs_X5_findMates
theorem dX11_findPairs_0 : decode cX11_findPairs 0 = .ok (.aload_n 0, 1) := by decide +kernel
theorem dX11_findPairs_1 : decode cX11_findPairs 1 = .ok (.getfield 73, 3) := by decide +kernel
theorem dX11_findPairs_4 : decode cX11_findPairs 4 = .ok (.aload_n 0, 1) := by decide +kernel
theorem dX11_findPairs_5 : decode cX11_findPairs 5 = .ok (.getfield 40, 3) := by decide +kernel
theorem dX11_findPairs_8 : decode cX11_findPairs 8 = .ok (.aload_n 0, 1) := by decide +kernel
theorem dX11_findPairs_9 : decode cX11_findPairs 9 = .ok (.getfield 53, 3) := by decide +kernel
theorem dX11_findPairs_12 : decode cX11_findPairs 12 = .ok (.invokevirtual 333, 3) := by decide +kernel
theorem dX11_findPairs_15 : decode cX11_findPairs 15 = .ok (.aload_n 0, 1) := by decide +kernel
theorem dX11_findPairs_16 : decode cX11_findPairs 16 = .ok (.getfield 80, 3) := by decide +kernel
theorem dX11_findPairs_19 : decode cX11_findPairs 19 = .ok (.aload_n 0, 1) := by decide +kernel
theorem dX11_findPairs_20 : decode cX11_findPairs 20 = .ok (.getfield 40, 3) := by decide +kernel
theorem dX11_findPairs_23 : decode cX11_findPairs 23 = .ok (.aload_n 0, 1) := by decide +kernel
theorem dX11_findPairs_24 : decode cX11_findPairs 24 = .ok (.getfield 53, 3) := by decide +kernel
theorem dX11_findPairs_27 : decode cX11_findPairs 27 = .ok (.invokevirtual 399, 3) := by decide +kernel
theorem dX11_findPairs_30 : decode cX11_findPairs 30 = .ok (.aload_n 0, 1) := by decide +kernel
theorem dX11_findPairs_31 : decode cX11_findPairs 31 = .ok (.getfield 80, 3) := by decide +kernel
theorem dX11_findPairs_34 : decode cX11_findPairs 34 = .ok (.aload_n 0, 1) := by decide +kernel
theorem dX11_findPairs_35 : decode cX11_findPairs 35 = .ok (.getfield 73, 3) := by decide +kernel
theorem dX11_findPairs_38 : decode cX11_findPairs 38 = .ok (.invokevirtual 402, 3) := by decide +kernel
theorem dX11_findPairs_41 : decode cX11_findPairs 41 = .ok (.return_, 1) := by decide +kernel
set_option maxRecDepth 20000 in
theorem ggX11_mate_X11_requireGroup : GoodIn wsX11_mate wsX11_requireGroup := goodIn_ca (goodIn_s _ [(7, 6), (6, 1), (13, 11), (118, 18), (141, 7)] rfl (by decide +kernel)) (goodIn_sub (fun _ h => List.mem_cons_of_mem _ (List.mem_append_right _ h)) (by decide +kernel))
set_option maxRecDepth 20000 in
theorem gX11_mate_X11_requireGroup : GoodIn wsX11_mate (wsV RX11 369 RX11 yX11_requireGroup wsX11_requireGroup) := goodIn_app (goodIn_of _ (by decide +kernel)) ggX11_mate_X11_requireGroup
set_option maxRecDepth 20000 in
theorem ggX11_mate_X11_findPairs : GoodIn wsX11_mate wsX11_findPairs := goodIn_s _ [(27, 3), (14, 1), (1, 1), (30, 14), (16, 7), (6, 1), (23, 1), (44, 73), (118, 18), (148, 24), (141, 7), (136, 5)] rfl (by decide +kernel)
set_option maxRecDepth 20000 in
theorem gX11_mate_X11_findPairs : GoodIn wsX11_mate (wsV RX11 392 RX11 yX11_findPairs wsX11_findPairs) := goodIn_app (goodIn_of _ (by decide +kernel)) ggX11_mate_X11_findPairs
set_option maxRecDepth 20000 in
theorem ggX11_mate_X11_at : GoodIn wsX11_mate wsX11_at := goodIn_s _ [(23, 1)] rfl (by decide +kernel)
set_option maxRecDepth 20000 in
theorem gX11_mate_X11_at : GoodIn wsX11_mate (va_wsS RX11 164 yX11_at wsX11_at) := goodIn_app (goodIn_of _ (by decide +kernel)) ggX11_mate_X11_at
theorem dX11_mate_0 : decode cX11_mate 0 = .ok (.aload_n 0, 1) := by decide +kernel
theorem dX11_mate_1 : decode cX11_mate 1 = .ok (.iload_n 1, 1) := by decide +kernel
theorem dX11_mate_2 : decode cX11_mate 2 = .ok (.invokevirtual 369, 3) := by decide +kernel
theorem dX11_mate_5 : decode cX11_mate 5 = .ok (.aload_n 0, 1) := by decide +kernel
theorem dX11_mate_6 : decode cX11_mate 6 = .ok (.invokevirtual 392, 3) := by decide +kernel
theorem dX11_mate_9 : decode cX11_mate 9 = .ok (.aload_n 0, 1) := by decide +kernel
theorem dX11_mate_10 : decode cX11_mate 10 = .ok (.getfield 80, 3) := by decide +kernel
theorem dX11_mate_13 : decode cX11_mate 13 = .ok (.getfield 406, 3) := by decide +kernel
theorem dX11_mate_16 : decode cX11_mate 16 = .ok (.iload_n 1, 1) := by decide +kernel
theorem dX11_mate_17 : decode cX11_mate 17 = .ok (.invokestatic 164, 3) := by decide +kernel
theorem dX11_mate_20 : decode cX11_mate 20 = .ok (.ireturn, 1) := by decide +kernel
set_option maxRecDepth 20000 in
theorem ggX11_gain_X11_requireGroup : GoodIn wsX11_gain wsX11_requireGroup := goodIn_ca (goodIn_s _ [(8, 6), (7, 1), (14, 1), (3, 1), (15, 9), (97, 25)] rfl (by decide +kernel)) (goodIn_sub (fun _ h => List.mem_cons_of_mem _ (List.mem_append_right _ h)) (by decide +kernel))
set_option maxRecDepth 20000 in
theorem gX11_gain_X11_requireGroup : GoodIn wsX11_gain (wsV RX11 369 RX11 yX11_requireGroup wsX11_requireGroup) := goodIn_app (goodIn_of _ (by decide +kernel)) ggX11_gain_X11_requireGroup
set_option maxRecDepth 20000 in
theorem ggX11_gain_X11_requirePart : GoodIn wsX11_gain wsX11_requirePart := goodIn_ca (goodIn_s _ [(27, 1), (9, 2), (28, 3), (7, 1), (31, 1), (2, 1), (32, 1), (97, 18), (122, 12)] rfl (by decide +kernel)) (goodIn_sub (fun _ h => List.mem_cons_of_mem _ (List.mem_append_right _ h)) (by decide +kernel))
set_option maxRecDepth 20000 in
theorem gX11_gain_X11_requirePart : GoodIn wsX11_gain (wsV RX11 330 RX11 yX11_requirePart wsX11_requirePart) := goodIn_app (goodIn_of _ (by decide +kernel)) ggX11_gain_X11_requirePart
set_option maxRecDepth 20000 in
theorem ggX11_gain_X4_take : GoodIn wsX11_gain wsX4_take := goodIn_s _ [(37, 10), (16, 7), (7, 1), (23, 1), (47, 11), (36, 1), (58, 35), (134, 12), (122, 12), (115, 7)] rfl (by decide +kernel)
set_option maxRecDepth 20000 in
theorem gX11_gain_X4_take : GoodIn wsX11_gain (wsV RX11 333 RX4 yX4_take wsX4_take) := goodIn_app (goodIn_of _ (by decide +kernel)) ggX11_gain_X4_take
set_option maxRecDepth 20000 in
theorem ggX11_gain_X4_gainOf : GoodIn wsX11_gain wsX4_gainOf := goodIn_s _ [(96, 1), (83, 1), (66, 1), (22, 1), (7, 1), (23, 1), (134, 12)] rfl (by decide +kernel)
set_option maxRecDepth 20000 in
theorem gX11_gain_X4_gainOf : GoodIn wsX11_gain (wsV RX11 409 RX4 yX4_gainOf wsX4_gainOf) := goodIn_app (goodIn_of _ (by decide +kernel)) ggX11_gain_X4_gainOf
theorem dX11_gain_0 : decode cX11_gain 0 = .ok (.aload_n 0, 1) := by decide +kernel
theorem dX11_gain_1 : decode cX11_gain 1 = .ok (.iload_n 1, 1) := by decide +kernel
theorem dX11_gain_2 : decode cX11_gain 2 = .ok (.invokevirtual 369, 3) := by decide +kernel
theorem dX11_gain_5 : decode cX11_gain 5 = .ok (.aload_n 0, 1) := by decide +kernel
theorem dX11_gain_6 : decode cX11_gain 6 = .ok (.iload_n 2, 1) := by decide +kernel
theorem dX11_gain_7 : decode cX11_gain 7 = .ok (.invokevirtual 330, 3) := by decide +kernel
theorem dX11_gain_10 : decode cX11_gain 10 = .ok (.aload_n 0, 1) := by decide +kernel
theorem dX11_gain_11 : decode cX11_gain 11 = .ok (.getfield 73, 3) := by decide +kernel
theorem dX11_gain_14 : decode cX11_gain 14 = .ok (.aload_n 0, 1) := by decide +kernel
theorem dX11_gain_15 : decode cX11_gain 15 = .ok (.getfield 40, 3) := by decide +kernel
theorem dX11_gain_18 : decode cX11_gain 18 = .ok (.aload_n 0, 1) := by decide +kernel
theorem dX11_gain_19 : decode cX11_gain 19 = .ok (.getfield 53, 3) := by decide +kernel
theorem dX11_gain_22 : decode cX11_gain 22 = .ok (.invokevirtual 333, 3) := by decide +kernel
theorem dX11_gain_25 : decode cX11_gain 25 = .ok (.aload_n 0, 1) := by decide +kernel
theorem dX11_gain_26 : decode cX11_gain 26 = .ok (.getfield 73, 3) := by decide +kernel
theorem dX11_gain_29 : decode cX11_gain 29 = .ok (.iload_n 1, 1) := by decide +kernel
theorem dX11_gain_30 : decode cX11_gain 30 = .ok (.iload_n 2, 1) := by decide +kernel
theorem dX11_gain_31 : decode cX11_gain 31 = .ok (.invokevirtual 409, 3) := by decide +kernel
theorem dX11_gain_34 : decode cX11_gain 34 = .ok (.ireturn, 1) := by decide +kernel
set_option maxRecDepth 20000 in
theorem ggX11_whyNotMove_X11_requireGroup : GoodIn wsX11_whyNotMove wsX11_requireGroup := goodIn_ca (goodIn_s _ [(8, 6), (7, 1), (14, 1), (3, 1), (15, 9), (105, 25)] rfl (by decide +kernel)) (goodIn_sub (fun _ h => List.mem_cons_of_mem _ (List.mem_append_right _ h)) (by decide +kernel))
set_option maxRecDepth 20000 in
theorem gX11_whyNotMove_X11_requireGroup : GoodIn wsX11_whyNotMove (wsV RX11 369 RX11 yX11_requireGroup wsX11_requireGroup) := goodIn_app (goodIn_of _ (by decide +kernel)) ggX11_whyNotMove_X11_requireGroup
set_option maxRecDepth 20000 in
theorem ggX11_whyNotMove_X11_requirePart : GoodIn wsX11_whyNotMove wsX11_requirePart := goodIn_ca (goodIn_s _ [(27, 1), (9, 2), (28, 3), (7, 1), (31, 1), (2, 1), (32, 1), (105, 18), (130, 12)] rfl (by decide +kernel)) (goodIn_sub (fun _ h => List.mem_cons_of_mem _ (List.mem_append_right _ h)) (by decide +kernel))
set_option maxRecDepth 20000 in
theorem gX11_whyNotMove_X11_requirePart : GoodIn wsX11_whyNotMove (wsV RX11 330 RX11 yX11_requirePart wsX11_requirePart) := goodIn_app (goodIn_of _ (by decide +kernel)) ggX11_whyNotMove_X11_requirePart
set_option maxRecDepth 20000 in
theorem ggX11_whyNotMove_X4_take : GoodIn wsX11_whyNotMove wsX4_take := goodIn_s _ [(37, 10), (16, 7), (7, 1), (23, 1), (47, 11), (36, 1), (58, 35), (142, 12), (130, 12), (123, 7)] rfl (by decide +kernel)
set_option maxRecDepth 20000 in
theorem gX11_whyNotMove_X4_take : GoodIn wsX11_whyNotMove (wsV RX11 333 RX4 yX4_take wsX4_take) := goodIn_app (goodIn_of _ (by decide +kernel)) ggX11_whyNotMove_X4_take
set_option maxRecDepth 20000 in
theorem ggX11_whyNotMove_X4_reasonAgainst : GoodIn wsX11_whyNotMove wsX4_reasonAgainst := goodIn_s _ [(96, 1), (66, 1), (22, 1), (7, 1), (23, 1), (97, 3), (36, 1), (100, 1), (44, 1), (60, 1), (45, 1), (89, 4), (41, 1), (101, 4), (43, 1), (142, 12)] rfl (by decide +kernel)
set_option maxRecDepth 20000 in
theorem gX11_whyNotMove_X4_reasonAgainst : GoodIn wsX11_whyNotMove (wsV RX11 412 RX4 yX4_reasonAgainst wsX4_reasonAgainst) := goodIn_app (goodIn_of _ (by decide +kernel)) ggX11_whyNotMove_X4_reasonAgainst
theorem dX11_whyNotMove_0 : decode cX11_whyNotMove 0 = .ok (.aload_n 0, 1) := by decide +kernel
theorem dX11_whyNotMove_1 : decode cX11_whyNotMove 1 = .ok (.iload_n 1, 1) := by decide +kernel
theorem dX11_whyNotMove_2 : decode cX11_whyNotMove 2 = .ok (.invokevirtual 369, 3) := by decide +kernel
theorem dX11_whyNotMove_5 : decode cX11_whyNotMove 5 = .ok (.aload_n 0, 1) := by decide +kernel
theorem dX11_whyNotMove_6 : decode cX11_whyNotMove 6 = .ok (.iload_n 2, 1) := by decide +kernel
theorem dX11_whyNotMove_7 : decode cX11_whyNotMove 7 = .ok (.invokevirtual 330, 3) := by decide +kernel
theorem dX11_whyNotMove_10 : decode cX11_whyNotMove 10 = .ok (.aload_n 0, 1) := by decide +kernel
theorem dX11_whyNotMove_11 : decode cX11_whyNotMove 11 = .ok (.getfield 73, 3) := by decide +kernel
theorem dX11_whyNotMove_14 : decode cX11_whyNotMove 14 = .ok (.aload_n 0, 1) := by decide +kernel
theorem dX11_whyNotMove_15 : decode cX11_whyNotMove 15 = .ok (.getfield 40, 3) := by decide +kernel
theorem dX11_whyNotMove_18 : decode cX11_whyNotMove 18 = .ok (.aload_n 0, 1) := by decide +kernel
theorem dX11_whyNotMove_19 : decode cX11_whyNotMove 19 = .ok (.getfield 53, 3) := by decide +kernel
theorem dX11_whyNotMove_22 : decode cX11_whyNotMove 22 = .ok (.invokevirtual 333, 3) := by decide +kernel
theorem dX11_whyNotMove_25 : decode cX11_whyNotMove 25 = .ok (.aload_n 0, 1) := by decide +kernel
theorem dX11_whyNotMove_26 : decode cX11_whyNotMove 26 = .ok (.getfield 73, 3) := by decide +kernel
theorem dX11_whyNotMove_29 : decode cX11_whyNotMove 29 = .ok (.iload_n 1, 1) := by decide +kernel
theorem dX11_whyNotMove_30 : decode cX11_whyNotMove 30 = .ok (.iload_n 2, 1) := by decide +kernel
theorem dX11_whyNotMove_31 : decode cX11_whyNotMove 31 = .ok (.invokevirtual 412, 3) := by decide +kernel
theorem dX11_whyNotMove_34 : decode cX11_whyNotMove 34 = .ok (.ireturn, 1) := by decide +kernel
set_option maxRecDepth 20000 in
theorem ggX11_debtsIf_X11_requireGroup : GoodIn wsX11_debtsIf wsX11_requireGroup := goodIn_ca (goodIn_s _ [(8, 6), (7, 1), (14, 1), (3, 1), (15, 9), (97, 25)] rfl (by decide +kernel)) (goodIn_sub (fun _ h => List.mem_cons_of_mem _ (List.mem_append_right _ h)) (by decide +kernel))
set_option maxRecDepth 20000 in
theorem gX11_debtsIf_X11_requireGroup : GoodIn wsX11_debtsIf (wsV RX11 369 RX11 yX11_requireGroup wsX11_requireGroup) := goodIn_app (goodIn_of _ (by decide +kernel)) ggX11_debtsIf_X11_requireGroup
set_option maxRecDepth 20000 in
theorem ggX11_debtsIf_X11_requirePart : GoodIn wsX11_debtsIf wsX11_requirePart := goodIn_ca (goodIn_s _ [(27, 1), (9, 2), (28, 3), (7, 1), (31, 1), (2, 1), (32, 1), (97, 18), (122, 12)] rfl (by decide +kernel)) (goodIn_sub (fun _ h => List.mem_cons_of_mem _ (List.mem_append_right _ h)) (by decide +kernel))
set_option maxRecDepth 20000 in
theorem gX11_debtsIf_X11_requirePart : GoodIn wsX11_debtsIf (wsV RX11 330 RX11 yX11_requirePart wsX11_requirePart) := goodIn_app (goodIn_of _ (by decide +kernel)) ggX11_debtsIf_X11_requirePart
set_option maxRecDepth 20000 in
theorem ggX11_debtsIf_X4_take : GoodIn wsX11_debtsIf wsX4_take := goodIn_s _ [(37, 10), (16, 7), (7, 1), (23, 1), (47, 11), (36, 1), (58, 35), (134, 12), (122, 12), (115, 7)] rfl (by decide +kernel)
set_option maxRecDepth 20000 in
theorem gX11_debtsIf_X4_take : GoodIn wsX11_debtsIf (wsV RX11 333 RX4 yX4_take wsX4_take) := goodIn_app (goodIn_of _ (by decide +kernel)) ggX11_debtsIf_X4_take
set_option maxRecDepth 20000 in
theorem ggX11_debtsIf_X4_debtsWith : GoodIn wsX11_debtsIf wsX4_debtsWith := goodIn_s _ [(96, 1), (66, 1), (44, 1), (60, 1), (45, 1), (22, 1), (7, 1), (23, 1), (89, 3), (36, 1), (92, 1), (41, 1), (134, 12)] rfl (by decide +kernel)
set_option maxRecDepth 20000 in
theorem gX11_debtsIf_X4_debtsWith : GoodIn wsX11_debtsIf (wsV RX11 415 RX4 yX4_debtsWith wsX4_debtsWith) := goodIn_app (goodIn_of _ (by decide +kernel)) ggX11_debtsIf_X4_debtsWith
theorem dX11_debtsIf_0 : decode cX11_debtsIf 0 = .ok (.aload_n 0, 1) := by decide +kernel
theorem dX11_debtsIf_1 : decode cX11_debtsIf 1 = .ok (.iload_n 1, 1) := by decide +kernel
theorem dX11_debtsIf_2 : decode cX11_debtsIf 2 = .ok (.invokevirtual 369, 3) := by decide +kernel
theorem dX11_debtsIf_5 : decode cX11_debtsIf 5 = .ok (.aload_n 0, 1) := by decide +kernel
theorem dX11_debtsIf_6 : decode cX11_debtsIf 6 = .ok (.iload_n 2, 1) := by decide +kernel
theorem dX11_debtsIf_7 : decode cX11_debtsIf 7 = .ok (.invokevirtual 330, 3) := by decide +kernel
theorem dX11_debtsIf_10 : decode cX11_debtsIf 10 = .ok (.aload_n 0, 1) := by decide +kernel
theorem dX11_debtsIf_11 : decode cX11_debtsIf 11 = .ok (.getfield 73, 3) := by decide +kernel
theorem dX11_debtsIf_14 : decode cX11_debtsIf 14 = .ok (.aload_n 0, 1) := by decide +kernel
theorem dX11_debtsIf_15 : decode cX11_debtsIf 15 = .ok (.getfield 40, 3) := by decide +kernel
theorem dX11_debtsIf_18 : decode cX11_debtsIf 18 = .ok (.aload_n 0, 1) := by decide +kernel
theorem dX11_debtsIf_19 : decode cX11_debtsIf 19 = .ok (.getfield 53, 3) := by decide +kernel
theorem dX11_debtsIf_22 : decode cX11_debtsIf 22 = .ok (.invokevirtual 333, 3) := by decide +kernel
theorem dX11_debtsIf_25 : decode cX11_debtsIf 25 = .ok (.aload_n 0, 1) := by decide +kernel
theorem dX11_debtsIf_26 : decode cX11_debtsIf 26 = .ok (.getfield 73, 3) := by decide +kernel
theorem dX11_debtsIf_29 : decode cX11_debtsIf 29 = .ok (.iload_n 1, 1) := by decide +kernel
theorem dX11_debtsIf_30 : decode cX11_debtsIf 30 = .ok (.iload_n 2, 1) := by decide +kernel
theorem dX11_debtsIf_31 : decode cX11_debtsIf 31 = .ok (.invokevirtual 415, 3) := by decide +kernel
theorem dX11_debtsIf_34 : decode cX11_debtsIf 34 = .ok (.ireturn, 1) := by decide +kernel
set_option maxRecDepth 20000 in
theorem ggX11_nextStep_X4_take : GoodIn wsX11_nextStep wsX4_take := goodIn_s _ [(8, 30), (7, 1), (38, 35), (111, 31)] rfl (by decide +kernel)
set_option maxRecDepth 20000 in
theorem gX11_nextStep_X4_take : GoodIn wsX11_nextStep (wsV RX11 333 RX4 yX4_take wsX4_take) := goodIn_app (goodIn_of _ (by decide +kernel)) ggX11_nextStep_X4_take
set_option maxRecDepth 20000 in
theorem ggX11_nextStep_X4_chosenStep : GoodIn wsX11_nextStep wsX4_chosenStep := goodIn_s _ [(76, 1), (15, 1), (77, 3), (7, 1), (80, 1), (9, 1), (11, 1), (81, 4), (63, 1), (46, 1), (24, 3), (85, 4), (40, 1), (16, 1), (69, 4), (12, 1), (89, 4), (14, 1), (111, 12)] rfl (by decide +kernel)
set_option maxRecDepth 20000 in
theorem gX11_nextStep_X4_chosenStep : GoodIn wsX11_nextStep (wsV RX11 418 RX4 yX4_chosenStep wsX4_chosenStep) := goodIn_app (goodIn_of _ (by decide +kernel)) ggX11_nextStep_X4_chosenStep
theorem dX11_nextStep_0 : decode cX11_nextStep 0 = .ok (.aload_n 0, 1) := by decide +kernel
theorem dX11_nextStep_1 : decode cX11_nextStep 1 = .ok (.getfield 73, 3) := by decide +kernel
theorem dX11_nextStep_4 : decode cX11_nextStep 4 = .ok (.aload_n 0, 1) := by decide +kernel
theorem dX11_nextStep_5 : decode cX11_nextStep 5 = .ok (.getfield 40, 3) := by decide +kernel
theorem dX11_nextStep_8 : decode cX11_nextStep 8 = .ok (.aload_n 0, 1) := by decide +kernel
theorem dX11_nextStep_9 : decode cX11_nextStep 9 = .ok (.getfield 53, 3) := by decide +kernel
theorem dX11_nextStep_12 : decode cX11_nextStep 12 = .ok (.invokevirtual 333, 3) := by decide +kernel
theorem dX11_nextStep_15 : decode cX11_nextStep 15 = .ok (.aload_n 0, 1) := by decide +kernel
theorem dX11_nextStep_16 : decode cX11_nextStep 16 = .ok (.getfield 73, 3) := by decide +kernel
theorem dX11_nextStep_19 : decode cX11_nextStep 19 = .ok (.invokevirtual 418, 3) := by decide +kernel
theorem dX11_nextStep_22 : decode cX11_nextStep 22 = .ok (.ireturn, 1) := by decide +kernel
set_option maxRecDepth 20000 in
theorem ggX11_bestDebts_X11_hasFewGroups : GoodIn wsX11_bestDebts wsX11_hasFewGroups := goodIn_s _ [(7, 10), (6, 1), (17, 1), (145, 18), (168, 7)] rfl (by decide +kernel)
set_option maxRecDepth 20000 in
theorem gX11_bestDebts_X11_hasFewGroups : GoodIn wsX11_bestDebts (wsV RX11 212 RX11 yX11_hasFewGroups wsX11_hasFewGroups) := goodIn_app (goodIn_of _ (by decide +kernel)) ggX11_bestDebts_X11_hasFewGroups
set_option maxRecDepth 20000 in
theorem ggX11_bestDebts_X11_searchBest : GoodIn wsX11_bestDebts wsX11_searchBest := goodIn_s _ [(21, 3), (8, 1), (24, 1), (1, 1), (25, 14), (10, 7), (6, 1), (17, 1), (39, 124), (175, 24), (168, 7), (199, 5), (163, 5)] rfl (by decide +kernel)
set_option maxRecDepth 20000 in
theorem gX11_bestDebts_X11_searchBest : GoodIn wsX11_bestDebts (wsV RX11 236 RX11 yX11_searchBest wsX11_searchBest) := goodIn_app (goodIn_of _ (by decide +kernel)) ggX11_bestDebts_X11_searchBest
theorem dX11_bestDebts_0 : decode cX11_bestDebts 0 = .ok (.aload_n 0, 1) := by decide +kernel
theorem dX11_bestDebts_1 : decode cX11_bestDebts 1 = .ok (.invokevirtual 212, 3) := by decide +kernel
theorem dX11_bestDebts_4 : decode cX11_bestDebts 4 = .ok (.ifCond .ne 5, 3) := by decide +kernel
theorem dX11_bestDebts_7 : decode cX11_bestDebts 7 = .ok (.iconst (-1), 1) := by decide +kernel
theorem dX11_bestDebts_8 : decode cX11_bestDebts 8 = .ok (.ireturn, 1) := by decide +kernel
theorem dX11_bestDebts_9 : decode cX11_bestDebts 9 = .ok (.aload_n 0, 1) := by decide +kernel
theorem dX11_bestDebts_10 : decode cX11_bestDebts 10 = .ok (.invokevirtual 236, 3) := by decide +kernel
theorem dX11_bestDebts_13 : decode cX11_bestDebts 13 = .ok (.aload_n 0, 1) := by decide +kernel
theorem dX11_bestDebts_14 : decode cX11_bestDebts 14 = .ok (.getfield 87, 3) := by decide +kernel
theorem dX11_bestDebts_17 : decode cX11_bestDebts 17 = .ok (.getfield 421, 3) := by decide +kernel
theorem dX11_bestDebts_20 : decode cX11_bestDebts 20 = .ok (.ireturn, 1) := by decide +kernel
set_option maxRecDepth 20000 in
theorem ggX11_bestCut_X11_hasFewGroups : GoodIn wsX11_bestCut wsX11_hasFewGroups := goodIn_s _ [(7, 10), (6, 1), (17, 1), (145, 18), (168, 7)] rfl (by decide +kernel)
set_option maxRecDepth 20000 in
theorem gX11_bestCut_X11_hasFewGroups : GoodIn wsX11_bestCut (wsV RX11 212 RX11 yX11_hasFewGroups wsX11_hasFewGroups) := goodIn_app (goodIn_of _ (by decide +kernel)) ggX11_bestCut_X11_hasFewGroups
set_option maxRecDepth 20000 in
theorem ggX11_bestCut_X11_searchBest : GoodIn wsX11_bestCut wsX11_searchBest := goodIn_s _ [(21, 3), (8, 1), (24, 1), (1, 1), (25, 14), (10, 7), (6, 1), (17, 1), (39, 124), (175, 24), (168, 7), (199, 5), (163, 5)] rfl (by decide +kernel)
set_option maxRecDepth 20000 in
theorem gX11_bestCut_X11_searchBest : GoodIn wsX11_bestCut (wsV RX11 236 RX11 yX11_searchBest wsX11_searchBest) := goodIn_app (goodIn_of _ (by decide +kernel)) ggX11_bestCut_X11_searchBest
theorem dX11_bestCut_0 : decode cX11_bestCut 0 = .ok (.aload_n 0, 1) := by decide +kernel
theorem dX11_bestCut_1 : decode cX11_bestCut 1 = .ok (.invokevirtual 212, 3) := by decide +kernel
theorem dX11_bestCut_4 : decode cX11_bestCut 4 = .ok (.ifCond .ne 5, 3) := by decide +kernel
theorem dX11_bestCut_7 : decode cX11_bestCut 7 = .ok (.iconst (-1), 1) := by decide +kernel
theorem dX11_bestCut_8 : decode cX11_bestCut 8 = .ok (.ireturn, 1) := by decide +kernel
theorem dX11_bestCut_9 : decode cX11_bestCut 9 = .ok (.aload_n 0, 1) := by decide +kernel
theorem dX11_bestCut_10 : decode cX11_bestCut 10 = .ok (.invokevirtual 236, 3) := by decide +kernel
theorem dX11_bestCut_13 : decode cX11_bestCut 13 = .ok (.aload_n 0, 1) := by decide +kernel
theorem dX11_bestCut_14 : decode cX11_bestCut 14 = .ok (.getfield 87, 3) := by decide +kernel
theorem dX11_bestCut_17 : decode cX11_bestCut 17 = .ok (.getfield 424, 3) := by decide +kernel
theorem dX11_bestCut_20 : decode cX11_bestCut 20 = .ok (.ireturn, 1) := by decide +kernel
set_option maxRecDepth 20000 in
theorem ggX11_hasFewGroups_X8_groupCount : GoodIn wsX11_hasFewGroups wsX8_groupCount := goodIn_s _ [(6, 6), (30, 7)] rfl (by decide +kernel)
set_option maxRecDepth 20000 in
theorem gX11_hasFewGroups_X8_groupCount : GoodIn wsX11_hasFewGroups (wsV RX11 277 RX8 yX8_groupCount wsX8_groupCount) := goodIn_app (goodIn_of _ (by decide +kernel)) ggX11_hasFewGroups_X8_groupCount
theorem dX11_hasFewGroups_0 : decode cX11_hasFewGroups 0 = .ok (.aload_n 0, 1) := by decide +kernel
theorem dX11_hasFewGroups_1 : decode cX11_hasFewGroups 1 = .ok (.getfield 53, 3) := by decide +kernel
theorem dX11_hasFewGroups_4 : decode cX11_hasFewGroups 4 = .ok (.invokevirtual 277, 3) := by decide +kernel
theorem dX11_hasFewGroups_7 : decode cX11_hasFewGroups 7 = .ok (.bipush 7, 2) := by decide +kernel
theorem dX11_hasFewGroups_9 : decode cX11_hasFewGroups 9 = .ok (.if_icmp .gt 7, 3) := by decide +kernel
theorem dX11_hasFewGroups_12 : decode cX11_hasFewGroups 12 = .ok (.iconst 1, 1) := by decide +kernel
theorem dX11_hasFewGroups_13 : decode cX11_hasFewGroups 13 = .ok (.goto 4, 3) := by decide +kernel
theorem dX11_hasFewGroups_16 : decode cX11_hasFewGroups 16 = .ok (.iconst 0, 1) := by decide +kernel
theorem dX11_hasFewGroups_17 : decode cX11_hasFewGroups 17 = .ok (.ireturn, 1) := by decide +kernel
set_option maxRecDepth 20000 in
theorem ggX11_searchBest_X4_take : GoodIn wsX11_searchBest wsX4_take := goodIn_s _ [(10, 30), (9, 1), (40, 35), (153, 31)] rfl (by decide +kernel)
set_option maxRecDepth 20000 in
theorem gX11_searchBest_X4_take : GoodIn wsX11_searchBest (wsV RX11 333 RX4 yX4_take wsX4_take) := goodIn_app (goodIn_of _ (by decide +kernel)) ggX11_searchBest_X4_take
set_option maxRecDepth 20000 in
theorem ggX11_searchBest_X5_join : GoodIn wsX11_searchBest wsX5_join := goodIn_s _ [(79, 8), (50, 3), (87, 1), (54, 2), (22, 1), (56, 1), (25, 4), (57, 2), (184, 5), (165, 19)] rfl (by decide +kernel)
set_option maxRecDepth 20000 in
theorem gX11_searchBest_X5_join : GoodIn wsX11_searchBest (wsV RX11 399 RX5 yX5_join wsX5_join) := goodIn_app (goodIn_of _ (by decide +kernel)) ggX11_searchBest_X5_join
set_option maxRecDepth 20000 in
theorem ggX11_searchBest_X0_search : GoodIn wsX11_searchBest wsX0_search := goodIn_s _ [(92, 8), (50, 3), (100, 3), (91, 1), (103, 4), (26, 3), (57, 2), (107, 1), (72, 2), (9, 1), (74, 1), (14, 1), (108, 27), (59, 2), (189, 5), (153, 12), (184, 5)] rfl (by decide +kernel)
set_option maxRecDepth 20000 in
theorem gX11_searchBest_X0_search : GoodIn wsX11_searchBest (wsV RX11 427 RX0 yX0_search wsX0_search) := goodIn_app (goodIn_of _ (by decide +kernel)) ggX11_searchBest_X0_search
theorem dX11_searchBest_0 : decode cX11_searchBest 0 = .ok (.aload_n 0, 1) := by decide +kernel
theorem dX11_searchBest_1 : decode cX11_searchBest 1 = .ok (.getfield 73, 3) := by decide +kernel
theorem dX11_searchBest_4 : decode cX11_searchBest 4 = .ok (.aload_n 0, 1) := by decide +kernel
theorem dX11_searchBest_5 : decode cX11_searchBest 5 = .ok (.getfield 40, 3) := by decide +kernel
theorem dX11_searchBest_8 : decode cX11_searchBest 8 = .ok (.aload_n 0, 1) := by decide +kernel
theorem dX11_searchBest_9 : decode cX11_searchBest 9 = .ok (.getfield 53, 3) := by decide +kernel
theorem dX11_searchBest_12 : decode cX11_searchBest 12 = .ok (.invokevirtual 333, 3) := by decide +kernel
theorem dX11_searchBest_15 : decode cX11_searchBest 15 = .ok (.aload_n 0, 1) := by decide +kernel
theorem dX11_searchBest_16 : decode cX11_searchBest 16 = .ok (.getfield 80, 3) := by decide +kernel
theorem dX11_searchBest_19 : decode cX11_searchBest 19 = .ok (.aload_n 0, 1) := by decide +kernel
theorem dX11_searchBest_20 : decode cX11_searchBest 20 = .ok (.getfield 40, 3) := by decide +kernel
theorem dX11_searchBest_23 : decode cX11_searchBest 23 = .ok (.aload_n 0, 1) := by decide +kernel
theorem dX11_searchBest_24 : decode cX11_searchBest 24 = .ok (.getfield 53, 3) := by decide +kernel
theorem dX11_searchBest_27 : decode cX11_searchBest 27 = .ok (.invokevirtual 399, 3) := by decide +kernel
theorem dX11_searchBest_30 : decode cX11_searchBest 30 = .ok (.aload_n 0, 1) := by decide +kernel
theorem dX11_searchBest_31 : decode cX11_searchBest 31 = .ok (.getfield 87, 3) := by decide +kernel
theorem dX11_searchBest_34 : decode cX11_searchBest 34 = .ok (.aload_n 0, 1) := by decide +kernel
theorem dX11_searchBest_35 : decode cX11_searchBest 35 = .ok (.getfield 73, 3) := by decide +kernel
theorem dX11_searchBest_38 : decode cX11_searchBest 38 = .ok (.aload_n 0, 1) := by decide +kernel
theorem dX11_searchBest_39 : decode cX11_searchBest 39 = .ok (.getfield 80, 3) := by decide +kernel
theorem dX11_searchBest_42 : decode cX11_searchBest 42 = .ok (.invokevirtual 427, 3) := by decide +kernel
theorem dX11_searchBest_45 : decode cX11_searchBest 45 = .ok (.return_, 1) := by decide +kernel
set_option maxRecDepth 20000 in
theorem ggX11_stepsToEnd_X11_requireTriedSteps : GoodIn wsX11_stepsToEnd wsX11_requireTriedSteps := goodIn_ca (goodIn_s _ [(8, 3)] rfl (by decide +kernel)) (goodIn_sub (fun _ h => List.mem_cons_of_mem _ (List.mem_append_right _ h)) (by decide +kernel))
set_option maxRecDepth 20000 in
theorem gX11_stepsToEnd_X11_requireTriedSteps : GoodIn wsX11_stepsToEnd (wsV RX11 431 RX11 yX11_requireTriedSteps wsX11_requireTriedSteps) := goodIn_app (goodIn_of _ (by decide +kernel)) ggX11_stepsToEnd_X11_requireTriedSteps
set_option maxRecDepth 20000 in
theorem ggX11_stepsToEnd_X11_trySteps : GoodIn wsX11_stepsToEnd wsX11_trySteps := goodIn_s _ [(14, 1), (3, 1), (15, 14), (7, 1), (29, 13), (1, 2), (42, 155)] rfl (by decide +kernel)
set_option maxRecDepth 20000 in
theorem gX11_stepsToEnd_X11_trySteps : GoodIn wsX11_stepsToEnd (wsV RX11 434 RX11 yX11_trySteps wsX11_trySteps) := goodIn_app (goodIn_of _ (by decide +kernel)) ggX11_stepsToEnd_X11_trySteps
set_option maxRecDepth 20000 in
theorem ggX11_stepsToEnd_X4_take : GoodIn wsX11_stepsToEnd wsX4_take := goodIn_s _ [(46, 12), (19, 1), (58, 1), (25, 1), (21, 1), (59, 1), (7, 1), (60, 12), (45, 1), (72, 35), (173, 24), (166, 7)] rfl (by decide +kernel)
set_option maxRecDepth 20000 in
theorem gX11_stepsToEnd_X4_take : GoodIn wsX11_stepsToEnd (wsV RX11 333 RX4 yX4_take wsX4_take) := goodIn_app (goodIn_of _ (by decide +kernel)) ggX11_stepsToEnd_X4_take
set_option maxRecDepth 20000 in
theorem ggX11_stepsToEnd_X4_chosenStep : GoodIn wsX11_stepsToEnd wsX4_chosenStep := goodIn_s _ [(110, 1), (53, 1), (111, 3), (45, 1), (114, 1), (47, 1), (49, 1), (115, 4), (97, 1), (80, 1), (59, 1), (7, 1), (60, 1), (119, 4), (74, 1), (54, 1), (103, 4), (50, 1), (123, 4), (52, 1), (173, 12)] rfl (by decide +kernel)
set_option maxRecDepth 20000 in
theorem gX11_stepsToEnd_X4_chosenStep : GoodIn wsX11_stepsToEnd (wsV RX11 418 RX4 yX4_chosenStep wsX4_chosenStep) := goodIn_app (goodIn_of _ (by decide +kernel)) ggX11_stepsToEnd_X4_chosenStep
theorem dX11_stepsToEnd_0 : decode cX11_stepsToEnd 0 = .ok (.aload_n 0, 1) := by decide +kernel
theorem dX11_stepsToEnd_1 : decode cX11_stepsToEnd 1 = .ok (.iload_n 1, 1) := by decide +kernel
theorem dX11_stepsToEnd_2 : decode cX11_stepsToEnd 2 = .ok (.invokevirtual 431, 3) := by decide +kernel
theorem dX11_stepsToEnd_5 : decode cX11_stepsToEnd 5 = .ok (.aload_n 0, 1) := by decide +kernel
theorem dX11_stepsToEnd_6 : decode cX11_stepsToEnd 6 = .ok (.iload_n 1, 1) := by decide +kernel
theorem dX11_stepsToEnd_7 : decode cX11_stepsToEnd 7 = .ok (.invokevirtual 434, 3) := by decide +kernel
theorem dX11_stepsToEnd_10 : decode cX11_stepsToEnd 10 = .ok (.istore_n 2, 1) := by decide +kernel
theorem dX11_stepsToEnd_11 : decode cX11_stepsToEnd 11 = .ok (.aload_n 0, 1) := by decide +kernel
theorem dX11_stepsToEnd_12 : decode cX11_stepsToEnd 12 = .ok (.getfield 73, 3) := by decide +kernel
theorem dX11_stepsToEnd_15 : decode cX11_stepsToEnd 15 = .ok (.aload_n 0, 1) := by decide +kernel
theorem dX11_stepsToEnd_16 : decode cX11_stepsToEnd 16 = .ok (.getfield 40, 3) := by decide +kernel
theorem dX11_stepsToEnd_19 : decode cX11_stepsToEnd 19 = .ok (.aload_n 0, 1) := by decide +kernel
theorem dX11_stepsToEnd_20 : decode cX11_stepsToEnd 20 = .ok (.getfield 57, 3) := by decide +kernel
theorem dX11_stepsToEnd_23 : decode cX11_stepsToEnd 23 = .ok (.invokevirtual 333, 3) := by decide +kernel
theorem dX11_stepsToEnd_26 : decode cX11_stepsToEnd 26 = .ok (.aload_n 0, 1) := by decide +kernel
theorem dX11_stepsToEnd_27 : decode cX11_stepsToEnd 27 = .ok (.getfield 73, 3) := by decide +kernel
theorem dX11_stepsToEnd_30 : decode cX11_stepsToEnd 30 = .ok (.invokevirtual 418, 3) := by decide +kernel
theorem dX11_stepsToEnd_33 : decode cX11_stepsToEnd 33 = .ok (.iconst (-1), 1) := by decide +kernel
theorem dX11_stepsToEnd_34 : decode cX11_stepsToEnd 34 = .ok (.if_icmp .ne 7, 3) := by decide +kernel
theorem dX11_stepsToEnd_37 : decode cX11_stepsToEnd 37 = .ok (.iload_n 2, 1) := by decide +kernel
theorem dX11_stepsToEnd_38 : decode cX11_stepsToEnd 38 = .ok (.goto 4, 3) := by decide +kernel
theorem dX11_stepsToEnd_41 : decode cX11_stepsToEnd 41 = .ok (.iconst (-1), 1) := by decide +kernel
theorem dX11_stepsToEnd_42 : decode cX11_stepsToEnd 42 = .ok (.ireturn, 1) := by decide +kernel
set_option maxRecDepth 20000 in
theorem ggX11_cutBehind_X11_requireTriedSteps : GoodIn wsX11_cutBehind wsX11_requireTriedSteps := goodIn_ca (goodIn_s _ [(9, 3)] rfl (by decide +kernel)) (goodIn_sub (fun _ h => List.mem_cons_of_mem _ (List.mem_append_right _ h)) (by decide +kernel))
set_option maxRecDepth 20000 in
theorem gX11_cutBehind_X11_requireTriedSteps : GoodIn wsX11_cutBehind (wsV RX11 431 RX11 yX11_requireTriedSteps wsX11_requireTriedSteps) := goodIn_app (goodIn_of _ (by decide +kernel)) ggX11_cutBehind_X11_requireTriedSteps
set_option maxRecDepth 20000 in
theorem ggX11_cutBehind_X11_trySteps : GoodIn wsX11_cutBehind wsX11_trySteps := goodIn_s _ [(15, 1), (3, 1), (16, 14), (8, 1), (30, 13), (1, 2), (43, 90), (4, 1), (133, 33), (178, 7), (166, 12), (185, 12)] rfl (by decide +kernel)
set_option maxRecDepth 20000 in
theorem gX11_cutBehind_X11_trySteps : GoodIn wsX11_cutBehind (wsV RX11 434 RX11 yX11_trySteps wsX11_trySteps) := goodIn_app (goodIn_of _ (by decide +kernel)) ggX11_cutBehind_X11_trySteps
set_option maxRecDepth 20000 in
theorem ggX11_cutBehind_X4_take : GoodIn wsX11_cutBehind wsX4_take := goodIn_s _ [(47, 12), (20, 1), (59, 1), (26, 1), (22, 1), (60, 1), (8, 1), (61, 12), (46, 1), (73, 35), (166, 12), (185, 12), (178, 7)] rfl (by decide +kernel)
set_option maxRecDepth 20000 in
theorem gX11_cutBehind_X4_take : GoodIn wsX11_cutBehind (wsV RX11 333 RX4 yX4_take wsX4_take) := goodIn_app (goodIn_of _ (by decide +kernel)) ggX11_cutBehind_X4_take
theorem dX11_cutBehind_0 : decode cX11_cutBehind 0 = .ok (.aload_n 0, 1) := by decide +kernel
theorem dX11_cutBehind_1 : decode cX11_cutBehind 1 = .ok (.iload_n 1, 1) := by decide +kernel
theorem dX11_cutBehind_2 : decode cX11_cutBehind 2 = .ok (.invokevirtual 431, 3) := by decide +kernel
theorem dX11_cutBehind_5 : decode cX11_cutBehind 5 = .ok (.aload_n 0, 1) := by decide +kernel
theorem dX11_cutBehind_6 : decode cX11_cutBehind 6 = .ok (.iload_n 1, 1) := by decide +kernel
theorem dX11_cutBehind_7 : decode cX11_cutBehind 7 = .ok (.invokevirtual 434, 3) := by decide +kernel
theorem dX11_cutBehind_10 : decode cX11_cutBehind 10 = .ok (.pop, 1) := by decide +kernel
theorem dX11_cutBehind_11 : decode cX11_cutBehind 11 = .ok (.aload_n 0, 1) := by decide +kernel
theorem dX11_cutBehind_12 : decode cX11_cutBehind 12 = .ok (.getfield 73, 3) := by decide +kernel
theorem dX11_cutBehind_15 : decode cX11_cutBehind 15 = .ok (.aload_n 0, 1) := by decide +kernel
theorem dX11_cutBehind_16 : decode cX11_cutBehind 16 = .ok (.getfield 40, 3) := by decide +kernel
theorem dX11_cutBehind_19 : decode cX11_cutBehind 19 = .ok (.aload_n 0, 1) := by decide +kernel
theorem dX11_cutBehind_20 : decode cX11_cutBehind 20 = .ok (.getfield 57, 3) := by decide +kernel
theorem dX11_cutBehind_23 : decode cX11_cutBehind 23 = .ok (.invokevirtual 333, 3) := by decide +kernel
theorem dX11_cutBehind_26 : decode cX11_cutBehind 26 = .ok (.aload_n 0, 1) := by decide +kernel
theorem dX11_cutBehind_27 : decode cX11_cutBehind 27 = .ok (.getfield 73, 3) := by decide +kernel
theorem dX11_cutBehind_30 : decode cX11_cutBehind 30 = .ok (.getfield 357, 3) := by decide +kernel
theorem dX11_cutBehind_33 : decode cX11_cutBehind 33 = .ok (.ireturn, 1) := by decide +kernel
theorem dX11_requireTriedSteps_0 : decode cX11_requireTriedSteps 0 = .ok (.iload_n 1, 1) := by decide +kernel
theorem dX11_requireTriedSteps_1 : decode cX11_requireTriedSteps 1 = .ok (.ifCond .lt 10, 3) := by decide +kernel
theorem dX11_requireTriedSteps_4 : decode cX11_requireTriedSteps 4 = .ok (.iload_n 1, 1) := by decide +kernel
theorem dX11_requireTriedSteps_5 : decode cX11_requireTriedSteps 5 = .ok (.sipush 200, 3) := by decide +kernel
theorem dX11_requireTriedSteps_8 : decode cX11_requireTriedSteps 8 = .ok (.if_icmp .le 14, 3) := by decide +kernel
theorem dX11_requireTriedSteps_11 : decode cX11_requireTriedSteps 11 = .ok (.new 117, 3) := by decide +kernel
theorem dX11_requireTriedSteps_14 : decode cX11_requireTriedSteps 14 = .ok (.dup, 1) := by decide +kernel
theorem dX11_requireTriedSteps_15 : decode cX11_requireTriedSteps 15 = .ok (.ldc_w 437, 3) := by decide +kernel
theorem dX11_requireTriedSteps_18 : decode cX11_requireTriedSteps 18 = .ok (.invokespecial 121, 3) := by decide +kernel
theorem dX11_requireTriedSteps_21 : decode cX11_requireTriedSteps 21 = .ok (.athrow, 1) := by decide +kernel
theorem dX11_requireTriedSteps_22 : decode cX11_requireTriedSteps 22 = .ok (.return_, 1) := by decide +kernel
set_option maxRecDepth 20000 in
theorem ggX11_trySteps_X8_copyFrom : GoodIn wsX11_trySteps wsX8_copyFrom := goodIn_s _ [(7, 19), (156, 7)] rfl (by decide +kernel)
set_option maxRecDepth 20000 in
theorem gX11_trySteps_X8_copyFrom : GoodIn wsX11_trySteps (wsV RX11 439 RX8 yX8_copyFrom wsX8_copyFrom) := goodIn_app (goodIn_of _ (by decide +kernel)) ggX11_trySteps_X8_copyFrom
set_option maxRecDepth 20000 in
theorem ggX11_trySteps_X11_makeSteps : GoodIn wsX11_trySteps wsX11_makeSteps := goodIn_s _ [(29, 19), (6, 1), (48, 1), (12, 1), (8, 1), (49, 1), (16, 1), (50, 80), (14, 1), (130, 1), (23, 3), (10, 1), (131, 1), (19, 3), (132, 4), (11, 1), (136, 20), (163, 24), (156, 7)] rfl (by decide +kernel)
set_option maxRecDepth 20000 in
theorem gX11_trySteps_X11_makeSteps : GoodIn wsX11_trySteps (wsV RX11 232 RX11 yX11_makeSteps wsX11_makeSteps) := goodIn_app (goodIn_of _ (by decide +kernel)) ggX11_trySteps_X11_makeSteps
theorem dX11_trySteps_0 : decode cX11_trySteps 0 = .ok (.aload_n 0, 1) := by decide +kernel
theorem dX11_trySteps_1 : decode cX11_trySteps 1 = .ok (.getfield 57, 3) := by decide +kernel
theorem dX11_trySteps_4 : decode cX11_trySteps 4 = .ok (.aload_n 0, 1) := by decide +kernel
theorem dX11_trySteps_5 : decode cX11_trySteps 5 = .ok (.getfield 53, 3) := by decide +kernel
theorem dX11_trySteps_8 : decode cX11_trySteps 8 = .ok (.invokevirtual 439, 3) := by decide +kernel
theorem dX11_trySteps_11 : decode cX11_trySteps 11 = .ok (.aload_n 0, 1) := by decide +kernel
theorem dX11_trySteps_12 : decode cX11_trySteps 12 = .ok (.aload_n 0, 1) := by decide +kernel
theorem dX11_trySteps_13 : decode cX11_trySteps 13 = .ok (.getfield 57, 3) := by decide +kernel
theorem dX11_trySteps_16 : decode cX11_trySteps 16 = .ok (.iload_n 1, 1) := by decide +kernel
theorem dX11_trySteps_17 : decode cX11_trySteps 17 = .ok (.invokevirtual 232, 3) := by decide +kernel
theorem dX11_trySteps_20 : decode cX11_trySteps 20 = .ok (.ireturn, 1) := by decide +kernel
theorem dX11_events_0 : decode cX11_events 0 = .ok (.aload_n 0, 1) := by decide +kernel
theorem dX11_events_1 : decode cX11_events 1 = .ok (.getfield 53, 3) := by decide +kernel
theorem dX11_events_4 : decode cX11_events 4 = .ok (.getfield 441, 3) := by decide +kernel
theorem dX11_events_7 : decode cX11_events 7 = .ok (.ireturn, 1) := by decide +kernel
set_option maxRecDepth 20000 in
theorem ggX11_event_X11_at : GoodIn wsX11_event wsX11_at := goodIn_s _ [(11, 1)] rfl (by decide +kernel)
set_option maxRecDepth 20000 in
theorem gX11_event_X11_at : GoodIn wsX11_event (va_wsS RX11 164 yX11_at wsX11_at) := goodIn_app (goodIn_of _ (by decide +kernel)) ggX11_event_X11_at
theorem dX11_event_0 : decode cX11_event 0 = .ok (.iload_n 1, 1) := by decide +kernel
theorem dX11_event_1 : decode cX11_event 1 = .ok (.ifCond .lt 14, 3) := by decide +kernel
theorem dX11_event_4 : decode cX11_event 4 = .ok (.iload_n 1, 1) := by decide +kernel
theorem dX11_event_5 : decode cX11_event 5 = .ok (.aload_n 0, 1) := by decide +kernel
theorem dX11_event_6 : decode cX11_event 6 = .ok (.getfield 53, 3) := by decide +kernel
theorem dX11_event_9 : decode cX11_event 9 = .ok (.getfield 441, 3) := by decide +kernel
theorem dX11_event_12 : decode cX11_event 12 = .ok (.if_icmp .lt 14, 3) := by decide +kernel
theorem dX11_event_15 : decode cX11_event 15 = .ok (.new 288, 3) := by decide +kernel
theorem dX11_event_18 : decode cX11_event 18 = .ok (.dup, 1) := by decide +kernel
theorem dX11_event_19 : decode cX11_event 19 = .ok (.ldc_w 444, 3) := by decide +kernel
theorem dX11_event_22 : decode cX11_event 22 = .ok (.invokespecial 292, 3) := by decide +kernel
theorem dX11_event_25 : decode cX11_event 25 = .ok (.athrow, 1) := by decide +kernel
theorem dX11_event_26 : decode cX11_event 26 = .ok (.iload_n 2, 1) := by decide +kernel
theorem dX11_event_27 : decode cX11_event 27 = .ok (.ifCond .lt 8, 3) := by decide +kernel
theorem dX11_event_30 : decode cX11_event 30 = .ok (.iload_n 2, 1) := by decide +kernel
theorem dX11_event_31 : decode cX11_event 31 = .ok (.iconst 4, 1) := by decide +kernel
theorem dX11_event_32 : decode cX11_event 32 = .ok (.if_icmp .lt 14, 3) := by decide +kernel
theorem dX11_event_35 : decode cX11_event 35 = .ok (.new 117, 3) := by decide +kernel
theorem dX11_event_38 : decode cX11_event 38 = .ok (.dup, 1) := by decide +kernel
theorem dX11_event_39 : decode cX11_event 39 = .ok (.ldc_w 446, 3) := by decide +kernel
theorem dX11_event_42 : decode cX11_event 42 = .ok (.invokespecial 121, 3) := by decide +kernel
theorem dX11_event_45 : decode cX11_event 45 = .ok (.athrow, 1) := by decide +kernel
theorem dX11_event_46 : decode cX11_event 46 = .ok (.aload_n 0, 1) := by decide +kernel
theorem dX11_event_47 : decode cX11_event 47 = .ok (.getfield 53, 3) := by decide +kernel
theorem dX11_event_50 : decode cX11_event 50 = .ok (.getfield 448, 3) := by decide +kernel
theorem dX11_event_53 : decode cX11_event 53 = .ok (.iload_n 1, 1) := by decide +kernel
theorem dX11_event_54 : decode cX11_event 54 = .ok (.iconst 4, 1) := by decide +kernel
theorem dX11_event_55 : decode cX11_event 55 = .ok (.imul, 1) := by decide +kernel
theorem dX11_event_56 : decode cX11_event 56 = .ok (.iload_n 2, 1) := by decide +kernel
theorem dX11_event_57 : decode cX11_event 57 = .ok (.iadd, 1) := by decide +kernel
theorem dX11_event_58 : decode cX11_event 58 = .ok (.invokestatic 164, 3) := by decide +kernel
theorem dX11_event_61 : decode cX11_event 61 = .ok (.ireturn, 1) := by decide +kernel
set_option maxRecDepth 20000 in
theorem ggX11_shrink_X11_whyNotShrink : GoodIn wsX11_shrink wsX11_whyNotShrink := goodIn_s _ [(9, 1), (4, 1), (10, 6), (8, 1), (16, 98), (165, 54)] rfl (by decide +kernel)
set_option maxRecDepth 20000 in
theorem gX11_shrink_X11_whyNotShrink : GoodIn wsX11_shrink (wsV RX11 189 RX11 yX11_whyNotShrink wsX11_whyNotShrink) := goodIn_app (goodIn_of _ (by decide +kernel)) ggX11_shrink_X11_whyNotShrink
set_option maxRecDepth 20000 in
theorem ggX11_shrink_X3_keep : GoodIn wsX11_shrink wsX3_keep := goodIn_s _ [(118, 10), (117, 1), (128, 5), (35, 1), (133, 1), (38, 1), (134, 3), (37, 1), (137, 3), (8, 1), (140, 6), (219, 3), (183, 7)] rfl (by decide +kernel)
set_option maxRecDepth 20000 in
theorem gX11_shrink_X3_keep : GoodIn wsX11_shrink (wsV RX11 149 RX3 yX3_keep wsX3_keep) := goodIn_app (goodIn_of _ (by decide +kernel)) ggX11_shrink_X3_keep
set_option maxRecDepth 20000 in
theorem ggX11_shrink_X11_mergeGroups : GoodIn wsX11_shrink wsX11_mergeGroups := goodIn_s _ [(149, 1), (11, 1), (17, 1), (4, 1), (18, 1), (150, 1), (13, 3), (8, 1), (16, 1), (19, 95), (151, 10), (137, 1), (161, 3), (165, 18), (207, 12), (195, 12), (183, 12)] rfl (by decide +kernel)
set_option maxRecDepth 20000 in
theorem gX11_shrink_X11_mergeGroups : GoodIn wsX11_shrink (wsV RX11 225 RX11 yX11_mergeGroups wsX11_mergeGroups) := goodIn_app (goodIn_of _ (by decide +kernel)) ggX11_shrink_X11_mergeGroups
set_option maxRecDepth 20000 in
theorem ggX11_shrink_X8_groupCount : GoodIn wsX11_shrink wsX8_groupCount := goodIn_s _ [(36, 4), (8, 1), (40, 1), (183, 7)] rfl (by decide +kernel)
set_option maxRecDepth 20000 in
theorem gX11_shrink_X8_groupCount : GoodIn wsX11_shrink (wsV RX11 277 RX8 yX8_groupCount wsX8_groupCount) := goodIn_app (goodIn_of _ (by decide +kernel)) ggX11_shrink_X8_groupCount
theorem dX11_shrink_0 : decode cX11_shrink 0 = .ok (.aload_n 0, 1) := by decide +kernel
theorem dX11_shrink_1 : decode cX11_shrink 1 = .ok (.invokevirtual 189, 3) := by decide +kernel
theorem dX11_shrink_4 : decode cX11_shrink 4 = .ok (.ifCond .eq 14, 3) := by decide +kernel
theorem dX11_shrink_7 : decode cX11_shrink 7 = .ok (.new 106, 3) := by decide +kernel
theorem dX11_shrink_10 : decode cX11_shrink 10 = .ok (.dup, 1) := by decide +kernel
theorem dX11_shrink_11 : decode cX11_shrink 11 = .ok (.ldc_w 451, 3) := by decide +kernel
theorem dX11_shrink_14 : decode cX11_shrink 14 = .ok (.invokespecial 110, 3) := by decide +kernel
theorem dX11_shrink_17 : decode cX11_shrink 17 = .ok (.athrow, 1) := by decide +kernel
theorem dX11_shrink_18 : decode cX11_shrink 18 = .ok (.aload_n 0, 1) := by decide +kernel
theorem dX11_shrink_19 : decode cX11_shrink 19 = .ok (.getfield 66, 3) := by decide +kernel
theorem dX11_shrink_22 : decode cX11_shrink 22 = .ok (.aload_n 0, 1) := by decide +kernel
theorem dX11_shrink_23 : decode cX11_shrink 23 = .ok (.getfield 53, 3) := by decide +kernel
theorem dX11_shrink_26 : decode cX11_shrink 26 = .ok (.invokevirtual 149, 3) := by decide +kernel
theorem dX11_shrink_29 : decode cX11_shrink 29 = .ok (.aload_n 0, 1) := by decide +kernel
theorem dX11_shrink_30 : decode cX11_shrink 30 = .ok (.invokevirtual 225, 3) := by decide +kernel
theorem dX11_shrink_33 : decode cX11_shrink 33 = .ok (.aload_n 0, 1) := by decide +kernel
theorem dX11_shrink_34 : decode cX11_shrink 34 = .ok (.getfield 53, 3) := by decide +kernel
theorem dX11_shrink_37 : decode cX11_shrink 37 = .ok (.invokevirtual 277, 3) := by decide +kernel
theorem dX11_shrink_40 : decode cX11_shrink 40 = .ok (.ireturn, 1) := by decide +kernel
set_option maxRecDepth 20000 in
theorem ggX11_mergeGroups_X11_findPairs : GoodIn wsX11_mergeGroups wsX11_findPairs := goodIn_s _ [(10, 1), (2, 1), (4, 1), (3, 1), (1, 1), (11, 21), (9, 1), (32, 74), (120, 18), (150, 12), (138, 12), (162, 12)] rfl (by decide +kernel)
set_option maxRecDepth 20000 in
theorem gX11_mergeGroups_X11_findPairs : GoodIn wsX11_mergeGroups (wsV RX11 392 RX11 yX11_findPairs wsX11_findPairs) := goodIn_app (goodIn_of _ (by decide +kernel)) ggX11_mergeGroups_X11_findPairs
set_option maxRecDepth 20000 in
theorem ggX11_mergeGroups_X5_numberMerged : GoodIn wsX11_mergeGroups wsX5_numberMerged := goodIn_s _ [(109, 2), (98, 1), (96, 1), (111, 1), (31, 1), (9, 1), (32, 1), (63, 2), (169, 5), (150, 12)] rfl (by decide +kernel)
set_option maxRecDepth 20000 in
theorem gX11_mergeGroups_X5_numberMerged : GoodIn wsX11_mergeGroups (wsV RX11 453 RX5 yX5_numberMerged wsX5_numberMerged) := goodIn_app (goodIn_of _ (by decide +kernel)) ggX11_mergeGroups_X5_numberMerged
set_option maxRecDepth 20000 in
theorem ggX11_mergeGroups_X8_raiseLevel : GoodIn wsX11_mergeGroups wsX8_raiseLevel := goodIn_s _ [(115, 3), (30, 1), (29, 1), (118, 2), (58, 2), (27, 1), (60, 1), (31, 1), (9, 1), (32, 1), (63, 2), (162, 12)] rfl (by decide +kernel)
set_option maxRecDepth 20000 in
theorem gX11_mergeGroups_X8_raiseLevel : GoodIn wsX11_mergeGroups (wsV RX11 456 RX8 yX8_raiseLevel wsX8_raiseLevel) := goodIn_app (goodIn_of _ (by decide +kernel)) ggX11_mergeGroups_X8_raiseLevel
theorem dX11_mergeGroups_0 : decode cX11_mergeGroups 0 = .ok (.aload_n 0, 1) := by decide +kernel
theorem dX11_mergeGroups_1 : decode cX11_mergeGroups 1 = .ok (.invokevirtual 392, 3) := by decide +kernel
theorem dX11_mergeGroups_4 : decode cX11_mergeGroups 4 = .ok (.aload_n 0, 1) := by decide +kernel
theorem dX11_mergeGroups_5 : decode cX11_mergeGroups 5 = .ok (.getfield 80, 3) := by decide +kernel
theorem dX11_mergeGroups_8 : decode cX11_mergeGroups 8 = .ok (.aload_n 0, 1) := by decide +kernel
theorem dX11_mergeGroups_9 : decode cX11_mergeGroups 9 = .ok (.getfield 73, 3) := by decide +kernel
theorem dX11_mergeGroups_12 : decode cX11_mergeGroups 12 = .ok (.invokevirtual 453, 3) := by decide +kernel
theorem dX11_mergeGroups_15 : decode cX11_mergeGroups 15 = .ok (.aload_n 0, 1) := by decide +kernel
theorem dX11_mergeGroups_16 : decode cX11_mergeGroups 16 = .ok (.getfield 53, 3) := by decide +kernel
theorem dX11_mergeGroups_19 : decode cX11_mergeGroups 19 = .ok (.aload_n 0, 1) := by decide +kernel
theorem dX11_mergeGroups_20 : decode cX11_mergeGroups 20 = .ok (.getfield 40, 3) := by decide +kernel
theorem dX11_mergeGroups_23 : decode cX11_mergeGroups 23 = .ok (.getfield 141, 3) := by decide +kernel
theorem dX11_mergeGroups_26 : decode cX11_mergeGroups 26 = .ok (.aload_n 0, 1) := by decide +kernel
theorem dX11_mergeGroups_27 : decode cX11_mergeGroups 27 = .ok (.getfield 80, 3) := by decide +kernel
theorem dX11_mergeGroups_30 : decode cX11_mergeGroups 30 = .ok (.invokevirtual 456, 3) := by decide +kernel
theorem dX11_mergeGroups_33 : decode cX11_mergeGroups 33 = .ok (.return_, 1) := by decide +kernel
set_option maxRecDepth 20000 in
theorem ggX11_grow_X3_keep : GoodIn wsX11_grow wsX3_keep := goodIn_s _ [(10, 10), (9, 1), (20, 22), (73, 3), (66, 7)] rfl (by decide +kernel)
set_option maxRecDepth 20000 in
theorem gX11_grow_X3_keep : GoodIn wsX11_grow (wsV RX11 149 RX3 yX3_keep wsX3_keep) := goodIn_app (goodIn_of _ (by decide +kernel)) ggX11_grow_X3_keep
set_option maxRecDepth 20000 in
theorem ggX11_grow_X8_groupCount : GoodIn wsX11_grow wsX8_groupCount := goodIn_s _ [(45, 1), (31, 1), (27, 1), (46, 1), (35, 1), (47, 1), (66, 7)] rfl (by decide +kernel)
set_option maxRecDepth 20000 in
theorem gX11_grow_X8_groupCount : GoodIn wsX11_grow (wsV RX11 277 RX8 yX8_groupCount wsX8_groupCount) := goodIn_app (goodIn_of _ (by decide +kernel)) ggX11_grow_X8_groupCount
theorem dX11_grow_0 : decode cX11_grow 0 = .ok (.aload_n 0, 1) := by decide +kernel
theorem dX11_grow_1 : decode cX11_grow 1 = .ok (.getfield 53, 3) := by decide +kernel
theorem dX11_grow_4 : decode cX11_grow 4 = .ok (.getfield 192, 3) := by decide +kernel
theorem dX11_grow_7 : decode cX11_grow 7 = .ok (.ifCond .ne 14, 3) := by decide +kernel
theorem dX11_grow_10 : decode cX11_grow 10 = .ok (.new 106, 3) := by decide +kernel
theorem dX11_grow_13 : decode cX11_grow 13 = .ok (.dup, 1) := by decide +kernel
theorem dX11_grow_14 : decode cX11_grow 14 = .ok (.ldc_w 460, 3) := by decide +kernel
theorem dX11_grow_17 : decode cX11_grow 17 = .ok (.invokespecial 110, 3) := by decide +kernel
theorem dX11_grow_20 : decode cX11_grow 20 = .ok (.athrow, 1) := by decide +kernel
theorem dX11_grow_21 : decode cX11_grow 21 = .ok (.aload_n 0, 1) := by decide +kernel
theorem dX11_grow_22 : decode cX11_grow 22 = .ok (.getfield 66, 3) := by decide +kernel
theorem dX11_grow_25 : decode cX11_grow 25 = .ok (.aload_n 0, 1) := by decide +kernel
theorem dX11_grow_26 : decode cX11_grow 26 = .ok (.getfield 53, 3) := by decide +kernel
theorem dX11_grow_29 : decode cX11_grow 29 = .ok (.invokevirtual 149, 3) := by decide +kernel
theorem dX11_grow_32 : decode cX11_grow 32 = .ok (.aload_n 0, 1) := by decide +kernel
theorem dX11_grow_33 : decode cX11_grow 33 = .ok (.getfield 53, 3) := by decide +kernel
theorem dX11_grow_36 : decode cX11_grow 36 = .ok (.dup, 1) := by decide +kernel
theorem dX11_grow_37 : decode cX11_grow 37 = .ok (.getfield 192, 3) := by decide +kernel
theorem dX11_grow_40 : decode cX11_grow 40 = .ok (.iconst 1, 1) := by decide +kernel
theorem dX11_grow_41 : decode cX11_grow 41 = .ok (.isub, 1) := by decide +kernel
theorem dX11_grow_42 : decode cX11_grow 42 = .ok (.putfield 192, 3) := by decide +kernel
theorem dX11_grow_45 : decode cX11_grow 45 = .ok (.aload_n 0, 1) := by decide +kernel
theorem dX11_grow_46 : decode cX11_grow 46 = .ok (.getfield 53, 3) := by decide +kernel
theorem dX11_grow_49 : decode cX11_grow 49 = .ok (.invokevirtual 277, 3) := by decide +kernel
theorem dX11_grow_52 : decode cX11_grow 52 = .ok (.ireturn, 1) := by decide +kernel
set_option maxRecDepth 20000 in
theorem ggX11_move_X11_whyNotMove : GoodIn wsX11_move wsX11_whyNotMove := goodIn_ca (goodIn_s _ [(9, 3), (4, 1), (12, 3), (8, 1), (15, 97), (176, 49)] rfl (by decide +kernel)) (goodIn_sub (fun _ h => List.mem_cons_of_mem _ (List.mem_append_right _ h)) (by decide +kernel))
set_option maxRecDepth 20000 in
theorem gX11_move_X11_whyNotMove : GoodIn wsX11_move (wsV RX11 202 RX11 yX11_whyNotMove wsX11_whyNotMove) := goodIn_app (goodIn_of _ (by decide +kernel)) ggX11_move_X11_whyNotMove
set_option maxRecDepth 20000 in
theorem ggX11_move_X3_keep : GoodIn wsX11_move wsX3_keep := goodIn_s _ [(116, 10), (115, 1), (126, 5), (25, 1), (131, 1), (28, 1), (132, 3), (27, 1), (135, 3), (8, 1), (138, 6), (225, 3), (194, 7)] rfl (by decide +kernel)
set_option maxRecDepth 20000 in
theorem gX11_move_X3_keep : GoodIn wsX11_move (wsV RX11 149 RX3 yX3_keep wsX3_keep) := goodIn_app (goodIn_of _ (by decide +kernel)) ggX11_move_X3_keep
set_option maxRecDepth 20000 in
theorem ggX11_move_X11_takeTo : GoodIn wsX11_move wsX11_takeTo := goodIn_s _ [(147, 1), (10, 2), (4, 1), (40, 14), (23, 7), (8, 1), (30, 1), (54, 46), (148, 16), (136, 1), (164, 1), (141, 3), (133, 1), (165, 1), (120, 3), (166, 4), (134, 1), (170, 2), (176, 18), (213, 12), (201, 12), (194, 7)] rfl (by decide +kernel)
set_option maxRecDepth 20000 in
theorem gX11_move_X11_takeTo : GoodIn wsX11_move (wsV RX11 228 RX11 yX11_takeTo wsX11_takeTo) := goodIn_app (goodIn_of _ (by decide +kernel)) ggX11_move_X11_takeTo
set_option maxRecDepth 20000 in
theorem ggX11_move_X11_cut : GoodIn wsX11_move wsX11_cut := goodIn_s _ [(175, 1), (10, 2), (4, 1), (153, 1), (40, 14), (23, 7), (8, 1), (30, 1), (54, 46), (176, 18), (213, 12), (201, 12), (194, 7)] rfl (by decide +kernel)
set_option maxRecDepth 20000 in
theorem gX11_move_X11_cut : GoodIn wsX11_move (wsV RX11 366 RX11 yX11_cut wsX11_cut) := goodIn_app (goodIn_of _ (by decide +kernel)) ggX11_move_X11_cut
theorem dX11_move_0 : decode cX11_move 0 = .ok (.aload_n 0, 1) := by decide +kernel
theorem dX11_move_1 : decode cX11_move 1 = .ok (.iload_n 1, 1) := by decide +kernel
theorem dX11_move_2 : decode cX11_move 2 = .ok (.iload_n 2, 1) := by decide +kernel
theorem dX11_move_3 : decode cX11_move 3 = .ok (.invokevirtual 202, 3) := by decide +kernel
theorem dX11_move_6 : decode cX11_move 6 = .ok (.ifCond .eq 14, 3) := by decide +kernel
theorem dX11_move_9 : decode cX11_move 9 = .ok (.new 106, 3) := by decide +kernel
theorem dX11_move_12 : decode cX11_move 12 = .ok (.dup, 1) := by decide +kernel
theorem dX11_move_13 : decode cX11_move 13 = .ok (.ldc_w 462, 3) := by decide +kernel
theorem dX11_move_16 : decode cX11_move 16 = .ok (.invokespecial 110, 3) := by decide +kernel
theorem dX11_move_19 : decode cX11_move 19 = .ok (.athrow, 1) := by decide +kernel
theorem dX11_move_20 : decode cX11_move 20 = .ok (.aload_n 0, 1) := by decide +kernel
theorem dX11_move_21 : decode cX11_move 21 = .ok (.getfield 66, 3) := by decide +kernel
theorem dX11_move_24 : decode cX11_move 24 = .ok (.aload_n 0, 1) := by decide +kernel
theorem dX11_move_25 : decode cX11_move 25 = .ok (.getfield 53, 3) := by decide +kernel
theorem dX11_move_28 : decode cX11_move 28 = .ok (.invokevirtual 149, 3) := by decide +kernel
theorem dX11_move_31 : decode cX11_move 31 = .ok (.aload_n 0, 1) := by decide +kernel
theorem dX11_move_32 : decode cX11_move 32 = .ok (.iload_n 1, 1) := by decide +kernel
theorem dX11_move_33 : decode cX11_move 33 = .ok (.iload_n 2, 1) := by decide +kernel
theorem dX11_move_34 : decode cX11_move 34 = .ok (.invokevirtual 228, 3) := by decide +kernel
theorem dX11_move_37 : decode cX11_move 37 = .ok (.aload_n 0, 1) := by decide +kernel
theorem dX11_move_38 : decode cX11_move 38 = .ok (.invokevirtual 366, 3) := by decide +kernel
theorem dX11_move_41 : decode cX11_move 41 = .ok (.ireturn, 1) := by decide +kernel
set_option maxRecDepth 20000 in
theorem ggX11_takeTo_X4_take : GoodIn wsX11_takeTo wsX4_take := goodIn_s _ [(8, 30), (7, 1), (38, 35), (124, 31)] rfl (by decide +kernel)
set_option maxRecDepth 20000 in
theorem gX11_takeTo_X4_take : GoodIn wsX11_takeTo (wsV RX11 333 RX4 yX4_take wsX4_take) := goodIn_app (goodIn_of _ (by decide +kernel)) ggX11_takeTo_X4_take
set_option maxRecDepth 20000 in
theorem ggX11_takeTo_X11_transfer : GoodIn wsX11_takeTo wsX11_transfer := goodIn_s _ [(76, 1), (1, 1), (77, 4), (24, 3), (81, 3), (7, 1), (84, 1), (63, 1), (46, 1), (85, 3), (20, 1), (88, 11), (57, 2), (99, 37), (148, 7)] rfl (by decide +kernel)
set_option maxRecDepth 20000 in
theorem gX11_takeTo_X11_transfer : GoodIn wsX11_takeTo (wsV RX11 464 RX11 yX11_transfer wsX11_transfer) := goodIn_app (goodIn_of _ (by decide +kernel)) ggX11_takeTo_X11_transfer
theorem dX11_takeTo_0 : decode cX11_takeTo 0 = .ok (.aload_n 0, 1) := by decide +kernel
theorem dX11_takeTo_1 : decode cX11_takeTo 1 = .ok (.getfield 73, 3) := by decide +kernel
theorem dX11_takeTo_4 : decode cX11_takeTo 4 = .ok (.aload_n 0, 1) := by decide +kernel
theorem dX11_takeTo_5 : decode cX11_takeTo 5 = .ok (.getfield 40, 3) := by decide +kernel
theorem dX11_takeTo_8 : decode cX11_takeTo 8 = .ok (.aload_n 0, 1) := by decide +kernel
theorem dX11_takeTo_9 : decode cX11_takeTo 9 = .ok (.getfield 53, 3) := by decide +kernel
theorem dX11_takeTo_12 : decode cX11_takeTo 12 = .ok (.invokevirtual 333, 3) := by decide +kernel
theorem dX11_takeTo_15 : decode cX11_takeTo 15 = .ok (.aload_n 0, 1) := by decide +kernel
theorem dX11_takeTo_16 : decode cX11_takeTo 16 = .ok (.aload_n 0, 1) := by decide +kernel
theorem dX11_takeTo_17 : decode cX11_takeTo 17 = .ok (.getfield 53, 3) := by decide +kernel
theorem dX11_takeTo_20 : decode cX11_takeTo 20 = .ok (.iload_n 1, 1) := by decide +kernel
theorem dX11_takeTo_21 : decode cX11_takeTo 21 = .ok (.iload_n 2, 1) := by decide +kernel
theorem dX11_takeTo_22 : decode cX11_takeTo 22 = .ok (.invokevirtual 464, 3) := by decide +kernel
theorem dX11_takeTo_25 : decode cX11_takeTo 25 = .ok (.return_, 1) := by decide +kernel
set_option maxRecDepth 20000 in
theorem ggX11_transfer_X11_at : GoodIn wsX11_transfer wsX11_at := goodIn_s _ [(8, 1)] rfl (by decide +kernel)
set_option maxRecDepth 20000 in
theorem gX11_transfer_X11_at : GoodIn wsX11_transfer (va_wsS RX11 164 yX11_at wsX11_at) := goodIn_app (goodIn_of _ (by decide +kernel)) ggX11_transfer_X11_at
set_option maxRecDepth 20000 in
theorem ggX11_transfer_X4_gainOf : GoodIn wsX11_transfer wsX4_gainOf := goodIn_s _ [(13, 3), (6, 3), (58, 12)] rfl (by decide +kernel)
set_option maxRecDepth 20000 in
theorem gX11_transfer_X4_gainOf : GoodIn wsX11_transfer (wsV RX11 409 RX4 yX4_gainOf wsX4_gainOf) := goodIn_app (goodIn_of _ (by decide +kernel)) ggX11_transfer_X4_gainOf
set_option maxRecDepth 20000 in
theorem ggX11_transfer_X8_note : GoodIn wsX11_transfer wsX8_note := goodIn_s _ [(20, 12), (7, 1), (32, 1), (70, 7)] rfl (by decide +kernel)
set_option maxRecDepth 20000 in
theorem gX11_transfer_X8_note : GoodIn wsX11_transfer (wsV RX11 468 RX8 yX8_note wsX8_note) := goodIn_app (goodIn_of _ (by decide +kernel)) ggX11_transfer_X8_note
set_option maxRecDepth 20000 in
theorem ggX11_transfer_X8_place : GoodIn wsX11_transfer wsX8_place := goodIn_s _ [(36, 3), (7, 1), (39, 1), (31, 2), (70, 7)] rfl (by decide +kernel)
set_option maxRecDepth 20000 in
theorem gX11_transfer_X8_place : GoodIn wsX11_transfer (wsV RX11 472 RX8 yX8_place wsX8_place) := goodIn_app (goodIn_of _ (by decide +kernel)) ggX11_transfer_X8_place
theorem dX11_transfer_0 : decode cX11_transfer 0 = .ok (.aload_n 0, 1) := by decide +kernel
theorem dX11_transfer_1 : decode cX11_transfer 1 = .ok (.getfield 73, 3) := by decide +kernel
theorem dX11_transfer_4 : decode cX11_transfer 4 = .ok (.getfield 378, 3) := by decide +kernel
theorem dX11_transfer_7 : decode cX11_transfer 7 = .ok (.iload_n 2, 1) := by decide +kernel
theorem dX11_transfer_8 : decode cX11_transfer 8 = .ok (.invokestatic 164, 3) := by decide +kernel
theorem dX11_transfer_11 : decode cX11_transfer 11 = .ok (.istore 4, 2) := by decide +kernel
theorem dX11_transfer_13 : decode cX11_transfer 13 = .ok (.aload_n 1, 1) := by decide +kernel
theorem dX11_transfer_14 : decode cX11_transfer 14 = .ok (.iload_n 2, 1) := by decide +kernel
theorem dX11_transfer_15 : decode cX11_transfer 15 = .ok (.iload 4, 2) := by decide +kernel
theorem dX11_transfer_17 : decode cX11_transfer 17 = .ok (.iload_n 3, 1) := by decide +kernel
theorem dX11_transfer_18 : decode cX11_transfer 18 = .ok (.aload_n 0, 1) := by decide +kernel
theorem dX11_transfer_19 : decode cX11_transfer 19 = .ok (.getfield 73, 3) := by decide +kernel
theorem dX11_transfer_22 : decode cX11_transfer 22 = .ok (.getfield 357, 3) := by decide +kernel
theorem dX11_transfer_25 : decode cX11_transfer 25 = .ok (.aload_n 0, 1) := by decide +kernel
theorem dX11_transfer_26 : decode cX11_transfer 26 = .ok (.getfield 73, 3) := by decide +kernel
theorem dX11_transfer_29 : decode cX11_transfer 29 = .ok (.iload_n 2, 1) := by decide +kernel
theorem dX11_transfer_30 : decode cX11_transfer 30 = .ok (.iload_n 3, 1) := by decide +kernel
theorem dX11_transfer_31 : decode cX11_transfer 31 = .ok (.invokevirtual 409, 3) := by decide +kernel
theorem dX11_transfer_34 : decode cX11_transfer 34 = .ok (.isub, 1) := by decide +kernel
theorem dX11_transfer_35 : decode cX11_transfer 35 = .ok (.invokevirtual 468, 3) := by decide +kernel
theorem dX11_transfer_38 : decode cX11_transfer 38 = .ok (.aload_n 1, 1) := by decide +kernel
theorem dX11_transfer_39 : decode cX11_transfer 39 = .ok (.aload_n 0, 1) := by decide +kernel
theorem dX11_transfer_40 : decode cX11_transfer 40 = .ok (.getfield 73, 3) := by decide +kernel
theorem dX11_transfer_43 : decode cX11_transfer 43 = .ok (.getfield 372, 3) := by decide +kernel
theorem dX11_transfer_46 : decode cX11_transfer 46 = .ok (.iload_n 2, 1) := by decide +kernel
theorem dX11_transfer_47 : decode cX11_transfer 47 = .ok (.invokestatic 164, 3) := by decide +kernel
theorem dX11_transfer_50 : decode cX11_transfer 50 = .ok (.iload_n 3, 1) := by decide +kernel
theorem dX11_transfer_51 : decode cX11_transfer 51 = .ok (.invokevirtual 472, 3) := by decide +kernel
theorem dX11_transfer_54 : decode cX11_transfer 54 = .ok (.return_, 1) := by decide +kernel
set_option maxRecDepth 20000 in
theorem ggX11_step_X11_nextStep : GoodIn wsX11_step wsX11_nextStep := goodIn_s _ [(7, 3), (2, 1), (10, 21), (6, 1), (31, 67), (159, 49)] rfl (by decide +kernel)
set_option maxRecDepth 20000 in
theorem gX11_step_X11_nextStep : GoodIn wsX11_step (wsV RX11 206 RX11 yX11_nextStep wsX11_nextStep) := goodIn_app (goodIn_of _ (by decide +kernel)) ggX11_step_X11_nextStep
set_option maxRecDepth 20000 in
theorem ggX11_step_X3_keep : GoodIn wsX11_step wsX3_keep := goodIn_s _ [(102, 10), (101, 1), (112, 5), (26, 1), (117, 1), (29, 1), (118, 3), (28, 1), (121, 3), (6, 1), (124, 6), (208, 3), (201, 7)] rfl (by decide +kernel)
set_option maxRecDepth 20000 in
theorem gX11_step_X3_keep : GoodIn wsX11_step (wsV RX11 149 RX3 yX3_keep wsX3_keep) := goodIn_app (goodIn_of _ (by decide +kernel)) ggX11_step_X3_keep
set_option maxRecDepth 20000 in
theorem ggX11_step_X11_makeSteps : GoodIn wsX11_step wsX11_makeSteps := goodIn_s _ [(133, 1), (8, 23), (6, 1), (31, 67), (134, 13), (122, 1), (147, 1), (127, 3), (119, 1), (148, 1), (106, 3), (149, 4), (120, 1), (153, 2), (159, 49)] rfl (by decide +kernel)
set_option maxRecDepth 20000 in
theorem gX11_step_X11_makeSteps : GoodIn wsX11_step (wsV RX11 232 RX11 yX11_makeSteps wsX11_makeSteps) := goodIn_app (goodIn_of _ (by decide +kernel)) ggX11_step_X11_makeSteps
set_option maxRecDepth 20000 in
theorem ggX11_step_X11_cut : GoodIn wsX11_step wsX11_cut := goodIn_s _ [(158, 1), (8, 2), (2, 1), (139, 1), (10, 21), (6, 1), (31, 47), (159, 49)] rfl (by decide +kernel)
set_option maxRecDepth 20000 in
theorem gX11_step_X11_cut : GoodIn wsX11_step (wsV RX11 366 RX11 yX11_cut wsX11_cut) := goodIn_app (goodIn_of _ (by decide +kernel)) ggX11_step_X11_cut
theorem dX11_step_0 : decode cX11_step 0 = .ok (.aload_n 0, 1) := by decide +kernel
theorem dX11_step_1 : decode cX11_step 1 = .ok (.invokevirtual 206, 3) := by decide +kernel
theorem dX11_step_4 : decode cX11_step 4 = .ok (.iconst (-1), 1) := by decide +kernel
theorem dX11_step_5 : decode cX11_step 5 = .ok (.if_icmp .ne 5, 3) := by decide +kernel
theorem dX11_step_8 : decode cX11_step 8 = .ok (.iconst (-1), 1) := by decide +kernel
theorem dX11_step_9 : decode cX11_step 9 = .ok (.ireturn, 1) := by decide +kernel
theorem dX11_step_10 : decode cX11_step 10 = .ok (.aload_n 0, 1) := by decide +kernel
theorem dX11_step_11 : decode cX11_step 11 = .ok (.getfield 66, 3) := by decide +kernel
theorem dX11_step_14 : decode cX11_step 14 = .ok (.aload_n 0, 1) := by decide +kernel
theorem dX11_step_15 : decode cX11_step 15 = .ok (.getfield 53, 3) := by decide +kernel
theorem dX11_step_18 : decode cX11_step 18 = .ok (.invokevirtual 149, 3) := by decide +kernel
theorem dX11_step_21 : decode cX11_step 21 = .ok (.aload_n 0, 1) := by decide +kernel
theorem dX11_step_22 : decode cX11_step 22 = .ok (.aload_n 0, 1) := by decide +kernel
theorem dX11_step_23 : decode cX11_step 23 = .ok (.getfield 53, 3) := by decide +kernel
theorem dX11_step_26 : decode cX11_step 26 = .ok (.iconst 1, 1) := by decide +kernel
theorem dX11_step_27 : decode cX11_step 27 = .ok (.invokevirtual 232, 3) := by decide +kernel
theorem dX11_step_30 : decode cX11_step 30 = .ok (.pop, 1) := by decide +kernel
theorem dX11_step_31 : decode cX11_step 31 = .ok (.aload_n 0, 1) := by decide +kernel
theorem dX11_step_32 : decode cX11_step 32 = .ok (.invokevirtual 366, 3) := by decide +kernel
theorem dX11_step_35 : decode cX11_step 35 = .ok (.ireturn, 1) := by decide +kernel
set_option maxRecDepth 20000 in
theorem ggX11_makeSteps_X4_take : GoodIn wsX11_makeSteps wsX4_take := goodIn_s _ [(7, 30), (6, 1), (37, 35), (140, 31)] rfl (by decide +kernel)
set_option maxRecDepth 20000 in
theorem gX11_makeSteps_X4_take : GoodIn wsX11_makeSteps (wsV RX11 333 RX4 yX4_take wsX4_take) := goodIn_app (goodIn_of _ (by decide +kernel)) ggX11_makeSteps_X4_take
set_option maxRecDepth 20000 in
theorem ggX11_makeSteps_X4_chosenStep : GoodIn wsX11_makeSteps wsX4_chosenStep := goodIn_s _ [(75, 1), (14, 1), (76, 3), (6, 1), (79, 1), (8, 1), (10, 1), (80, 4), (62, 1), (45, 1), (23, 3), (84, 4), (39, 1), (15, 1), (68, 4), (11, 1), (88, 4), (13, 1), (140, 12)] rfl (by decide +kernel)
set_option maxRecDepth 20000 in
theorem gX11_makeSteps_X4_chosenStep : GoodIn wsX11_makeSteps (wsV RX11 418 RX4 yX4_chosenStep wsX4_chosenStep) := goodIn_app (goodIn_of _ (by decide +kernel)) ggX11_makeSteps_X4_chosenStep
set_option maxRecDepth 20000 in
theorem ggX11_makeSteps_X11_transfer : GoodIn wsX11_makeSteps wsX11_transfer := goodIn_s _ [(95, 1), (1, 1), (96, 4), (23, 3), (100, 1), (81, 2), (6, 1), (83, 1), (62, 1), (45, 1), (101, 3), (19, 1), (104, 11), (56, 2), (115, 37), (164, 7)] rfl (by decide +kernel)
set_option maxRecDepth 20000 in
theorem gX11_makeSteps_X11_transfer : GoodIn wsX11_makeSteps (wsV RX11 464 RX11 yX11_transfer wsX11_transfer) := goodIn_app (goodIn_of _ (by decide +kernel)) ggX11_makeSteps_X11_transfer
theorem dX11_makeSteps_0 : decode cX11_makeSteps 0 = .ok (.iconst 0, 1) := by decide +kernel
theorem dX11_makeSteps_1 : decode cX11_makeSteps 1 = .ok (.istore_n 3, 1) := by decide +kernel
theorem dX11_makeSteps_2 : decode cX11_makeSteps 2 = .ok (.iload_n 3, 1) := by decide +kernel
theorem dX11_makeSteps_3 : decode cX11_makeSteps 3 = .ok (.iload_n 2, 1) := by decide +kernel
theorem dX11_makeSteps_4 : decode cX11_makeSteps 4 = .ok (.if_icmp .ge 53, 3) := by decide +kernel
theorem dX11_makeSteps_7 : decode cX11_makeSteps 7 = .ok (.aload_n 0, 1) := by decide +kernel
theorem dX11_makeSteps_8 : decode cX11_makeSteps 8 = .ok (.getfield 73, 3) := by decide +kernel
theorem dX11_makeSteps_11 : decode cX11_makeSteps 11 = .ok (.aload_n 0, 1) := by decide +kernel
theorem dX11_makeSteps_12 : decode cX11_makeSteps 12 = .ok (.getfield 40, 3) := by decide +kernel
theorem dX11_makeSteps_15 : decode cX11_makeSteps 15 = .ok (.aload_n 1, 1) := by decide +kernel
theorem dX11_makeSteps_16 : decode cX11_makeSteps 16 = .ok (.invokevirtual 333, 3) := by decide +kernel
theorem dX11_makeSteps_19 : decode cX11_makeSteps 19 = .ok (.aload_n 0, 1) := by decide +kernel
theorem dX11_makeSteps_20 : decode cX11_makeSteps 20 = .ok (.getfield 73, 3) := by decide +kernel
theorem dX11_makeSteps_23 : decode cX11_makeSteps 23 = .ok (.invokevirtual 418, 3) := by decide +kernel
theorem dX11_makeSteps_26 : decode cX11_makeSteps 26 = .ok (.istore 4, 2) := by decide +kernel
theorem dX11_makeSteps_28 : decode cX11_makeSteps 28 = .ok (.iload 4, 2) := by decide +kernel
theorem dX11_makeSteps_30 : decode cX11_makeSteps 30 = .ok (.iconst (-1), 1) := by decide +kernel
theorem dX11_makeSteps_31 : decode cX11_makeSteps 31 = .ok (.if_icmp .ne 5, 3) := by decide +kernel
theorem dX11_makeSteps_34 : decode cX11_makeSteps 34 = .ok (.iload_n 3, 1) := by decide +kernel
theorem dX11_makeSteps_35 : decode cX11_makeSteps 35 = .ok (.ireturn, 1) := by decide +kernel
theorem dX11_makeSteps_36 : decode cX11_makeSteps 36 = .ok (.aload_n 0, 1) := by decide +kernel
theorem dX11_makeSteps_37 : decode cX11_makeSteps 37 = .ok (.aload_n 1, 1) := by decide +kernel
theorem dX11_makeSteps_38 : decode cX11_makeSteps 38 = .ok (.iload 4, 2) := by decide +kernel
theorem dX11_makeSteps_40 : decode cX11_makeSteps 40 = .ok (.bipush 10, 2) := by decide +kernel
theorem dX11_makeSteps_42 : decode cX11_makeSteps 42 = .ok (.idiv, 1) := by decide +kernel
theorem dX11_makeSteps_43 : decode cX11_makeSteps 43 = .ok (.iload 4, 2) := by decide +kernel
theorem dX11_makeSteps_45 : decode cX11_makeSteps 45 = .ok (.bipush 10, 2) := by decide +kernel
theorem dX11_makeSteps_47 : decode cX11_makeSteps 47 = .ok (.irem, 1) := by decide +kernel
theorem dX11_makeSteps_48 : decode cX11_makeSteps 48 = .ok (.invokevirtual 464, 3) := by decide +kernel
theorem dX11_makeSteps_51 : decode cX11_makeSteps 51 = .ok (.iinc 3 1, 3) := by decide +kernel
theorem dX11_makeSteps_54 : decode cX11_makeSteps 54 = .ok (.goto (-52), 3) := by decide +kernel
theorem dX11_makeSteps_57 : decode cX11_makeSteps 57 = .ok (.iload_n 2, 1) := by decide +kernel
theorem dX11_makeSteps_58 : decode cX11_makeSteps 58 = .ok (.ireturn, 1) := by decide +kernel
set_option maxRecDepth 20000 in
theorem ggX11_steps_X11_isStepCount : GoodIn wsX11_steps wsX11_isStepCount := goodIn_s _ [(9, 1)] rfl (by decide +kernel)
set_option maxRecDepth 20000 in
theorem gX11_steps_X11_isStepCount : GoodIn wsX11_steps (wsV RX11 209 RX11 yX11_isStepCount wsX11_isStepCount) := goodIn_app (goodIn_of _ (by decide +kernel)) ggX11_steps_X11_isStepCount
set_option maxRecDepth 20000 in
theorem ggX11_steps_X3_keep : GoodIn wsX11_steps wsX3_keep := goodIn_s _ [(14, 10), (13, 1), (24, 15), (8, 1), (39, 6), (175, 10)] rfl (by decide +kernel)
set_option maxRecDepth 20000 in
theorem gX11_steps_X3_keep : GoodIn wsX11_steps (wsV RX11 149 RX3 yX3_keep wsX3_keep) := goodIn_app (goodIn_of _ (by decide +kernel)) ggX11_steps_X3_keep
set_option maxRecDepth 20000 in
theorem ggX11_steps_X11_makeSteps : GoodIn wsX11_steps wsX11_makeSteps := goodIn_s _ [(48, 19), (29, 1), (67, 1), (35, 1), (31, 1), (68, 1), (8, 1), (69, 80), (37, 1), (149, 1), (42, 3), (33, 1), (150, 1), (18, 3), (151, 4), (34, 1), (155, 20), (185, 24), (178, 7)] rfl (by decide +kernel)
set_option maxRecDepth 20000 in
theorem gX11_steps_X11_makeSteps : GoodIn wsX11_steps (wsV RX11 232 RX11 yX11_makeSteps wsX11_makeSteps) := goodIn_app (goodIn_of _ (by decide +kernel)) ggX11_steps_X11_makeSteps
theorem dX11_steps_0 : decode cX11_steps 0 = .ok (.aload_n 0, 1) := by decide +kernel
theorem dX11_steps_1 : decode cX11_steps 1 = .ok (.iload_n 1, 1) := by decide +kernel
theorem dX11_steps_2 : decode cX11_steps 2 = .ok (.invokevirtual 209, 3) := by decide +kernel
theorem dX11_steps_5 : decode cX11_steps 5 = .ok (.ifCond .ne 14, 3) := by decide +kernel
theorem dX11_steps_8 : decode cX11_steps 8 = .ok (.new 117, 3) := by decide +kernel
theorem dX11_steps_11 : decode cX11_steps 11 = .ok (.dup, 1) := by decide +kernel
theorem dX11_steps_12 : decode cX11_steps 12 = .ok (.ldc_w 475, 3) := by decide +kernel
theorem dX11_steps_15 : decode cX11_steps 15 = .ok (.invokespecial 121, 3) := by decide +kernel
theorem dX11_steps_18 : decode cX11_steps 18 = .ok (.athrow, 1) := by decide +kernel
theorem dX11_steps_19 : decode cX11_steps 19 = .ok (.aload_n 0, 1) := by decide +kernel
theorem dX11_steps_20 : decode cX11_steps 20 = .ok (.getfield 66, 3) := by decide +kernel
theorem dX11_steps_23 : decode cX11_steps 23 = .ok (.aload_n 0, 1) := by decide +kernel
theorem dX11_steps_24 : decode cX11_steps 24 = .ok (.getfield 53, 3) := by decide +kernel
theorem dX11_steps_27 : decode cX11_steps 27 = .ok (.invokevirtual 149, 3) := by decide +kernel
theorem dX11_steps_30 : decode cX11_steps 30 = .ok (.aload_n 0, 1) := by decide +kernel
theorem dX11_steps_31 : decode cX11_steps 31 = .ok (.aload_n 0, 1) := by decide +kernel
theorem dX11_steps_32 : decode cX11_steps 32 = .ok (.getfield 53, 3) := by decide +kernel
theorem dX11_steps_35 : decode cX11_steps 35 = .ok (.iload_n 1, 1) := by decide +kernel
theorem dX11_steps_36 : decode cX11_steps 36 = .ok (.invokevirtual 232, 3) := by decide +kernel
theorem dX11_steps_39 : decode cX11_steps 39 = .ok (.ireturn, 1) := by decide +kernel
theorem dX11_isStepCount_0 : decode cX11_isStepCount 0 = .ok (.iload_n 1, 1) := by decide +kernel
theorem dX11_isStepCount_1 : decode cX11_isStepCount 1 = .ok (.iconst 1, 1) := by decide +kernel
theorem dX11_isStepCount_2 : decode cX11_isStepCount 2 = .ok (.if_icmp .lt 13, 3) := by decide +kernel
