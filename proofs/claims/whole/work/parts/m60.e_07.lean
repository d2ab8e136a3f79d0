set_option maxRecDepth 20000 in
theorem gpX11_mergeGroups_X11_findPairs_1 : GoodIn wsX11_mergeGroups (Cond.code yX11_findPairs cX11_findPairs 1 none :: wsX11_findPairs_r1) := goodIn_s _ [(10, 1), (2, 1), (4, 1), (3, 1), (1, 1), (11, 20)] rfl (by decide +kernel)
set_option maxRecDepth 20000 in
theorem gpX11_mergeGroups_X11_findPairs_2 : GoodIn wsX11_mergeGroups wsX11_findPairs_r2 := goodIn_s _ [(31, 1), (9, 1), (32, 22)] rfl (by decide +kernel)
set_option maxRecDepth 20000 in
theorem gpX11_mergeGroups_X11_findPairs_3 : GoodIn wsX11_mergeGroups wsX11_findPairs_r3 := goodIn_s _ [(54, 24)] rfl (by decide +kernel)
set_option maxRecDepth 20000 in
theorem gpX11_mergeGroups_X11_findPairs_4 : GoodIn wsX11_mergeGroups wsX11_findPairs_r4 := goodIn_s _ [(78, 24)] rfl (by decide +kernel)
set_option maxRecDepth 20000 in
theorem gpX11_mergeGroups_X11_findPairs_5 : GoodIn wsX11_mergeGroups wsX11_findPairs_r5 := goodIn_s _ [(102, 4)] rfl (by decide +kernel)
set_option maxRecDepth 20000 in
theorem gpX11_mergeGroups_X11_findPairs_6 : GoodIn wsX11_mergeGroups wsX110 := goodIn_s _ [(120, 18)] rfl (by decide +kernel)
set_option maxRecDepth 20000 in
theorem gpX11_mergeGroups_X11_findPairs_7 : GoodIn wsX11_mergeGroups wsX40 := goodIn_s _ [(150, 12)] rfl (by decide +kernel)
set_option maxRecDepth 20000 in
theorem gpX11_mergeGroups_X11_findPairs_8 : GoodIn wsX11_mergeGroups wsX20 := goodIn_s _ [(138, 12)] rfl (by decide +kernel)
set_option maxRecDepth 20000 in
theorem gpX11_mergeGroups_X11_findPairs_9 : GoodIn wsX11_mergeGroups wsX80 := goodIn_s _ [(162, 7)] rfl (by decide +kernel)
set_option maxRecDepth 20000 in
theorem gpX11_mergeGroups_X11_findPairs_10 : GoodIn wsX11_mergeGroups wsX50 := goodIn_s _ [(169, 5)] rfl (by decide +kernel)
theorem ggX11_mergeGroups_X11_findPairs : GoodIn wsX11_mergeGroups wsX11_findPairs := (goodIn_ca (goodIn_ca (goodIn_ca (goodIn_ca (goodIn_ca (goodIn_ca gpX11_mergeGroups_X11_findPairs_1 (goodIn_app gpX11_mergeGroups_X11_findPairs_2 (goodIn_app gpX11_mergeGroups_X11_findPairs_3 (goodIn_app gpX11_mergeGroups_X11_findPairs_4 gpX11_mergeGroups_X11_findPairs_5)))) gpX11_mergeGroups_X11_findPairs_6) gpX11_mergeGroups_X11_findPairs_7) gpX11_mergeGroups_X11_findPairs_8) gpX11_mergeGroups_X11_findPairs_9) gpX11_mergeGroups_X11_findPairs_10)
set_option maxRecDepth 20000 in
theorem gX11_mergeGroups_X11_findPairs : GoodIn wsX11_mergeGroups (wsV RX11 392 RX11 yX11_findPairs wsX11_findPairs) := goodIn_app (goodIn_of _ (by decide +kernel)) ggX11_mergeGroups_X11_findPairs
set_option maxRecDepth 20000 in
theorem gpX11_move_X11_whyNotMove_1 : GoodIn wsX11_move (Cond.code yX11_whyNotMove cX11_whyNotMove 3 (some .int) :: wsX11_whyNotMove_r1) := goodIn_s _ [(9, 3), (4, 1), (12, 3), (8, 1), (15, 17)] rfl (by decide +kernel)
set_option maxRecDepth 20000 in
theorem gpX11_move_X11_whyNotMove_2 : GoodIn wsX11_move wsX11_whyNotMove_r2 := goodIn_s _ [(32, 24)] rfl (by decide +kernel)
set_option maxRecDepth 20000 in
theorem gpX11_move_X11_whyNotMove_3 : GoodIn wsX11_move wsX11_whyNotMove_r3 := goodIn_s _ [(56, 24)] rfl (by decide +kernel)
set_option maxRecDepth 20000 in
theorem gpX11_move_X11_whyNotMove_4 : GoodIn wsX11_move wsX11_whyNotMove_r4 := goodIn_s _ [(80, 24)] rfl (by decide +kernel)
set_option maxRecDepth 20000 in
theorem gpX11_move_X11_whyNotMove_5 : GoodIn wsX11_move wsX11_whyNotMove_r5 := goodIn_s _ [(104, 8)] rfl (by decide +kernel)
set_option maxRecDepth 20000 in
theorem gpX11_move_X11_whyNotMove_6 : GoodIn wsX11_move wsX110 := goodIn_s _ [(176, 18)] rfl (by decide +kernel)
set_option maxRecDepth 20000 in
theorem gpX11_move_X11_whyNotMove_7 : GoodIn wsX11_move wsX80 := goodIn_s _ [(194, 7)] rfl (by decide +kernel)
set_option maxRecDepth 20000 in
theorem gpX11_move_X11_whyNotMove_8 : GoodIn wsX11_move wsX20 := goodIn_s _ [(201, 12)] rfl (by decide +kernel)
set_option maxRecDepth 20000 in
theorem gpX11_move_X11_whyNotMove_9 : GoodIn wsX11_move wsX40 := goodIn_s _ [(213, 12)] rfl (by decide +kernel)
theorem ggX11_move_X11_whyNotMove : GoodIn wsX11_move wsX11_whyNotMove := (goodIn_ca (goodIn_ca (goodIn_ca (goodIn_ca (goodIn_ca (goodIn_ca gpX11_move_X11_whyNotMove_1 (goodIn_app gpX11_move_X11_whyNotMove_2 (goodIn_app gpX11_move_X11_whyNotMove_3 (goodIn_app gpX11_move_X11_whyNotMove_4 gpX11_move_X11_whyNotMove_5)))) gpX11_move_X11_whyNotMove_6) gpX11_move_X11_whyNotMove_7) gpX11_move_X11_whyNotMove_8) gpX11_move_X11_whyNotMove_9) (goodIn_sub (fun _ h => List.mem_cons_of_mem _ (List.mem_append_right _ h)) (by decide +kernel)))
set_option maxRecDepth 20000 in
theorem gX11_move_X11_whyNotMove : GoodIn wsX11_move (wsV RX11 202 RX11 yX11_whyNotMove wsX11_whyNotMove) := goodIn_app (goodIn_of _ (by decide +kernel)) ggX11_move_X11_whyNotMove
set_option maxRecDepth 20000 in
theorem gpX11_move_X11_takeTo_1 : GoodIn wsX11_move (Cond.code yX11_takeTo cX11_takeTo 3 none :: wsX11_takeTo_r1) := goodIn_s _ [(147, 1), (10, 2), (4, 1), (40, 14), (23, 7)] rfl (by decide +kernel)
set_option maxRecDepth 20000 in
theorem gpX11_move_X11_takeTo_2 : GoodIn wsX11_move wsX11_takeTo_r2 := goodIn_s _ [(8, 1), (30, 1), (54, 22)] rfl (by decide +kernel)
set_option maxRecDepth 20000 in
theorem gpX11_move_X11_takeTo_3 : GoodIn wsX11_move wsX11_takeTo_r3 := goodIn_s _ [(76, 24)] rfl (by decide +kernel)
set_option maxRecDepth 20000 in
theorem gpX11_move_X11_takeTo_4 : GoodIn wsX11_move wsX11_takeTo_r4 := goodIn_s _ [(148, 16), (136, 1), (164, 1), (141, 3), (133, 1), (165, 1), (120, 1)] rfl (by decide +kernel)
set_option maxRecDepth 20000 in
theorem gpX11_move_X11_takeTo_5 : GoodIn wsX11_move wsX11_takeTo_r5 := goodIn_s _ [(121, 2), (166, 4), (134, 1), (170, 2)] rfl (by decide +kernel)
set_option maxRecDepth 20000 in
theorem gpX11_move_X11_takeTo_6 : GoodIn wsX11_move wsX110 := goodIn_s _ [(176, 18)] rfl (by decide +kernel)
set_option maxRecDepth 20000 in
theorem gpX11_move_X11_takeTo_7 : GoodIn wsX11_move wsX40 := goodIn_s _ [(213, 12)] rfl (by decide +kernel)
set_option maxRecDepth 20000 in
theorem gpX11_move_X11_takeTo_8 : GoodIn wsX11_move wsX20 := goodIn_s _ [(201, 12)] rfl (by decide +kernel)
set_option maxRecDepth 20000 in
theorem gpX11_move_X11_takeTo_9 : GoodIn wsX11_move wsX80 := goodIn_s _ [(194, 7)] rfl (by decide +kernel)
theorem ggX11_move_X11_takeTo : GoodIn wsX11_move wsX11_takeTo := (goodIn_ca (goodIn_ca (goodIn_ca (goodIn_ca (goodIn_ca gpX11_move_X11_takeTo_1 (goodIn_app gpX11_move_X11_takeTo_2 (goodIn_app gpX11_move_X11_takeTo_3 (goodIn_app gpX11_move_X11_takeTo_4 gpX11_move_X11_takeTo_5)))) gpX11_move_X11_takeTo_6) gpX11_move_X11_takeTo_7) gpX11_move_X11_takeTo_8) gpX11_move_X11_takeTo_9)
set_option maxRecDepth 20000 in
theorem gX11_move_X11_takeTo : GoodIn wsX11_move (wsV RX11 228 RX11 yX11_takeTo wsX11_takeTo) := goodIn_app (goodIn_of _ (by decide +kernel)) ggX11_move_X11_takeTo
set_option maxRecDepth 20000 in
theorem gpX11_step_X11_makeSteps_1 : GoodIn wsX11_step (Cond.code yX11_makeSteps cX11_makeSteps 5 (some .int) :: wsX11_makeSteps_r1) := goodIn_s _ [(133, 1), (8, 23), (6, 1)] rfl (by decide +kernel)
set_option maxRecDepth 20000 in
theorem gpX11_step_X11_makeSteps_2 : GoodIn wsX11_step wsX11_makeSteps_r2 := goodIn_s _ [(31, 24)] rfl (by decide +kernel)
set_option maxRecDepth 20000 in
theorem gpX11_step_X11_makeSteps_3 : GoodIn wsX11_step wsX11_makeSteps_r3 := goodIn_s _ [(55, 24)] rfl (by decide +kernel)
set_option maxRecDepth 20000 in
theorem gpX11_step_X11_makeSteps_4 : GoodIn wsX11_step wsX11_makeSteps_r4 := goodIn_s _ [(79, 19), (134, 5)] rfl (by decide +kernel)
set_option maxRecDepth 20000 in
theorem gpX11_step_X11_makeSteps_5 : GoodIn wsX11_step wsX11_makeSteps_r5 := goodIn_s _ [(139, 8), (122, 1), (147, 1), (127, 3), (119, 1), (148, 1), (106, 3), (149, 4), (120, 1), (153, 1)] rfl (by decide +kernel)
set_option maxRecDepth 20000 in
theorem gpX11_step_X11_makeSteps_6 : GoodIn wsX11_step wsX11_makeSteps_r6 := goodIn_s _ [(154, 1)] rfl (by decide +kernel)
set_option maxRecDepth 20000 in
theorem gpX11_step_X11_makeSteps_7 : GoodIn wsX11_step wsX110 := goodIn_s _ [(159, 18)] rfl (by decide +kernel)
set_option maxRecDepth 20000 in
theorem gpX11_step_X11_makeSteps_8 : GoodIn wsX11_step wsX40 := goodIn_s _ [(177, 12)] rfl (by decide +kernel)
set_option maxRecDepth 20000 in
theorem gpX11_step_X11_makeSteps_9 : GoodIn wsX11_step wsX20 := goodIn_s _ [(189, 12)] rfl (by decide +kernel)
set_option maxRecDepth 20000 in
theorem gpX11_step_X11_makeSteps_10 : GoodIn wsX11_step wsX80 := goodIn_s _ [(201, 7)] rfl (by decide +kernel)
theorem ggX11_step_X11_makeSteps : GoodIn wsX11_step wsX11_makeSteps := (goodIn_ca (goodIn_ca (goodIn_ca (goodIn_ca (goodIn_ca gpX11_step_X11_makeSteps_1 (goodIn_app gpX11_step_X11_makeSteps_2 (goodIn_app gpX11_step_X11_makeSteps_3 (goodIn_app gpX11_step_X11_makeSteps_4 (goodIn_app gpX11_step_X11_makeSteps_5 gpX11_step_X11_makeSteps_6))))) gpX11_step_X11_makeSteps_7) gpX11_step_X11_makeSteps_8) gpX11_step_X11_makeSteps_9) gpX11_step_X11_makeSteps_10)
set_option maxRecDepth 20000 in
theorem gX11_step_X11_makeSteps : GoodIn wsX11_step (wsV RX11 232 RX11 yX11_makeSteps wsX11_makeSteps) := goodIn_app (goodIn_of _ (by decide +kernel)) ggX11_step_X11_makeSteps
