set_option maxRecDepth 20000 in
theorem gpX11_bestDebts_X11_searchBest_1 : GoodIn wsX11_bestDebts (Cond.code yX11_searchBest cX11_searchBest 1 none :: wsX11_searchBest_r1) := goodIn_s _ [(21, 3), (8, 1), (24, 1), (1, 1), (25, 14), (10, 5)] rfl (by decide +kernel)
set_option maxRecDepth 20000 in
theorem gpX11_bestDebts_X11_searchBest_2 : GoodIn wsX11_bestDebts wsX11_searchBest_r2 := goodIn_s _ [(15, 2), (6, 1), (17, 1), (39, 20)] rfl (by decide +kernel)
set_option maxRecDepth 20000 in
theorem gpX11_bestDebts_X11_searchBest_3 : GoodIn wsX11_bestDebts wsX11_searchBest_r3 := goodIn_s _ [(59, 24)] rfl (by decide +kernel)
set_option maxRecDepth 20000 in
theorem gpX11_bestDebts_X11_searchBest_4 : GoodIn wsX11_bestDebts wsX11_searchBest_r4 := goodIn_s _ [(83, 24)] rfl (by decide +kernel)
set_option maxRecDepth 20000 in
theorem gpX11_bestDebts_X11_searchBest_5 : GoodIn wsX11_bestDebts wsX11_searchBest_r5 := goodIn_s _ [(107, 24)] rfl (by decide +kernel)
set_option maxRecDepth 20000 in
theorem gpX11_bestDebts_X11_searchBest_6 : GoodIn wsX11_bestDebts wsX11_searchBest_r6 := goodIn_s _ [(131, 14)] rfl (by decide +kernel)
set_option maxRecDepth 20000 in
theorem gpX11_bestDebts_X11_searchBest_7 : GoodIn wsX11_bestDebts wsX110 := goodIn_s _ [(145, 18)] rfl (by decide +kernel)
set_option maxRecDepth 20000 in
theorem gpX11_bestDebts_X11_searchBest_8 : GoodIn wsX11_bestDebts wsX40 := goodIn_s _ [(175, 12)] rfl (by decide +kernel)
set_option maxRecDepth 20000 in
theorem gpX11_bestDebts_X11_searchBest_9 : GoodIn wsX11_bestDebts wsX20 := goodIn_s _ [(187, 12)] rfl (by decide +kernel)
set_option maxRecDepth 20000 in
theorem gpX11_bestDebts_X11_searchBest_10 : GoodIn wsX11_bestDebts wsX80 := goodIn_s _ [(168, 7)] rfl (by decide +kernel)
set_option maxRecDepth 20000 in
theorem gpX11_bestDebts_X11_searchBest_11 : GoodIn wsX11_bestDebts wsX50 := goodIn_s _ [(199, 5)] rfl (by decide +kernel)
set_option maxRecDepth 20000 in
theorem gpX11_bestDebts_X11_searchBest_12 : GoodIn wsX11_bestDebts wsX00 := goodIn_s _ [(163, 5)] rfl (by decide +kernel)
theorem ggX11_bestDebts_X11_searchBest : GoodIn wsX11_bestDebts wsX11_searchBest := (goodIn_ca (goodIn_ca (goodIn_ca (goodIn_ca (goodIn_ca (goodIn_ca (goodIn_ca gpX11_bestDebts_X11_searchBest_1 (goodIn_app gpX11_bestDebts_X11_searchBest_2 (goodIn_app gpX11_bestDebts_X11_searchBest_3 (goodIn_app gpX11_bestDebts_X11_searchBest_4 (goodIn_app gpX11_bestDebts_X11_searchBest_5 gpX11_bestDebts_X11_searchBest_6))))) gpX11_bestDebts_X11_searchBest_7) gpX11_bestDebts_X11_searchBest_8) gpX11_bestDebts_X11_searchBest_9) gpX11_bestDebts_X11_searchBest_10) gpX11_bestDebts_X11_searchBest_11) gpX11_bestDebts_X11_searchBest_12)
set_option maxRecDepth 20000 in
theorem gX11_bestDebts_X11_searchBest : GoodIn wsX11_bestDebts (wsV RX11 236 RX11 yX11_searchBest wsX11_searchBest) := goodIn_app (goodIn_of _ (by decide +kernel)) ggX11_bestDebts_X11_searchBest
set_option maxRecDepth 20000 in
theorem gpX11_bestCut_X11_searchBest_1 : GoodIn wsX11_bestCut (Cond.code yX11_searchBest cX11_searchBest 1 none :: wsX11_searchBest_r1) := goodIn_s _ [(21, 3), (8, 1), (24, 1), (1, 1), (25, 14), (10, 5)] rfl (by decide +kernel)
set_option maxRecDepth 20000 in
theorem gpX11_bestCut_X11_searchBest_2 : GoodIn wsX11_bestCut wsX11_searchBest_r2 := goodIn_s _ [(15, 2), (6, 1), (17, 1), (39, 20)] rfl (by decide +kernel)
set_option maxRecDepth 20000 in
theorem gpX11_bestCut_X11_searchBest_3 : GoodIn wsX11_bestCut wsX11_searchBest_r3 := goodIn_s _ [(59, 24)] rfl (by decide +kernel)
set_option maxRecDepth 20000 in
theorem gpX11_bestCut_X11_searchBest_4 : GoodIn wsX11_bestCut wsX11_searchBest_r4 := goodIn_s _ [(83, 24)] rfl (by decide +kernel)
set_option maxRecDepth 20000 in
theorem gpX11_bestCut_X11_searchBest_5 : GoodIn wsX11_bestCut wsX11_searchBest_r5 := goodIn_s _ [(107, 24)] rfl (by decide +kernel)
set_option maxRecDepth 20000 in
theorem gpX11_bestCut_X11_searchBest_6 : GoodIn wsX11_bestCut wsX11_searchBest_r6 := goodIn_s _ [(131, 14)] rfl (by decide +kernel)
set_option maxRecDepth 20000 in
theorem gpX11_bestCut_X11_searchBest_7 : GoodIn wsX11_bestCut wsX110 := goodIn_s _ [(145, 18)] rfl (by decide +kernel)
set_option maxRecDepth 20000 in
theorem gpX11_bestCut_X11_searchBest_8 : GoodIn wsX11_bestCut wsX40 := goodIn_s _ [(175, 12)] rfl (by decide +kernel)
set_option maxRecDepth 20000 in
theorem gpX11_bestCut_X11_searchBest_9 : GoodIn wsX11_bestCut wsX20 := goodIn_s _ [(187, 12)] rfl (by decide +kernel)
set_option maxRecDepth 20000 in
theorem gpX11_bestCut_X11_searchBest_10 : GoodIn wsX11_bestCut wsX80 := goodIn_s _ [(168, 7)] rfl (by decide +kernel)
set_option maxRecDepth 20000 in
theorem gpX11_bestCut_X11_searchBest_11 : GoodIn wsX11_bestCut wsX50 := goodIn_s _ [(199, 5)] rfl (by decide +kernel)
set_option maxRecDepth 20000 in
theorem gpX11_bestCut_X11_searchBest_12 : GoodIn wsX11_bestCut wsX00 := goodIn_s _ [(163, 5)] rfl (by decide +kernel)
theorem ggX11_bestCut_X11_searchBest : GoodIn wsX11_bestCut wsX11_searchBest := (goodIn_ca (goodIn_ca (goodIn_ca (goodIn_ca (goodIn_ca (goodIn_ca (goodIn_ca gpX11_bestCut_X11_searchBest_1 (goodIn_app gpX11_bestCut_X11_searchBest_2 (goodIn_app gpX11_bestCut_X11_searchBest_3 (goodIn_app gpX11_bestCut_X11_searchBest_4 (goodIn_app gpX11_bestCut_X11_searchBest_5 gpX11_bestCut_X11_searchBest_6))))) gpX11_bestCut_X11_searchBest_7) gpX11_bestCut_X11_searchBest_8) gpX11_bestCut_X11_searchBest_9) gpX11_bestCut_X11_searchBest_10) gpX11_bestCut_X11_searchBest_11) gpX11_bestCut_X11_searchBest_12)
set_option maxRecDepth 20000 in
theorem gX11_bestCut_X11_searchBest : GoodIn wsX11_bestCut (wsV RX11 236 RX11 yX11_searchBest wsX11_searchBest) := goodIn_app (goodIn_of _ (by decide +kernel)) ggX11_bestCut_X11_searchBest
set_option maxRecDepth 20000 in
theorem gpX11_stepsToEnd_X11_trySteps_1 : GoodIn wsX11_stepsToEnd (Cond.code yX11_trySteps cX11_trySteps 2 (some .int) :: wsX11_trySteps_r1) := goodIn_s _ [(14, 1), (3, 1), (15, 14), (7, 1), (29, 8)] rfl (by decide +kernel)
set_option maxRecDepth 20000 in
theorem gpX11_stepsToEnd_X11_trySteps_2 : GoodIn wsX11_stepsToEnd wsX11_trySteps_r2 := goodIn_s _ [(37, 5), (1, 2), (42, 17)] rfl (by decide +kernel)
set_option maxRecDepth 20000 in
theorem gpX11_stepsToEnd_X11_trySteps_3 : GoodIn wsX11_stepsToEnd wsX11_trySteps_r3 := goodIn_s _ [(59, 24)] rfl (by decide +kernel)
set_option maxRecDepth 20000 in
theorem gpX11_stepsToEnd_X11_trySteps_4 : GoodIn wsX11_stepsToEnd wsX11_trySteps_r4 := goodIn_s _ [(83, 24)] rfl (by decide +kernel)
set_option maxRecDepth 20000 in
theorem gpX11_stepsToEnd_X11_trySteps_5 : GoodIn wsX11_stepsToEnd wsX11_trySteps_r5 := goodIn_s _ [(107, 24)] rfl (by decide +kernel)
set_option maxRecDepth 20000 in
theorem gpX11_stepsToEnd_X11_trySteps_6 : GoodIn wsX11_stepsToEnd wsX11_trySteps_r6 := goodIn_s _ [(131, 17)] rfl (by decide +kernel)
set_option maxRecDepth 20000 in
theorem gpX11_stepsToEnd_X11_trySteps_7 : GoodIn wsX11_stepsToEnd wsX110 := goodIn_s _ [(148, 18)] rfl (by decide +kernel)
set_option maxRecDepth 20000 in
theorem gpX11_stepsToEnd_X11_trySteps_8 : GoodIn wsX11_stepsToEnd wsX80 := goodIn_s _ [(166, 7)] rfl (by decide +kernel)
set_option maxRecDepth 20000 in
theorem gpX11_stepsToEnd_X11_trySteps_9 : GoodIn wsX11_stepsToEnd wsX40 := goodIn_s _ [(173, 12)] rfl (by decide +kernel)
set_option maxRecDepth 20000 in
theorem gpX11_stepsToEnd_X11_trySteps_10 : GoodIn wsX11_stepsToEnd wsX20 := goodIn_s _ [(185, 12)] rfl (by decide +kernel)
theorem ggX11_stepsToEnd_X11_trySteps : GoodIn wsX11_stepsToEnd wsX11_trySteps := (goodIn_ca (goodIn_ca (goodIn_ca (goodIn_ca (goodIn_ca gpX11_stepsToEnd_X11_trySteps_1 (goodIn_app gpX11_stepsToEnd_X11_trySteps_2 (goodIn_app gpX11_stepsToEnd_X11_trySteps_3 (goodIn_app gpX11_stepsToEnd_X11_trySteps_4 (goodIn_app gpX11_stepsToEnd_X11_trySteps_5 gpX11_stepsToEnd_X11_trySteps_6))))) gpX11_stepsToEnd_X11_trySteps_7) gpX11_stepsToEnd_X11_trySteps_8) gpX11_stepsToEnd_X11_trySteps_9) gpX11_stepsToEnd_X11_trySteps_10)
set_option maxRecDepth 20000 in
theorem gX11_stepsToEnd_X11_trySteps : GoodIn wsX11_stepsToEnd (wsV RX11 434 RX11 yX11_trySteps wsX11_trySteps) := goodIn_app (goodIn_of _ (by decide +kernel)) ggX11_stepsToEnd_X11_trySteps
