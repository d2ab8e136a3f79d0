set_option maxRecDepth 20000 in
theorem gpX11_perform_X11_mergeGroups_1 : GoodIn wsX11_perform (Cond.code yX11_mergeGroups cX11_mergeGroups 1 none :: wsX11_mergeGroups_r1) := goodIn_s _ [(8, 3), (1, 1), (11, 5), (7, 1), (16, 15)] rfl (by decide +kernel)
set_option maxRecDepth 20000 in
theorem gpX11_perform_X11_mergeGroups_2 : GoodIn wsX11_perform wsX11_mergeGroups_r2 := goodIn_s _ [(31, 24)] rfl (by decide +kernel)
set_option maxRecDepth 20000 in
theorem gpX11_perform_X11_mergeGroups_3 : GoodIn wsX11_perform wsX11_mergeGroups_r3 := goodIn_s _ [(55, 24)] rfl (by decide +kernel)
set_option maxRecDepth 20000 in
theorem gpX11_perform_X11_mergeGroups_4 : GoodIn wsX11_perform wsX11_mergeGroups_r4 := goodIn_s _ [(79, 24)] rfl (by decide +kernel)
set_option maxRecDepth 20000 in
theorem gpX11_perform_X11_mergeGroups_5 : GoodIn wsX11_perform wsX11_mergeGroups_r5 := goodIn_s _ [(103, 23)] rfl (by decide +kernel)
set_option maxRecDepth 20000 in
theorem gpX11_perform_X11_mergeGroups_6 : GoodIn wsX11_perform wsX110 := goodIn_s _ [(275, 18)] rfl (by decide +kernel)
set_option maxRecDepth 20000 in
theorem gpX11_perform_X11_mergeGroups_7 : GoodIn wsX11_perform wsX20 := goodIn_s _ [(300, 12)] rfl (by decide +kernel)
set_option maxRecDepth 20000 in
theorem gpX11_perform_X11_mergeGroups_8 : GoodIn wsX11_perform wsX40 := goodIn_s _ [(312, 12)] rfl (by decide +kernel)
set_option maxRecDepth 20000 in
theorem gpX11_perform_X11_mergeGroups_9 : GoodIn wsX11_perform wsX80 := goodIn_s _ [(293, 7)] rfl (by decide +kernel)
set_option maxRecDepth 20000 in
theorem gpX11_perform_X11_mergeGroups_10 : GoodIn wsX11_perform wsX50 := goodIn_s _ [(324, 5)] rfl (by decide +kernel)
theorem ggX11_perform_X11_mergeGroups : GoodIn wsX11_perform wsX11_mergeGroups := (goodIn_ca (goodIn_ca (goodIn_ca (goodIn_ca (goodIn_ca (goodIn_ca gpX11_perform_X11_mergeGroups_1 (goodIn_app gpX11_perform_X11_mergeGroups_2 (goodIn_app gpX11_perform_X11_mergeGroups_3 (goodIn_app gpX11_perform_X11_mergeGroups_4 gpX11_perform_X11_mergeGroups_5)))) gpX11_perform_X11_mergeGroups_6) gpX11_perform_X11_mergeGroups_7) gpX11_perform_X11_mergeGroups_8) gpX11_perform_X11_mergeGroups_9) gpX11_perform_X11_mergeGroups_10)
set_option maxRecDepth 20000 in
theorem gX11_perform_X11_mergeGroups : GoodIn wsX11_perform (wsV RX11 225 RX11 yX11_mergeGroups wsX11_mergeGroups) := goodIn_app (goodIn_of _ (by decide +kernel)) ggX11_perform_X11_mergeGroups
set_option maxRecDepth 20000 in
theorem gpX11_perform_X11_takeTo_1 : GoodIn wsX11_perform (Cond.code yX11_takeTo cX11_takeTo 3 none :: wsX11_takeTo_r1) := goodIn_s _ [(129, 1), (10, 2), (1, 1), (17, 21)] rfl (by decide +kernel)
set_option maxRecDepth 20000 in
theorem gpX11_perform_X11_takeTo_2 : GoodIn wsX11_perform wsX11_takeTo_r2 := goodIn_s _ [(7, 1), (38, 23)] rfl (by decide +kernel)
set_option maxRecDepth 20000 in
theorem gpX11_perform_X11_takeTo_3 : GoodIn wsX11_perform wsX11_takeTo_r3 := goodIn_s _ [(61, 24)] rfl (by decide +kernel)
set_option maxRecDepth 20000 in
theorem gpX11_perform_X11_takeTo_4 : GoodIn wsX11_perform wsX11_takeTo_r4 := goodIn_s _ [(130, 24)] rfl (by decide +kernel)
set_option maxRecDepth 20000 in
theorem gpX11_perform_X11_takeTo_5 : GoodIn wsX11_perform wsX11_takeTo_r5 := goodIn_s _ [(154, 9)] rfl (by decide +kernel)
set_option maxRecDepth 20000 in
theorem gpX11_perform_X11_takeTo_6 : GoodIn wsX11_perform wsX110 := goodIn_s _ [(275, 18)] rfl (by decide +kernel)
set_option maxRecDepth 20000 in
theorem gpX11_perform_X11_takeTo_7 : GoodIn wsX11_perform wsX40 := goodIn_s _ [(312, 12)] rfl (by decide +kernel)
set_option maxRecDepth 20000 in
theorem gpX11_perform_X11_takeTo_8 : GoodIn wsX11_perform wsX20 := goodIn_s _ [(300, 12)] rfl (by decide +kernel)
set_option maxRecDepth 20000 in
theorem gpX11_perform_X11_takeTo_9 : GoodIn wsX11_perform wsX80 := goodIn_s _ [(293, 7)] rfl (by decide +kernel)
theorem ggX11_perform_X11_takeTo : GoodIn wsX11_perform wsX11_takeTo := (goodIn_ca (goodIn_ca (goodIn_ca (goodIn_ca (goodIn_ca gpX11_perform_X11_takeTo_1 (goodIn_app gpX11_perform_X11_takeTo_2 (goodIn_app gpX11_perform_X11_takeTo_3 (goodIn_app gpX11_perform_X11_takeTo_4 gpX11_perform_X11_takeTo_5)))) gpX11_perform_X11_takeTo_6) gpX11_perform_X11_takeTo_7) gpX11_perform_X11_takeTo_8) gpX11_perform_X11_takeTo_9)
set_option maxRecDepth 20000 in
theorem gX11_perform_X11_takeTo : GoodIn wsX11_perform (wsV RX11 228 RX11 yX11_takeTo wsX11_takeTo) := goodIn_app (goodIn_of _ (by decide +kernel)) ggX11_perform_X11_takeTo
set_option maxRecDepth 20000 in
theorem gpX11_perform_X11_makeSteps_1 : GoodIn wsX11_perform (Cond.code yX11_makeSteps cX11_makeSteps 5 (some .int) :: wsX11_makeSteps_r1) := goodIn_s _ [(166, 1), (10, 2), (17, 21), (7, 1)] rfl (by decide +kernel)
set_option maxRecDepth 20000 in
theorem gpX11_perform_X11_makeSteps_2 : GoodIn wsX11_perform wsX11_makeSteps_r2 := goodIn_s _ [(38, 24)] rfl (by decide +kernel)
set_option maxRecDepth 20000 in
theorem gpX11_perform_X11_makeSteps_3 : GoodIn wsX11_perform wsX11_makeSteps_r3 := goodIn_s _ [(62, 23), (167, 1)] rfl (by decide +kernel)
set_option maxRecDepth 20000 in
theorem gpX11_perform_X11_makeSteps_4 : GoodIn wsX11_perform wsX11_makeSteps_r4 := goodIn_s _ [(168, 8), (139, 3), (176, 8), (130, 5)] rfl (by decide +kernel)
set_option maxRecDepth 20000 in
theorem gpX11_perform_X11_makeSteps_5 : GoodIn wsX11_perform wsX11_makeSteps_r5 := goodIn_s _ [(135, 4), (142, 20)] rfl (by decide +kernel)
set_option maxRecDepth 20000 in
theorem gpX11_perform_X11_makeSteps_6 : GoodIn wsX11_perform wsX11_makeSteps_r6 := goodIn_s _ [(162, 1)] rfl (by decide +kernel)
set_option maxRecDepth 20000 in
theorem gpX11_perform_X11_makeSteps_7 : GoodIn wsX11_perform wsX110 := goodIn_s _ [(275, 18)] rfl (by decide +kernel)
set_option maxRecDepth 20000 in
theorem gpX11_perform_X11_makeSteps_8 : GoodIn wsX11_perform wsX40 := goodIn_s _ [(312, 12)] rfl (by decide +kernel)
set_option maxRecDepth 20000 in
theorem gpX11_perform_X11_makeSteps_9 : GoodIn wsX11_perform wsX20 := goodIn_s _ [(300, 12)] rfl (by decide +kernel)
set_option maxRecDepth 20000 in
theorem gpX11_perform_X11_makeSteps_10 : GoodIn wsX11_perform wsX80 := goodIn_s _ [(293, 7)] rfl (by decide +kernel)
theorem ggX11_perform_X11_makeSteps : GoodIn wsX11_perform wsX11_makeSteps := (goodIn_ca (goodIn_ca (goodIn_ca (goodIn_ca (goodIn_ca gpX11_perform_X11_makeSteps_1 (goodIn_app gpX11_perform_X11_makeSteps_2 (goodIn_app gpX11_perform_X11_makeSteps_3 (goodIn_app gpX11_perform_X11_makeSteps_4 (goodIn_app gpX11_perform_X11_makeSteps_5 gpX11_perform_X11_makeSteps_6))))) gpX11_perform_X11_makeSteps_7) gpX11_perform_X11_makeSteps_8) gpX11_perform_X11_makeSteps_9) gpX11_perform_X11_makeSteps_10)
set_option maxRecDepth 20000 in
theorem gX11_perform_X11_makeSteps : GoodIn wsX11_perform (wsV RX11 232 RX11 yX11_makeSteps wsX11_makeSteps) := goodIn_app (goodIn_of _ (by decide +kernel)) ggX11_perform_X11_makeSteps
set_option maxRecDepth 20000 in
theorem gpX11_perform_X11_searchBest_1 : GoodIn wsX11_perform (Cond.code yX11_searchBest cX11_searchBest 1 none :: wsX11_searchBest_r1) := goodIn_s _ [(187, 1), (10, 2), (1, 1), (9, 1), (188, 1), (17, 19)] rfl (by decide +kernel)
set_option maxRecDepth 20000 in
theorem gpX11_perform_X11_searchBest_2 : GoodIn wsX11_perform wsX11_searchBest_r2 := goodIn_s _ [(36, 2), (7, 1), (38, 21)] rfl (by decide +kernel)
set_option maxRecDepth 20000 in
theorem gpX11_perform_X11_searchBest_3 : GoodIn wsX11_perform wsX11_searchBest_r3 := goodIn_s _ [(59, 24)] rfl (by decide +kernel)
set_option maxRecDepth 20000 in
theorem gpX11_perform_X11_searchBest_4 : GoodIn wsX11_perform wsX11_searchBest_r4 := goodIn_s _ [(83, 15), (189, 9)] rfl (by decide +kernel)
set_option maxRecDepth 20000 in
theorem gpX11_perform_X11_searchBest_5 : GoodIn wsX11_perform wsX11_searchBest_r5 := goodIn_s _ [(198, 19), (153, 3), (217, 1), (148, 1)] rfl (by decide +kernel)
set_option maxRecDepth 20000 in
theorem gpX11_perform_X11_searchBest_6 : GoodIn wsX11_perform wsX11_searchBest_r6 := goodIn_s _ [(149, 2), (218, 12)] rfl (by decide +kernel)
set_option maxRecDepth 20000 in
theorem gpX11_perform_X11_searchBest_7 : GoodIn wsX11_perform wsX110 := goodIn_s _ [(275, 18)] rfl (by decide +kernel)
set_option maxRecDepth 20000 in
theorem gpX11_perform_X11_searchBest_8 : GoodIn wsX11_perform wsX40 := goodIn_s _ [(312, 12)] rfl (by decide +kernel)
set_option maxRecDepth 20000 in
theorem gpX11_perform_X11_searchBest_9 : GoodIn wsX11_perform wsX20 := goodIn_s _ [(300, 12)] rfl (by decide +kernel)
set_option maxRecDepth 20000 in
theorem gpX11_perform_X11_searchBest_10 : GoodIn wsX11_perform wsX80 := goodIn_s _ [(293, 7)] rfl (by decide +kernel)
set_option maxRecDepth 20000 in
theorem gpX11_perform_X11_searchBest_11 : GoodIn wsX11_perform wsX50 := goodIn_s _ [(324, 5)] rfl (by decide +kernel)
set_option maxRecDepth 20000 in
theorem gpX11_perform_X11_searchBest_12 : GoodIn wsX11_perform wsX00 := goodIn_s _ [(329, 5)] rfl (by decide +kernel)
theorem ggX11_perform_X11_searchBest : GoodIn wsX11_perform wsX11_searchBest := (goodIn_ca (goodIn_ca (goodIn_ca (goodIn_ca (goodIn_ca (goodIn_ca (goodIn_ca gpX11_perform_X11_searchBest_1 (goodIn_app gpX11_perform_X11_searchBest_2 (goodIn_app gpX11_perform_X11_searchBest_3 (goodIn_app gpX11_perform_X11_searchBest_4 (goodIn_app gpX11_perform_X11_searchBest_5 gpX11_perform_X11_searchBest_6))))) gpX11_perform_X11_searchBest_7) gpX11_perform_X11_searchBest_8) gpX11_perform_X11_searchBest_9) gpX11_perform_X11_searchBest_10) gpX11_perform_X11_searchBest_11) gpX11_perform_X11_searchBest_12)
set_option maxRecDepth 20000 in
theorem gX11_perform_X11_searchBest : GoodIn wsX11_perform (wsV RX11 236 RX11 yX11_searchBest wsX11_searchBest) := goodIn_app (goodIn_of _ (by decide +kernel)) ggX11_perform_X11_searchBest
