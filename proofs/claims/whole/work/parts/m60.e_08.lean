set_option maxRecDepth 20000 in
theorem gpX11_steps_X11_makeSteps_1 : GoodIn wsX11_steps (Cond.code yX11_makeSteps cX11_makeSteps 5 (some .int) :: wsX11_makeSteps_r1) := goodIn_s _ [(48, 19), (29, 1), (67, 1), (35, 1), (31, 1), (68, 1), (8, 1)] rfl (by decide +kernel)
set_option maxRecDepth 20000 in
theorem gpX11_steps_X11_makeSteps_2 : GoodIn wsX11_steps wsX11_makeSteps_r2 := goodIn_s _ [(69, 24)] rfl (by decide +kernel)
set_option maxRecDepth 20000 in
theorem gpX11_steps_X11_makeSteps_3 : GoodIn wsX11_steps wsX11_makeSteps_r3 := goodIn_s _ [(93, 24)] rfl (by decide +kernel)
set_option maxRecDepth 20000 in
theorem gpX11_steps_X11_makeSteps_4 : GoodIn wsX11_steps wsX11_makeSteps_r4 := goodIn_s _ [(117, 24)] rfl (by decide +kernel)
set_option maxRecDepth 20000 in
theorem gpX11_steps_X11_makeSteps_5 : GoodIn wsX11_steps wsX11_makeSteps_r5 := goodIn_s _ [(141, 8), (37, 1), (149, 1), (42, 3), (33, 1), (150, 1), (18, 3), (151, 4), (34, 1), (155, 1)] rfl (by decide +kernel)
set_option maxRecDepth 20000 in
theorem gpX11_steps_X11_makeSteps_6 : GoodIn wsX11_steps wsX11_makeSteps_r6 := goodIn_s _ [(156, 1)] rfl (by decide +kernel)
set_option maxRecDepth 20000 in
theorem gpX11_steps_X11_makeSteps_7 : GoodIn wsX11_steps wsX110 := goodIn_s _ [(157, 18)] rfl (by decide +kernel)
set_option maxRecDepth 20000 in
theorem gpX11_steps_X11_makeSteps_8 : GoodIn wsX11_steps wsX40 := goodIn_s _ [(185, 12)] rfl (by decide +kernel)
set_option maxRecDepth 20000 in
theorem gpX11_steps_X11_makeSteps_9 : GoodIn wsX11_steps wsX20 := goodIn_s _ [(197, 12)] rfl (by decide +kernel)
set_option maxRecDepth 20000 in
theorem gpX11_steps_X11_makeSteps_10 : GoodIn wsX11_steps wsX80 := goodIn_s _ [(178, 7)] rfl (by decide +kernel)
theorem ggX11_steps_X11_makeSteps : GoodIn wsX11_steps wsX11_makeSteps := (goodIn_ca (goodIn_ca (goodIn_ca (goodIn_ca (goodIn_ca gpX11_steps_X11_makeSteps_1 (goodIn_app gpX11_steps_X11_makeSteps_2 (goodIn_app gpX11_steps_X11_makeSteps_3 (goodIn_app gpX11_steps_X11_makeSteps_4 (goodIn_app gpX11_steps_X11_makeSteps_5 gpX11_steps_X11_makeSteps_6))))) gpX11_steps_X11_makeSteps_7) gpX11_steps_X11_makeSteps_8) gpX11_steps_X11_makeSteps_9) gpX11_steps_X11_makeSteps_10)
set_option maxRecDepth 20000 in
theorem gX11_steps_X11_makeSteps : GoodIn wsX11_steps (wsV RX11 232 RX11 yX11_makeSteps wsX11_makeSteps) := goodIn_app (goodIn_of _ (by decide +kernel)) ggX11_steps_X11_makeSteps
set_option maxRecDepth 20000 in
theorem gpX11_placeBest_X11_searchBest_1 : GoodIn wsX11_placeBest (Cond.code yX11_searchBest cX11_searchBest 1 none :: wsX11_searchBest_r1) := goodIn_s _ [(54, 3), (4, 1), (57, 16), (11, 5)] rfl (by decide +kernel)
set_option maxRecDepth 20000 in
theorem gpX11_placeBest_X11_searchBest_2 : GoodIn wsX11_placeBest wsX11_searchBest_r2 := goodIn_s _ [(16, 2), (8, 1), (18, 1), (73, 20)] rfl (by decide +kernel)
set_option maxRecDepth 20000 in
theorem gpX11_placeBest_X11_searchBest_3 : GoodIn wsX11_placeBest wsX11_searchBest_r3 := goodIn_s _ [(93, 24)] rfl (by decide +kernel)
set_option maxRecDepth 20000 in
theorem gpX11_placeBest_X11_searchBest_4 : GoodIn wsX11_placeBest wsX11_searchBest_r4 := goodIn_s _ [(117, 24)] rfl (by decide +kernel)
set_option maxRecDepth 20000 in
theorem gpX11_placeBest_X11_searchBest_5 : GoodIn wsX11_placeBest wsX11_searchBest_r5 := goodIn_s _ [(141, 16), (44, 3), (27, 3), (47, 2)] rfl (by decide +kernel)
set_option maxRecDepth 20000 in
theorem gpX11_placeBest_X11_searchBest_6 : GoodIn wsX11_placeBest wsX11_searchBest_r6 := goodIn_s _ [(49, 2), (157, 12)] rfl (by decide +kernel)
set_option maxRecDepth 20000 in
theorem gpX11_placeBest_X11_searchBest_7 : GoodIn wsX11_placeBest wsX110 := goodIn_s _ [(202, 18)] rfl (by decide +kernel)
set_option maxRecDepth 20000 in
theorem gpX11_placeBest_X11_searchBest_8 : GoodIn wsX11_placeBest wsX40 := goodIn_s _ [(230, 12)] rfl (by decide +kernel)
set_option maxRecDepth 20000 in
theorem gpX11_placeBest_X11_searchBest_9 : GoodIn wsX11_placeBest wsX20 := goodIn_s _ [(242, 12)] rfl (by decide +kernel)
set_option maxRecDepth 20000 in
theorem gpX11_placeBest_X11_searchBest_10 : GoodIn wsX11_placeBest wsX80 := goodIn_s _ [(220, 7)] rfl (by decide +kernel)
set_option maxRecDepth 20000 in
theorem gpX11_placeBest_X11_searchBest_11 : GoodIn wsX11_placeBest wsX50 := goodIn_s _ [(254, 5)] rfl (by decide +kernel)
set_option maxRecDepth 20000 in
theorem gpX11_placeBest_X11_searchBest_12 : GoodIn wsX11_placeBest wsX00 := goodIn_s _ [(259, 5)] rfl (by decide +kernel)
theorem ggX11_placeBest_X11_searchBest : GoodIn wsX11_placeBest wsX11_searchBest := (goodIn_ca (goodIn_ca (goodIn_ca (goodIn_ca (goodIn_ca (goodIn_ca (goodIn_ca gpX11_placeBest_X11_searchBest_1 (goodIn_app gpX11_placeBest_X11_searchBest_2 (goodIn_app gpX11_placeBest_X11_searchBest_3 (goodIn_app gpX11_placeBest_X11_searchBest_4 (goodIn_app gpX11_placeBest_X11_searchBest_5 gpX11_placeBest_X11_searchBest_6))))) gpX11_placeBest_X11_searchBest_7) gpX11_placeBest_X11_searchBest_8) gpX11_placeBest_X11_searchBest_9) gpX11_placeBest_X11_searchBest_10) gpX11_placeBest_X11_searchBest_11) gpX11_placeBest_X11_searchBest_12)
set_option maxRecDepth 20000 in
theorem gX11_placeBest_X11_searchBest : GoodIn wsX11_placeBest (wsV RX11 236 RX11 yX11_searchBest wsX11_searchBest) := goodIn_app (goodIn_of _ (by decide +kernel)) ggX11_placeBest_X11_searchBest
set_option maxRecDepth 20000 in
theorem gpX11_placeBest_X11_takeBest_1 : GoodIn wsX11_placeBest (Cond.code yX11_takeBest cX11_takeBest 5 (some .int) :: wsX11_takeBest_r1) := goodIn_s _ [(172, 1), (4, 1), (58, 1), (173, 1), (55, 1), (174, 1), (10, 8), (8, 1), (18, 1), (175, 5), (56, 1), (59, 3)] rfl (by decide +kernel)
set_option maxRecDepth 20000 in
theorem gpX11_placeBest_X11_takeBest_2 : GoodIn wsX11_placeBest wsX11_takeBest_r2 := goodIn_s _ [(62, 24)] rfl (by decide +kernel)
set_option maxRecDepth 20000 in
theorem gpX11_placeBest_X11_takeBest_3 : GoodIn wsX11_placeBest wsX11_takeBest_r3 := goodIn_s _ [(86, 24)] rfl (by decide +kernel)
set_option maxRecDepth 20000 in
theorem gpX11_placeBest_X11_takeBest_4 : GoodIn wsX11_placeBest wsX11_takeBest_r4 := goodIn_s _ [(110, 9), (180, 14), (43, 1)] rfl (by decide +kernel)
set_option maxRecDepth 20000 in
theorem gpX11_placeBest_X11_takeBest_5 : GoodIn wsX11_placeBest wsX11_takeBest_r5 := goodIn_s _ [(194, 1), (48, 3), (40, 1), (195, 1), (27, 3), (196, 4), (41, 1), (200, 2)] rfl (by decide +kernel)
set_option maxRecDepth 20000 in
theorem gpX11_placeBest_X11_takeBest_6 : GoodIn wsX11_placeBest wsX110 := goodIn_s _ [(202, 18)] rfl (by decide +kernel)
set_option maxRecDepth 20000 in
theorem gpX11_placeBest_X11_takeBest_7 : GoodIn wsX11_placeBest wsX00 := goodIn_s _ [(259, 5)] rfl (by decide +kernel)
set_option maxRecDepth 20000 in
theorem gpX11_placeBest_X11_takeBest_8 : GoodIn wsX11_placeBest wsX40 := goodIn_s _ [(230, 12)] rfl (by decide +kernel)
set_option maxRecDepth 20000 in
theorem gpX11_placeBest_X11_takeBest_9 : GoodIn wsX11_placeBest wsX80 := goodIn_s _ [(220, 7)] rfl (by decide +kernel)
set_option maxRecDepth 20000 in
theorem gpX11_placeBest_X11_takeBest_10 : GoodIn wsX11_placeBest wsX20 := goodIn_s _ [(242, 12)] rfl (by decide +kernel)
theorem ggX11_placeBest_X11_takeBest : GoodIn wsX11_placeBest wsX11_takeBest := (goodIn_ca (goodIn_ca (goodIn_ca (goodIn_ca (goodIn_ca (goodIn_ca gpX11_placeBest_X11_takeBest_1 (goodIn_app gpX11_placeBest_X11_takeBest_2 (goodIn_app gpX11_placeBest_X11_takeBest_3 (goodIn_app gpX11_placeBest_X11_takeBest_4 gpX11_placeBest_X11_takeBest_5)))) gpX11_placeBest_X11_takeBest_6) gpX11_placeBest_X11_takeBest_7) gpX11_placeBest_X11_takeBest_8) gpX11_placeBest_X11_takeBest_9) gpX11_placeBest_X11_takeBest_10)
set_option maxRecDepth 20000 in
theorem gX11_placeBest_X11_takeBest : GoodIn wsX11_placeBest (wsV RX11 239 RX11 yX11_takeBest wsX11_takeBest) := goodIn_app (goodIn_of _ (by decide +kernel)) ggX11_placeBest_X11_takeBest
set_option maxRecDepth 20000 in
theorem gpX11_takeBest_X11_takeTo_1 : GoodIn wsX11_takeBest (Cond.code yX11_takeTo cX11_takeTo 3 none :: wsX11_takeTo_r1) := goodIn_s _ [(20, 1), (4, 1), (21, 1), (1, 1), (22, 14), (7, 7)] rfl (by decide +kernel)
set_option maxRecDepth 20000 in
theorem gpX11_takeBest_X11_takeTo_2 : GoodIn wsX11_takeBest wsX11_takeTo_r2 := goodIn_s _ [(14, 2), (36, 22)] rfl (by decide +kernel)
set_option maxRecDepth 20000 in
theorem gpX11_takeBest_X11_takeTo_3 : GoodIn wsX11_takeBest wsX11_takeTo_r3 := goodIn_s _ [(58, 24)] rfl (by decide +kernel)
set_option maxRecDepth 20000 in
theorem gpX11_takeBest_X11_takeTo_4 : GoodIn wsX11_takeBest wsX11_takeTo_r4 := goodIn_s _ [(82, 4), (5, 1), (86, 2), (16, 1), (88, 16)] rfl (by decide +kernel)
set_option maxRecDepth 20000 in
theorem gpX11_takeBest_X11_takeTo_5 : GoodIn wsX11_takeBest wsX11_takeTo_r5 := goodIn_s _ [(104, 9)] rfl (by decide +kernel)
set_option maxRecDepth 20000 in
theorem gpX11_takeBest_X11_takeTo_6 : GoodIn wsX11_takeBest wsX110 := goodIn_s _ [(113, 18)] rfl (by decide +kernel)
set_option maxRecDepth 20000 in
theorem gpX11_takeBest_X11_takeTo_7 : GoodIn wsX11_takeBest wsX40 := goodIn_s _ [(136, 12)] rfl (by decide +kernel)
set_option maxRecDepth 20000 in
theorem gpX11_takeBest_X11_takeTo_8 : GoodIn wsX11_takeBest wsX20 := goodIn_s _ [(155, 12)] rfl (by decide +kernel)
set_option maxRecDepth 20000 in
theorem gpX11_takeBest_X11_takeTo_9 : GoodIn wsX11_takeBest wsX80 := goodIn_s _ [(148, 7)] rfl (by decide +kernel)
theorem ggX11_takeBest_X11_takeTo : GoodIn wsX11_takeBest wsX11_takeTo := (goodIn_ca (goodIn_ca (goodIn_ca (goodIn_ca (goodIn_ca gpX11_takeBest_X11_takeTo_1 (goodIn_app gpX11_takeBest_X11_takeTo_2 (goodIn_app gpX11_takeBest_X11_takeTo_3 (goodIn_app gpX11_takeBest_X11_takeTo_4 gpX11_takeBest_X11_takeTo_5)))) gpX11_takeBest_X11_takeTo_6) gpX11_takeBest_X11_takeTo_7) gpX11_takeBest_X11_takeTo_8) gpX11_takeBest_X11_takeTo_9)
set_option maxRecDepth 20000 in
theorem gX11_takeBest_X11_takeTo : GoodIn wsX11_takeBest (wsV RX11 228 RX11 yX11_takeTo wsX11_takeTo) := goodIn_app (goodIn_of _ (by decide +kernel)) ggX11_takeBest_X11_takeTo
