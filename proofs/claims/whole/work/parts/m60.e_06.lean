set_option maxRecDepth 20000 in
theorem gpX11_cutBehind_X11_trySteps_1 : GoodIn wsX11_cutBehind (Cond.code yX11_trySteps cX11_trySteps 2 (some .int) :: wsX11_trySteps_r1) := goodIn_s _ [(15, 1), (3, 1), (16, 14), (8, 1), (30, 8)] rfl (by decide +kernel)
set_option maxRecDepth 20000 in
theorem gpX11_cutBehind_X11_trySteps_2 : GoodIn wsX11_cutBehind wsX11_trySteps_r2 := goodIn_s _ [(38, 5), (1, 2), (43, 17)] rfl (by decide +kernel)
set_option maxRecDepth 20000 in
theorem gpX11_cutBehind_X11_trySteps_3 : GoodIn wsX11_cutBehind wsX11_trySteps_r3 := goodIn_s _ [(60, 24)] rfl (by decide +kernel)
set_option maxRecDepth 20000 in
theorem gpX11_cutBehind_X11_trySteps_4 : GoodIn wsX11_cutBehind wsX11_trySteps_r4 := goodIn_s _ [(84, 24)] rfl (by decide +kernel)
set_option maxRecDepth 20000 in
theorem gpX11_cutBehind_X11_trySteps_5 : GoodIn wsX11_cutBehind wsX11_trySteps_r5 := goodIn_s _ [(108, 24)] rfl (by decide +kernel)
set_option maxRecDepth 20000 in
theorem gpX11_cutBehind_X11_trySteps_6 : GoodIn wsX11_cutBehind wsX11_trySteps_r6 := goodIn_s _ [(132, 1), (4, 1), (133, 15)] rfl (by decide +kernel)
set_option maxRecDepth 20000 in
theorem gpX11_cutBehind_X11_trySteps_7 : GoodIn wsX11_cutBehind wsX110 := goodIn_s _ [(148, 18)] rfl (by decide +kernel)
set_option maxRecDepth 20000 in
theorem gpX11_cutBehind_X11_trySteps_8 : GoodIn wsX11_cutBehind wsX80 := goodIn_s _ [(178, 7)] rfl (by decide +kernel)
set_option maxRecDepth 20000 in
theorem gpX11_cutBehind_X11_trySteps_9 : GoodIn wsX11_cutBehind wsX40 := goodIn_s _ [(166, 12)] rfl (by decide +kernel)
set_option maxRecDepth 20000 in
theorem gpX11_cutBehind_X11_trySteps_10 : GoodIn wsX11_cutBehind wsX20 := goodIn_s _ [(185, 12)] rfl (by decide +kernel)
theorem ggX11_cutBehind_X11_trySteps : GoodIn wsX11_cutBehind wsX11_trySteps := (goodIn_ca (goodIn_ca (goodIn_ca (goodIn_ca (goodIn_ca gpX11_cutBehind_X11_trySteps_1 (goodIn_app gpX11_cutBehind_X11_trySteps_2 (goodIn_app gpX11_cutBehind_X11_trySteps_3 (goodIn_app gpX11_cutBehind_X11_trySteps_4 (goodIn_app gpX11_cutBehind_X11_trySteps_5 gpX11_cutBehind_X11_trySteps_6))))) gpX11_cutBehind_X11_trySteps_7) gpX11_cutBehind_X11_trySteps_8) gpX11_cutBehind_X11_trySteps_9) gpX11_cutBehind_X11_trySteps_10)
set_option maxRecDepth 20000 in
theorem gX11_cutBehind_X11_trySteps : GoodIn wsX11_cutBehind (wsV RX11 434 RX11 yX11_trySteps wsX11_trySteps) := goodIn_app (goodIn_of _ (by decide +kernel)) ggX11_cutBehind_X11_trySteps
set_option maxRecDepth 20000 in
theorem gpX11_trySteps_X11_makeSteps_1 : GoodIn wsX11_trySteps (Cond.code yX11_makeSteps cX11_makeSteps 5 (some .int) :: wsX11_makeSteps_r1) := goodIn_s _ [(29, 19), (6, 1), (48, 1), (12, 1), (8, 1), (49, 1), (16, 1)] rfl (by decide +kernel)
set_option maxRecDepth 20000 in
theorem gpX11_trySteps_X11_makeSteps_2 : GoodIn wsX11_trySteps wsX11_makeSteps_r2 := goodIn_s _ [(50, 24)] rfl (by decide +kernel)
set_option maxRecDepth 20000 in
theorem gpX11_trySteps_X11_makeSteps_3 : GoodIn wsX11_trySteps wsX11_makeSteps_r3 := goodIn_s _ [(74, 24)] rfl (by decide +kernel)
set_option maxRecDepth 20000 in
theorem gpX11_trySteps_X11_makeSteps_4 : GoodIn wsX11_trySteps wsX11_makeSteps_r4 := goodIn_s _ [(98, 24)] rfl (by decide +kernel)
set_option maxRecDepth 20000 in
theorem gpX11_trySteps_X11_makeSteps_5 : GoodIn wsX11_trySteps wsX11_makeSteps_r5 := goodIn_s _ [(122, 8), (14, 1), (130, 1), (23, 3), (10, 1), (131, 1), (19, 3), (132, 4), (11, 1), (136, 1)] rfl (by decide +kernel)
set_option maxRecDepth 20000 in
theorem gpX11_trySteps_X11_makeSteps_6 : GoodIn wsX11_trySteps wsX11_makeSteps_r6 := goodIn_s _ [(137, 1)] rfl (by decide +kernel)
set_option maxRecDepth 20000 in
theorem gpX11_trySteps_X11_makeSteps_7 : GoodIn wsX11_trySteps wsX110 := goodIn_s _ [(138, 18)] rfl (by decide +kernel)
set_option maxRecDepth 20000 in
theorem gpX11_trySteps_X11_makeSteps_8 : GoodIn wsX11_trySteps wsX40 := goodIn_s _ [(163, 12)] rfl (by decide +kernel)
set_option maxRecDepth 20000 in
theorem gpX11_trySteps_X11_makeSteps_9 : GoodIn wsX11_trySteps wsX20 := goodIn_s _ [(175, 12)] rfl (by decide +kernel)
set_option maxRecDepth 20000 in
theorem gpX11_trySteps_X11_makeSteps_10 : GoodIn wsX11_trySteps wsX80 := goodIn_s _ [(156, 7)] rfl (by decide +kernel)
theorem ggX11_trySteps_X11_makeSteps : GoodIn wsX11_trySteps wsX11_makeSteps := (goodIn_ca (goodIn_ca (goodIn_ca (goodIn_ca (goodIn_ca gpX11_trySteps_X11_makeSteps_1 (goodIn_app gpX11_trySteps_X11_makeSteps_2 (goodIn_app gpX11_trySteps_X11_makeSteps_3 (goodIn_app gpX11_trySteps_X11_makeSteps_4 (goodIn_app gpX11_trySteps_X11_makeSteps_5 gpX11_trySteps_X11_makeSteps_6))))) gpX11_trySteps_X11_makeSteps_7) gpX11_trySteps_X11_makeSteps_8) gpX11_trySteps_X11_makeSteps_9) gpX11_trySteps_X11_makeSteps_10)
set_option maxRecDepth 20000 in
theorem gX11_trySteps_X11_makeSteps : GoodIn wsX11_trySteps (wsV RX11 232 RX11 yX11_makeSteps wsX11_makeSteps) := goodIn_app (goodIn_of _ (by decide +kernel)) ggX11_trySteps_X11_makeSteps
set_option maxRecDepth 20000 in
theorem gpX11_shrink_X11_whyNotShrink_1 : GoodIn wsX11_shrink (Cond.code yX11_whyNotShrink cX11_whyNotShrink 1 (some .int) :: wsX11_whyNotShrink_r1) := goodIn_s _ [(9, 1), (4, 1), (10, 6), (8, 1), (16, 16)] rfl (by decide +kernel)
set_option maxRecDepth 20000 in
theorem gpX11_shrink_X11_whyNotShrink_2 : GoodIn wsX11_shrink wsX11_whyNotShrink_r2 := goodIn_s _ [(32, 24)] rfl (by decide +kernel)
set_option maxRecDepth 20000 in
theorem gpX11_shrink_X11_whyNotShrink_3 : GoodIn wsX11_shrink wsX11_whyNotShrink_r3 := goodIn_s _ [(56, 24)] rfl (by decide +kernel)
set_option maxRecDepth 20000 in
theorem gpX11_shrink_X11_whyNotShrink_4 : GoodIn wsX11_shrink wsX11_whyNotShrink_r4 := goodIn_s _ [(80, 24)] rfl (by decide +kernel)
set_option maxRecDepth 20000 in
theorem gpX11_shrink_X11_whyNotShrink_5 : GoodIn wsX11_shrink wsX11_whyNotShrink_r5 := goodIn_s _ [(104, 10)] rfl (by decide +kernel)
set_option maxRecDepth 20000 in
theorem gpX11_shrink_X11_whyNotShrink_6 : GoodIn wsX11_shrink wsX110 := goodIn_s _ [(165, 18)] rfl (by decide +kernel)
set_option maxRecDepth 20000 in
theorem gpX11_shrink_X11_whyNotShrink_7 : GoodIn wsX11_shrink wsX80 := goodIn_s _ [(183, 7)] rfl (by decide +kernel)
set_option maxRecDepth 20000 in
theorem gpX11_shrink_X11_whyNotShrink_8 : GoodIn wsX11_shrink wsX50 := goodIn_s _ [(190, 5)] rfl (by decide +kernel)
set_option maxRecDepth 20000 in
theorem gpX11_shrink_X11_whyNotShrink_9 : GoodIn wsX11_shrink wsX40 := goodIn_s _ [(195, 12)] rfl (by decide +kernel)
set_option maxRecDepth 20000 in
theorem gpX11_shrink_X11_whyNotShrink_10 : GoodIn wsX11_shrink wsX20 := goodIn_s _ [(207, 12)] rfl (by decide +kernel)
theorem ggX11_shrink_X11_whyNotShrink : GoodIn wsX11_shrink wsX11_whyNotShrink := (goodIn_ca (goodIn_ca (goodIn_ca (goodIn_ca (goodIn_ca (goodIn_ca gpX11_shrink_X11_whyNotShrink_1 (goodIn_app gpX11_shrink_X11_whyNotShrink_2 (goodIn_app gpX11_shrink_X11_whyNotShrink_3 (goodIn_app gpX11_shrink_X11_whyNotShrink_4 gpX11_shrink_X11_whyNotShrink_5)))) gpX11_shrink_X11_whyNotShrink_6) gpX11_shrink_X11_whyNotShrink_7) gpX11_shrink_X11_whyNotShrink_8) gpX11_shrink_X11_whyNotShrink_9) gpX11_shrink_X11_whyNotShrink_10)
set_option maxRecDepth 20000 in
theorem gX11_shrink_X11_whyNotShrink : GoodIn wsX11_shrink (wsV RX11 189 RX11 yX11_whyNotShrink wsX11_whyNotShrink) := goodIn_app (goodIn_of _ (by decide +kernel)) ggX11_shrink_X11_whyNotShrink
set_option maxRecDepth 20000 in
theorem gpX11_shrink_X11_mergeGroups_1 : GoodIn wsX11_shrink (Cond.code yX11_mergeGroups cX11_mergeGroups 1 none :: wsX11_mergeGroups_r1) := goodIn_s _ [(149, 1), (11, 1), (17, 1), (4, 1), (18, 1), (150, 1), (13, 3), (8, 1), (16, 1), (19, 14)] rfl (by decide +kernel)
set_option maxRecDepth 20000 in
theorem gpX11_shrink_X11_mergeGroups_2 : GoodIn wsX11_shrink wsX11_mergeGroups_r2 := goodIn_s _ [(33, 24)] rfl (by decide +kernel)
set_option maxRecDepth 20000 in
theorem gpX11_shrink_X11_mergeGroups_3 : GoodIn wsX11_shrink wsX11_mergeGroups_r3 := goodIn_s _ [(57, 24)] rfl (by decide +kernel)
set_option maxRecDepth 20000 in
theorem gpX11_shrink_X11_mergeGroups_4 : GoodIn wsX11_shrink wsX11_mergeGroups_r4 := goodIn_s _ [(81, 24)] rfl (by decide +kernel)
set_option maxRecDepth 20000 in
theorem gpX11_shrink_X11_mergeGroups_5 : GoodIn wsX11_shrink wsX11_mergeGroups_r5 := goodIn_s _ [(105, 9), (151, 10), (137, 1), (161, 3)] rfl (by decide +kernel)
set_option maxRecDepth 20000 in
theorem gpX11_shrink_X11_mergeGroups_6 : GoodIn wsX11_shrink wsX110 := goodIn_s _ [(165, 18)] rfl (by decide +kernel)
set_option maxRecDepth 20000 in
theorem gpX11_shrink_X11_mergeGroups_7 : GoodIn wsX11_shrink wsX20 := goodIn_s _ [(207, 12)] rfl (by decide +kernel)
set_option maxRecDepth 20000 in
theorem gpX11_shrink_X11_mergeGroups_8 : GoodIn wsX11_shrink wsX40 := goodIn_s _ [(195, 12)] rfl (by decide +kernel)
set_option maxRecDepth 20000 in
theorem gpX11_shrink_X11_mergeGroups_9 : GoodIn wsX11_shrink wsX80 := goodIn_s _ [(183, 7)] rfl (by decide +kernel)
set_option maxRecDepth 20000 in
theorem gpX11_shrink_X11_mergeGroups_10 : GoodIn wsX11_shrink wsX50 := goodIn_s _ [(190, 5)] rfl (by decide +kernel)
theorem ggX11_shrink_X11_mergeGroups : GoodIn wsX11_shrink wsX11_mergeGroups := (goodIn_ca (goodIn_ca (goodIn_ca (goodIn_ca (goodIn_ca (goodIn_ca gpX11_shrink_X11_mergeGroups_1 (goodIn_app gpX11_shrink_X11_mergeGroups_2 (goodIn_app gpX11_shrink_X11_mergeGroups_3 (goodIn_app gpX11_shrink_X11_mergeGroups_4 gpX11_shrink_X11_mergeGroups_5)))) gpX11_shrink_X11_mergeGroups_6) gpX11_shrink_X11_mergeGroups_7) gpX11_shrink_X11_mergeGroups_8) gpX11_shrink_X11_mergeGroups_9) gpX11_shrink_X11_mergeGroups_10)
set_option maxRecDepth 20000 in
theorem gX11_shrink_X11_mergeGroups : GoodIn wsX11_shrink (wsV RX11 225 RX11 yX11_mergeGroups wsX11_mergeGroups) := goodIn_app (goodIn_of _ (by decide +kernel)) ggX11_shrink_X11_mergeGroups
