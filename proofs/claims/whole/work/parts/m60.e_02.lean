set_option maxRecDepth 20000 in
theorem gpX11_runCommands_X11_perform_1 : GoodIn wsX11_runCommands (Cond.code yX11_perform cX11_perform 4 none :: wsX11_perform_r1) := goodIn_s _ [(209, 1), (30, 2), (210, 4), (9, 1), (214, 1), (36, 1), (42, 2), (197, 1), (38, 4), (44, 8)] rfl (by decide +kernel)
set_option maxRecDepth 20000 in
theorem gpX11_runCommands_X11_perform_2 : GoodIn wsX11_runCommands wsX11_perform_r2 := goodIn_s _ [(52, 12), (8, 1), (10, 1), (64, 10)] rfl (by decide +kernel)
set_option maxRecDepth 20000 in
theorem gpX11_runCommands_X11_perform_3 : GoodIn wsX11_runCommands wsX11_perform_r3 := goodIn_s _ [(74, 18), (24, 2), (18, 2), (92, 2)] rfl (by decide +kernel)
set_option maxRecDepth 20000 in
theorem gpX11_runCommands_X11_perform_4 : GoodIn wsX11_runCommands wsX11_perform_r4 := goodIn_s _ [(94, 24)] rfl (by decide +kernel)
set_option maxRecDepth 20000 in
theorem gpX11_runCommands_X11_perform_5 : GoodIn wsX11_runCommands wsX11_perform_r5 := goodIn_s _ [(118, 15), (215, 9)] rfl (by decide +kernel)
set_option maxRecDepth 20000 in
theorem gpX11_runCommands_X11_perform_6 : GoodIn wsX11_runCommands wsX11_perform_r6 := goodIn_s _ [(224, 16), (7, 1), (240, 1), (182, 3), (241, 3)] rfl (by decide +kernel)
set_option maxRecDepth 20000 in
theorem gpX11_runCommands_X11_perform_7 : GoodIn wsX11_runCommands wsX11_perform_r7 := goodIn_s _ [(244, 22), (173, 2)] rfl (by decide +kernel)
set_option maxRecDepth 20000 in
theorem gpX11_runCommands_X11_perform_8 : GoodIn wsX11_runCommands wsX11_perform_r8 := goodIn_s _ [(175, 7), (161, 8), (266, 9)] rfl (by decide +kernel)
set_option maxRecDepth 20000 in
theorem gpX11_runCommands_X11_perform_9 : GoodIn wsX11_runCommands wsX11_perform_r9 := goodIn_s _ [(275, 24)] rfl (by decide +kernel)
set_option maxRecDepth 20000 in
theorem gpX11_runCommands_X11_perform_10 : GoodIn wsX11_runCommands wsX11_perform_r10 := goodIn_s _ [(299, 18), (137, 1), (317, 5)] rfl (by decide +kernel)
set_option maxRecDepth 20000 in
theorem gpX11_runCommands_X11_perform_11 : GoodIn wsX11_runCommands wsX11_perform_r11 := goodIn_s _ [(322, 24)] rfl (by decide +kernel)
set_option maxRecDepth 20000 in
theorem gpX11_runCommands_X11_perform_12 : GoodIn wsX11_runCommands wsX11_perform_r12 := goodIn_s _ [(346, 10)] rfl (by decide +kernel)
set_option maxRecDepth 20000 in
theorem gpX11_runCommands_X11_perform_13 : GoodIn wsX11_runCommands wsX110 := goodIn_s _ [(356, 18)] rfl (by decide +kernel)
set_option maxRecDepth 20000 in
theorem gpX11_runCommands_X11_perform_14 : GoodIn wsX11_runCommands wsX80 := goodIn_s _ [(380, 7)] rfl (by decide +kernel)
set_option maxRecDepth 20000 in
theorem gpX11_runCommands_X11_perform_15 : GoodIn wsX11_runCommands wsX20 := goodIn_s _ [(404, 12)] rfl (by decide +kernel)
set_option maxRecDepth 20000 in
theorem gpX11_runCommands_X11_perform_16 : GoodIn wsX11_runCommands wsX40 := goodIn_s _ [(392, 12)] rfl (by decide +kernel)
set_option maxRecDepth 20000 in
theorem gpX11_runCommands_X11_perform_17 : GoodIn wsX11_runCommands wsX50 := goodIn_s _ [(387, 5)] rfl (by decide +kernel)
set_option maxRecDepth 20000 in
theorem gpX11_runCommands_X11_perform_18 : GoodIn wsX11_runCommands wsX00 := goodIn_s _ [(416, 5)] rfl (by decide +kernel)
set_option maxRecDepth 20000 in
theorem gpX11_runCommands_X11_perform_19 : GoodIn wsX11_runCommands wsX10 := goodIn_s _ [(421, 6)] rfl (by decide +kernel)
theorem ggX11_runCommands_X11_perform : GoodIn wsX11_runCommands wsX11_perform := (goodIn_ca (goodIn_ca (goodIn_ca (goodIn_ca (goodIn_ca (goodIn_ca (goodIn_ca (goodIn_ca gpX11_runCommands_X11_perform_1 (goodIn_app gpX11_runCommands_X11_perform_2 (goodIn_app gpX11_runCommands_X11_perform_3 (goodIn_app gpX11_runCommands_X11_perform_4 (goodIn_app gpX11_runCommands_X11_perform_5 (goodIn_app gpX11_runCommands_X11_perform_6 (goodIn_app gpX11_runCommands_X11_perform_7 (goodIn_app gpX11_runCommands_X11_perform_8 (goodIn_app gpX11_runCommands_X11_perform_9 (goodIn_app gpX11_runCommands_X11_perform_10 (goodIn_app gpX11_runCommands_X11_perform_11 gpX11_runCommands_X11_perform_12))))))))))) gpX11_runCommands_X11_perform_13) gpX11_runCommands_X11_perform_14) gpX11_runCommands_X11_perform_15) gpX11_runCommands_X11_perform_16) gpX11_runCommands_X11_perform_17) gpX11_runCommands_X11_perform_18) gpX11_runCommands_X11_perform_19)
set_option maxRecDepth 20000 in
theorem gX11_runCommands_X11_perform : GoodIn wsX11_runCommands (wsV RX11 185 RX11 yX11_perform wsX11_perform) := goodIn_app (goodIn_of _ (by decide +kernel)) ggX11_runCommands_X11_perform
set_option maxRecDepth 20000 in
theorem gpX11_canPerform_X11_whyNotShrink_1 : GoodIn wsX11_canPerform (Cond.code yX11_whyNotShrink cX11_whyNotShrink 1 (some .int) :: wsX11_whyNotShrink_r1) := goodIn_s _ [(7, 1), (1, 2), (8, 5), (6, 1), (13, 16)] rfl (by decide +kernel)
set_option maxRecDepth 20000 in
theorem gpX11_canPerform_X11_whyNotShrink_2 : GoodIn wsX11_canPerform wsX11_whyNotShrink_r2 := goodIn_s _ [(29, 24)] rfl (by decide +kernel)
set_option maxRecDepth 20000 in
theorem gpX11_canPerform_X11_whyNotShrink_3 : GoodIn wsX11_canPerform wsX11_whyNotShrink_r3 := goodIn_s _ [(53, 24)] rfl (by decide +kernel)
set_option maxRecDepth 20000 in
theorem gpX11_canPerform_X11_whyNotShrink_4 : GoodIn wsX11_canPerform wsX11_whyNotShrink_r4 := goodIn_s _ [(77, 24)] rfl (by decide +kernel)
set_option maxRecDepth 20000 in
theorem gpX11_canPerform_X11_whyNotShrink_5 : GoodIn wsX11_canPerform wsX11_whyNotShrink_r5 := goodIn_s _ [(101, 10)] rfl (by decide +kernel)
set_option maxRecDepth 20000 in
theorem gpX11_canPerform_X11_whyNotShrink_6 : GoodIn wsX11_canPerform wsX110 := goodIn_s _ [(184, 18)] rfl (by decide +kernel)
set_option maxRecDepth 20000 in
theorem gpX11_canPerform_X11_whyNotShrink_7 : GoodIn wsX11_canPerform wsX80 := goodIn_s _ [(202, 7)] rfl (by decide +kernel)
set_option maxRecDepth 20000 in
theorem gpX11_canPerform_X11_whyNotShrink_8 : GoodIn wsX11_canPerform wsX50 := goodIn_s _ [(209, 5)] rfl (by decide +kernel)
set_option maxRecDepth 20000 in
theorem gpX11_canPerform_X11_whyNotShrink_9 : GoodIn wsX11_canPerform wsX40 := goodIn_s _ [(214, 12)] rfl (by decide +kernel)
set_option maxRecDepth 20000 in
theorem gpX11_canPerform_X11_whyNotShrink_10 : GoodIn wsX11_canPerform wsX20 := goodIn_s _ [(226, 12)] rfl (by decide +kernel)
theorem ggX11_canPerform_X11_whyNotShrink : GoodIn wsX11_canPerform wsX11_whyNotShrink := (goodIn_ca (goodIn_ca (goodIn_ca (goodIn_ca (goodIn_ca (goodIn_ca gpX11_canPerform_X11_whyNotShrink_1 (goodIn_app gpX11_canPerform_X11_whyNotShrink_2 (goodIn_app gpX11_canPerform_X11_whyNotShrink_3 (goodIn_app gpX11_canPerform_X11_whyNotShrink_4 gpX11_canPerform_X11_whyNotShrink_5)))) gpX11_canPerform_X11_whyNotShrink_6) gpX11_canPerform_X11_whyNotShrink_7) gpX11_canPerform_X11_whyNotShrink_8) gpX11_canPerform_X11_whyNotShrink_9) gpX11_canPerform_X11_whyNotShrink_10)
set_option maxRecDepth 20000 in
theorem gX11_canPerform_X11_whyNotShrink : GoodIn wsX11_canPerform (wsV RX11 189 RX11 yX11_whyNotShrink wsX11_whyNotShrink) := goodIn_app (goodIn_of _ (by decide +kernel)) ggX11_canPerform_X11_whyNotShrink
set_option maxRecDepth 20000 in
theorem gpX11_canPerform_X11_whyNotMove_1 : GoodIn wsX11_canPerform (Cond.code yX11_whyNotMove cX11_whyNotMove 3 (some .int) :: wsX11_whyNotMove_r1) := goodIn_s _ [(124, 1), (14, 2), (1, 1), (125, 3), (6, 1), (128, 3), (111, 5), (30, 8), (131, 1)] rfl (by decide +kernel)
set_option maxRecDepth 20000 in
theorem gpX11_canPerform_X11_whyNotMove_2 : GoodIn wsX11_canPerform wsX11_whyNotMove_r2 := goodIn_s _ [(132, 3), (116, 5), (16, 14), (38, 2)] rfl (by decide +kernel)
set_option maxRecDepth 20000 in
theorem gpX11_canPerform_X11_whyNotMove_3 : GoodIn wsX11_canPerform wsX11_whyNotMove_r3 := goodIn_s _ [(40, 24)] rfl (by decide +kernel)
set_option maxRecDepth 20000 in
theorem gpX11_canPerform_X11_whyNotMove_4 : GoodIn wsX11_canPerform wsX11_whyNotMove_r4 := goodIn_s _ [(64, 20), (135, 4)] rfl (by decide +kernel)
set_option maxRecDepth 20000 in
theorem gpX11_canPerform_X11_whyNotMove_5 : GoodIn wsX11_canPerform wsX11_whyNotMove_r5 := goodIn_s _ [(139, 8)] rfl (by decide +kernel)
set_option maxRecDepth 20000 in
theorem gpX11_canPerform_X11_whyNotMove_6 : GoodIn wsX11_canPerform wsX110 := goodIn_s _ [(184, 18)] rfl (by decide +kernel)
set_option maxRecDepth 20000 in
theorem gpX11_canPerform_X11_whyNotMove_7 : GoodIn wsX11_canPerform wsX80 := goodIn_s _ [(202, 7)] rfl (by decide +kernel)
set_option maxRecDepth 20000 in
theorem gpX11_canPerform_X11_whyNotMove_8 : GoodIn wsX11_canPerform wsX20 := goodIn_s _ [(226, 12)] rfl (by decide +kernel)
set_option maxRecDepth 20000 in
theorem gpX11_canPerform_X11_whyNotMove_9 : GoodIn wsX11_canPerform wsX40 := goodIn_s _ [(214, 12)] rfl (by decide +kernel)
theorem ggX11_canPerform_X11_whyNotMove : GoodIn wsX11_canPerform wsX11_whyNotMove := (goodIn_ca (goodIn_ca (goodIn_ca (goodIn_ca (goodIn_ca (goodIn_ca gpX11_canPerform_X11_whyNotMove_1 (goodIn_app gpX11_canPerform_X11_whyNotMove_2 (goodIn_app gpX11_canPerform_X11_whyNotMove_3 (goodIn_app gpX11_canPerform_X11_whyNotMove_4 gpX11_canPerform_X11_whyNotMove_5)))) gpX11_canPerform_X11_whyNotMove_6) gpX11_canPerform_X11_whyNotMove_7) gpX11_canPerform_X11_whyNotMove_8) gpX11_canPerform_X11_whyNotMove_9) (goodIn_sub (fun _ h => List.mem_cons_of_mem _ (List.mem_append_right _ h)) (by decide +kernel)))
set_option maxRecDepth 20000 in
theorem gX11_canPerform_X11_whyNotMove : GoodIn wsX11_canPerform (wsV RX11 202 RX11 yX11_whyNotMove wsX11_whyNotMove) := goodIn_app (goodIn_of _ (by decide +kernel)) ggX11_canPerform_X11_whyNotMove
