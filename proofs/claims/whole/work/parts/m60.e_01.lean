set_option maxRecDepth 20000 in
theorem gpX11_runScript_X11_runCommands_1 : GoodIn wsX11_runScript (Cond.code yX11_runCommands cX11_runCommands 7 (some .int) :: wsX11_runCommands_r1) := goodIn_s _ [(240, 2), (5, 1), (242, 5), (42, 3), (247, 3), (33, 1), (250, 2), (88, 1), (90, 2), (252, 5)] rfl (by decide +kernel)
set_option maxRecDepth 20000 in
theorem gpX11_runScript_X11_runCommands_2 : GoodIn wsX11_runScript wsX11_runCommands_r2 := goodIn_s _ [(257, 5), (8, 1), (262, 12), (6, 1), (274, 5)] rfl (by decide +kernel)
set_option maxRecDepth 20000 in
theorem gpX11_runScript_X11_runCommands_3 : GoodIn wsX11_runScript wsX11_runCommands_r3 := goodIn_s _ [(279, 11), (221, 1), (290, 1), (227, 1), (223, 1), (291, 3), (194, 1), (294, 5)] rfl (by decide +kernel)
set_option maxRecDepth 20000 in
theorem gpX11_runScript_X11_runCommands_4 : GoodIn wsX11_runScript wsX11_runCommands_r4 := goodIn_s _ [(299, 24)] rfl (by decide +kernel)
set_option maxRecDepth 20000 in
theorem gpX11_runScript_X11_runCommands_5 : GoodIn wsX11_runScript wsX11_runCommands_r5 := goodIn_s _ [(323, 24)] rfl (by decide +kernel)
set_option maxRecDepth 20000 in
theorem gpX11_runScript_X11_runCommands_6 : GoodIn wsX11_runScript wsX11_runCommands_r6 := goodIn_s _ [(347, 24)] rfl (by decide +kernel)
set_option maxRecDepth 20000 in
theorem gpX11_runScript_X11_runCommands_7 : GoodIn wsX11_runScript wsX11_runCommands_r7 := goodIn_s _ [(371, 24)] rfl (by decide +kernel)
set_option maxRecDepth 20000 in
theorem gpX11_runScript_X11_runCommands_8 : GoodIn wsX11_runScript wsX11_runCommands_r8 := goodIn_s _ [(395, 24)] rfl (by decide +kernel)
set_option maxRecDepth 20000 in
theorem gpX11_runScript_X11_runCommands_9 : GoodIn wsX11_runScript wsX11_runCommands_r9 := goodIn_s _ [(419, 24)] rfl (by decide +kernel)
set_option maxRecDepth 20000 in
theorem gpX11_runScript_X11_runCommands_10 : GoodIn wsX11_runScript wsX11_runCommands_r10 := goodIn_s _ [(443, 8), (228, 1), (451, 15)] rfl (by decide +kernel)
set_option maxRecDepth 20000 in
theorem gpX11_runScript_X11_runCommands_11 : GoodIn wsX11_runScript wsX11_runCommands_r11 := goodIn_s _ [(466, 4), (229, 1), (470, 1), (234, 3), (225, 1), (471, 1), (210, 3), (472, 4), (226, 1), (476, 5)] rfl (by decide +kernel)
set_option maxRecDepth 20000 in
theorem gpX11_runScript_X11_runCommands_12 : GoodIn wsX11_runScript wsX11_runCommands_r12 := goodIn_s _ [(481, 24)] rfl (by decide +kernel)
set_option maxRecDepth 20000 in
theorem gpX11_runScript_X11_runCommands_13 : GoodIn wsX11_runScript wsX11_runCommands_r13 := goodIn_s _ [(505, 7), (230, 4), (512, 13)] rfl (by decide +kernel)
set_option maxRecDepth 20000 in
theorem gpX11_runScript_X11_runCommands_14 : GoodIn wsX11_runScript wsX11_runCommands_r14 := goodIn_s _ [(525, 24)] rfl (by decide +kernel)
set_option maxRecDepth 20000 in
theorem gpX11_runScript_X11_runCommands_15 : GoodIn wsX11_runScript wsX11_runCommands_r15 := goodIn_s _ [(549, 19)] rfl (by decide +kernel)
set_option maxRecDepth 20000 in
theorem gpX11_runScript_X11_runCommands_16 : GoodIn wsX11_runScript wsX110 := goodIn_s _ [(568, 18)] rfl (by decide +kernel)
set_option maxRecDepth 20000 in
theorem gpX11_runScript_X11_runCommands_17 : GoodIn wsX11_runScript wsX60 := goodIn_s _ [(598, 6)] rfl (by decide +kernel)
set_option maxRecDepth 20000 in
theorem gpX11_runScript_X11_runCommands_18 : GoodIn wsX11_runScript wsX80 := goodIn_s _ [(620, 7)] rfl (by decide +kernel)
set_option maxRecDepth 20000 in
theorem gpX11_runScript_X11_runCommands_19 : GoodIn wsX11_runScript wsX50 := goodIn_s _ [(627, 5)] rfl (by decide +kernel)
set_option maxRecDepth 20000 in
theorem gpX11_runScript_X11_runCommands_20 : GoodIn wsX11_runScript wsX40 := goodIn_s _ [(632, 12)] rfl (by decide +kernel)
set_option maxRecDepth 20000 in
theorem gpX11_runScript_X11_runCommands_21 : GoodIn wsX11_runScript wsX20 := goodIn_s _ [(605, 12)] rfl (by decide +kernel)
set_option maxRecDepth 20000 in
theorem gpX11_runScript_X11_runCommands_22 : GoodIn wsX11_runScript wsX00 := goodIn_s _ [(644, 5)] rfl (by decide +kernel)
set_option maxRecDepth 20000 in
theorem gpX11_runScript_X11_runCommands_23 : GoodIn wsX11_runScript wsX10 := goodIn_s _ [(649, 6)] rfl (by decide +kernel)
theorem ggX11_runScript_X11_runCommands : GoodIn wsX11_runScript wsX11_runCommands := (goodIn_ca (goodIn_ca (goodIn_ca (goodIn_ca (goodIn_ca (goodIn_ca (goodIn_ca (goodIn_ca (goodIn_ca (goodIn_ca gpX11_runScript_X11_runCommands_1 (goodIn_app gpX11_runScript_X11_runCommands_2 (goodIn_app gpX11_runScript_X11_runCommands_3 (goodIn_app gpX11_runScript_X11_runCommands_4 (goodIn_app gpX11_runScript_X11_runCommands_5 (goodIn_app gpX11_runScript_X11_runCommands_6 (goodIn_app gpX11_runScript_X11_runCommands_7 (goodIn_app gpX11_runScript_X11_runCommands_8 (goodIn_app gpX11_runScript_X11_runCommands_9 (goodIn_app gpX11_runScript_X11_runCommands_10 (goodIn_app gpX11_runScript_X11_runCommands_11 (goodIn_app gpX11_runScript_X11_runCommands_12 (goodIn_app gpX11_runScript_X11_runCommands_13 (goodIn_app gpX11_runScript_X11_runCommands_14 gpX11_runScript_X11_runCommands_15)))))))))))))) gpX11_runScript_X11_runCommands_16) gpX11_runScript_X11_runCommands_17) gpX11_runScript_X11_runCommands_18) gpX11_runScript_X11_runCommands_19) gpX11_runScript_X11_runCommands_20) gpX11_runScript_X11_runCommands_21) gpX11_runScript_X11_runCommands_22) gpX11_runScript_X11_runCommands_23) (goodIn_sub (fun _ h => List.mem_cons_of_mem _ (List.mem_append_right _ h)) (by decide +kernel)))
set_option maxRecDepth 20000 in
theorem gX11_runScript_X11_runCommands : GoodIn wsX11_runScript (wsV RX11 153 RX11 yX11_runCommands wsX11_runCommands) := goodIn_app (goodIn_of _ (by decide +kernel)) ggX11_runScript_X11_runCommands
set_option maxRecDepth 20000 in
theorem gpX11_runCommands_X11_canPerform_1 : GoodIn wsX11_runCommands (Cond.code yX11_canPerform cX11_canPerform 4 (some .boolean) :: wsX11_canPerform_r1) := goodIn_s _ [(29, 6), (9, 1), (35, 18)] rfl (by decide +kernel)
set_option maxRecDepth 20000 in
theorem gpX11_runCommands_X11_canPerform_2 : GoodIn wsX11_runCommands wsX11_canPerform_r2 := goodIn_s _ [(53, 11), (8, 1), (10, 1), (64, 11)] rfl (by decide +kernel)
set_option maxRecDepth 20000 in
theorem gpX11_runCommands_X11_canPerform_3 : GoodIn wsX11_runCommands wsX11_canPerform_r3 := goodIn_s _ [(75, 17), (24, 2), (18, 2), (92, 3)] rfl (by decide +kernel)
set_option maxRecDepth 20000 in
theorem gpX11_runCommands_X11_canPerform_4 : GoodIn wsX11_runCommands wsX11_canPerform_r4 := goodIn_s _ [(95, 24)] rfl (by decide +kernel)
set_option maxRecDepth 20000 in
theorem gpX11_runCommands_X11_canPerform_5 : GoodIn wsX11_runCommands wsX11_canPerform_r5 := goodIn_s _ [(119, 24)] rfl (by decide +kernel)
set_option maxRecDepth 20000 in
theorem gpX11_runCommands_X11_canPerform_6 : GoodIn wsX11_runCommands wsX11_canPerform_r6 := goodIn_s _ [(143, 24)] rfl (by decide +kernel)
set_option maxRecDepth 20000 in
theorem gpX11_runCommands_X11_canPerform_7 : GoodIn wsX11_runCommands wsX11_canPerform_r7 := goodIn_s _ [(167, 24)] rfl (by decide +kernel)
set_option maxRecDepth 20000 in
theorem gpX11_runCommands_X11_canPerform_8 : GoodIn wsX11_runCommands wsX11_canPerform_r8 := goodIn_s _ [(191, 15)] rfl (by decide +kernel)
set_option maxRecDepth 20000 in
theorem gpX11_runCommands_X11_canPerform_9 : GoodIn wsX11_runCommands wsX110 := goodIn_s _ [(356, 18)] rfl (by decide +kernel)
set_option maxRecDepth 20000 in
theorem gpX11_runCommands_X11_canPerform_10 : GoodIn wsX11_runCommands wsX80 := goodIn_s _ [(380, 7)] rfl (by decide +kernel)
set_option maxRecDepth 20000 in
theorem gpX11_runCommands_X11_canPerform_11 : GoodIn wsX11_runCommands wsX50 := goodIn_s _ [(387, 5)] rfl (by decide +kernel)
set_option maxRecDepth 20000 in
theorem gpX11_runCommands_X11_canPerform_12 : GoodIn wsX11_runCommands wsX40 := goodIn_s _ [(392, 12)] rfl (by decide +kernel)
set_option maxRecDepth 20000 in
theorem gpX11_runCommands_X11_canPerform_13 : GoodIn wsX11_runCommands wsX20 := goodIn_s _ [(404, 12)] rfl (by decide +kernel)
theorem ggX11_runCommands_X11_canPerform : GoodIn wsX11_runCommands wsX11_canPerform := (goodIn_ca (goodIn_ca (goodIn_ca (goodIn_ca (goodIn_ca (goodIn_ca (goodIn_ca gpX11_runCommands_X11_canPerform_1 (goodIn_app gpX11_runCommands_X11_canPerform_2 (goodIn_app gpX11_runCommands_X11_canPerform_3 (goodIn_app gpX11_runCommands_X11_canPerform_4 (goodIn_app gpX11_runCommands_X11_canPerform_5 (goodIn_app gpX11_runCommands_X11_canPerform_6 (goodIn_app gpX11_runCommands_X11_canPerform_7 gpX11_runCommands_X11_canPerform_8))))))) gpX11_runCommands_X11_canPerform_9) gpX11_runCommands_X11_canPerform_10) gpX11_runCommands_X11_canPerform_11) gpX11_runCommands_X11_canPerform_12) gpX11_runCommands_X11_canPerform_13) (goodIn_sub (fun _ h => List.mem_cons_of_mem _ (List.mem_append_right _ h)) (by decide +kernel)))
set_option maxRecDepth 20000 in
theorem gX11_runCommands_X11_canPerform : GoodIn wsX11_runCommands (wsV RX11 181 RX11 yX11_canPerform wsX11_canPerform) := goodIn_app (goodIn_of _ (by decide +kernel)) ggX11_runCommands_X11_canPerform
