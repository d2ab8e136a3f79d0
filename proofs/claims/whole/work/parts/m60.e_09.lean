set_option maxRecDepth 20000 in
theorem gpX11_placeApart_X11_takeApart_1 : GoodIn wsX11_placeApart (Cond.code yX11_takeApart cX11_takeApart 6 (some .int) :: wsX11_takeApart_r1) := goodIn_s _ [(64, 2), (18, 2), (66, 1), (6, 1), (67, 19)] rfl (by decide +kernel)
set_option maxRecDepth 20000 in
theorem gpX11_placeApart_X11_takeApart_2 : GoodIn wsX11_placeApart wsX11_takeApart_r2 := goodIn_s _ [(86, 5), (10, 1), (91, 18)] rfl (by decide +kernel)
set_option maxRecDepth 20000 in
theorem gpX11_placeApart_X11_takeApart_3 : GoodIn wsX11_placeApart wsX11_takeApart_r3 := goodIn_s _ [(109, 1), (34, 3), (110, 20)] rfl (by decide +kernel)
set_option maxRecDepth 20000 in
theorem gpX11_placeApart_X11_takeApart_4 : GoodIn wsX11_placeApart wsX11_takeApart_r4 := goodIn_s _ [(130, 3), (45, 1), (133, 1), (51, 1), (47, 1), (134, 17)] rfl (by decide +kernel)
set_option maxRecDepth 20000 in
theorem gpX11_placeApart_X11_takeApart_5 : GoodIn wsX11_placeApart wsX11_takeApart_r5 := goodIn_s _ [(151, 24)] rfl (by decide +kernel)
set_option maxRecDepth 20000 in
theorem gpX11_placeApart_X11_takeApart_6 : GoodIn wsX11_placeApart wsX11_takeApart_r6 := goodIn_s _ [(175, 13), (53, 1), (188, 1), (58, 3), (49, 1), (189, 5)] rfl (by decide +kernel)
set_option maxRecDepth 20000 in
theorem gpX11_placeApart_X11_takeApart_7 : GoodIn wsX11_placeApart wsX11_takeApart_r7 := goodIn_s _ [(50, 1)] rfl (by decide +kernel)
set_option maxRecDepth 20000 in
theorem gpX11_placeApart_X11_takeApart_8 : GoodIn wsX11_placeApart wsX110 := goodIn_s _ [(194, 18)] rfl (by decide +kernel)
set_option maxRecDepth 20000 in
theorem gpX11_placeApart_X11_takeApart_9 : GoodIn wsX11_placeApart wsX20 := goodIn_s _ [(212, 12)] rfl (by decide +kernel)
set_option maxRecDepth 20000 in
theorem gpX11_placeApart_X11_takeApart_10 : GoodIn wsX11_placeApart wsX10 := goodIn_s _ [(234, 6)] rfl (by decide +kernel)
set_option maxRecDepth 20000 in
theorem gpX11_placeApart_X11_takeApart_11 : GoodIn wsX11_placeApart wsX80 := goodIn_s _ [(224, 7)] rfl (by decide +kernel)
set_option maxRecDepth 20000 in
theorem gpX11_placeApart_X11_takeApart_12 : GoodIn wsX11_placeApart wsX40 := goodIn_s _ [(240, 12)] rfl (by decide +kernel)
theorem ggX11_placeApart_X11_takeApart : GoodIn wsX11_placeApart wsX11_takeApart := (goodIn_ca (goodIn_ca (goodIn_ca (goodIn_ca (goodIn_ca (goodIn_ca gpX11_placeApart_X11_takeApart_1 (goodIn_app gpX11_placeApart_X11_takeApart_2 (goodIn_app gpX11_placeApart_X11_takeApart_3 (goodIn_app gpX11_placeApart_X11_takeApart_4 (goodIn_app gpX11_placeApart_X11_takeApart_5 (goodIn_app gpX11_placeApart_X11_takeApart_6 gpX11_placeApart_X11_takeApart_7)))))) gpX11_placeApart_X11_takeApart_8) gpX11_placeApart_X11_takeApart_9) gpX11_placeApart_X11_takeApart_10) gpX11_placeApart_X11_takeApart_11) gpX11_placeApart_X11_takeApart_12)
set_option maxRecDepth 20000 in
theorem gX11_placeApart_X11_takeApart : GoodIn wsX11_placeApart (wsV RX11 242 RX11 yX11_takeApart wsX11_takeApart) := goodIn_app (goodIn_of _ (by decide +kernel)) ggX11_placeApart_X11_takeApart
set_option maxRecDepth 20000 in
theorem gpX11_takeApart_X11_takeTo_1 : GoodIn wsX11_takeApart (Cond.code yX11_takeTo cX11_takeTo 3 none :: wsX11_takeTo_r1) := goodIn_s _ [(58, 2), (2, 1), (5, 1), (60, 20), (29, 1)] rfl (by decide +kernel)
set_option maxRecDepth 20000 in
theorem gpX11_takeApart_X11_takeTo_2 : GoodIn wsX11_takeApart wsX11_takeTo_r2 := goodIn_s _ [(30, 2), (80, 21), (26, 1)] rfl (by decide +kernel)
set_option maxRecDepth 20000 in
theorem gpX11_takeApart_X11_takeTo_3 : GoodIn wsX11_takeApart wsX11_takeTo_r3 := goodIn_s _ [(27, 2), (101, 4), (32, 2), (41, 2), (105, 14)] rfl (by decide +kernel)
set_option maxRecDepth 20000 in
theorem gpX11_takeApart_X11_takeTo_4 : GoodIn wsX11_takeApart wsX11_takeTo_r4 := goodIn_s _ [(119, 7), (54, 1), (126, 15), (50, 1)] rfl (by decide +kernel)
set_option maxRecDepth 20000 in
theorem gpX11_takeApart_X11_takeTo_5 : GoodIn wsX11_takeApart wsX11_takeTo_r5 := goodIn_s _ [(51, 2), (141, 5), (43, 2)] rfl (by decide +kernel)
set_option maxRecDepth 20000 in
theorem gpX11_takeApart_X11_takeTo_6 : GoodIn wsX11_takeApart wsX110 := goodIn_s _ [(146, 18)] rfl (by decide +kernel)
set_option maxRecDepth 20000 in
theorem gpX11_takeApart_X11_takeTo_7 : GoodIn wsX11_takeApart wsX40 := goodIn_s _ [(189, 12)] rfl (by decide +kernel)
set_option maxRecDepth 20000 in
theorem gpX11_takeApart_X11_takeTo_8 : GoodIn wsX11_takeApart wsX20 := goodIn_s _ [(164, 12)] rfl (by decide +kernel)
set_option maxRecDepth 20000 in
theorem gpX11_takeApart_X11_takeTo_9 : GoodIn wsX11_takeApart wsX80 := goodIn_s _ [(182, 7)] rfl (by decide +kernel)
theorem ggX11_takeApart_X11_takeTo : GoodIn wsX11_takeApart wsX11_takeTo := (goodIn_ca (goodIn_ca (goodIn_ca (goodIn_ca (goodIn_ca gpX11_takeApart_X11_takeTo_1 (goodIn_app gpX11_takeApart_X11_takeTo_2 (goodIn_app gpX11_takeApart_X11_takeTo_3 (goodIn_app gpX11_takeApart_X11_takeTo_4 gpX11_takeApart_X11_takeTo_5)))) gpX11_takeApart_X11_takeTo_6) gpX11_takeApart_X11_takeTo_7) gpX11_takeApart_X11_takeTo_8) gpX11_takeApart_X11_takeTo_9)
set_option maxRecDepth 20000 in
theorem gX11_takeApart_X11_takeTo : GoodIn wsX11_takeApart (wsV RX11 228 RX11 yX11_takeTo wsX11_takeTo) := goodIn_app (goodIn_of _ (by decide +kernel)) ggX11_takeApart_X11_takeTo
set_option maxRecDepth 20000 in
theorem gpX7_read_X7_readCommand_1 : GoodIn wsX7_read (Cond.code yX7_readCommand cX7_readCommand 5 (some .boolean) :: wsX7_readCommand_r1) := goodIn_s _ [(84, 1), (2, 1), (85, 4), (59, 1), (89, 4), (13, 1), (93, 1), (19, 1), (33, 1), (94, 10)] rfl (by decide +kernel)
set_option maxRecDepth 20000 in
theorem gpX7_read_X7_readCommand_2 : GoodIn wsX7_read wsX7_readCommand_r2 := goodIn_s _ [(104, 24)] rfl (by decide +kernel)
set_option maxRecDepth 20000 in
theorem gpX7_read_X7_readCommand_3 : GoodIn wsX7_read wsX7_readCommand_r3 := goodIn_s _ [(128, 15), (34, 3), (48, 5), (18, 1)] rfl (by decide +kernel)
set_option maxRecDepth 20000 in
theorem gpX7_read_X7_readCommand_4 : GoodIn wsX7_read wsX7_readCommand_r4 := goodIn_s _ [(53, 3), (143, 5), (61, 1), (148, 5), (44, 1), (79, 1), (11, 2), (14, 4), (20, 2)] rfl (by decide +kernel)
set_option maxRecDepth 20000 in
theorem gpX7_read_X7_readCommand_5 : GoodIn wsX7_read wsX7_readCommand_r5 := goodIn_s _ [(22, 11), (37, 7), (45, 3), (80, 1), (75, 2)] rfl (by decide +kernel)
set_option maxRecDepth 20000 in
theorem gpX7_read_X7_readCommand_6 : GoodIn wsX7_read wsX7_readCommand_r6 := goodIn_s _ [(77, 2), (73, 2), (153, 3), (6, 1), (156, 1), (9, 1), (66, 5), (8, 1), (71, 2), (157, 6)] rfl (by decide +kernel)
set_option maxRecDepth 20000 in
theorem gpX7_read_X7_readCommand_7 : GoodIn wsX7_read wsX7_readCommand_r7 := goodIn_s _ [(163, 11), (1, 1), (10, 1), (174, 11)] rfl (by decide +kernel)
set_option maxRecDepth 20000 in
theorem gpX7_read_X7_readCommand_8 : GoodIn wsX7_read wsX100 := goodIn_s _ [(185, 12)] rfl (by decide +kernel)
set_option maxRecDepth 20000 in
theorem gpX7_read_X7_readCommand_9 : GoodIn wsX7_read wsX60 := goodIn_s _ [(197, 6)] rfl (by decide +kernel)
set_option maxRecDepth 20000 in
theorem gpX7_read_X7_readCommand_10 : GoodIn wsX7_read wsX70 := goodIn_s _ [(203, 1)] rfl (by decide +kernel)
set_option maxRecDepth 20000 in
theorem gpX7_read_X7_readCommand_11 : GoodIn wsX7_read wsX20 := goodIn_s _ [(204, 12)] rfl (by decide +kernel)
theorem ggX7_read_X7_readCommand : GoodIn wsX7_read wsX7_readCommand := (goodIn_ca (goodIn_ca (goodIn_ca (goodIn_ca (goodIn_ca gpX7_read_X7_readCommand_1 (goodIn_app gpX7_read_X7_readCommand_2 (goodIn_app gpX7_read_X7_readCommand_3 (goodIn_app gpX7_read_X7_readCommand_4 (goodIn_app gpX7_read_X7_readCommand_5 (goodIn_app gpX7_read_X7_readCommand_6 gpX7_read_X7_readCommand_7)))))) gpX7_read_X7_readCommand_8) gpX7_read_X7_readCommand_9) gpX7_read_X7_readCommand_10) gpX7_read_X7_readCommand_11)
set_option maxRecDepth 20000 in
theorem gX7_read_X7_readCommand : GoodIn wsX7_read (wsV RX7 40 RX7 yX7_readCommand wsX7_readCommand) := goodIn_app (goodIn_of _ (by decide +kernel)) ggX7_read_X7_readCommand
