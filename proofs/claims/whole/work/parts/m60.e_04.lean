set_option maxRecDepth 20000 in
theorem gpX11_perform_X11_takeBest_1 : GoodIn wsX11_perform (Cond.code yX11_takeBest cX11_takeBest 5 (some .int) :: wsX11_takeBest_r1) := goodIn_s _ [(233, 1), (1, 1), (188, 1), (234, 1), (10, 1), (134, 1), (235, 1), (31, 7), (7, 1), (38, 1), (137, 1), (126, 4), (11, 1), (17, 3)] rfl (by decide +kernel)
set_option maxRecDepth 20000 in
theorem gpX11_perform_X11_takeBest_2 : GoodIn wsX11_perform wsX11_takeBest_r2 := goodIn_s _ [(20, 11), (39, 13)] rfl (by decide +kernel)
set_option maxRecDepth 20000 in
theorem gpX11_perform_X11_takeBest_3 : GoodIn wsX11_perform wsX11_takeBest_r3 := goodIn_s _ [(52, 24)] rfl (by decide +kernel)
set_option maxRecDepth 20000 in
theorem gpX11_perform_X11_takeBest_4 : GoodIn wsX11_perform wsX11_takeBest_r4 := goodIn_s _ [(76, 9), (130, 4), (135, 2), (138, 9)] rfl (by decide +kernel)
set_option maxRecDepth 20000 in
theorem gpX11_perform_X11_takeBest_5 : GoodIn wsX11_perform wsX11_takeBest_r5 := goodIn_s _ [(147, 16)] rfl (by decide +kernel)
set_option maxRecDepth 20000 in
theorem gpX11_perform_X11_takeBest_6 : GoodIn wsX11_perform wsX110 := goodIn_s _ [(275, 18)] rfl (by decide +kernel)
set_option maxRecDepth 20000 in
theorem gpX11_perform_X11_takeBest_7 : GoodIn wsX11_perform wsX00 := goodIn_s _ [(329, 5)] rfl (by decide +kernel)
set_option maxRecDepth 20000 in
theorem gpX11_perform_X11_takeBest_8 : GoodIn wsX11_perform wsX40 := goodIn_s _ [(312, 12)] rfl (by decide +kernel)
set_option maxRecDepth 20000 in
theorem gpX11_perform_X11_takeBest_9 : GoodIn wsX11_perform wsX80 := goodIn_s _ [(293, 7)] rfl (by decide +kernel)
set_option maxRecDepth 20000 in
theorem gpX11_perform_X11_takeBest_10 : GoodIn wsX11_perform wsX20 := goodIn_s _ [(300, 12)] rfl (by decide +kernel)
theorem ggX11_perform_X11_takeBest : GoodIn wsX11_perform wsX11_takeBest := (goodIn_ca (goodIn_ca (goodIn_ca (goodIn_ca (goodIn_ca (goodIn_ca gpX11_perform_X11_takeBest_1 (goodIn_app gpX11_perform_X11_takeBest_2 (goodIn_app gpX11_perform_X11_takeBest_3 (goodIn_app gpX11_perform_X11_takeBest_4 gpX11_perform_X11_takeBest_5)))) gpX11_perform_X11_takeBest_6) gpX11_perform_X11_takeBest_7) gpX11_perform_X11_takeBest_8) gpX11_perform_X11_takeBest_9) gpX11_perform_X11_takeBest_10)
set_option maxRecDepth 20000 in
theorem gX11_perform_X11_takeBest : GoodIn wsX11_perform (wsV RX11 239 RX11 yX11_takeBest wsX11_takeBest) := goodIn_app (goodIn_of _ (by decide +kernel)) ggX11_perform_X11_takeBest
set_option maxRecDepth 20000 in
theorem gpX11_perform_X11_takeApart_1 : GoodIn wsX11_perform (Cond.code yX11_takeApart cX11_takeApart 6 (some .int) :: wsX11_takeApart_r1) := goodIn_s _ [(239, 2), (11, 2), (241, 1), (1, 1), (242, 19)] rfl (by decide +kernel)
set_option maxRecDepth 20000 in
theorem gpX11_perform_X11_takeApart_2 : GoodIn wsX11_perform wsX11_takeApart_r2 := goodIn_s _ [(261, 1), (60, 3), (37, 1), (7, 1), (38, 1), (67, 2), (262, 7), (69, 2), (161, 2), (269, 4)] rfl (by decide +kernel)
set_option maxRecDepth 20000 in
theorem gpX11_perform_X11_takeApart_3 : GoodIn wsX11_perform wsX11_takeApart_r3 := goodIn_s _ [(273, 1), (153, 3), (274, 1), (137, 1), (126, 4), (10, 1), (17, 13)] rfl (by decide +kernel)
set_option maxRecDepth 20000 in
theorem gpX11_perform_X11_takeApart_4 : GoodIn wsX11_perform wsX11_takeApart_r4 := goodIn_s _ [(30, 7), (39, 17)] rfl (by decide +kernel)
set_option maxRecDepth 20000 in
theorem gpX11_perform_X11_takeApart_5 : GoodIn wsX11_perform wsX11_takeApart_r5 := goodIn_s _ [(56, 4), (63, 4), (71, 14), (130, 2)] rfl (by decide +kernel)
set_option maxRecDepth 20000 in
theorem gpX11_perform_X11_takeApart_6 : GoodIn wsX11_perform wsX11_takeApart_r6 := goodIn_s _ [(132, 5), (138, 15), (156, 4)] rfl (by decide +kernel)
set_option maxRecDepth 20000 in
theorem gpX11_perform_X11_takeApart_7 : GoodIn wsX11_perform wsX11_takeApart_r7 := goodIn_s _ [(160, 1)] rfl (by decide +kernel)
set_option maxRecDepth 20000 in
theorem gpX11_perform_X11_takeApart_8 : GoodIn wsX11_perform wsX110 := goodIn_s _ [(275, 18)] rfl (by decide +kernel)
set_option maxRecDepth 20000 in
theorem gpX11_perform_X11_takeApart_9 : GoodIn wsX11_perform wsX20 := goodIn_s _ [(300, 12)] rfl (by decide +kernel)
set_option maxRecDepth 20000 in
theorem gpX11_perform_X11_takeApart_10 : GoodIn wsX11_perform wsX10 := goodIn_s _ [(334, 6)] rfl (by decide +kernel)
set_option maxRecDepth 20000 in
theorem gpX11_perform_X11_takeApart_11 : GoodIn wsX11_perform wsX80 := goodIn_s _ [(293, 7)] rfl (by decide +kernel)
set_option maxRecDepth 20000 in
theorem gpX11_perform_X11_takeApart_12 : GoodIn wsX11_perform wsX40 := goodIn_s _ [(312, 12)] rfl (by decide +kernel)
theorem ggX11_perform_X11_takeApart : GoodIn wsX11_perform wsX11_takeApart := (goodIn_ca (goodIn_ca (goodIn_ca (goodIn_ca (goodIn_ca (goodIn_ca gpX11_perform_X11_takeApart_1 (goodIn_app gpX11_perform_X11_takeApart_2 (goodIn_app gpX11_perform_X11_takeApart_3 (goodIn_app gpX11_perform_X11_takeApart_4 (goodIn_app gpX11_perform_X11_takeApart_5 (goodIn_app gpX11_perform_X11_takeApart_6 gpX11_perform_X11_takeApart_7)))))) gpX11_perform_X11_takeApart_8) gpX11_perform_X11_takeApart_9) gpX11_perform_X11_takeApart_10) gpX11_perform_X11_takeApart_11) gpX11_perform_X11_takeApart_12)
set_option maxRecDepth 20000 in
theorem gX11_perform_X11_takeApart : GoodIn wsX11_perform (wsV RX11 242 RX11 yX11_takeApart wsX11_takeApart) := goodIn_app (goodIn_of _ (by decide +kernel)) ggX11_perform_X11_takeApart
set_option maxRecDepth 20000 in
theorem gpX11_whyNotShrink_X11_findPairs_1 : GoodIn wsX11_whyNotShrink (Cond.code yX11_findPairs cX11_findPairs 1 none :: wsX11_findPairs_r1) := goodIn_s _ [(9, 3), (1, 1), (3, 1), (12, 20)] rfl (by decide +kernel)
set_option maxRecDepth 20000 in
theorem gpX11_whyNotShrink_X11_findPairs_2 : GoodIn wsX11_whyNotShrink wsX11_findPairs_r2 := goodIn_s _ [(32, 1), (8, 1), (33, 22)] rfl (by decide +kernel)
set_option maxRecDepth 20000 in
theorem gpX11_whyNotShrink_X11_findPairs_3 : GoodIn wsX11_whyNotShrink wsX11_findPairs_r3 := goodIn_s _ [(55, 24)] rfl (by decide +kernel)
set_option maxRecDepth 20000 in
theorem gpX11_whyNotShrink_X11_findPairs_4 : GoodIn wsX11_whyNotShrink wsX11_findPairs_r4 := goodIn_s _ [(79, 24)] rfl (by decide +kernel)
set_option maxRecDepth 20000 in
theorem gpX11_whyNotShrink_X11_findPairs_5 : GoodIn wsX11_whyNotShrink wsX11_findPairs_r5 := goodIn_s _ [(103, 4)] rfl (by decide +kernel)
set_option maxRecDepth 20000 in
theorem gpX11_whyNotShrink_X11_findPairs_6 : GoodIn wsX11_whyNotShrink wsX110 := goodIn_s _ [(107, 18)] rfl (by decide +kernel)
set_option maxRecDepth 20000 in
theorem gpX11_whyNotShrink_X11_findPairs_7 : GoodIn wsX11_whyNotShrink wsX40 := goodIn_s _ [(137, 12)] rfl (by decide +kernel)
set_option maxRecDepth 20000 in
theorem gpX11_whyNotShrink_X11_findPairs_8 : GoodIn wsX11_whyNotShrink wsX20 := goodIn_s _ [(149, 12)] rfl (by decide +kernel)
set_option maxRecDepth 20000 in
theorem gpX11_whyNotShrink_X11_findPairs_9 : GoodIn wsX11_whyNotShrink wsX80 := goodIn_s _ [(125, 7)] rfl (by decide +kernel)
set_option maxRecDepth 20000 in
theorem gpX11_whyNotShrink_X11_findPairs_10 : GoodIn wsX11_whyNotShrink wsX50 := goodIn_s _ [(132, 5)] rfl (by decide +kernel)
theorem ggX11_whyNotShrink_X11_findPairs : GoodIn wsX11_whyNotShrink wsX11_findPairs := (goodIn_ca (goodIn_ca (goodIn_ca (goodIn_ca (goodIn_ca (goodIn_ca gpX11_whyNotShrink_X11_findPairs_1 (goodIn_app gpX11_whyNotShrink_X11_findPairs_2 (goodIn_app gpX11_whyNotShrink_X11_findPairs_3 (goodIn_app gpX11_whyNotShrink_X11_findPairs_4 gpX11_whyNotShrink_X11_findPairs_5)))) gpX11_whyNotShrink_X11_findPairs_6) gpX11_whyNotShrink_X11_findPairs_7) gpX11_whyNotShrink_X11_findPairs_8) gpX11_whyNotShrink_X11_findPairs_9) gpX11_whyNotShrink_X11_findPairs_10)
set_option maxRecDepth 20000 in
theorem gX11_whyNotShrink_X11_findPairs : GoodIn wsX11_whyNotShrink (wsV RX11 392 RX11 yX11_findPairs wsX11_findPairs) := goodIn_app (goodIn_of _ (by decide +kernel)) ggX11_whyNotShrink_X11_findPairs
set_option maxRecDepth 20000 in
theorem gpX11_mate_X11_findPairs_1 : GoodIn wsX11_mate (Cond.code yX11_findPairs cX11_findPairs 1 none :: wsX11_findPairs_r1) := goodIn_s _ [(27, 3), (14, 1), (1, 1), (30, 14), (16, 6)] rfl (by decide +kernel)
set_option maxRecDepth 20000 in
theorem gpX11_mate_X11_findPairs_2 : GoodIn wsX11_mate wsX11_findPairs_r2 := goodIn_s _ [(22, 1), (6, 1), (23, 1), (44, 21)] rfl (by decide +kernel)
set_option maxRecDepth 20000 in
theorem gpX11_mate_X11_findPairs_3 : GoodIn wsX11_mate wsX11_findPairs_r3 := goodIn_s _ [(65, 24)] rfl (by decide +kernel)
set_option maxRecDepth 20000 in
theorem gpX11_mate_X11_findPairs_4 : GoodIn wsX11_mate wsX11_findPairs_r4 := goodIn_s _ [(89, 24)] rfl (by decide +kernel)
set_option maxRecDepth 20000 in
theorem gpX11_mate_X11_findPairs_5 : GoodIn wsX11_mate wsX11_findPairs_r5 := goodIn_s _ [(113, 4)] rfl (by decide +kernel)
set_option maxRecDepth 20000 in
theorem gpX11_mate_X11_findPairs_6 : GoodIn wsX11_mate wsX110 := goodIn_s _ [(118, 18)] rfl (by decide +kernel)
set_option maxRecDepth 20000 in
theorem gpX11_mate_X11_findPairs_7 : GoodIn wsX11_mate wsX40 := goodIn_s _ [(148, 12)] rfl (by decide +kernel)
set_option maxRecDepth 20000 in
theorem gpX11_mate_X11_findPairs_8 : GoodIn wsX11_mate wsX20 := goodIn_s _ [(160, 12)] rfl (by decide +kernel)
set_option maxRecDepth 20000 in
theorem gpX11_mate_X11_findPairs_9 : GoodIn wsX11_mate wsX80 := goodIn_s _ [(141, 7)] rfl (by decide +kernel)
set_option maxRecDepth 20000 in
theorem gpX11_mate_X11_findPairs_10 : GoodIn wsX11_mate wsX50 := goodIn_s _ [(136, 5)] rfl (by decide +kernel)
theorem ggX11_mate_X11_findPairs : GoodIn wsX11_mate wsX11_findPairs := (goodIn_ca (goodIn_ca (goodIn_ca (goodIn_ca (goodIn_ca (goodIn_ca gpX11_mate_X11_findPairs_1 (goodIn_app gpX11_mate_X11_findPairs_2 (goodIn_app gpX11_mate_X11_findPairs_3 (goodIn_app gpX11_mate_X11_findPairs_4 gpX11_mate_X11_findPairs_5)))) gpX11_mate_X11_findPairs_6) gpX11_mate_X11_findPairs_7) gpX11_mate_X11_findPairs_8) gpX11_mate_X11_findPairs_9) gpX11_mate_X11_findPairs_10)
set_option maxRecDepth 20000 in
theorem gX11_mate_X11_findPairs : GoodIn wsX11_mate (wsV RX11 392 RX11 yX11_findPairs wsX11_findPairs) := goodIn_app (goodIn_of _ (by decide +kernel)) ggX11_mate_X11_findPairs
