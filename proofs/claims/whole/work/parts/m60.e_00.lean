set_option maxRecDepth 20000 in
theorem gpX11_readText_X9_read_1 : GoodIn wsX11_readText (Cond.code yX9_read cX9_read 4 (some .boolean) :: wsX9_read_r1) := goodIn_s _ [(28, 18), (13, 1), (46, 1), (18, 1), (16, 1), (47, 1), (17, 1), (19, 1)] rfl (by decide +kernel)
set_option maxRecDepth 20000 in
theorem gpX11_readText_X9_read_2 : GoodIn wsX11_readText wsX9_read_r2 := goodIn_s _ [(48, 24)] rfl (by decide +kernel)
set_option maxRecDepth 20000 in
theorem gpX11_readText_X9_read_3 : GoodIn wsX11_readText wsX9_read_r3 := goodIn_s _ [(72, 7), (27, 1), (79, 16)] rfl (by decide +kernel)
set_option maxRecDepth 20000 in
theorem gpX11_readText_X9_read_4 : GoodIn wsX11_readText wsX9_read_r4 := goodIn_s _ [(95, 24)] rfl (by decide +kernel)
set_option maxRecDepth 20000 in
theorem gpX11_readText_X9_read_5 : GoodIn wsX11_readText wsX9_read_r5 := goodIn_s _ [(119, 24)] rfl (by decide +kernel)
set_option maxRecDepth 20000 in
theorem gpX11_readText_X9_read_6 : GoodIn wsX11_readText wsX9_read_r6 := goodIn_s _ [(143, 1), (21, 2), (20, 1), (23, 1), (144, 19)] rfl (by decide +kernel)
set_option maxRecDepth 20000 in
theorem gpX11_readText_X9_read_7 : GoodIn wsX11_readText wsX9_read_r7 := goodIn_s _ [(163, 24)] rfl (by decide +kernel)
set_option maxRecDepth 20000 in
theorem gpX11_readText_X9_read_8 : GoodIn wsX11_readText wsX9_read_r8 := goodIn_s _ [(187, 22)] rfl (by decide +kernel)
set_option maxRecDepth 20000 in
theorem gpX11_readText_X9_read_9 : GoodIn wsX11_readText wsX90 := goodIn_s _ [(289, 1)] rfl (by decide +kernel)
set_option maxRecDepth 20000 in
theorem gpX11_readText_X9_read_10 : GoodIn wsX11_readText wsX100 := goodIn_s _ [(277, 12)] rfl (by decide +kernel)
set_option maxRecDepth 20000 in
theorem gpX11_readText_X9_read_11 : GoodIn wsX11_readText wsX20 := goodIn_s _ [(265, 12)] rfl (by decide +kernel)
theorem ggX11_readText_X9_read : GoodIn wsX11_readText wsX9_read := (goodIn_ca (goodIn_ca (goodIn_ca (goodIn_ca gpX11_readText_X9_read_1 (goodIn_app gpX11_readText_X9_read_2 (goodIn_app gpX11_readText_X9_read_3 (goodIn_app gpX11_readText_X9_read_4 (goodIn_app gpX11_readText_X9_read_5 (goodIn_app gpX11_readText_X9_read_6 (goodIn_app gpX11_readText_X9_read_7 gpX11_readText_X9_read_8))))))) gpX11_readText_X9_read_9) gpX11_readText_X9_read_10) gpX11_readText_X9_read_11)
set_option maxRecDepth 20000 in
theorem gX11_readText_X9_read : GoodIn wsX11_readText (wsV RX11 125 RX9 yX9_read wsX9_read) := goodIn_app (goodIn_of _ (by decide +kernel)) ggX11_readText_X9_read
set_option maxRecDepth 20000 in
theorem gpX11_runScript_X7_read_1 : GoodIn wsX11_runScript (Cond.code yX7_read cX7_read 6 (some .boolean) :: wsX7_read_r1) := goodIn_s _ [(27, 13), (12, 1), (40, 1), (17, 1), (15, 1), (41, 1), (16, 1), (18, 1), (42, 5)] rfl (by decide +kernel)
set_option maxRecDepth 20000 in
theorem gpX11_runScript_X7_read_2 : GoodIn wsX11_runScript wsX7_read_r2 := goodIn_s _ [(47, 24)] rfl (by decide +kernel)
set_option maxRecDepth 20000 in
theorem gpX11_runScript_X7_read_3 : GoodIn wsX11_runScript wsX7_read_r3 := goodIn_s _ [(71, 3), (20, 2), (19, 1), (22, 1), (74, 3), (26, 1), (77, 13)] rfl (by decide +kernel)
set_option maxRecDepth 20000 in
theorem gpX11_runScript_X7_read_4 : GoodIn wsX11_runScript wsX7_read_r4 := goodIn_s _ [(90, 24)] rfl (by decide +kernel)
set_option maxRecDepth 20000 in
theorem gpX11_runScript_X7_read_5 : GoodIn wsX11_runScript wsX7_read_r5 := goodIn_s _ [(114, 24)] rfl (by decide +kernel)
set_option maxRecDepth 20000 in
theorem gpX11_runScript_X7_read_6 : GoodIn wsX11_runScript wsX7_read_r6 := goodIn_s _ [(138, 24)] rfl (by decide +kernel)
set_option maxRecDepth 20000 in
theorem gpX11_runScript_X7_read_7 : GoodIn wsX11_runScript wsX7_read_r7 := goodIn_s _ [(162, 24)] rfl (by decide +kernel)
set_option maxRecDepth 20000 in
theorem gpX11_runScript_X7_read_8 : GoodIn wsX11_runScript wsX7_read_r8 := goodIn_s _ [(186, 16)] rfl (by decide +kernel)
set_option maxRecDepth 20000 in
theorem gpX11_runScript_X7_read_9 : GoodIn wsX11_runScript wsX100 := goodIn_s _ [(586, 12)] rfl (by decide +kernel)
set_option maxRecDepth 20000 in
theorem gpX11_runScript_X7_read_10 : GoodIn wsX11_runScript wsX60 := goodIn_s _ [(598, 6)] rfl (by decide +kernel)
set_option maxRecDepth 20000 in
theorem gpX11_runScript_X7_read_11 : GoodIn wsX11_runScript wsX70 := goodIn_s _ [(604, 1)] rfl (by decide +kernel)
set_option maxRecDepth 20000 in
theorem gpX11_runScript_X7_read_12 : GoodIn wsX11_runScript wsX20 := goodIn_s _ [(605, 12)] rfl (by decide +kernel)
theorem ggX11_runScript_X7_read : GoodIn wsX11_runScript wsX7_read := (goodIn_ca (goodIn_ca (goodIn_ca (goodIn_ca (goodIn_ca gpX11_runScript_X7_read_1 (goodIn_app gpX11_runScript_X7_read_2 (goodIn_app gpX11_runScript_X7_read_3 (goodIn_app gpX11_runScript_X7_read_4 (goodIn_app gpX11_runScript_X7_read_5 (goodIn_app gpX11_runScript_X7_read_6 (goodIn_app gpX11_runScript_X7_read_7 gpX11_runScript_X7_read_8))))))) gpX11_runScript_X7_read_9) gpX11_runScript_X7_read_10) gpX11_runScript_X7_read_11) gpX11_runScript_X7_read_12)
set_option maxRecDepth 20000 in
theorem gX11_runScript_X7_read : GoodIn wsX11_runScript (wsV RX11 144 RX7 yX7_read wsX7_read) := goodIn_app (goodIn_of _ (by decide +kernel)) ggX11_runScript_X7_read
