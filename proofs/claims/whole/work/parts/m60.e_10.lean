set_option maxRecDepth 20000 in
theorem gpX9_read_X9_readStatement_1 : GoodIn wsX9_read (Cond.code yX9_readStatement cX9_readStatement 3 (some .boolean) :: wsX9_readStatement_r1) := goodIn_s _ [(57, 4), (18, 1), (61, 1), (24, 1), (38, 1), (62, 17)] rfl (by decide +kernel)
set_option maxRecDepth 20000 in
theorem gpX9_read_X9_readStatement_2 : GoodIn wsX9_read wsX9_readStatement_r2 := goodIn_s _ [(79, 24)] rfl (by decide +kernel)
set_option maxRecDepth 20000 in
theorem gpX9_read_X9_readStatement_3 : GoodIn wsX9_read wsX9_readStatement_r3 := goodIn_s _ [(103, 8), (39, 3), (111, 3), (56, 1), (114, 9)] rfl (by decide +kernel)
set_option maxRecDepth 20000 in
theorem gpX9_read_X9_readStatement_4 : GoodIn wsX9_read wsX9_readStatement_r4 := goodIn_s _ [(23, 1), (123, 8), (16, 2), (19, 4), (25, 9)] rfl (by decide +kernel)
set_option maxRecDepth 20000 in
theorem gpX9_read_X9_readStatement_5 : GoodIn wsX9_read wsX9_readStatement_r5 := goodIn_s _ [(34, 4), (42, 11), (131, 4), (6, 1), (135, 1), (8, 1), (136, 2)] rfl (by decide +kernel)
set_option maxRecDepth 20000 in
theorem gpX9_read_X9_readStatement_6 : GoodIn wsX9_read wsX9_readStatement_r6 := goodIn_s _ [(138, 12), (13, 1), (150, 11)] rfl (by decide +kernel)
set_option maxRecDepth 20000 in
theorem gpX9_read_X9_readStatement_7 : GoodIn wsX9_read wsX9_readStatement_r7 := goodIn_s _ [(9, 1), (161, 11), (14, 1), (172, 9), (1, 1), (181, 1)] rfl (by decide +kernel)
set_option maxRecDepth 20000 in
theorem gpX9_read_X9_readStatement_8 : GoodIn wsX9_read wsX9_readStatement_r8 := goodIn_s _ [(182, 9)] rfl (by decide +kernel)
set_option maxRecDepth 20000 in
theorem gpX9_read_X9_readStatement_9 : GoodIn wsX9_read wsX100 := goodIn_s _ [(192, 12)] rfl (by decide +kernel)
set_option maxRecDepth 20000 in
theorem gpX9_read_X9_readStatement_10 : GoodIn wsX9_read wsX20 := goodIn_s _ [(204, 12)] rfl (by decide +kernel)
set_option maxRecDepth 20000 in
theorem gpX9_read_X9_readStatement_11 : GoodIn wsX9_read wsX90 := goodIn_s _ [(191, 1)] rfl (by decide +kernel)
theorem ggX9_read_X9_readStatement : GoodIn wsX9_read wsX9_readStatement := (goodIn_ca (goodIn_ca (goodIn_ca (goodIn_ca gpX9_read_X9_readStatement_1 (goodIn_app gpX9_read_X9_readStatement_2 (goodIn_app gpX9_read_X9_readStatement_3 (goodIn_app gpX9_read_X9_readStatement_4 (goodIn_app gpX9_read_X9_readStatement_5 (goodIn_app gpX9_read_X9_readStatement_6 (goodIn_app gpX9_read_X9_readStatement_7 gpX9_read_X9_readStatement_8))))))) gpX9_read_X9_readStatement_9) gpX9_read_X9_readStatement_10) gpX9_read_X9_readStatement_11)
set_option maxRecDepth 20000 in
theorem gX9_read_X9_readStatement : GoodIn wsX9_read (wsV RX9 28 RX9 yX9_readStatement wsX9_readStatement) := goodIn_app (goodIn_of _ (by decide +kernel)) ggX9_read_X9_readStatement
