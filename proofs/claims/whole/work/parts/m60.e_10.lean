set_option maxRecDepth 20000 in
theorem gpX9_read_X9_readStatement_1 : GoodIn wsX9_read (Cond.code yX9_readStatement cX9_readStatement 3 (some .boolean) :: wsX9_readStatement_r1) := goodIn_r _ [57, 58, 59, 60, 18, 61, 24, 38, 62, 63, 64, 65, 66, 67, 68, 69, 70, 71, 72, 73, 74, 75, 76, 77, 78] (by decide +kernel) (by decide +kernel)
set_option maxRecDepth 20000 in
theorem gpX9_read_X9_readStatement_2 : GoodIn wsX9_read wsX9_readStatement_r2 := goodIn_r _ [79, 80, 81, 82, 83, 84, 85, 86, 87, 88, 89, 90, 91, 92, 93, 94, 95, 96, 97, 98, 99, 100, 101, 102] (by decide +kernel) (by decide +kernel)
set_option maxRecDepth 20000 in
theorem gpX9_read_X9_readStatement_3 : GoodIn wsX9_read wsX9_readStatement_r3 := goodIn_r _ [103, 104, 105, 106, 107, 108, 109, 110, 39, 40, 41, 111, 112, 113, 56, 114, 115, 116, 117, 118, 119, 120, 121, 122] (by decide +kernel) (by decide +kernel)
set_option maxRecDepth 20000 in
theorem gpX9_read_X9_readStatement_4 : GoodIn wsX9_read wsX9_readStatement_r4 := goodIn_r _ [23, 123, 124, 125, 126, 127, 128, 129, 130, 16, 17, 19, 20, 21, 22, 25, 26, 27, 28, 29, 30, 31, 32, 33] (by decide +kernel) (by decide +kernel)
set_option maxRecDepth 20000 in
theorem gpX9_read_X9_readStatement_5 : GoodIn wsX9_read wsX9_readStatement_r5 := goodIn_r _ [34, 35, 36, 37, 42, 43, 44, 45, 46, 47, 48, 49, 50, 51, 52, 131, 132, 133, 134, 6, 135, 8, 136, 137] (by decide +kernel) (by decide +kernel)
set_option maxRecDepth 20000 in
theorem gpX9_read_X9_readStatement_6 : GoodIn wsX9_read wsX9_readStatement_r6 := goodIn_r _ [138, 139, 140, 141, 142, 143, 144, 145, 146, 147, 148, 149, 13, 150, 151, 152, 153, 154, 155, 156, 157, 158, 159, 160] (by decide +kernel) (by decide +kernel)
set_option maxRecDepth 20000 in
theorem gpX9_read_X9_readStatement_7 : GoodIn wsX9_read wsX9_readStatement_r7 := goodIn_r _ [9, 161, 162, 163, 164, 165, 166, 167, 168, 169, 170, 171, 14, 172, 173, 174, 175, 176, 177, 178, 179, 180, 1, 181] (by decide +kernel) (by decide +kernel)
set_option maxRecDepth 20000 in
theorem gpX9_read_X9_readStatement_8 : GoodIn wsX9_read wsX9_readStatement_r8 := goodIn_r _ [182, 183, 184, 185, 186, 187, 188, 189, 190] (by decide +kernel) (by decide +kernel)
set_option maxRecDepth 20000 in
theorem gpX9_read_X9_readStatement_9 : GoodIn wsX9_read wsX100 := goodIn_r _ [192, 193, 194, 195, 196, 197, 198, 199, 200, 201, 202, 203] (by decide +kernel) (by decide +kernel)
set_option maxRecDepth 20000 in
theorem gpX9_read_X9_readStatement_10 : GoodIn wsX9_read wsX20 := goodIn_r _ [204, 205, 206, 207, 208, 209, 210, 211, 212, 213, 214, 215] (by decide +kernel) (by decide +kernel)
set_option maxRecDepth 20000 in
theorem gpX9_read_X9_readStatement_11 : GoodIn wsX9_read wsX90 := goodIn_r _ [191] (by decide +kernel) (by decide +kernel)
theorem ggX9_read_X9_readStatement : GoodIn wsX9_read wsX9_readStatement := (goodIn_ca (goodIn_ca (goodIn_ca (goodIn_ca gpX9_read_X9_readStatement_1 (goodIn_app gpX9_read_X9_readStatement_2 (goodIn_app gpX9_read_X9_readStatement_3 (goodIn_app gpX9_read_X9_readStatement_4 (goodIn_app gpX9_read_X9_readStatement_5 (goodIn_app gpX9_read_X9_readStatement_6 (goodIn_app gpX9_read_X9_readStatement_7 gpX9_read_X9_readStatement_8))))))) gpX9_read_X9_readStatement_9) gpX9_read_X9_readStatement_10) gpX9_read_X9_readStatement_11)
set_option maxRecDepth 20000 in
theorem gX9_read_X9_readStatement : GoodIn wsX9_read (wsV RX9 28 RX9 yX9_readStatement wsX9_readStatement) := goodIn_app (goodIn_of _ (by decide +kernel)) ggX9_read_X9_readStatement
