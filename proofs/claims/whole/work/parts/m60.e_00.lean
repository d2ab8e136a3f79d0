set_option maxRecDepth 20000 in
theorem gpX11_readText_X9_read_1 : GoodIn wsX11_readText (Cond.code yX9_read cX9_read 4 (some .boolean) :: wsX9_read_r1) := goodIn_r _ [28, 29, 30, 31, 32, 33, 34, 35, 36, 37, 38, 39, 40, 41, 42, 43, 44, 45, 13, 46, 18, 16, 47, 17, 19] (by decide +kernel) (by decide +kernel)
set_option maxRecDepth 20000 in
theorem gpX11_readText_X9_read_2 : GoodIn wsX11_readText wsX9_read_r2 := goodIn_r _ [48, 49, 50, 51, 52, 53, 54, 55, 56, 57, 58, 59, 60, 61, 62, 63, 64, 65, 66, 67, 68, 69, 70, 71] (by decide +kernel) (by decide +kernel)
set_option maxRecDepth 20000 in
theorem gpX11_readText_X9_read_3 : GoodIn wsX11_readText wsX9_read_r3 := goodIn_r _ [72, 73, 74, 75, 76, 77, 78, 27, 79, 80, 81, 82, 83, 84, 85, 86, 87, 88, 89, 90, 91, 92, 93, 94] (by decide +kernel) (by decide +kernel)
set_option maxRecDepth 20000 in
theorem gpX11_readText_X9_read_4 : GoodIn wsX11_readText wsX9_read_r4 := goodIn_r _ [95, 96, 97, 98, 99, 100, 101, 102, 103, 104, 105, 106, 107, 108, 109, 110, 111, 112, 113, 114, 115, 116, 117, 118] (by decide +kernel) (by decide +kernel)
set_option maxRecDepth 20000 in
theorem gpX11_readText_X9_read_5 : GoodIn wsX11_readText wsX9_read_r5 := goodIn_r _ [119, 120, 121, 122, 123, 124, 125, 126, 127, 128, 129, 130, 131, 132, 133, 134, 135, 136, 137, 138, 139, 140, 141, 142] (by decide +kernel) (by decide +kernel)
set_option maxRecDepth 20000 in
theorem gpX11_readText_X9_read_6 : GoodIn wsX11_readText wsX9_read_r6 := goodIn_r _ [143, 21, 22, 20, 23, 144, 145, 146, 147, 148, 149, 150, 151, 152, 153, 154, 155, 156, 157, 158, 159, 160, 161, 162] (by decide +kernel) (by decide +kernel)
set_option maxRecDepth 20000 in
theorem gpX11_readText_X9_read_7 : GoodIn wsX11_readText wsX9_read_r7 := goodIn_r _ [163, 164, 165, 166, 167, 168, 169, 170, 171, 172, 173, 174, 175, 176, 177, 178, 179, 180, 181, 182, 183, 184, 185, 186] (by decide +kernel) (by decide +kernel)
set_option maxRecDepth 20000 in
theorem gpX11_readText_X9_read_8 : GoodIn wsX11_readText wsX9_read_r8 := goodIn_r _ [187, 188, 189, 190, 191, 192, 193, 194, 195, 196, 197, 198, 199, 200, 201, 202, 203, 204, 205, 206, 207, 208] (by decide +kernel) (by decide +kernel)
set_option maxRecDepth 20000 in
theorem gpX11_readText_X9_read_9 : GoodIn wsX11_readText wsX90 := goodIn_r _ [289] (by decide +kernel) (by decide +kernel)
set_option maxRecDepth 20000 in
theorem gpX11_readText_X9_read_10 : GoodIn wsX11_readText wsX100 := goodIn_r _ [277, 278, 279, 280, 281, 282, 283, 284, 285, 286, 287, 288] (by decide +kernel) (by decide +kernel)
set_option maxRecDepth 20000 in
theorem gpX11_readText_X9_read_11 : GoodIn wsX11_readText wsX20 := goodIn_r _ [265, 266, 267, 268, 269, 270, 271, 272, 273, 274, 275, 276] (by decide +kernel) (by decide +kernel)
theorem ggX11_readText_X9_read : GoodIn wsX11_readText wsX9_read := (goodIn_ca (goodIn_ca (goodIn_ca (goodIn_ca gpX11_readText_X9_read_1 (goodIn_app gpX11_readText_X9_read_2 (goodIn_app gpX11_readText_X9_read_3 (goodIn_app gpX11_readText_X9_read_4 (goodIn_app gpX11_readText_X9_read_5 (goodIn_app gpX11_readText_X9_read_6 (goodIn_app gpX11_readText_X9_read_7 gpX11_readText_X9_read_8))))))) gpX11_readText_X9_read_9) gpX11_readText_X9_read_10) gpX11_readText_X9_read_11)
set_option maxRecDepth 20000 in
theorem gX11_readText_X9_read : GoodIn wsX11_readText (wsV RX11 125 RX9 yX9_read wsX9_read) := goodIn_app (goodIn_of _ (by decide +kernel)) ggX11_readText_X9_read
set_option maxRecDepth 20000 in
theorem gpX11_runScript_X7_read_1 : GoodIn wsX11_runScript (Cond.code yX7_read cX7_read 6 (some .boolean) :: wsX7_read_r1) := goodIn_r _ [27, 28, 29, 30, 31, 32, 33, 34, 35, 36, 37, 38, 39, 12, 40, 17, 15, 41, 16, 18, 42, 43, 44, 45, 46] (by decide +kernel) (by decide +kernel)
set_option maxRecDepth 20000 in
theorem gpX11_runScript_X7_read_2 : GoodIn wsX11_runScript wsX7_read_r2 := goodIn_r _ [47, 48, 49, 50, 51, 52, 53, 54, 55, 56, 57, 58, 59, 60, 61, 62, 63, 64, 65, 66, 67, 68, 69, 70] (by decide +kernel) (by decide +kernel)
set_option maxRecDepth 20000 in
theorem gpX11_runScript_X7_read_3 : GoodIn wsX11_runScript wsX7_read_r3 := goodIn_r _ [71, 72, 73, 20, 21, 19, 22, 74, 75, 76, 26, 77, 78, 79, 80, 81, 82, 83, 84, 85, 86, 87, 88, 89] (by decide +kernel) (by decide +kernel)
set_option maxRecDepth 20000 in
theorem gpX11_runScript_X7_read_4 : GoodIn wsX11_runScript wsX7_read_r4 := goodIn_r _ [90, 91, 92, 93, 94, 95, 96, 97, 98, 99, 100, 101, 102, 103, 104, 105, 106, 107, 108, 109, 110, 111, 112, 113] (by decide +kernel) (by decide +kernel)
set_option maxRecDepth 20000 in
theorem gpX11_runScript_X7_read_5 : GoodIn wsX11_runScript wsX7_read_r5 := goodIn_r _ [114, 115, 116, 117, 118, 119, 120, 121, 122, 123, 124, 125, 126, 127, 128, 129, 130, 131, 132, 133, 134, 135, 136, 137] (by decide +kernel) (by decide +kernel)
set_option maxRecDepth 20000 in
theorem gpX11_runScript_X7_read_6 : GoodIn wsX11_runScript wsX7_read_r6 := goodIn_r _ [138, 139, 140, 141, 142, 143, 144, 145, 146, 147, 148, 149, 150, 151, 152, 153, 154, 155, 156, 157, 158, 159, 160, 161] (by decide +kernel) (by decide +kernel)
set_option maxRecDepth 20000 in
theorem gpX11_runScript_X7_read_7 : GoodIn wsX11_runScript wsX7_read_r7 := goodIn_r _ [162, 163, 164, 165, 166, 167, 168, 169, 170, 171, 172, 173, 174, 175, 176, 177, 178, 179, 180, 181, 182, 183, 184, 185] (by decide +kernel) (by decide +kernel)
set_option maxRecDepth 20000 in
theorem gpX11_runScript_X7_read_8 : GoodIn wsX11_runScript wsX7_read_r8 := goodIn_r _ [186, 187, 188, 189, 190, 191, 192, 193, 194, 195, 196, 197, 198, 199, 200, 201] (by decide +kernel) (by decide +kernel)
set_option maxRecDepth 20000 in
theorem gpX11_runScript_X7_read_9 : GoodIn wsX11_runScript wsX100 := goodIn_r _ [586, 587, 588, 589, 590, 591, 592, 593, 594, 595, 596, 597] (by decide +kernel) (by decide +kernel)
set_option maxRecDepth 20000 in
theorem gpX11_runScript_X7_read_10 : GoodIn wsX11_runScript wsX60 := goodIn_r _ [598, 599, 600, 601, 602, 603] (by decide +kernel) (by decide +kernel)
set_option maxRecDepth 20000 in
theorem gpX11_runScript_X7_read_11 : GoodIn wsX11_runScript wsX70 := goodIn_r _ [604] (by decide +kernel) (by decide +kernel)
set_option maxRecDepth 20000 in
theorem gpX11_runScript_X7_read_12 : GoodIn wsX11_runScript wsX20 := goodIn_r _ [605, 606, 607, 608, 609, 610, 611, 612, 613, 614, 615, 616] (by decide +kernel) (by decide +kernel)
theorem ggX11_runScript_X7_read : GoodIn wsX11_runScript wsX7_read := (goodIn_ca (goodIn_ca (goodIn_ca (goodIn_ca (goodIn_ca gpX11_runScript_X7_read_1 (goodIn_app gpX11_runScript_X7_read_2 (goodIn_app gpX11_runScript_X7_read_3 (goodIn_app gpX11_runScript_X7_read_4 (goodIn_app gpX11_runScript_X7_read_5 (goodIn_app gpX11_runScript_X7_read_6 (goodIn_app gpX11_runScript_X7_read_7 gpX11_runScript_X7_read_8))))))) gpX11_runScript_X7_read_9) gpX11_runScript_X7_read_10) gpX11_runScript_X7_read_11) gpX11_runScript_X7_read_12)
set_option maxRecDepth 20000 in
theorem gX11_runScript_X7_read : GoodIn wsX11_runScript (wsV RX11 144 RX7 yX7_read wsX7_read) := goodIn_app (goodIn_of _ (by decide +kernel)) ggX11_runScript_X7_read
