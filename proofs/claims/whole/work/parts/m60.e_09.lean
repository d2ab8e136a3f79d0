set_option maxRecDepth 20000 in
theorem gpX11_placeApart_X11_takeApart_1 : GoodIn wsX11_placeApart (Cond.code yX11_takeApart cX11_takeApart 6 (some .int) :: wsX11_takeApart_r1) := goodIn_r _ [64, 65, 18, 19, 66, 6, 67, 68, 69, 70, 71, 72, 73, 74, 75, 76, 77, 78, 79, 80, 81, 82, 83, 84, 85] (by decide +kernel) (by decide +kernel)
set_option maxRecDepth 20000 in
theorem gpX11_placeApart_X11_takeApart_2 : GoodIn wsX11_placeApart wsX11_takeApart_r2 := goodIn_r _ [86, 87, 88, 89, 90, 10, 91, 92, 93, 94, 95, 96, 97, 98, 99, 100, 101, 102, 103, 104, 105, 106, 107, 108] (by decide +kernel) (by decide +kernel)
set_option maxRecDepth 20000 in
theorem gpX11_placeApart_X11_takeApart_3 : GoodIn wsX11_placeApart wsX11_takeApart_r3 := goodIn_r _ [109, 34, 35, 36, 110, 111, 112, 113, 114, 115, 116, 117, 118, 119, 120, 121, 122, 123, 124, 125, 126, 127, 128, 129] (by decide +kernel) (by decide +kernel)
set_option maxRecDepth 20000 in
theorem gpX11_placeApart_X11_takeApart_4 : GoodIn wsX11_placeApart wsX11_takeApart_r4 := goodIn_r _ [130, 131, 132, 45, 133, 51, 47, 134, 135, 136, 137, 138, 139, 140, 141, 142, 143, 144, 145, 146, 147, 148, 149, 150] (by decide +kernel) (by decide +kernel)
set_option maxRecDepth 20000 in
theorem gpX11_placeApart_X11_takeApart_5 : GoodIn wsX11_placeApart wsX11_takeApart_r5 := goodIn_r _ [151, 152, 153, 154, 155, 156, 157, 158, 159, 160, 161, 162, 163, 164, 165, 166, 167, 168, 169, 170, 171, 172, 173, 174] (by decide +kernel) (by decide +kernel)
set_option maxRecDepth 20000 in
theorem gpX11_placeApart_X11_takeApart_6 : GoodIn wsX11_placeApart wsX11_takeApart_r6 := goodIn_r _ [175, 176, 177, 178, 179, 180, 181, 182, 183, 184, 185, 186, 187, 53, 188, 58, 59, 60, 49, 189, 190, 191, 192, 193] (by decide +kernel) (by decide +kernel)
set_option maxRecDepth 20000 in
theorem gpX11_placeApart_X11_takeApart_7 : GoodIn wsX11_placeApart wsX11_takeApart_r7 := goodIn_r _ [50] (by decide +kernel) (by decide +kernel)
set_option maxRecDepth 20000 in
theorem gpX11_placeApart_X11_takeApart_8 : GoodIn wsX11_placeApart wsX110 := goodIn_r _ [194, 195, 196, 197, 198, 199, 200, 201, 202, 203, 204, 205, 206, 207, 208, 209, 210, 211] (by decide +kernel) (by decide +kernel)
set_option maxRecDepth 20000 in
theorem gpX11_placeApart_X11_takeApart_9 : GoodIn wsX11_placeApart wsX20 := goodIn_r _ [212, 213, 214, 215, 216, 217, 218, 219, 220, 221, 222, 223] (by decide +kernel) (by decide +kernel)
set_option maxRecDepth 20000 in
theorem gpX11_placeApart_X11_takeApart_10 : GoodIn wsX11_placeApart wsX10 := goodIn_r _ [234, 235, 236, 237, 238, 239] (by decide +kernel) (by decide +kernel)
set_option maxRecDepth 20000 in
theorem gpX11_placeApart_X11_takeApart_11 : GoodIn wsX11_placeApart wsX80 := goodIn_r _ [224, 225, 226, 227, 228, 229, 230] (by decide +kernel) (by decide +kernel)
set_option maxRecDepth 20000 in
theorem gpX11_placeApart_X11_takeApart_12 : GoodIn wsX11_placeApart wsX40 := goodIn_r _ [240, 241, 242, 243, 244, 245, 246, 247, 248, 249, 250, 251] (by decide +kernel) (by decide +kernel)
theorem ggX11_placeApart_X11_takeApart : GoodIn wsX11_placeApart wsX11_takeApart := (goodIn_ca (goodIn_ca (goodIn_ca (goodIn_ca (goodIn_ca (goodIn_ca gpX11_placeApart_X11_takeApart_1 (goodIn_app gpX11_placeApart_X11_takeApart_2 (goodIn_app gpX11_placeApart_X11_takeApart_3 (goodIn_app gpX11_placeApart_X11_takeApart_4 (goodIn_app gpX11_placeApart_X11_takeApart_5 (goodIn_app gpX11_placeApart_X11_takeApart_6 gpX11_placeApart_X11_takeApart_7)))))) gpX11_placeApart_X11_takeApart_8) gpX11_placeApart_X11_takeApart_9) gpX11_placeApart_X11_takeApart_10) gpX11_placeApart_X11_takeApart_11) gpX11_placeApart_X11_takeApart_12)
set_option maxRecDepth 20000 in
theorem gX11_placeApart_X11_takeApart : GoodIn wsX11_placeApart (wsV RX11 242 RX11 yX11_takeApart wsX11_takeApart) := goodIn_app (goodIn_of _ (by decide +kernel)) ggX11_placeApart_X11_takeApart
set_option maxRecDepth 20000 in
theorem gpX11_takeApart_X11_takeTo_1 : GoodIn wsX11_takeApart (Cond.code yX11_takeTo cX11_takeTo 3 none :: wsX11_takeTo_r1) := goodIn_r _ [58, 59, 2, 5, 60, 61, 62, 63, 64, 65, 66, 67, 68, 69, 70, 71, 72, 73, 74, 75, 76, 77, 78, 79, 29] (by decide +kernel) (by decide +kernel)
set_option maxRecDepth 20000 in
theorem gpX11_takeApart_X11_takeTo_2 : GoodIn wsX11_takeApart wsX11_takeTo_r2 := goodIn_r _ [30, 31, 80, 81, 82, 83, 84, 85, 86, 87, 88, 89, 90, 91, 92, 93, 94, 95, 96, 97, 98, 99, 100, 26] (by decide +kernel) (by decide +kernel)
set_option maxRecDepth 20000 in
theorem gpX11_takeApart_X11_takeTo_3 : GoodIn wsX11_takeApart wsX11_takeTo_r3 := goodIn_r _ [27, 28, 101, 102, 103, 104, 32, 33, 41, 42, 105, 106, 107, 108, 109, 110, 111, 112, 113, 114, 115, 116, 117, 118] (by decide +kernel) (by decide +kernel)
set_option maxRecDepth 20000 in
theorem gpX11_takeApart_X11_takeTo_4 : GoodIn wsX11_takeApart wsX11_takeTo_r4 := goodIn_r _ [119, 120, 121, 122, 123, 124, 125, 54, 126, 127, 128, 129, 130, 131, 132, 133, 134, 135, 136, 137, 138, 139, 140, 50] (by decide +kernel) (by decide +kernel)
set_option maxRecDepth 20000 in
theorem gpX11_takeApart_X11_takeTo_5 : GoodIn wsX11_takeApart wsX11_takeTo_r5 := goodIn_r _ [51, 52, 141, 142, 143, 144, 145, 43, 44] (by decide +kernel) (by decide +kernel)
set_option maxRecDepth 20000 in
theorem gpX11_takeApart_X11_takeTo_6 : GoodIn wsX11_takeApart wsX110 := goodIn_r _ [146, 147, 148, 149, 150, 151, 152, 153, 154, 155, 156, 157, 158, 159, 160, 161, 162, 163] (by decide +kernel) (by decide +kernel)
set_option maxRecDepth 20000 in
theorem gpX11_takeApart_X11_takeTo_7 : GoodIn wsX11_takeApart wsX40 := goodIn_r _ [189, 190, 191, 192, 193, 194, 195, 196, 197, 198, 199, 200] (by decide +kernel) (by decide +kernel)
set_option maxRecDepth 20000 in
theorem gpX11_takeApart_X11_takeTo_8 : GoodIn wsX11_takeApart wsX20 := goodIn_r _ [164, 165, 166, 167, 168, 169, 170, 171, 172, 173, 174, 175] (by decide +kernel) (by decide +kernel)
set_option maxRecDepth 20000 in
theorem gpX11_takeApart_X11_takeTo_9 : GoodIn wsX11_takeApart wsX80 := goodIn_r _ [182, 183, 184, 185, 186, 187, 188] (by decide +kernel) (by decide +kernel)
theorem ggX11_takeApart_X11_takeTo : GoodIn wsX11_takeApart wsX11_takeTo := (goodIn_ca (goodIn_ca (goodIn_ca (goodIn_ca (goodIn_ca gpX11_takeApart_X11_takeTo_1 (goodIn_app gpX11_takeApart_X11_takeTo_2 (goodIn_app gpX11_takeApart_X11_takeTo_3 (goodIn_app gpX11_takeApart_X11_takeTo_4 gpX11_takeApart_X11_takeTo_5)))) gpX11_takeApart_X11_takeTo_6) gpX11_takeApart_X11_takeTo_7) gpX11_takeApart_X11_takeTo_8) gpX11_takeApart_X11_takeTo_9)
set_option maxRecDepth 20000 in
theorem gX11_takeApart_X11_takeTo : GoodIn wsX11_takeApart (wsV RX11 228 RX11 yX11_takeTo wsX11_takeTo) := goodIn_app (goodIn_of _ (by decide +kernel)) ggX11_takeApart_X11_takeTo
set_option maxRecDepth 20000 in
theorem gpX7_read_X7_readCommand_1 : GoodIn wsX7_read (Cond.code yX7_readCommand cX7_readCommand 5 (some .boolean) :: wsX7_readCommand_r1) := goodIn_r _ [84, 2, 85, 86, 87, 88, 59, 89, 90, 91, 92, 13, 93, 19, 33, 94, 95, 96, 97, 98, 99, 100, 101, 102, 103] (by decide +kernel) (by decide +kernel)
set_option maxRecDepth 20000 in
theorem gpX7_read_X7_readCommand_2 : GoodIn wsX7_read wsX7_readCommand_r2 := goodIn_r _ [104, 105, 106, 107, 108, 109, 110, 111, 112, 113, 114, 115, 116, 117, 118, 119, 120, 121, 122, 123, 124, 125, 126, 127] (by decide +kernel) (by decide +kernel)
set_option maxRecDepth 20000 in
theorem gpX7_read_X7_readCommand_3 : GoodIn wsX7_read wsX7_readCommand_r3 := goodIn_r _ [128, 129, 130, 131, 132, 133, 134, 135, 136, 137, 138, 139, 140, 141, 142, 34, 35, 36, 48, 49, 50, 51, 52, 18] (by decide +kernel) (by decide +kernel)
set_option maxRecDepth 20000 in
theorem gpX7_read_X7_readCommand_4 : GoodIn wsX7_read wsX7_readCommand_r4 := goodIn_r _ [53, 54, 55, 143, 144, 145, 146, 147, 61, 148, 149, 150, 151, 152, 44, 79, 11, 12, 14, 15, 16, 17, 20, 21] (by decide +kernel) (by decide +kernel)
set_option maxRecDepth 20000 in
theorem gpX7_read_X7_readCommand_5 : GoodIn wsX7_read wsX7_readCommand_r5 := goodIn_r _ [22, 23, 24, 25, 26, 27, 28, 29, 30, 31, 32, 37, 38, 39, 40, 41, 42, 43, 45, 46, 47, 80, 75, 76] (by decide +kernel) (by decide +kernel)
set_option maxRecDepth 20000 in
theorem gpX7_read_X7_readCommand_6 : GoodIn wsX7_read wsX7_readCommand_r6 := goodIn_r _ [77, 78, 73, 74, 153, 154, 155, 6, 156, 9, 66, 67, 68, 69, 70, 8, 71, 72, 157, 158, 159, 160, 161, 162] (by decide +kernel) (by decide +kernel)
set_option maxRecDepth 20000 in
theorem gpX7_read_X7_readCommand_7 : GoodIn wsX7_read wsX7_readCommand_r7 := goodIn_r _ [163, 164, 165, 166, 167, 168, 169, 170, 171, 172, 173, 1, 10, 174, 175, 176, 177, 178, 179, 180, 181, 182, 183, 184] (by decide +kernel) (by decide +kernel)
set_option maxRecDepth 20000 in
theorem gpX7_read_X7_readCommand_8 : GoodIn wsX7_read wsX100 := goodIn_r _ [185, 186, 187, 188, 189, 190, 191, 192, 193, 194, 195, 196] (by decide +kernel) (by decide +kernel)
set_option maxRecDepth 20000 in
theorem gpX7_read_X7_readCommand_9 : GoodIn wsX7_read wsX60 := goodIn_r _ [197, 198, 199, 200, 201, 202] (by decide +kernel) (by decide +kernel)
set_option maxRecDepth 20000 in
theorem gpX7_read_X7_readCommand_10 : GoodIn wsX7_read wsX70 := goodIn_r _ [203] (by decide +kernel) (by decide +kernel)
set_option maxRecDepth 20000 in
theorem gpX7_read_X7_readCommand_11 : GoodIn wsX7_read wsX20 := goodIn_r _ [204, 205, 206, 207, 208, 209, 210, 211, 212, 213, 214, 215] (by decide +kernel) (by decide +kernel)
theorem ggX7_read_X7_readCommand : GoodIn wsX7_read wsX7_readCommand := (goodIn_ca (goodIn_ca (goodIn_ca (goodIn_ca (goodIn_ca gpX7_read_X7_readCommand_1 (goodIn_app gpX7_read_X7_readCommand_2 (goodIn_app gpX7_read_X7_readCommand_3 (goodIn_app gpX7_read_X7_readCommand_4 (goodIn_app gpX7_read_X7_readCommand_5 (goodIn_app gpX7_read_X7_readCommand_6 gpX7_read_X7_readCommand_7)))))) gpX7_read_X7_readCommand_8) gpX7_read_X7_readCommand_9) gpX7_read_X7_readCommand_10) gpX7_read_X7_readCommand_11)
set_option maxRecDepth 20000 in
theorem gX7_read_X7_readCommand : GoodIn wsX7_read (wsV RX7 40 RX7 yX7_readCommand wsX7_readCommand) := goodIn_app (goodIn_of _ (by decide +kernel)) ggX7_read_X7_readCommand
