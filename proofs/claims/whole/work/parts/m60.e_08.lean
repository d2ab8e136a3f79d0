set_option maxRecDepth 20000 in
theorem gpX11_steps_X11_makeSteps_1 : GoodIn wsX11_steps (Cond.code yX11_makeSteps cX11_makeSteps 5 (some .int) :: wsX11_makeSteps_r1) := goodIn_r _ [48, 49, 50, 51, 52, 53, 54, 55, 56, 57, 58, 59, 60, 61, 62, 63, 64, 65, 66, 29, 67, 35, 31, 68, 8] (by decide +kernel) (by decide +kernel)
set_option maxRecDepth 20000 in
theorem gpX11_steps_X11_makeSteps_2 : GoodIn wsX11_steps wsX11_makeSteps_r2 := goodIn_r _ [69, 70, 71, 72, 73, 74, 75, 76, 77, 78, 79, 80, 81, 82, 83, 84, 85, 86, 87, 88, 89, 90, 91, 92] (by decide +kernel) (by decide +kernel)
set_option maxRecDepth 20000 in
theorem gpX11_steps_X11_makeSteps_3 : GoodIn wsX11_steps wsX11_makeSteps_r3 := goodIn_r _ [93, 94, 95, 96, 97, 98, 99, 100, 101, 102, 103, 104, 105, 106, 107, 108, 109, 110, 111, 112, 113, 114, 115, 116] (by decide +kernel) (by decide +kernel)
set_option maxRecDepth 20000 in
theorem gpX11_steps_X11_makeSteps_4 : GoodIn wsX11_steps wsX11_makeSteps_r4 := goodIn_r _ [117, 118, 119, 120, 121, 122, 123, 124, 125, 126, 127, 128, 129, 130, 131, 132, 133, 134, 135, 136, 137, 138, 139, 140] (by decide +kernel) (by decide +kernel)
set_option maxRecDepth 20000 in
theorem gpX11_steps_X11_makeSteps_5 : GoodIn wsX11_steps wsX11_makeSteps_r5 := goodIn_r _ [141, 142, 143, 144, 145, 146, 147, 148, 37, 149, 42, 43, 44, 33, 150, 18, 19, 20, 151, 152, 153, 154, 34, 155] (by decide +kernel) (by decide +kernel)
set_option maxRecDepth 20000 in
theorem gpX11_steps_X11_makeSteps_6 : GoodIn wsX11_steps wsX11_makeSteps_r6 := goodIn_r _ [156] (by decide +kernel) (by decide +kernel)
set_option maxRecDepth 20000 in
theorem gpX11_steps_X11_makeSteps_7 : GoodIn wsX11_steps wsX110 := goodIn_r _ [157, 158, 159, 160, 161, 162, 163, 164, 165, 166, 167, 168, 169, 170, 171, 172, 173, 174] (by decide +kernel) (by decide +kernel)
set_option maxRecDepth 20000 in
theorem gpX11_steps_X11_makeSteps_8 : GoodIn wsX11_steps wsX40 := goodIn_r _ [185, 186, 187, 188, 189, 190, 191, 192, 193, 194, 195, 196] (by decide +kernel) (by decide +kernel)
set_option maxRecDepth 20000 in
theorem gpX11_steps_X11_makeSteps_9 : GoodIn wsX11_steps wsX20 := goodIn_r _ [197, 198, 199, 200, 201, 202, 203, 204, 205, 206, 207, 208] (by decide +kernel) (by decide +kernel)
set_option maxRecDepth 20000 in
theorem gpX11_steps_X11_makeSteps_10 : GoodIn wsX11_steps wsX80 := goodIn_r _ [178, 179, 180, 181, 182, 183, 184] (by decide +kernel) (by decide +kernel)
theorem ggX11_steps_X11_makeSteps : GoodIn wsX11_steps wsX11_makeSteps := (goodIn_ca (goodIn_ca (goodIn_ca (goodIn_ca (goodIn_ca gpX11_steps_X11_makeSteps_1 (goodIn_app gpX11_steps_X11_makeSteps_2 (goodIn_app gpX11_steps_X11_makeSteps_3 (goodIn_app gpX11_steps_X11_makeSteps_4 (goodIn_app gpX11_steps_X11_makeSteps_5 gpX11_steps_X11_makeSteps_6))))) gpX11_steps_X11_makeSteps_7) gpX11_steps_X11_makeSteps_8) gpX11_steps_X11_makeSteps_9) gpX11_steps_X11_makeSteps_10)
set_option maxRecDepth 20000 in
theorem gX11_steps_X11_makeSteps : GoodIn wsX11_steps (wsV RX11 232 RX11 yX11_makeSteps wsX11_makeSteps) := goodIn_app (goodIn_of _ (by decide +kernel)) ggX11_steps_X11_makeSteps
set_option maxRecDepth 20000 in
theorem gpX11_placeBest_X11_searchBest_1 : GoodIn wsX11_placeBest (Cond.code yX11_searchBest cX11_searchBest 1 none :: wsX11_searchBest_r1) := goodIn_r _ [54, 55, 56, 4, 57, 58, 59, 60, 61, 62, 63, 64, 65, 66, 67, 68, 69, 70, 71, 72, 11, 12, 13, 14, 15] (by decide +kernel) (by decide +kernel)
set_option maxRecDepth 20000 in
theorem gpX11_placeBest_X11_searchBest_2 : GoodIn wsX11_placeBest wsX11_searchBest_r2 := goodIn_r _ [16, 17, 8, 18, 73, 74, 75, 76, 77, 78, 79, 80, 81, 82, 83, 84, 85, 86, 87, 88, 89, 90, 91, 92] (by decide +kernel) (by decide +kernel)
set_option maxRecDepth 20000 in
theorem gpX11_placeBest_X11_searchBest_3 : GoodIn wsX11_placeBest wsX11_searchBest_r3 := goodIn_r _ [93, 94, 95, 96, 97, 98, 99, 100, 101, 102, 103, 104, 105, 106, 107, 108, 109, 110, 111, 112, 113, 114, 115, 116] (by decide +kernel) (by decide +kernel)
set_option maxRecDepth 20000 in
theorem gpX11_placeBest_X11_searchBest_4 : GoodIn wsX11_placeBest wsX11_searchBest_r4 := goodIn_r _ [117, 118, 119, 120, 121, 122, 123, 124, 125, 126, 127, 128, 129, 130, 131, 132, 133, 134, 135, 136, 137, 138, 139, 140] (by decide +kernel) (by decide +kernel)
set_option maxRecDepth 20000 in
theorem gpX11_placeBest_X11_searchBest_5 : GoodIn wsX11_placeBest wsX11_searchBest_r5 := goodIn_r _ [141, 142, 143, 144, 145, 146, 147, 148, 149, 150, 151, 152, 153, 154, 155, 156, 44, 45, 46, 27, 28, 29, 47, 48] (by decide +kernel) (by decide +kernel)
set_option maxRecDepth 20000 in
theorem gpX11_placeBest_X11_searchBest_6 : GoodIn wsX11_placeBest wsX11_searchBest_r6 := goodIn_r _ [49, 50, 157, 158, 159, 160, 161, 162, 163, 164, 165, 166, 167, 168] (by decide +kernel) (by decide +kernel)
set_option maxRecDepth 20000 in
theorem gpX11_placeBest_X11_searchBest_7 : GoodIn wsX11_placeBest wsX110 := goodIn_r _ [202, 203, 204, 205, 206, 207, 208, 209, 210, 211, 212, 213, 214, 215, 216, 217, 218, 219] (by decide +kernel) (by decide +kernel)
set_option maxRecDepth 20000 in
theorem gpX11_placeBest_X11_searchBest_8 : GoodIn wsX11_placeBest wsX40 := goodIn_r _ [230, 231, 232, 233, 234, 235, 236, 237, 238, 239, 240, 241] (by decide +kernel) (by decide +kernel)
set_option maxRecDepth 20000 in
theorem gpX11_placeBest_X11_searchBest_9 : GoodIn wsX11_placeBest wsX20 := goodIn_r _ [242, 243, 244, 245, 246, 247, 248, 249, 250, 251, 252, 253] (by decide +kernel) (by decide +kernel)
set_option maxRecDepth 20000 in
theorem gpX11_placeBest_X11_searchBest_10 : GoodIn wsX11_placeBest wsX80 := goodIn_r _ [220, 221, 222, 223, 224, 225, 226] (by decide +kernel) (by decide +kernel)
set_option maxRecDepth 20000 in
theorem gpX11_placeBest_X11_searchBest_11 : GoodIn wsX11_placeBest wsX50 := goodIn_r _ [254, 255, 256, 257, 258] (by decide +kernel) (by decide +kernel)
set_option maxRecDepth 20000 in
theorem gpX11_placeBest_X11_searchBest_12 : GoodIn wsX11_placeBest wsX00 := goodIn_r _ [259, 260, 261, 262, 263] (by decide +kernel) (by decide +kernel)
theorem ggX11_placeBest_X11_searchBest : GoodIn wsX11_placeBest wsX11_searchBest := (goodIn_ca (goodIn_ca (goodIn_ca (goodIn_ca (goodIn_ca (goodIn_ca (goodIn_ca gpX11_placeBest_X11_searchBest_1 (goodIn_app gpX11_placeBest_X11_searchBest_2 (goodIn_app gpX11_placeBest_X11_searchBest_3 (goodIn_app gpX11_placeBest_X11_searchBest_4 (goodIn_app gpX11_placeBest_X11_searchBest_5 gpX11_placeBest_X11_searchBest_6))))) gpX11_placeBest_X11_searchBest_7) gpX11_placeBest_X11_searchBest_8) gpX11_placeBest_X11_searchBest_9) gpX11_placeBest_X11_searchBest_10) gpX11_placeBest_X11_searchBest_11) gpX11_placeBest_X11_searchBest_12)
set_option maxRecDepth 20000 in
theorem gX11_placeBest_X11_searchBest : GoodIn wsX11_placeBest (wsV RX11 236 RX11 yX11_searchBest wsX11_searchBest) := goodIn_app (goodIn_of _ (by decide +kernel)) ggX11_placeBest_X11_searchBest
set_option maxRecDepth 20000 in
theorem gpX11_placeBest_X11_takeBest_1 : GoodIn wsX11_placeBest (Cond.code yX11_takeBest cX11_takeBest 5 (some .int) :: wsX11_takeBest_r1) := goodIn_r _ [172, 4, 58, 173, 55, 174, 10, 11, 12, 13, 14, 15, 16, 17, 8, 18, 175, 176, 177, 178, 179, 56, 59, 60, 61] (by decide +kernel) (by decide +kernel)
set_option maxRecDepth 20000 in
theorem gpX11_placeBest_X11_takeBest_2 : GoodIn wsX11_placeBest wsX11_takeBest_r2 := goodIn_r _ [62, 63, 64, 65, 66, 67, 68, 69, 70, 71, 72, 73, 74, 75, 76, 77, 78, 79, 80, 81, 82, 83, 84, 85] (by decide +kernel) (by decide +kernel)
set_option maxRecDepth 20000 in
theorem gpX11_placeBest_X11_takeBest_3 : GoodIn wsX11_placeBest wsX11_takeBest_r3 := goodIn_r _ [86, 87, 88, 89, 90, 91, 92, 93, 94, 95, 96, 97, 98, 99, 100, 101, 102, 103, 104, 105, 106, 107, 108, 109] (by decide +kernel) (by decide +kernel)
set_option maxRecDepth 20000 in
theorem gpX11_placeBest_X11_takeBest_4 : GoodIn wsX11_placeBest wsX11_takeBest_r4 := goodIn_r _ [110, 111, 112, 113, 114, 115, 116, 117, 118, 180, 181, 182, 183, 184, 185, 186, 187, 188, 189, 190, 191, 192, 193, 43] (by decide +kernel) (by decide +kernel)
set_option maxRecDepth 20000 in
theorem gpX11_placeBest_X11_takeBest_5 : GoodIn wsX11_placeBest wsX11_takeBest_r5 := goodIn_r _ [194, 48, 49, 50, 40, 195, 27, 28, 29, 196, 197, 198, 199, 41, 200, 201] (by decide +kernel) (by decide +kernel)
set_option maxRecDepth 20000 in
theorem gpX11_placeBest_X11_takeBest_6 : GoodIn wsX11_placeBest wsX110 := goodIn_r _ [202, 203, 204, 205, 206, 207, 208, 209, 210, 211, 212, 213, 214, 215, 216, 217, 218, 219] (by decide +kernel) (by decide +kernel)
set_option maxRecDepth 20000 in
theorem gpX11_placeBest_X11_takeBest_7 : GoodIn wsX11_placeBest wsX00 := goodIn_r _ [259, 260, 261, 262, 263] (by decide +kernel) (by decide +kernel)
set_option maxRecDepth 20000 in
theorem gpX11_placeBest_X11_takeBest_8 : GoodIn wsX11_placeBest wsX40 := goodIn_r _ [230, 231, 232, 233, 234, 235, 236, 237, 238, 239, 240, 241] (by decide +kernel) (by decide +kernel)
set_option maxRecDepth 20000 in
theorem gpX11_placeBest_X11_takeBest_9 : GoodIn wsX11_placeBest wsX80 := goodIn_r _ [220, 221, 222, 223, 224, 225, 226] (by decide +kernel) (by decide +kernel)
set_option maxRecDepth 20000 in
theorem gpX11_placeBest_X11_takeBest_10 : GoodIn wsX11_placeBest wsX20 := goodIn_r _ [242, 243, 244, 245, 246, 247, 248, 249, 250, 251, 252, 253] (by decide +kernel) (by decide +kernel)
theorem ggX11_placeBest_X11_takeBest : GoodIn wsX11_placeBest wsX11_takeBest := (goodIn_ca (goodIn_ca (goodIn_ca (goodIn_ca (goodIn_ca (goodIn_ca gpX11_placeBest_X11_takeBest_1 (goodIn_app gpX11_placeBest_X11_takeBest_2 (goodIn_app gpX11_placeBest_X11_takeBest_3 (goodIn_app gpX11_placeBest_X11_takeBest_4 gpX11_placeBest_X11_takeBest_5)))) gpX11_placeBest_X11_takeBest_6) gpX11_placeBest_X11_takeBest_7) gpX11_placeBest_X11_takeBest_8) gpX11_placeBest_X11_takeBest_9) gpX11_placeBest_X11_takeBest_10)
set_option maxRecDepth 20000 in
theorem gX11_placeBest_X11_takeBest : GoodIn wsX11_placeBest (wsV RX11 239 RX11 yX11_takeBest wsX11_takeBest) := goodIn_app (goodIn_of _ (by decide +kernel)) ggX11_placeBest_X11_takeBest
set_option maxRecDepth 20000 in
theorem gpX11_takeBest_X11_takeTo_1 : GoodIn wsX11_takeBest (Cond.code yX11_takeTo cX11_takeTo 3 none :: wsX11_takeTo_r1) := goodIn_r _ [20, 4, 21, 1, 22, 23, 24, 25, 26, 27, 28, 29, 30, 31, 32, 33, 34, 35, 7, 8, 9, 10, 11, 12, 13] (by decide +kernel) (by decide +kernel)
set_option maxRecDepth 20000 in
theorem gpX11_takeBest_X11_takeTo_2 : GoodIn wsX11_takeBest wsX11_takeTo_r2 := goodIn_r _ [14, 15, 36, 37, 38, 39, 40, 41, 42, 43, 44, 45, 46, 47, 48, 49, 50, 51, 52, 53, 54, 55, 56, 57] (by decide +kernel) (by decide +kernel)
set_option maxRecDepth 20000 in
theorem gpX11_takeBest_X11_takeTo_3 : GoodIn wsX11_takeBest wsX11_takeTo_r3 := goodIn_r _ [58, 59, 60, 61, 62, 63, 64, 65, 66, 67, 68, 69, 70, 71, 72, 73, 74, 75, 76, 77, 78, 79, 80, 81] (by decide +kernel) (by decide +kernel)
set_option maxRecDepth 20000 in
theorem gpX11_takeBest_X11_takeTo_4 : GoodIn wsX11_takeBest wsX11_takeTo_r4 := goodIn_r _ [82, 83, 84, 85, 5, 86, 87, 16, 88, 89, 90, 91, 92, 93, 94, 95, 96, 97, 98, 99, 100, 101, 102, 103] (by decide +kernel) (by decide +kernel)
set_option maxRecDepth 20000 in
theorem gpX11_takeBest_X11_takeTo_5 : GoodIn wsX11_takeBest wsX11_takeTo_r5 := goodIn_r _ [104, 105, 106, 107, 108, 109, 110, 111, 112] (by decide +kernel) (by decide +kernel)
set_option maxRecDepth 20000 in
theorem gpX11_takeBest_X11_takeTo_6 : GoodIn wsX11_takeBest wsX110 := goodIn_r _ [113, 114, 115, 116, 117, 118, 119, 120, 121, 122, 123, 124, 125, 126, 127, 128, 129, 130] (by decide +kernel) (by decide +kernel)
set_option maxRecDepth 20000 in
theorem gpX11_takeBest_X11_takeTo_7 : GoodIn wsX11_takeBest wsX40 := goodIn_r _ [136, 137, 138, 139, 140, 141, 142, 143, 144, 145, 146, 147] (by decide +kernel) (by decide +kernel)
set_option maxRecDepth 20000 in
theorem gpX11_takeBest_X11_takeTo_8 : GoodIn wsX11_takeBest wsX20 := goodIn_r _ [155, 156, 157, 158, 159, 160, 161, 162, 163, 164, 165, 166] (by decide +kernel) (by decide +kernel)
set_option maxRecDepth 20000 in
theorem gpX11_takeBest_X11_takeTo_9 : GoodIn wsX11_takeBest wsX80 := goodIn_r _ [148, 149, 150, 151, 152, 153, 154] (by decide +kernel) (by decide +kernel)
theorem ggX11_takeBest_X11_takeTo : GoodIn wsX11_takeBest wsX11_takeTo := (goodIn_ca (goodIn_ca (goodIn_ca (goodIn_ca (goodIn_ca gpX11_takeBest_X11_takeTo_1 (goodIn_app gpX11_takeBest_X11_takeTo_2 (goodIn_app gpX11_takeBest_X11_takeTo_3 (goodIn_app gpX11_takeBest_X11_takeTo_4 gpX11_takeBest_X11_takeTo_5)))) gpX11_takeBest_X11_takeTo_6) gpX11_takeBest_X11_takeTo_7) gpX11_takeBest_X11_takeTo_8) gpX11_takeBest_X11_takeTo_9)
set_option maxRecDepth 20000 in
theorem gX11_takeBest_X11_takeTo : GoodIn wsX11_takeBest (wsV RX11 228 RX11 yX11_takeTo wsX11_takeTo) := goodIn_app (goodIn_of _ (by decide +kernel)) ggX11_takeBest_X11_takeTo
