set_option maxRecDepth 20000 in
theorem gpX11_perform_X11_mergeGroups_1 : GoodIn wsX11_perform (Cond.code yX11_mergeGroups cX11_mergeGroups 1 none :: wsX11_mergeGroups_r1) := goodIn_r _ [8, 9, 10, 1, 11, 12, 13, 14, 15, 7, 16, 17, 18, 19, 20, 21, 22, 23, 24, 25, 26, 27, 28, 29, 30] (by decide +kernel) (by decide +kernel)
set_option maxRecDepth 20000 in
theorem gpX11_perform_X11_mergeGroups_2 : GoodIn wsX11_perform wsX11_mergeGroups_r2 := goodIn_r _ [31, 32, 33, 34, 35, 36, 37, 38, 39, 40, 41, 42, 43, 44, 45, 46, 47, 48, 49, 50, 51, 52, 53, 54] (by decide +kernel) (by decide +kernel)
set_option maxRecDepth 20000 in
theorem gpX11_perform_X11_mergeGroups_3 : GoodIn wsX11_perform wsX11_mergeGroups_r3 := goodIn_r _ [55, 56, 57, 58, 59, 60, 61, 62, 63, 64, 65, 66, 67, 68, 69, 70, 71, 72, 73, 74, 75, 76, 77, 78] (by decide +kernel) (by decide +kernel)
set_option maxRecDepth 20000 in
theorem gpX11_perform_X11_mergeGroups_4 : GoodIn wsX11_perform wsX11_mergeGroups_r4 := goodIn_r _ [79, 80, 81, 82, 83, 84, 85, 86, 87, 88, 89, 90, 91, 92, 93, 94, 95, 96, 97, 98, 99, 100, 101, 102] (by decide +kernel) (by decide +kernel)
set_option maxRecDepth 20000 in
theorem gpX11_perform_X11_mergeGroups_5 : GoodIn wsX11_perform wsX11_mergeGroups_r5 := goodIn_r _ [103, 104, 105, 106, 107, 108, 109, 110, 111, 112, 113, 114, 115, 116, 117, 118, 119, 120, 121, 122, 123, 124, 125] (by decide +kernel) (by decide +kernel)
set_option maxRecDepth 20000 in
theorem gpX11_perform_X11_mergeGroups_6 : GoodIn wsX11_perform wsX110 := goodIn_r _ [275, 276, 277, 278, 279, 280, 281, 282, 283, 284, 285, 286, 287, 288, 289, 290, 291, 292] (by decide +kernel) (by decide +kernel)
set_option maxRecDepth 20000 in
theorem gpX11_perform_X11_mergeGroups_7 : GoodIn wsX11_perform wsX20 := goodIn_r _ [300, 301, 302, 303, 304, 305, 306, 307, 308, 309, 310, 311] (by decide +kernel) (by decide +kernel)
set_option maxRecDepth 20000 in
theorem gpX11_perform_X11_mergeGroups_8 : GoodIn wsX11_perform wsX40 := goodIn_r _ [312, 313, 314, 315, 316, 317, 318, 319, 320, 321, 322, 323] (by decide +kernel) (by decide +kernel)
set_option maxRecDepth 20000 in
theorem gpX11_perform_X11_mergeGroups_9 : GoodIn wsX11_perform wsX80 := goodIn_r _ [293, 294, 295, 296, 297, 298, 299] (by decide +kernel) (by decide +kernel)
set_option maxRecDepth 20000 in
theorem gpX11_perform_X11_mergeGroups_10 : GoodIn wsX11_perform wsX50 := goodIn_r _ [324, 325, 326, 327, 328] (by decide +kernel) (by decide +kernel)
theorem ggX11_perform_X11_mergeGroups : GoodIn wsX11_perform wsX11_mergeGroups := (goodIn_ca (goodIn_ca (goodIn_ca (goodIn_ca (goodIn_ca (goodIn_ca gpX11_perform_X11_mergeGroups_1 (goodIn_app gpX11_perform_X11_mergeGroups_2 (goodIn_app gpX11_perform_X11_mergeGroups_3 (goodIn_app gpX11_perform_X11_mergeGroups_4 gpX11_perform_X11_mergeGroups_5)))) gpX11_perform_X11_mergeGroups_6) gpX11_perform_X11_mergeGroups_7) gpX11_perform_X11_mergeGroups_8) gpX11_perform_X11_mergeGroups_9) gpX11_perform_X11_mergeGroups_10)
set_option maxRecDepth 20000 in
theorem gX11_perform_X11_mergeGroups : GoodIn wsX11_perform (wsV RX11 225 RX11 yX11_mergeGroups wsX11_mergeGroups) := goodIn_app (goodIn_of _ (by decide +kernel)) ggX11_perform_X11_mergeGroups
set_option maxRecDepth 20000 in
theorem gpX11_perform_X11_takeTo_1 : GoodIn wsX11_perform (Cond.code yX11_takeTo cX11_takeTo 3 none :: wsX11_takeTo_r1) := goodIn_r _ [129, 10, 11, 1, 17, 18, 19, 20, 21, 22, 23, 24, 25, 26, 27, 28, 29, 30, 31, 32, 33, 34, 35, 36, 37] (by decide +kernel) (by decide +kernel)
set_option maxRecDepth 20000 in
theorem gpX11_perform_X11_takeTo_2 : GoodIn wsX11_perform wsX11_takeTo_r2 := goodIn_r _ [7, 38, 39, 40, 41, 42, 43, 44, 45, 46, 47, 48, 49, 50, 51, 52, 53, 54, 55, 56, 57, 58, 59, 60] (by decide +kernel) (by decide +kernel)
set_option maxRecDepth 20000 in
theorem gpX11_perform_X11_takeTo_3 : GoodIn wsX11_perform wsX11_takeTo_r3 := goodIn_r _ [61, 62, 63, 64, 65, 66, 67, 68, 69, 70, 71, 72, 73, 74, 75, 76, 77, 78, 79, 80, 81, 82, 83, 84] (by decide +kernel) (by decide +kernel)
set_option maxRecDepth 20000 in
theorem gpX11_perform_X11_takeTo_4 : GoodIn wsX11_perform wsX11_takeTo_r4 := goodIn_r _ [130, 131, 132, 133, 134, 135, 136, 137, 138, 139, 140, 141, 142, 143, 144, 145, 146, 147, 148, 149, 150, 151, 152, 153] (by decide +kernel) (by decide +kernel)
set_option maxRecDepth 20000 in
theorem gpX11_perform_X11_takeTo_5 : GoodIn wsX11_perform wsX11_takeTo_r5 := goodIn_r _ [154, 155, 156, 157, 158, 159, 160, 161, 162] (by decide +kernel) (by decide +kernel)
set_option maxRecDepth 20000 in
theorem gpX11_perform_X11_takeTo_6 : GoodIn wsX11_perform wsX110 := goodIn_r _ [275, 276, 277, 278, 279, 280, 281, 282, 283, 284, 285, 286, 287, 288, 289, 290, 291, 292] (by decide +kernel) (by decide +kernel)
set_option maxRecDepth 20000 in
theorem gpX11_perform_X11_takeTo_7 : GoodIn wsX11_perform wsX40 := goodIn_r _ [312, 313, 314, 315, 316, 317, 318, 319, 320, 321, 322, 323] (by decide +kernel) (by decide +kernel)
set_option maxRecDepth 20000 in
theorem gpX11_perform_X11_takeTo_8 : GoodIn wsX11_perform wsX20 := goodIn_r _ [300, 301, 302, 303, 304, 305, 306, 307, 308, 309, 310, 311] (by decide +kernel) (by decide +kernel)
set_option maxRecDepth 20000 in
theorem gpX11_perform_X11_takeTo_9 : GoodIn wsX11_perform wsX80 := goodIn_r _ [293, 294, 295, 296, 297, 298, 299] (by decide +kernel) (by decide +kernel)
theorem ggX11_perform_X11_takeTo : GoodIn wsX11_perform wsX11_takeTo := (goodIn_ca (goodIn_ca (goodIn_ca (goodIn_ca (goodIn_ca gpX11_perform_X11_takeTo_1 (goodIn_app gpX11_perform_X11_takeTo_2 (goodIn_app gpX11_perform_X11_takeTo_3 (goodIn_app gpX11_perform_X11_takeTo_4 gpX11_perform_X11_takeTo_5)))) gpX11_perform_X11_takeTo_6) gpX11_perform_X11_takeTo_7) gpX11_perform_X11_takeTo_8) gpX11_perform_X11_takeTo_9)
set_option maxRecDepth 20000 in
theorem gX11_perform_X11_takeTo : GoodIn wsX11_perform (wsV RX11 228 RX11 yX11_takeTo wsX11_takeTo) := goodIn_app (goodIn_of _ (by decide +kernel)) ggX11_perform_X11_takeTo
set_option maxRecDepth 20000 in
theorem gpX11_perform_X11_makeSteps_1 : GoodIn wsX11_perform (Cond.code yX11_makeSteps cX11_makeSteps 5 (some .int) :: wsX11_makeSteps_r1) := goodIn_r _ [166, 10, 11, 17, 18, 19, 20, 21, 22, 23, 24, 25, 26, 27, 28, 29, 30, 31, 32, 33, 34, 35, 36, 37, 7] (by decide +kernel) (by decide +kernel)
set_option maxRecDepth 20000 in
theorem gpX11_perform_X11_makeSteps_2 : GoodIn wsX11_perform wsX11_makeSteps_r2 := goodIn_r _ [38, 39, 40, 41, 42, 43, 44, 45, 46, 47, 48, 49, 50, 51, 52, 53, 54, 55, 56, 57, 58, 59, 60, 61] (by decide +kernel) (by decide +kernel)
set_option maxRecDepth 20000 in
theorem gpX11_perform_X11_makeSteps_3 : GoodIn wsX11_perform wsX11_makeSteps_r3 := goodIn_r _ [62, 63, 64, 65, 66, 67, 68, 69, 70, 71, 72, 73, 74, 75, 76, 77, 78, 79, 80, 81, 82, 83, 84, 167] (by decide +kernel) (by decide +kernel)
set_option maxRecDepth 20000 in
theorem gpX11_perform_X11_makeSteps_4 : GoodIn wsX11_perform wsX11_makeSteps_r4 := goodIn_r _ [168, 169, 170, 171, 172, 173, 174, 175, 139, 140, 141, 176, 177, 178, 179, 180, 181, 182, 183, 130, 131, 132, 133, 134] (by decide +kernel) (by decide +kernel)
set_option maxRecDepth 20000 in
theorem gpX11_perform_X11_makeSteps_5 : GoodIn wsX11_perform wsX11_makeSteps_r5 := goodIn_r _ [135, 136, 137, 138, 142, 143, 144, 145, 146, 147, 148, 149, 150, 151, 152, 153, 154, 155, 156, 157, 158, 159, 160, 161] (by decide +kernel) (by decide +kernel)
set_option maxRecDepth 20000 in
theorem gpX11_perform_X11_makeSteps_6 : GoodIn wsX11_perform wsX11_makeSteps_r6 := goodIn_r _ [162] (by decide +kernel) (by decide +kernel)
set_option maxRecDepth 20000 in
theorem gpX11_perform_X11_makeSteps_7 : GoodIn wsX11_perform wsX110 := goodIn_r _ [275, 276, 277, 278, 279, 280, 281, 282, 283, 284, 285, 286, 287, 288, 289, 290, 291, 292] (by decide +kernel) (by decide +kernel)
set_option maxRecDepth 20000 in
theorem gpX11_perform_X11_makeSteps_8 : GoodIn wsX11_perform wsX40 := goodIn_r _ [312, 313, 314, 315, 316, 317, 318, 319, 320, 321, 322, 323] (by decide +kernel) (by decide +kernel)
set_option maxRecDepth 20000 in
theorem gpX11_perform_X11_makeSteps_9 : GoodIn wsX11_perform wsX20 := goodIn_r _ [300, 301, 302, 303, 304, 305, 306, 307, 308, 309, 310, 311] (by decide +kernel) (by decide +kernel)
set_option maxRecDepth 20000 in
theorem gpX11_perform_X11_makeSteps_10 : GoodIn wsX11_perform wsX80 := goodIn_r _ [293, 294, 295, 296, 297, 298, 299] (by decide +kernel) (by decide +kernel)
theorem ggX11_perform_X11_makeSteps : GoodIn wsX11_perform wsX11_makeSteps := (goodIn_ca (goodIn_ca (goodIn_ca (goodIn_ca (goodIn_ca gpX11_perform_X11_makeSteps_1 (goodIn_app gpX11_perform_X11_makeSteps_2 (goodIn_app gpX11_perform_X11_makeSteps_3 (goodIn_app gpX11_perform_X11_makeSteps_4 (goodIn_app gpX11_perform_X11_makeSteps_5 gpX11_perform_X11_makeSteps_6))))) gpX11_perform_X11_makeSteps_7) gpX11_perform_X11_makeSteps_8) gpX11_perform_X11_makeSteps_9) gpX11_perform_X11_makeSteps_10)
set_option maxRecDepth 20000 in
theorem gX11_perform_X11_makeSteps : GoodIn wsX11_perform (wsV RX11 232 RX11 yX11_makeSteps wsX11_makeSteps) := goodIn_app (goodIn_of _ (by decide +kernel)) ggX11_perform_X11_makeSteps
set_option maxRecDepth 20000 in
theorem gpX11_perform_X11_searchBest_1 : GoodIn wsX11_perform (Cond.code yX11_searchBest cX11_searchBest 1 none :: wsX11_searchBest_r1) := goodIn_r _ [187, 10, 11, 1, 9, 188, 17, 18, 19, 20, 21, 22, 23, 24, 25, 26, 27, 28, 29, 30, 31, 32, 33, 34, 35] (by decide +kernel) (by decide +kernel)
set_option maxRecDepth 20000 in
theorem gpX11_perform_X11_searchBest_2 : GoodIn wsX11_perform wsX11_searchBest_r2 := goodIn_r _ [36, 37, 7, 38, 39, 40, 41, 42, 43, 44, 45, 46, 47, 48, 49, 50, 51, 52, 53, 54, 55, 56, 57, 58] (by decide +kernel) (by decide +kernel)
set_option maxRecDepth 20000 in
theorem gpX11_perform_X11_searchBest_3 : GoodIn wsX11_perform wsX11_searchBest_r3 := goodIn_r _ [59, 60, 61, 62, 63, 64, 65, 66, 67, 68, 69, 70, 71, 72, 73, 74, 75, 76, 77, 78, 79, 80, 81, 82] (by decide +kernel) (by decide +kernel)
set_option maxRecDepth 20000 in
theorem gpX11_perform_X11_searchBest_4 : GoodIn wsX11_perform wsX11_searchBest_r4 := goodIn_r _ [83, 84, 85, 86, 87, 88, 89, 90, 91, 92, 93, 94, 95, 96, 97, 189, 190, 191, 192, 193, 194, 195, 196, 197] (by decide +kernel) (by decide +kernel)
set_option maxRecDepth 20000 in
theorem gpX11_perform_X11_searchBest_5 : GoodIn wsX11_perform wsX11_searchBest_r5 := goodIn_r _ [198, 199, 200, 201, 202, 203, 204, 205, 206, 207, 208, 209, 210, 211, 212, 213, 214, 215, 216, 153, 154, 155, 217, 148] (by decide +kernel) (by decide +kernel)
set_option maxRecDepth 20000 in
theorem gpX11_perform_X11_searchBest_6 : GoodIn wsX11_perform wsX11_searchBest_r6 := goodIn_r _ [149, 150, 218, 219, 220, 221, 222, 223, 224, 225, 226, 227, 228, 229] (by decide +kernel) (by decide +kernel)
set_option maxRecDepth 20000 in
theorem gpX11_perform_X11_searchBest_7 : GoodIn wsX11_perform wsX110 := goodIn_r _ [275, 276, 277, 278, 279, 280, 281, 282, 283, 284, 285, 286, 287, 288, 289, 290, 291, 292] (by decide +kernel) (by decide +kernel)
set_option maxRecDepth 20000 in
theorem gpX11_perform_X11_searchBest_8 : GoodIn wsX11_perform wsX40 := goodIn_r _ [312, 313, 314, 315, 316, 317, 318, 319, 320, 321, 322, 323] (by decide +kernel) (by decide +kernel)
set_option maxRecDepth 20000 in
theorem gpX11_perform_X11_searchBest_9 : GoodIn wsX11_perform wsX20 := goodIn_r _ [300, 301, 302, 303, 304, 305, 306, 307, 308, 309, 310, 311] (by decide +kernel) (by decide +kernel)
set_option maxRecDepth 20000 in
theorem gpX11_perform_X11_searchBest_10 : GoodIn wsX11_perform wsX80 := goodIn_r _ [293, 294, 295, 296, 297, 298, 299] (by decide +kernel) (by decide +kernel)
set_option maxRecDepth 20000 in
theorem gpX11_perform_X11_searchBest_11 : GoodIn wsX11_perform wsX50 := goodIn_r _ [324, 325, 326, 327, 328] (by decide +kernel) (by decide +kernel)
set_option maxRecDepth 20000 in
theorem gpX11_perform_X11_searchBest_12 : GoodIn wsX11_perform wsX00 := goodIn_r _ [329, 330, 331, 332, 333] (by decide +kernel) (by decide +kernel)
theorem ggX11_perform_X11_searchBest : GoodIn wsX11_perform wsX11_searchBest := (goodIn_ca (goodIn_ca (goodIn_ca (goodIn_ca (goodIn_ca (goodIn_ca (goodIn_ca gpX11_perform_X11_searchBest_1 (goodIn_app gpX11_perform_X11_searchBest_2 (goodIn_app gpX11_perform_X11_searchBest_3 (goodIn_app gpX11_perform_X11_searchBest_4 (goodIn_app gpX11_perform_X11_searchBest_5 gpX11_perform_X11_searchBest_6))))) gpX11_perform_X11_searchBest_7) gpX11_perform_X11_searchBest_8) gpX11_perform_X11_searchBest_9) gpX11_perform_X11_searchBest_10) gpX11_perform_X11_searchBest_11) gpX11_perform_X11_searchBest_12)
set_option maxRecDepth 20000 in
theorem gX11_perform_X11_searchBest : GoodIn wsX11_perform (wsV RX11 236 RX11 yX11_searchBest wsX11_searchBest) := goodIn_app (goodIn_of _ (by decide +kernel)) ggX11_perform_X11_searchBest
