set_option maxRecDepth 20000 in
theorem gpX11_bestDebts_X11_searchBest_1 : GoodIn wsX11_bestDebts (Cond.code yX11_searchBest cX11_searchBest 1 none :: wsX11_searchBest_r1) := goodIn_r _ [21, 22, 23, 8, 24, 1, 25, 26, 27, 28, 29, 30, 31, 32, 33, 34, 35, 36, 37, 38, 10, 11, 12, 13, 14] (by decide +kernel) (by decide +kernel)
set_option maxRecDepth 20000 in
theorem gpX11_bestDebts_X11_searchBest_2 : GoodIn wsX11_bestDebts wsX11_searchBest_r2 := goodIn_r _ [15, 16, 6, 17, 39, 40, 41, 42, 43, 44, 45, 46, 47, 48, 49, 50, 51, 52, 53, 54, 55, 56, 57, 58] (by decide +kernel) (by decide +kernel)
set_option maxRecDepth 20000 in
theorem gpX11_bestDebts_X11_searchBest_3 : GoodIn wsX11_bestDebts wsX11_searchBest_r3 := goodIn_r _ [59, 60, 61, 62, 63, 64, 65, 66, 67, 68, 69, 70, 71, 72, 73, 74, 75, 76, 77, 78, 79, 80, 81, 82] (by decide +kernel) (by decide +kernel)
set_option maxRecDepth 20000 in
theorem gpX11_bestDebts_X11_searchBest_4 : GoodIn wsX11_bestDebts wsX11_searchBest_r4 := goodIn_r _ [83, 84, 85, 86, 87, 88, 89, 90, 91, 92, 93, 94, 95, 96, 97, 98, 99, 100, 101, 102, 103, 104, 105, 106] (by decide +kernel) (by decide +kernel)
set_option maxRecDepth 20000 in
theorem gpX11_bestDebts_X11_searchBest_5 : GoodIn wsX11_bestDebts wsX11_searchBest_r5 := goodIn_r _ [107, 108, 109, 110, 111, 112, 113, 114, 115, 116, 117, 118, 119, 120, 121, 122, 123, 124, 125, 126, 127, 128, 129, 130] (by decide +kernel) (by decide +kernel)
set_option maxRecDepth 20000 in
theorem gpX11_bestDebts_X11_searchBest_6 : GoodIn wsX11_bestDebts wsX11_searchBest_r6 := goodIn_r _ [131, 132, 133, 134, 135, 136, 137, 138, 139, 140, 141, 142, 143, 144] (by decide +kernel) (by decide +kernel)
set_option maxRecDepth 20000 in
theorem gpX11_bestDebts_X11_searchBest_7 : GoodIn wsX11_bestDebts wsX110 := goodIn_r _ [145, 146, 147, 148, 149, 150, 151, 152, 153, 154, 155, 156, 157, 158, 159, 160, 161, 162] (by decide +kernel) (by decide +kernel)
set_option maxRecDepth 20000 in
theorem gpX11_bestDebts_X11_searchBest_8 : GoodIn wsX11_bestDebts wsX40 := goodIn_r _ [175, 176, 177, 178, 179, 180, 181, 182, 183, 184, 185, 186] (by decide +kernel) (by decide +kernel)
set_option maxRecDepth 20000 in
theorem gpX11_bestDebts_X11_searchBest_9 : GoodIn wsX11_bestDebts wsX20 := goodIn_r _ [187, 188, 189, 190, 191, 192, 193, 194, 195, 196, 197, 198] (by decide +kernel) (by decide +kernel)
set_option maxRecDepth 20000 in
theorem gpX11_bestDebts_X11_searchBest_10 : GoodIn wsX11_bestDebts wsX80 := goodIn_r _ [168, 169, 170, 171, 172, 173, 174] (by decide +kernel) (by decide +kernel)
set_option maxRecDepth 20000 in
theorem gpX11_bestDebts_X11_searchBest_11 : GoodIn wsX11_bestDebts wsX50 := goodIn_r _ [199, 200, 201, 202, 203] (by decide +kernel) (by decide +kernel)
set_option maxRecDepth 20000 in
theorem gpX11_bestDebts_X11_searchBest_12 : GoodIn wsX11_bestDebts wsX00 := goodIn_r _ [163, 164, 165, 166, 167] (by decide +kernel) (by decide +kernel)
theorem ggX11_bestDebts_X11_searchBest : GoodIn wsX11_bestDebts wsX11_searchBest := (goodIn_ca (goodIn_ca (goodIn_ca (goodIn_ca (goodIn_ca (goodIn_ca (goodIn_ca gpX11_bestDebts_X11_searchBest_1 (goodIn_app gpX11_bestDebts_X11_searchBest_2 (goodIn_app gpX11_bestDebts_X11_searchBest_3 (goodIn_app gpX11_bestDebts_X11_searchBest_4 (goodIn_app gpX11_bestDebts_X11_searchBest_5 gpX11_bestDebts_X11_searchBest_6))))) gpX11_bestDebts_X11_searchBest_7) gpX11_bestDebts_X11_searchBest_8) gpX11_bestDebts_X11_searchBest_9) gpX11_bestDebts_X11_searchBest_10) gpX11_bestDebts_X11_searchBest_11) gpX11_bestDebts_X11_searchBest_12)
set_option maxRecDepth 20000 in
theorem gX11_bestDebts_X11_searchBest : GoodIn wsX11_bestDebts (wsV RX11 236 RX11 yX11_searchBest wsX11_searchBest) := goodIn_app (goodIn_of _ (by decide +kernel)) ggX11_bestDebts_X11_searchBest
set_option maxRecDepth 20000 in
theorem gpX11_bestCut_X11_searchBest_1 : GoodIn wsX11_bestCut (Cond.code yX11_searchBest cX11_searchBest 1 none :: wsX11_searchBest_r1) := goodIn_r _ [21, 22, 23, 8, 24, 1, 25, 26, 27, 28, 29, 30, 31, 32, 33, 34, 35, 36, 37, 38, 10, 11, 12, 13, 14] (by decide +kernel) (by decide +kernel)
set_option maxRecDepth 20000 in
theorem gpX11_bestCut_X11_searchBest_2 : GoodIn wsX11_bestCut wsX11_searchBest_r2 := goodIn_r _ [15, 16, 6, 17, 39, 40, 41, 42, 43, 44, 45, 46, 47, 48, 49, 50, 51, 52, 53, 54, 55, 56, 57, 58] (by decide +kernel) (by decide +kernel)
set_option maxRecDepth 20000 in
theorem gpX11_bestCut_X11_searchBest_3 : GoodIn wsX11_bestCut wsX11_searchBest_r3 := goodIn_r _ [59, 60, 61, 62, 63, 64, 65, 66, 67, 68, 69, 70, 71, 72, 73, 74, 75, 76, 77, 78, 79, 80, 81, 82] (by decide +kernel) (by decide +kernel)
set_option maxRecDepth 20000 in
theorem gpX11_bestCut_X11_searchBest_4 : GoodIn wsX11_bestCut wsX11_searchBest_r4 := goodIn_r _ [83, 84, 85, 86, 87, 88, 89, 90, 91, 92, 93, 94, 95, 96, 97, 98, 99, 100, 101, 102, 103, 104, 105, 106] (by decide +kernel) (by decide +kernel)
set_option maxRecDepth 20000 in
theorem gpX11_bestCut_X11_searchBest_5 : GoodIn wsX11_bestCut wsX11_searchBest_r5 := goodIn_r _ [107, 108, 109, 110, 111, 112, 113, 114, 115, 116, 117, 118, 119, 120, 121, 122, 123, 124, 125, 126, 127, 128, 129, 130] (by decide +kernel) (by decide +kernel)
set_option maxRecDepth 20000 in
theorem gpX11_bestCut_X11_searchBest_6 : GoodIn wsX11_bestCut wsX11_searchBest_r6 := goodIn_r _ [131, 132, 133, 134, 135, 136, 137, 138, 139, 140, 141, 142, 143, 144] (by decide +kernel) (by decide +kernel)
set_option maxRecDepth 20000 in
theorem gpX11_bestCut_X11_searchBest_7 : GoodIn wsX11_bestCut wsX110 := goodIn_r _ [145, 146, 147, 148, 149, 150, 151, 152, 153, 154, 155, 156, 157, 158, 159, 160, 161, 162] (by decide +kernel) (by decide +kernel)
set_option maxRecDepth 20000 in
theorem gpX11_bestCut_X11_searchBest_8 : GoodIn wsX11_bestCut wsX40 := goodIn_r _ [175, 176, 177, 178, 179, 180, 181, 182, 183, 184, 185, 186] (by decide +kernel) (by decide +kernel)
set_option maxRecDepth 20000 in
theorem gpX11_bestCut_X11_searchBest_9 : GoodIn wsX11_bestCut wsX20 := goodIn_r _ [187, 188, 189, 190, 191, 192, 193, 194, 195, 196, 197, 198] (by decide +kernel) (by decide +kernel)
set_option maxRecDepth 20000 in
theorem gpX11_bestCut_X11_searchBest_10 : GoodIn wsX11_bestCut wsX80 := goodIn_r _ [168, 169, 170, 171, 172, 173, 174] (by decide +kernel) (by decide +kernel)
set_option maxRecDepth 20000 in
theorem gpX11_bestCut_X11_searchBest_11 : GoodIn wsX11_bestCut wsX50 := goodIn_r _ [199, 200, 201, 202, 203] (by decide +kernel) (by decide +kernel)
set_option maxRecDepth 20000 in
theorem gpX11_bestCut_X11_searchBest_12 : GoodIn wsX11_bestCut wsX00 := goodIn_r _ [163, 164, 165, 166, 167] (by decide +kernel) (by decide +kernel)
theorem ggX11_bestCut_X11_searchBest : GoodIn wsX11_bestCut wsX11_searchBest := (goodIn_ca (goodIn_ca (goodIn_ca (goodIn_ca (goodIn_ca (goodIn_ca (goodIn_ca gpX11_bestCut_X11_searchBest_1 (goodIn_app gpX11_bestCut_X11_searchBest_2 (goodIn_app gpX11_bestCut_X11_searchBest_3 (goodIn_app gpX11_bestCut_X11_searchBest_4 (goodIn_app gpX11_bestCut_X11_searchBest_5 gpX11_bestCut_X11_searchBest_6))))) gpX11_bestCut_X11_searchBest_7) gpX11_bestCut_X11_searchBest_8) gpX11_bestCut_X11_searchBest_9) gpX11_bestCut_X11_searchBest_10) gpX11_bestCut_X11_searchBest_11) gpX11_bestCut_X11_searchBest_12)
set_option maxRecDepth 20000 in
theorem gX11_bestCut_X11_searchBest : GoodIn wsX11_bestCut (wsV RX11 236 RX11 yX11_searchBest wsX11_searchBest) := goodIn_app (goodIn_of _ (by decide +kernel)) ggX11_bestCut_X11_searchBest
set_option maxRecDepth 20000 in
theorem gpX11_stepsToEnd_X11_trySteps_1 : GoodIn wsX11_stepsToEnd (Cond.code yX11_trySteps cX11_trySteps 2 (some .int) :: wsX11_trySteps_r1) := goodIn_r _ [14, 3, 15, 16, 17, 18, 19, 20, 21, 22, 23, 24, 25, 26, 27, 28, 7, 29, 30, 31, 32, 33, 34, 35, 36] (by decide +kernel) (by decide +kernel)
set_option maxRecDepth 20000 in
theorem gpX11_stepsToEnd_X11_trySteps_2 : GoodIn wsX11_stepsToEnd wsX11_trySteps_r2 := goodIn_r _ [37, 38, 39, 40, 41, 1, 2, 42, 43, 44, 45, 46, 47, 48, 49, 50, 51, 52, 53, 54, 55, 56, 57, 58] (by decide +kernel) (by decide +kernel)
set_option maxRecDepth 20000 in
theorem gpX11_stepsToEnd_X11_trySteps_3 : GoodIn wsX11_stepsToEnd wsX11_trySteps_r3 := goodIn_r _ [59, 60, 61, 62, 63, 64, 65, 66, 67, 68, 69, 70, 71, 72, 73, 74, 75, 76, 77, 78, 79, 80, 81, 82] (by decide +kernel) (by decide +kernel)
set_option maxRecDepth 20000 in
theorem gpX11_stepsToEnd_X11_trySteps_4 : GoodIn wsX11_stepsToEnd wsX11_trySteps_r4 := goodIn_r _ [83, 84, 85, 86, 87, 88, 89, 90, 91, 92, 93, 94, 95, 96, 97, 98, 99, 100, 101, 102, 103, 104, 105, 106] (by decide +kernel) (by decide +kernel)
set_option maxRecDepth 20000 in
theorem gpX11_stepsToEnd_X11_trySteps_5 : GoodIn wsX11_stepsToEnd wsX11_trySteps_r5 := goodIn_r _ [107, 108, 109, 110, 111, 112, 113, 114, 115, 116, 117, 118, 119, 120, 121, 122, 123, 124, 125, 126, 127, 128, 129, 130] (by decide +kernel) (by decide +kernel)
set_option maxRecDepth 20000 in
theorem gpX11_stepsToEnd_X11_trySteps_6 : GoodIn wsX11_stepsToEnd wsX11_trySteps_r6 := goodIn_r _ [131, 132, 133, 134, 135, 136, 137, 138, 139, 140, 141, 142, 143, 144, 145, 146, 147] (by decide +kernel) (by decide +kernel)
set_option maxRecDepth 20000 in
theorem gpX11_stepsToEnd_X11_trySteps_7 : GoodIn wsX11_stepsToEnd wsX110 := goodIn_r _ [148, 149, 150, 151, 152, 153, 154, 155, 156, 157, 158, 159, 160, 161, 162, 163, 164, 165] (by decide +kernel) (by decide +kernel)
set_option maxRecDepth 20000 in
theorem gpX11_stepsToEnd_X11_trySteps_8 : GoodIn wsX11_stepsToEnd wsX80 := goodIn_r _ [166, 167, 168, 169, 170, 171, 172] (by decide +kernel) (by decide +kernel)
set_option maxRecDepth 20000 in
theorem gpX11_stepsToEnd_X11_trySteps_9 : GoodIn wsX11_stepsToEnd wsX40 := goodIn_r _ [173, 174, 175, 176, 177, 178, 179, 180, 181, 182, 183, 184] (by decide +kernel) (by decide +kernel)
set_option maxRecDepth 20000 in
theorem gpX11_stepsToEnd_X11_trySteps_10 : GoodIn wsX11_stepsToEnd wsX20 := goodIn_r _ [185, 186, 187, 188, 189, 190, 191, 192, 193, 194, 195, 196] (by decide +kernel) (by decide +kernel)
theorem ggX11_stepsToEnd_X11_trySteps : GoodIn wsX11_stepsToEnd wsX11_trySteps := (goodIn_ca (goodIn_ca (goodIn_ca (goodIn_ca (goodIn_ca gpX11_stepsToEnd_X11_trySteps_1 (goodIn_app gpX11_stepsToEnd_X11_trySteps_2 (goodIn_app gpX11_stepsToEnd_X11_trySteps_3 (goodIn_app gpX11_stepsToEnd_X11_trySteps_4 (goodIn_app gpX11_stepsToEnd_X11_trySteps_5 gpX11_stepsToEnd_X11_trySteps_6))))) gpX11_stepsToEnd_X11_trySteps_7) gpX11_stepsToEnd_X11_trySteps_8) gpX11_stepsToEnd_X11_trySteps_9) gpX11_stepsToEnd_X11_trySteps_10)
set_option maxRecDepth 20000 in
theorem gX11_stepsToEnd_X11_trySteps : GoodIn wsX11_stepsToEnd (wsV RX11 434 RX11 yX11_trySteps wsX11_trySteps) := goodIn_app (goodIn_of _ (by decide +kernel)) ggX11_stepsToEnd_X11_trySteps
