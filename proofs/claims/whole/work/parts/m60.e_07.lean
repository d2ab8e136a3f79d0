set_option maxRecDepth 20000 in
theorem gpX11_mergeGroups_X11_findPairs_1 : GoodIn wsX11_mergeGroups (Cond.code yX11_findPairs cX11_findPairs 1 none :: wsX11_findPairs_r1) := goodIn_r _ [10, 2, 4, 3, 1, 11, 12, 13, 14, 15, 16, 17, 18, 19, 20, 21, 22, 23, 24, 25, 26, 27, 28, 29, 30] (by decide +kernel) (by decide +kernel)
set_option maxRecDepth 20000 in
theorem gpX11_mergeGroups_X11_findPairs_2 : GoodIn wsX11_mergeGroups wsX11_findPairs_r2 := goodIn_r _ [31, 9, 32, 33, 34, 35, 36, 37, 38, 39, 40, 41, 42, 43, 44, 45, 46, 47, 48, 49, 50, 51, 52, 53] (by decide +kernel) (by decide +kernel)
set_option maxRecDepth 20000 in
theorem gpX11_mergeGroups_X11_findPairs_3 : GoodIn wsX11_mergeGroups wsX11_findPairs_r3 := goodIn_r _ [54, 55, 56, 57, 58, 59, 60, 61, 62, 63, 64, 65, 66, 67, 68, 69, 70, 71, 72, 73, 74, 75, 76, 77] (by decide +kernel) (by decide +kernel)
set_option maxRecDepth 20000 in
theorem gpX11_mergeGroups_X11_findPairs_4 : GoodIn wsX11_mergeGroups wsX11_findPairs_r4 := goodIn_r _ [78, 79, 80, 81, 82, 83, 84, 85, 86, 87, 88, 89, 90, 91, 92, 93, 94, 95, 96, 97, 98, 99, 100, 101] (by decide +kernel) (by decide +kernel)
set_option maxRecDepth 20000 in
theorem gpX11_mergeGroups_X11_findPairs_5 : GoodIn wsX11_mergeGroups wsX11_findPairs_r5 := goodIn_r _ [102, 103, 104, 105] (by decide +kernel) (by decide +kernel)
set_option maxRecDepth 20000 in
theorem gpX11_mergeGroups_X11_findPairs_6 : GoodIn wsX11_mergeGroups wsX110 := goodIn_r _ [120, 121, 122, 123, 124, 125, 126, 127, 128, 129, 130, 131, 132, 133, 134, 135, 136, 137] (by decide +kernel) (by decide +kernel)
set_option maxRecDepth 20000 in
theorem gpX11_mergeGroups_X11_findPairs_7 : GoodIn wsX11_mergeGroups wsX40 := goodIn_r _ [150, 151, 152, 153, 154, 155, 156, 157, 158, 159, 160, 161] (by decide +kernel) (by decide +kernel)
set_option maxRecDepth 20000 in
theorem gpX11_mergeGroups_X11_findPairs_8 : GoodIn wsX11_mergeGroups wsX20 := goodIn_r _ [138, 139, 140, 141, 142, 143, 144, 145, 146, 147, 148, 149] (by decide +kernel) (by decide +kernel)
set_option maxRecDepth 20000 in
theorem gpX11_mergeGroups_X11_findPairs_9 : GoodIn wsX11_mergeGroups wsX80 := goodIn_r _ [162, 163, 164, 165, 166, 167, 168] (by decide +kernel) (by decide +kernel)
set_option maxRecDepth 20000 in
theorem gpX11_mergeGroups_X11_findPairs_10 : GoodIn wsX11_mergeGroups wsX50 := goodIn_r _ [169, 170, 171, 172, 173] (by decide +kernel) (by decide +kernel)
theorem ggX11_mergeGroups_X11_findPairs : GoodIn wsX11_mergeGroups wsX11_findPairs := (goodIn_ca (goodIn_ca (goodIn_ca (goodIn_ca (goodIn_ca (goodIn_ca gpX11_mergeGroups_X11_findPairs_1 (goodIn_app gpX11_mergeGroups_X11_findPairs_2 (goodIn_app gpX11_mergeGroups_X11_findPairs_3 (goodIn_app gpX11_mergeGroups_X11_findPairs_4 gpX11_mergeGroups_X11_findPairs_5)))) gpX11_mergeGroups_X11_findPairs_6) gpX11_mergeGroups_X11_findPairs_7) gpX11_mergeGroups_X11_findPairs_8) gpX11_mergeGroups_X11_findPairs_9) gpX11_mergeGroups_X11_findPairs_10)
set_option maxRecDepth 20000 in
theorem gX11_mergeGroups_X11_findPairs : GoodIn wsX11_mergeGroups (wsV RX11 392 RX11 yX11_findPairs wsX11_findPairs) := goodIn_app (goodIn_of _ (by decide +kernel)) ggX11_mergeGroups_X11_findPairs
set_option maxRecDepth 20000 in
theorem gpX11_move_X11_whyNotMove_1 : GoodIn wsX11_move (Cond.code yX11_whyNotMove cX11_whyNotMove 3 (some .int) :: wsX11_whyNotMove_r1) := goodIn_r _ [9, 10, 11, 4, 12, 13, 14, 8, 15, 16, 17, 18, 19, 20, 21, 22, 23, 24, 25, 26, 27, 28, 29, 30, 31] (by decide +kernel) (by decide +kernel)
set_option maxRecDepth 20000 in
theorem gpX11_move_X11_whyNotMove_2 : GoodIn wsX11_move wsX11_whyNotMove_r2 := goodIn_r _ [32, 33, 34, 35, 36, 37, 38, 39, 40, 41, 42, 43, 44, 45, 46, 47, 48, 49, 50, 51, 52, 53, 54, 55] (by decide +kernel) (by decide +kernel)
set_option maxRecDepth 20000 in
theorem gpX11_move_X11_whyNotMove_3 : GoodIn wsX11_move wsX11_whyNotMove_r3 := goodIn_r _ [56, 57, 58, 59, 60, 61, 62, 63, 64, 65, 66, 67, 68, 69, 70, 71, 72, 73, 74, 75, 76, 77, 78, 79] (by decide +kernel) (by decide +kernel)
set_option maxRecDepth 20000 in
theorem gpX11_move_X11_whyNotMove_4 : GoodIn wsX11_move wsX11_whyNotMove_r4 := goodIn_r _ [80, 81, 82, 83, 84, 85, 86, 87, 88, 89, 90, 91, 92, 93, 94, 95, 96, 97, 98, 99, 100, 101, 102, 103] (by decide +kernel) (by decide +kernel)
set_option maxRecDepth 20000 in
theorem gpX11_move_X11_whyNotMove_5 : GoodIn wsX11_move wsX11_whyNotMove_r5 := goodIn_r _ [104, 105, 106, 107, 108, 109, 110, 111] (by decide +kernel) (by decide +kernel)
set_option maxRecDepth 20000 in
theorem gpX11_move_X11_whyNotMove_6 : GoodIn wsX11_move wsX110 := goodIn_r _ [176, 177, 178, 179, 180, 181, 182, 183, 184, 185, 186, 187, 188, 189, 190, 191, 192, 193] (by decide +kernel) (by decide +kernel)
set_option maxRecDepth 20000 in
theorem gpX11_move_X11_whyNotMove_7 : GoodIn wsX11_move wsX80 := goodIn_r _ [194, 195, 196, 197, 198, 199, 200] (by decide +kernel) (by decide +kernel)
set_option maxRecDepth 20000 in
theorem gpX11_move_X11_whyNotMove_8 : GoodIn wsX11_move wsX20 := goodIn_r _ [201, 202, 203, 204, 205, 206, 207, 208, 209, 210, 211, 212] (by decide +kernel) (by decide +kernel)
set_option maxRecDepth 20000 in
theorem gpX11_move_X11_whyNotMove_9 : GoodIn wsX11_move wsX40 := goodIn_r _ [213, 214, 215, 216, 217, 218, 219, 220, 221, 222, 223, 224] (by decide +kernel) (by decide +kernel)
theorem ggX11_move_X11_whyNotMove : GoodIn wsX11_move wsX11_whyNotMove := (goodIn_ca (goodIn_ca (goodIn_ca (goodIn_ca (goodIn_ca (goodIn_ca gpX11_move_X11_whyNotMove_1 (goodIn_app gpX11_move_X11_whyNotMove_2 (goodIn_app gpX11_move_X11_whyNotMove_3 (goodIn_app gpX11_move_X11_whyNotMove_4 gpX11_move_X11_whyNotMove_5)))) gpX11_move_X11_whyNotMove_6) gpX11_move_X11_whyNotMove_7) gpX11_move_X11_whyNotMove_8) gpX11_move_X11_whyNotMove_9) (goodIn_sub (fun _ h => List.mem_cons_of_mem _ (List.mem_append_right _ h)) (by decide +kernel)))
set_option maxRecDepth 20000 in
theorem gX11_move_X11_whyNotMove : GoodIn wsX11_move (wsV RX11 202 RX11 yX11_whyNotMove wsX11_whyNotMove) := goodIn_app (goodIn_of _ (by decide +kernel)) ggX11_move_X11_whyNotMove
set_option maxRecDepth 20000 in
theorem gpX11_move_X11_takeTo_1 : GoodIn wsX11_move (Cond.code yX11_takeTo cX11_takeTo 3 none :: wsX11_takeTo_r1) := goodIn_r _ [147, 10, 11, 4, 40, 41, 42, 43, 44, 45, 46, 47, 48, 49, 50, 51, 52, 53, 23, 24, 25, 26, 27, 28, 29] (by decide +kernel) (by decide +kernel)
set_option maxRecDepth 20000 in
theorem gpX11_move_X11_takeTo_2 : GoodIn wsX11_move wsX11_takeTo_r2 := goodIn_r _ [8, 30, 54, 55, 56, 57, 58, 59, 60, 61, 62, 63, 64, 65, 66, 67, 68, 69, 70, 71, 72, 73, 74, 75] (by decide +kernel) (by decide +kernel)
set_option maxRecDepth 20000 in
theorem gpX11_move_X11_takeTo_3 : GoodIn wsX11_move wsX11_takeTo_r3 := goodIn_r _ [76, 77, 78, 79, 80, 81, 82, 83, 84, 85, 86, 87, 88, 89, 90, 91, 92, 93, 94, 95, 96, 97, 98, 99] (by decide +kernel) (by decide +kernel)
set_option maxRecDepth 20000 in
theorem gpX11_move_X11_takeTo_4 : GoodIn wsX11_move wsX11_takeTo_r4 := goodIn_r _ [148, 149, 150, 151, 152, 153, 154, 155, 156, 157, 158, 159, 160, 161, 162, 163, 136, 164, 141, 142, 143, 133, 165, 120] (by decide +kernel) (by decide +kernel)
set_option maxRecDepth 20000 in
theorem gpX11_move_X11_takeTo_5 : GoodIn wsX11_move wsX11_takeTo_r5 := goodIn_r _ [121, 122, 166, 167, 168, 169, 134, 170, 171] (by decide +kernel) (by decide +kernel)
set_option maxRecDepth 20000 in
theorem gpX11_move_X11_takeTo_6 : GoodIn wsX11_move wsX110 := goodIn_r _ [176, 177, 178, 179, 180, 181, 182, 183, 184, 185, 186, 187, 188, 189, 190, 191, 192, 193] (by decide +kernel) (by decide +kernel)
set_option maxRecDepth 20000 in
theorem gpX11_move_X11_takeTo_7 : GoodIn wsX11_move wsX40 := goodIn_r _ [213, 214, 215, 216, 217, 218, 219, 220, 221, 222, 223, 224] (by decide +kernel) (by decide +kernel)
set_option maxRecDepth 20000 in
theorem gpX11_move_X11_takeTo_8 : GoodIn wsX11_move wsX20 := goodIn_r _ [201, 202, 203, 204, 205, 206, 207, 208, 209, 210, 211, 212] (by decide +kernel) (by decide +kernel)
set_option maxRecDepth 20000 in
theorem gpX11_move_X11_takeTo_9 : GoodIn wsX11_move wsX80 := goodIn_r _ [194, 195, 196, 197, 198, 199, 200] (by decide +kernel) (by decide +kernel)
theorem ggX11_move_X11_takeTo : GoodIn wsX11_move wsX11_takeTo := (goodIn_ca (goodIn_ca (goodIn_ca (goodIn_ca (goodIn_ca gpX11_move_X11_takeTo_1 (goodIn_app gpX11_move_X11_takeTo_2 (goodIn_app gpX11_move_X11_takeTo_3 (goodIn_app gpX11_move_X11_takeTo_4 gpX11_move_X11_takeTo_5)))) gpX11_move_X11_takeTo_6) gpX11_move_X11_takeTo_7) gpX11_move_X11_takeTo_8) gpX11_move_X11_takeTo_9)
set_option maxRecDepth 20000 in
theorem gX11_move_X11_takeTo : GoodIn wsX11_move (wsV RX11 228 RX11 yX11_takeTo wsX11_takeTo) := goodIn_app (goodIn_of _ (by decide +kernel)) ggX11_move_X11_takeTo
set_option maxRecDepth 20000 in
theorem gpX11_step_X11_makeSteps_1 : GoodIn wsX11_step (Cond.code yX11_makeSteps cX11_makeSteps 5 (some .int) :: wsX11_makeSteps_r1) := goodIn_r _ [133, 8, 9, 10, 11, 12, 13, 14, 15, 16, 17, 18, 19, 20, 21, 22, 23, 24, 25, 26, 27, 28, 29, 30, 6] (by decide +kernel) (by decide +kernel)
set_option maxRecDepth 20000 in
theorem gpX11_step_X11_makeSteps_2 : GoodIn wsX11_step wsX11_makeSteps_r2 := goodIn_r _ [31, 32, 33, 34, 35, 36, 37, 38, 39, 40, 41, 42, 43, 44, 45, 46, 47, 48, 49, 50, 51, 52, 53, 54] (by decide +kernel) (by decide +kernel)
set_option maxRecDepth 20000 in
theorem gpX11_step_X11_makeSteps_3 : GoodIn wsX11_step wsX11_makeSteps_r3 := goodIn_r _ [55, 56, 57, 58, 59, 60, 61, 62, 63, 64, 65, 66, 67, 68, 69, 70, 71, 72, 73, 74, 75, 76, 77, 78] (by decide +kernel) (by decide +kernel)
set_option maxRecDepth 20000 in
theorem gpX11_step_X11_makeSteps_4 : GoodIn wsX11_step wsX11_makeSteps_r4 := goodIn_r _ [79, 80, 81, 82, 83, 84, 85, 86, 87, 88, 89, 90, 91, 92, 93, 94, 95, 96, 97, 134, 135, 136, 137, 138] (by decide +kernel) (by decide +kernel)
set_option maxRecDepth 20000 in
theorem gpX11_step_X11_makeSteps_5 : GoodIn wsX11_step wsX11_makeSteps_r5 := goodIn_r _ [139, 140, 141, 142, 143, 144, 145, 146, 122, 147, 127, 128, 129, 119, 148, 106, 107, 108, 149, 150, 151, 152, 120, 153] (by decide +kernel) (by decide +kernel)
set_option maxRecDepth 20000 in
theorem gpX11_step_X11_makeSteps_6 : GoodIn wsX11_step wsX11_makeSteps_r6 := goodIn_r _ [154] (by decide +kernel) (by decide +kernel)
set_option maxRecDepth 20000 in
theorem gpX11_step_X11_makeSteps_7 : GoodIn wsX11_step wsX110 := goodIn_r _ [159, 160, 161, 162, 163, 164, 165, 166, 167, 168, 169, 170, 171, 172, 173, 174, 175, 176] (by decide +kernel) (by decide +kernel)
set_option maxRecDepth 20000 in
theorem gpX11_step_X11_makeSteps_8 : GoodIn wsX11_step wsX40 := goodIn_r _ [177, 178, 179, 180, 181, 182, 183, 184, 185, 186, 187, 188] (by decide +kernel) (by decide +kernel)
set_option maxRecDepth 20000 in
theorem gpX11_step_X11_makeSteps_9 : GoodIn wsX11_step wsX20 := goodIn_r _ [189, 190, 191, 192, 193, 194, 195, 196, 197, 198, 199, 200] (by decide +kernel) (by decide +kernel)
set_option maxRecDepth 20000 in
theorem gpX11_step_X11_makeSteps_10 : GoodIn wsX11_step wsX80 := goodIn_r _ [201, 202, 203, 204, 205, 206, 207] (by decide +kernel) (by decide +kernel)
theorem ggX11_step_X11_makeSteps : GoodIn wsX11_step wsX11_makeSteps := (goodIn_ca (goodIn_ca (goodIn_ca (goodIn_ca (goodIn_ca gpX11_step_X11_makeSteps_1 (goodIn_app gpX11_step_X11_makeSteps_2 (goodIn_app gpX11_step_X11_makeSteps_3 (goodIn_app gpX11_step_X11_makeSteps_4 (goodIn_app gpX11_step_X11_makeSteps_5 gpX11_step_X11_makeSteps_6))))) gpX11_step_X11_makeSteps_7) gpX11_step_X11_makeSteps_8) gpX11_step_X11_makeSteps_9) gpX11_step_X11_makeSteps_10)
set_option maxRecDepth 20000 in
theorem gX11_step_X11_makeSteps : GoodIn wsX11_step (wsV RX11 232 RX11 yX11_makeSteps wsX11_makeSteps) := goodIn_app (goodIn_of _ (by decide +kernel)) ggX11_step_X11_makeSteps
