set_option maxRecDepth 20000 in
theorem gpX11_cutBehind_X11_trySteps_1 : GoodIn wsX11_cutBehind (Cond.code yX11_trySteps cX11_trySteps 2 (some .int) :: wsX11_trySteps_r1) := goodIn_r _ [15, 3, 16, 17, 18, 19, 20, 21, 22, 23, 24, 25, 26, 27, 28, 29, 8, 30, 31, 32, 33, 34, 35, 36, 37] (by decide +kernel) (by decide +kernel)
set_option maxRecDepth 20000 in
theorem gpX11_cutBehind_X11_trySteps_2 : GoodIn wsX11_cutBehind wsX11_trySteps_r2 := goodIn_r _ [38, 39, 40, 41, 42, 1, 2, 43, 44, 45, 46, 47, 48, 49, 50, 51, 52, 53, 54, 55, 56, 57, 58, 59] (by decide +kernel) (by decide +kernel)
set_option maxRecDepth 20000 in
theorem gpX11_cutBehind_X11_trySteps_3 : GoodIn wsX11_cutBehind wsX11_trySteps_r3 := goodIn_r _ [60, 61, 62, 63, 64, 65, 66, 67, 68, 69, 70, 71, 72, 73, 74, 75, 76, 77, 78, 79, 80, 81, 82, 83] (by decide +kernel) (by decide +kernel)
set_option maxRecDepth 20000 in
theorem gpX11_cutBehind_X11_trySteps_4 : GoodIn wsX11_cutBehind wsX11_trySteps_r4 := goodIn_r _ [84, 85, 86, 87, 88, 89, 90, 91, 92, 93, 94, 95, 96, 97, 98, 99, 100, 101, 102, 103, 104, 105, 106, 107] (by decide +kernel) (by decide +kernel)
set_option maxRecDepth 20000 in
theorem gpX11_cutBehind_X11_trySteps_5 : GoodIn wsX11_cutBehind wsX11_trySteps_r5 := goodIn_r _ [108, 109, 110, 111, 112, 113, 114, 115, 116, 117, 118, 119, 120, 121, 122, 123, 124, 125, 126, 127, 128, 129, 130, 131] (by decide +kernel) (by decide +kernel)
set_option maxRecDepth 20000 in
theorem gpX11_cutBehind_X11_trySteps_6 : GoodIn wsX11_cutBehind wsX11_trySteps_r6 := goodIn_r _ [132, 4, 133, 134, 135, 136, 137, 138, 139, 140, 141, 142, 143, 144, 145, 146, 147] (by decide +kernel) (by decide +kernel)
set_option maxRecDepth 20000 in
theorem gpX11_cutBehind_X11_trySteps_7 : GoodIn wsX11_cutBehind wsX110 := goodIn_r _ [148, 149, 150, 151, 152, 153, 154, 155, 156, 157, 158, 159, 160, 161, 162, 163, 164, 165] (by decide +kernel) (by decide +kernel)
set_option maxRecDepth 20000 in
theorem gpX11_cutBehind_X11_trySteps_8 : GoodIn wsX11_cutBehind wsX80 := goodIn_r _ [178, 179, 180, 181, 182, 183, 184] (by decide +kernel) (by decide +kernel)
set_option maxRecDepth 20000 in
theorem gpX11_cutBehind_X11_trySteps_9 : GoodIn wsX11_cutBehind wsX40 := goodIn_r _ [166, 167, 168, 169, 170, 171, 172, 173, 174, 175, 176, 177] (by decide +kernel) (by decide +kernel)
set_option maxRecDepth 20000 in
theorem gpX11_cutBehind_X11_trySteps_10 : GoodIn wsX11_cutBehind wsX20 := goodIn_r _ [185, 186, 187, 188, 189, 190, 191, 192, 193, 194, 195, 196] (by decide +kernel) (by decide +kernel)
theorem ggX11_cutBehind_X11_trySteps : GoodIn wsX11_cutBehind wsX11_trySteps := (goodIn_ca (goodIn_ca (goodIn_ca (goodIn_ca (goodIn_ca gpX11_cutBehind_X11_trySteps_1 (goodIn_app gpX11_cutBehind_X11_trySteps_2 (goodIn_app gpX11_cutBehind_X11_trySteps_3 (goodIn_app gpX11_cutBehind_X11_trySteps_4 (goodIn_app gpX11_cutBehind_X11_trySteps_5 gpX11_cutBehind_X11_trySteps_6))))) gpX11_cutBehind_X11_trySteps_7) gpX11_cutBehind_X11_trySteps_8) gpX11_cutBehind_X11_trySteps_9) gpX11_cutBehind_X11_trySteps_10)
set_option maxRecDepth 20000 in
theorem gX11_cutBehind_X11_trySteps : GoodIn wsX11_cutBehind (wsV RX11 434 RX11 yX11_trySteps wsX11_trySteps) := goodIn_app (goodIn_of _ (by decide +kernel)) ggX11_cutBehind_X11_trySteps
set_option maxRecDepth 20000 in
theorem gpX11_trySteps_X11_makeSteps_1 : GoodIn wsX11_trySteps (Cond.code yX11_makeSteps cX11_makeSteps 5 (some .int) :: wsX11_makeSteps_r1) := goodIn_r _ [29, 30, 31, 32, 33, 34, 35, 36, 37, 38, 39, 40, 41, 42, 43, 44, 45, 46, 47, 6, 48, 12, 8, 49, 16] (by decide +kernel) (by decide +kernel)
set_option maxRecDepth 20000 in
theorem gpX11_trySteps_X11_makeSteps_2 : GoodIn wsX11_trySteps wsX11_makeSteps_r2 := goodIn_r _ [50, 51, 52, 53, 54, 55, 56, 57, 58, 59, 60, 61, 62, 63, 64, 65, 66, 67, 68, 69, 70, 71, 72, 73] (by decide +kernel) (by decide +kernel)
set_option maxRecDepth 20000 in
theorem gpX11_trySteps_X11_makeSteps_3 : GoodIn wsX11_trySteps wsX11_makeSteps_r3 := goodIn_r _ [74, 75, 76, 77, 78, 79, 80, 81, 82, 83, 84, 85, 86, 87, 88, 89, 90, 91, 92, 93, 94, 95, 96, 97] (by decide +kernel) (by decide +kernel)
set_option maxRecDepth 20000 in
theorem gpX11_trySteps_X11_makeSteps_4 : GoodIn wsX11_trySteps wsX11_makeSteps_r4 := goodIn_r _ [98, 99, 100, 101, 102, 103, 104, 105, 106, 107, 108, 109, 110, 111, 112, 113, 114, 115, 116, 117, 118, 119, 120, 121] (by decide +kernel) (by decide +kernel)
set_option maxRecDepth 20000 in
theorem gpX11_trySteps_X11_makeSteps_5 : GoodIn wsX11_trySteps wsX11_makeSteps_r5 := goodIn_r _ [122, 123, 124, 125, 126, 127, 128, 129, 14, 130, 23, 24, 25, 10, 131, 19, 20, 21, 132, 133, 134, 135, 11, 136] (by decide +kernel) (by decide +kernel)
set_option maxRecDepth 20000 in
theorem gpX11_trySteps_X11_makeSteps_6 : GoodIn wsX11_trySteps wsX11_makeSteps_r6 := goodIn_r _ [137] (by decide +kernel) (by decide +kernel)
set_option maxRecDepth 20000 in
theorem gpX11_trySteps_X11_makeSteps_7 : GoodIn wsX11_trySteps wsX110 := goodIn_r _ [138, 139, 140, 141, 142, 143, 144, 145, 146, 147, 148, 149, 150, 151, 152, 153, 154, 155] (by decide +kernel) (by decide +kernel)
set_option maxRecDepth 20000 in
theorem gpX11_trySteps_X11_makeSteps_8 : GoodIn wsX11_trySteps wsX40 := goodIn_r _ [163, 164, 165, 166, 167, 168, 169, 170, 171, 172, 173, 174] (by decide +kernel) (by decide +kernel)
set_option maxRecDepth 20000 in
theorem gpX11_trySteps_X11_makeSteps_9 : GoodIn wsX11_trySteps wsX20 := goodIn_r _ [175, 176, 177, 178, 179, 180, 181, 182, 183, 184, 185, 186] (by decide +kernel) (by decide +kernel)
set_option maxRecDepth 20000 in
theorem gpX11_trySteps_X11_makeSteps_10 : GoodIn wsX11_trySteps wsX80 := goodIn_r _ [156, 157, 158, 159, 160, 161, 162] (by decide +kernel) (by decide +kernel)
theorem ggX11_trySteps_X11_makeSteps : GoodIn wsX11_trySteps wsX11_makeSteps := (goodIn_ca (goodIn_ca (goodIn_ca (goodIn_ca (goodIn_ca gpX11_trySteps_X11_makeSteps_1 (goodIn_app gpX11_trySteps_X11_makeSteps_2 (goodIn_app gpX11_trySteps_X11_makeSteps_3 (goodIn_app gpX11_trySteps_X11_makeSteps_4 (goodIn_app gpX11_trySteps_X11_makeSteps_5 gpX11_trySteps_X11_makeSteps_6))))) gpX11_trySteps_X11_makeSteps_7) gpX11_trySteps_X11_makeSteps_8) gpX11_trySteps_X11_makeSteps_9) gpX11_trySteps_X11_makeSteps_10)
set_option maxRecDepth 20000 in
theorem gX11_trySteps_X11_makeSteps : GoodIn wsX11_trySteps (wsV RX11 232 RX11 yX11_makeSteps wsX11_makeSteps) := goodIn_app (goodIn_of _ (by decide +kernel)) ggX11_trySteps_X11_makeSteps
set_option maxRecDepth 20000 in
theorem gpX11_shrink_X11_whyNotShrink_1 : GoodIn wsX11_shrink (Cond.code yX11_whyNotShrink cX11_whyNotShrink 1 (some .int) :: wsX11_whyNotShrink_r1) := goodIn_r _ [9, 4, 10, 11, 12, 13, 14, 15, 8, 16, 17, 18, 19, 20, 21, 22, 23, 24, 25, 26, 27, 28, 29, 30, 31] (by decide +kernel) (by decide +kernel)
set_option maxRecDepth 20000 in
theorem gpX11_shrink_X11_whyNotShrink_2 : GoodIn wsX11_shrink wsX11_whyNotShrink_r2 := goodIn_r _ [32, 33, 34, 35, 36, 37, 38, 39, 40, 41, 42, 43, 44, 45, 46, 47, 48, 49, 50, 51, 52, 53, 54, 55] (by decide +kernel) (by decide +kernel)
set_option maxRecDepth 20000 in
theorem gpX11_shrink_X11_whyNotShrink_3 : GoodIn wsX11_shrink wsX11_whyNotShrink_r3 := goodIn_r _ [56, 57, 58, 59, 60, 61, 62, 63, 64, 65, 66, 67, 68, 69, 70, 71, 72, 73, 74, 75, 76, 77, 78, 79] (by decide +kernel) (by decide +kernel)
set_option maxRecDepth 20000 in
theorem gpX11_shrink_X11_whyNotShrink_4 : GoodIn wsX11_shrink wsX11_whyNotShrink_r4 := goodIn_r _ [80, 81, 82, 83, 84, 85, 86, 87, 88, 89, 90, 91, 92, 93, 94, 95, 96, 97, 98, 99, 100, 101, 102, 103] (by decide +kernel) (by decide +kernel)
set_option maxRecDepth 20000 in
theorem gpX11_shrink_X11_whyNotShrink_5 : GoodIn wsX11_shrink wsX11_whyNotShrink_r5 := goodIn_r _ [104, 105, 106, 107, 108, 109, 110, 111, 112, 113] (by decide +kernel) (by decide +kernel)
set_option maxRecDepth 20000 in
theorem gpX11_shrink_X11_whyNotShrink_6 : GoodIn wsX11_shrink wsX110 := goodIn_r _ [165, 166, 167, 168, 169, 170, 171, 172, 173, 174, 175, 176, 177, 178, 179, 180, 181, 182] (by decide +kernel) (by decide +kernel)
set_option maxRecDepth 20000 in
theorem gpX11_shrink_X11_whyNotShrink_7 : GoodIn wsX11_shrink wsX80 := goodIn_r _ [183, 184, 185, 186, 187, 188, 189] (by decide +kernel) (by decide +kernel)
set_option maxRecDepth 20000 in
theorem gpX11_shrink_X11_whyNotShrink_8 : GoodIn wsX11_shrink wsX50 := goodIn_r _ [190, 191, 192, 193, 194] (by decide +kernel) (by decide +kernel)
set_option maxRecDepth 20000 in
theorem gpX11_shrink_X11_whyNotShrink_9 : GoodIn wsX11_shrink wsX40 := goodIn_r _ [195, 196, 197, 198, 199, 200, 201, 202, 203, 204, 205, 206] (by decide +kernel) (by decide +kernel)
set_option maxRecDepth 20000 in
theorem gpX11_shrink_X11_whyNotShrink_10 : GoodIn wsX11_shrink wsX20 := goodIn_r _ [207, 208, 209, 210, 211, 212, 213, 214, 215, 216, 217, 218] (by decide +kernel) (by decide +kernel)
theorem ggX11_shrink_X11_whyNotShrink : GoodIn wsX11_shrink wsX11_whyNotShrink := (goodIn_ca (goodIn_ca (goodIn_ca (goodIn_ca (goodIn_ca (goodIn_ca gpX11_shrink_X11_whyNotShrink_1 (goodIn_app gpX11_shrink_X11_whyNotShrink_2 (goodIn_app gpX11_shrink_X11_whyNotShrink_3 (goodIn_app gpX11_shrink_X11_whyNotShrink_4 gpX11_shrink_X11_whyNotShrink_5)))) gpX11_shrink_X11_whyNotShrink_6) gpX11_shrink_X11_whyNotShrink_7) gpX11_shrink_X11_whyNotShrink_8) gpX11_shrink_X11_whyNotShrink_9) gpX11_shrink_X11_whyNotShrink_10)
set_option maxRecDepth 20000 in
theorem gX11_shrink_X11_whyNotShrink : GoodIn wsX11_shrink (wsV RX11 189 RX11 yX11_whyNotShrink wsX11_whyNotShrink) := goodIn_app (goodIn_of _ (by decide +kernel)) ggX11_shrink_X11_whyNotShrink
set_option maxRecDepth 20000 in
theorem gpX11_shrink_X11_mergeGroups_1 : GoodIn wsX11_shrink (Cond.code yX11_mergeGroups cX11_mergeGroups 1 none :: wsX11_mergeGroups_r1) := goodIn_r _ [149, 11, 17, 4, 18, 150, 13, 14, 15, 8, 16, 19, 20, 21, 22, 23, 24, 25, 26, 27, 28, 29, 30, 31, 32] (by decide +kernel) (by decide +kernel)
set_option maxRecDepth 20000 in
theorem gpX11_shrink_X11_mergeGroups_2 : GoodIn wsX11_shrink wsX11_mergeGroups_r2 := goodIn_r _ [33, 34, 35, 36, 37, 38, 39, 40, 41, 42, 43, 44, 45, 46, 47, 48, 49, 50, 51, 52, 53, 54, 55, 56] (by decide +kernel) (by decide +kernel)
set_option maxRecDepth 20000 in
theorem gpX11_shrink_X11_mergeGroups_3 : GoodIn wsX11_shrink wsX11_mergeGroups_r3 := goodIn_r _ [57, 58, 59, 60, 61, 62, 63, 64, 65, 66, 67, 68, 69, 70, 71, 72, 73, 74, 75, 76, 77, 78, 79, 80] (by decide +kernel) (by decide +kernel)
set_option maxRecDepth 20000 in
theorem gpX11_shrink_X11_mergeGroups_4 : GoodIn wsX11_shrink wsX11_mergeGroups_r4 := goodIn_r _ [81, 82, 83, 84, 85, 86, 87, 88, 89, 90, 91, 92, 93, 94, 95, 96, 97, 98, 99, 100, 101, 102, 103, 104] (by decide +kernel) (by decide +kernel)
set_option maxRecDepth 20000 in
theorem gpX11_shrink_X11_mergeGroups_5 : GoodIn wsX11_shrink wsX11_mergeGroups_r5 := goodIn_r _ [105, 106, 107, 108, 109, 110, 111, 112, 113, 151, 152, 153, 154, 155, 156, 157, 158, 159, 160, 137, 161, 162, 163] (by decide +kernel) (by decide +kernel)
set_option maxRecDepth 20000 in
theorem gpX11_shrink_X11_mergeGroups_6 : GoodIn wsX11_shrink wsX110 := goodIn_r _ [165, 166, 167, 168, 169, 170, 171, 172, 173, 174, 175, 176, 177, 178, 179, 180, 181, 182] (by decide +kernel) (by decide +kernel)
set_option maxRecDepth 20000 in
theorem gpX11_shrink_X11_mergeGroups_7 : GoodIn wsX11_shrink wsX20 := goodIn_r _ [207, 208, 209, 210, 211, 212, 213, 214, 215, 216, 217, 218] (by decide +kernel) (by decide +kernel)
set_option maxRecDepth 20000 in
theorem gpX11_shrink_X11_mergeGroups_8 : GoodIn wsX11_shrink wsX40 := goodIn_r _ [195, 196, 197, 198, 199, 200, 201, 202, 203, 204, 205, 206] (by decide +kernel) (by decide +kernel)
set_option maxRecDepth 20000 in
theorem gpX11_shrink_X11_mergeGroups_9 : GoodIn wsX11_shrink wsX80 := goodIn_r _ [183, 184, 185, 186, 187, 188, 189] (by decide +kernel) (by decide +kernel)
set_option maxRecDepth 20000 in
theorem gpX11_shrink_X11_mergeGroups_10 : GoodIn wsX11_shrink wsX50 := goodIn_r _ [190, 191, 192, 193, 194] (by decide +kernel) (by decide +kernel)
theorem ggX11_shrink_X11_mergeGroups : GoodIn wsX11_shrink wsX11_mergeGroups := (goodIn_ca (goodIn_ca (goodIn_ca (goodIn_ca (goodIn_ca (goodIn_ca gpX11_shrink_X11_mergeGroups_1 (goodIn_app gpX11_shrink_X11_mergeGroups_2 (goodIn_app gpX11_shrink_X11_mergeGroups_3 (goodIn_app gpX11_shrink_X11_mergeGroups_4 gpX11_shrink_X11_mergeGroups_5)))) gpX11_shrink_X11_mergeGroups_6) gpX11_shrink_X11_mergeGroups_7) gpX11_shrink_X11_mergeGroups_8) gpX11_shrink_X11_mergeGroups_9) gpX11_shrink_X11_mergeGroups_10)
set_option maxRecDepth 20000 in
theorem gX11_shrink_X11_mergeGroups : GoodIn wsX11_shrink (wsV RX11 225 RX11 yX11_mergeGroups wsX11_mergeGroups) := goodIn_app (goodIn_of _ (by decide +kernel)) ggX11_shrink_X11_mergeGroups
