set_option maxRecDepth 20000 in
theorem gpX11_perform_X11_takeBest_1 : GoodIn wsX11_perform (Cond.code yX11_takeBest cX11_takeBest 5 (some .int) :: wsX11_takeBest_r1) := goodIn_r _ [233, 1, 188, 234, 10, 134, 235, 31, 32, 33, 34, 35, 36, 37, 7, 38, 137, 126, 127, 128, 129, 11, 17, 18, 19] (by decide +kernel) (by decide +kernel)
set_option maxRecDepth 20000 in
theorem gpX11_perform_X11_takeBest_2 : GoodIn wsX11_perform wsX11_takeBest_r2 := goodIn_r _ [20, 21, 22, 23, 24, 25, 26, 27, 28, 29, 30, 39, 40, 41, 42, 43, 44, 45, 46, 47, 48, 49, 50, 51] (by decide +kernel) (by decide +kernel)
set_option maxRecDepth 20000 in
theorem gpX11_perform_X11_takeBest_3 : GoodIn wsX11_perform wsX11_takeBest_r3 := goodIn_r _ [52, 53, 54, 55, 56, 57, 58, 59, 60, 61, 62, 63, 64, 65, 66, 67, 68, 69, 70, 71, 72, 73, 74, 75] (by decide +kernel) (by decide +kernel)
set_option maxRecDepth 20000 in
theorem gpX11_perform_X11_takeBest_4 : GoodIn wsX11_perform wsX11_takeBest_r4 := goodIn_r _ [76, 77, 78, 79, 80, 81, 82, 83, 84, 130, 131, 132, 133, 135, 136, 138, 139, 140, 141, 142, 143, 144, 145, 146] (by decide +kernel) (by decide +kernel)
set_option maxRecDepth 20000 in
theorem gpX11_perform_X11_takeBest_5 : GoodIn wsX11_perform wsX11_takeBest_r5 := goodIn_r _ [147, 148, 149, 150, 151, 152, 153, 154, 155, 156, 157, 158, 159, 160, 161, 162] (by decide +kernel) (by decide +kernel)
set_option maxRecDepth 20000 in
theorem gpX11_perform_X11_takeBest_6 : GoodIn wsX11_perform wsX110 := goodIn_r _ [275, 276, 277, 278, 279, 280, 281, 282, 283, 284, 285, 286, 287, 288, 289, 290, 291, 292] (by decide +kernel) (by decide +kernel)
set_option maxRecDepth 20000 in
theorem gpX11_perform_X11_takeBest_7 : GoodIn wsX11_perform wsX00 := goodIn_r _ [329, 330, 331, 332, 333] (by decide +kernel) (by decide +kernel)
set_option maxRecDepth 20000 in
theorem gpX11_perform_X11_takeBest_8 : GoodIn wsX11_perform wsX40 := goodIn_r _ [312, 313, 314, 315, 316, 317, 318, 319, 320, 321, 322, 323] (by decide +kernel) (by decide +kernel)
set_option maxRecDepth 20000 in
theorem gpX11_perform_X11_takeBest_9 : GoodIn wsX11_perform wsX80 := goodIn_r _ [293, 294, 295, 296, 297, 298, 299] (by decide +kernel) (by decide +kernel)
set_option maxRecDepth 20000 in
theorem gpX11_perform_X11_takeBest_10 : GoodIn wsX11_perform wsX20 := goodIn_r _ [300, 301, 302, 303, 304, 305, 306, 307, 308, 309, 310, 311] (by decide +kernel) (by decide +kernel)
theorem ggX11_perform_X11_takeBest : GoodIn wsX11_perform wsX11_takeBest := (goodIn_ca (goodIn_ca (goodIn_ca (goodIn_ca (goodIn_ca (goodIn_ca gpX11_perform_X11_takeBest_1 (goodIn_app gpX11_perform_X11_takeBest_2 (goodIn_app gpX11_perform_X11_takeBest_3 (goodIn_app gpX11_perform_X11_takeBest_4 gpX11_perform_X11_takeBest_5)))) gpX11_perform_X11_takeBest_6) gpX11_perform_X11_takeBest_7) gpX11_perform_X11_takeBest_8) gpX11_perform_X11_takeBest_9) gpX11_perform_X11_takeBest_10)
set_option maxRecDepth 20000 in
theorem gX11_perform_X11_takeBest : GoodIn wsX11_perform (wsV RX11 239 RX11 yX11_takeBest wsX11_takeBest) := goodIn_app (goodIn_of _ (by decide +kernel)) ggX11_perform_X11_takeBest
set_option maxRecDepth 20000 in
theorem gpX11_perform_X11_takeApart_1 : GoodIn wsX11_perform (Cond.code yX11_takeApart cX11_takeApart 6 (some .int) :: wsX11_takeApart_r1) := goodIn_r _ [239, 240, 11, 12, 241, 1, 242, 243, 244, 245, 246, 247, 248, 249, 250, 251, 252, 253, 254, 255, 256, 257, 258, 259, 260] (by decide +kernel) (by decide +kernel)
set_option maxRecDepth 20000 in
theorem gpX11_perform_X11_takeApart_2 : GoodIn wsX11_perform wsX11_takeApart_r2 := goodIn_r _ [261, 60, 61, 62, 37, 7, 38, 67, 68, 262, 263, 264, 265, 266, 267, 268, 69, 70, 161, 162, 269, 270, 271, 272] (by decide +kernel) (by decide +kernel)
set_option maxRecDepth 20000 in
theorem gpX11_perform_X11_takeApart_3 : GoodIn wsX11_perform wsX11_takeApart_r3 := goodIn_r _ [273, 153, 154, 155, 274, 137, 126, 127, 128, 129, 10, 17, 18, 19, 20, 21, 22, 23, 24, 25, 26, 27, 28, 29] (by decide +kernel) (by decide +kernel)
set_option maxRecDepth 20000 in
theorem gpX11_perform_X11_takeApart_4 : GoodIn wsX11_perform wsX11_takeApart_r4 := goodIn_r _ [30, 31, 32, 33, 34, 35, 36, 39, 40, 41, 42, 43, 44, 45, 46, 47, 48, 49, 50, 51, 52, 53, 54, 55] (by decide +kernel) (by decide +kernel)
set_option maxRecDepth 20000 in
theorem gpX11_perform_X11_takeApart_5 : GoodIn wsX11_perform wsX11_takeApart_r5 := goodIn_r _ [56, 57, 58, 59, 63, 64, 65, 66, 71, 72, 73, 74, 75, 76, 77, 78, 79, 80, 81, 82, 83, 84, 130, 131] (by decide +kernel) (by decide +kernel)
set_option maxRecDepth 20000 in
theorem gpX11_perform_X11_takeApart_6 : GoodIn wsX11_perform wsX11_takeApart_r6 := goodIn_r _ [132, 133, 134, 135, 136, 138, 139, 140, 141, 142, 143, 144, 145, 146, 147, 148, 149, 150, 151, 152, 156, 157, 158, 159] (by decide +kernel) (by decide +kernel)
set_option maxRecDepth 20000 in
theorem gpX11_perform_X11_takeApart_7 : GoodIn wsX11_perform wsX11_takeApart_r7 := goodIn_r _ [160] (by decide +kernel) (by decide +kernel)
set_option maxRecDepth 20000 in
theorem gpX11_perform_X11_takeApart_8 : GoodIn wsX11_perform wsX110 := goodIn_r _ [275, 276, 277, 278, 279, 280, 281, 282, 283, 284, 285, 286, 287, 288, 289, 290, 291, 292] (by decide +kernel) (by decide +kernel)
set_option maxRecDepth 20000 in
theorem gpX11_perform_X11_takeApart_9 : GoodIn wsX11_perform wsX20 := goodIn_r _ [300, 301, 302, 303, 304, 305, 306, 307, 308, 309, 310, 311] (by decide +kernel) (by decide +kernel)
set_option maxRecDepth 20000 in
theorem gpX11_perform_X11_takeApart_10 : GoodIn wsX11_perform wsX10 := goodIn_r _ [334, 335, 336, 337, 338, 339] (by decide +kernel) (by decide +kernel)
set_option maxRecDepth 20000 in
theorem gpX11_perform_X11_takeApart_11 : GoodIn wsX11_perform wsX80 := goodIn_r _ [293, 294, 295, 296, 297, 298, 299] (by decide +kernel) (by decide +kernel)
set_option maxRecDepth 20000 in
theorem gpX11_perform_X11_takeApart_12 : GoodIn wsX11_perform wsX40 := goodIn_r _ [312, 313, 314, 315, 316, 317, 318, 319, 320, 321, 322, 323] (by decide +kernel) (by decide +kernel)
theorem ggX11_perform_X11_takeApart : GoodIn wsX11_perform wsX11_takeApart := (goodIn_ca (goodIn_ca (goodIn_ca (goodIn_ca (goodIn_ca (goodIn_ca gpX11_perform_X11_takeApart_1 (goodIn_app gpX11_perform_X11_takeApart_2 (goodIn_app gpX11_perform_X11_takeApart_3 (goodIn_app gpX11_perform_X11_takeApart_4 (goodIn_app gpX11_perform_X11_takeApart_5 (goodIn_app gpX11_perform_X11_takeApart_6 gpX11_perform_X11_takeApart_7)))))) gpX11_perform_X11_takeApart_8) gpX11_perform_X11_takeApart_9) gpX11_perform_X11_takeApart_10) gpX11_perform_X11_takeApart_11) gpX11_perform_X11_takeApart_12)
set_option maxRecDepth 20000 in
theorem gX11_perform_X11_takeApart : GoodIn wsX11_perform (wsV RX11 242 RX11 yX11_takeApart wsX11_takeApart) := goodIn_app (goodIn_of _ (by decide +kernel)) ggX11_perform_X11_takeApart
set_option maxRecDepth 20000 in
theorem gpX11_whyNotShrink_X11_findPairs_1 : GoodIn wsX11_whyNotShrink (Cond.code yX11_findPairs cX11_findPairs 1 none :: wsX11_findPairs_r1) := goodIn_r _ [9, 10, 11, 1, 3, 12, 13, 14, 15, 16, 17, 18, 19, 20, 21, 22, 23, 24, 25, 26, 27, 28, 29, 30, 31] (by decide +kernel) (by decide +kernel)
set_option maxRecDepth 20000 in
theorem gpX11_whyNotShrink_X11_findPairs_2 : GoodIn wsX11_whyNotShrink wsX11_findPairs_r2 := goodIn_r _ [32, 8, 33, 34, 35, 36, 37, 38, 39, 40, 41, 42, 43, 44, 45, 46, 47, 48, 49, 50, 51, 52, 53, 54] (by decide +kernel) (by decide +kernel)
set_option maxRecDepth 20000 in
theorem gpX11_whyNotShrink_X11_findPairs_3 : GoodIn wsX11_whyNotShrink wsX11_findPairs_r3 := goodIn_r _ [55, 56, 57, 58, 59, 60, 61, 62, 63, 64, 65, 66, 67, 68, 69, 70, 71, 72, 73, 74, 75, 76, 77, 78] (by decide +kernel) (by decide +kernel)
set_option maxRecDepth 20000 in
theorem gpX11_whyNotShrink_X11_findPairs_4 : GoodIn wsX11_whyNotShrink wsX11_findPairs_r4 := goodIn_r _ [79, 80, 81, 82, 83, 84, 85, 86, 87, 88, 89, 90, 91, 92, 93, 94, 95, 96, 97, 98, 99, 100, 101, 102] (by decide +kernel) (by decide +kernel)
set_option maxRecDepth 20000 in
theorem gpX11_whyNotShrink_X11_findPairs_5 : GoodIn wsX11_whyNotShrink wsX11_findPairs_r5 := goodIn_r _ [103, 104, 105, 106] (by decide +kernel) (by decide +kernel)
set_option maxRecDepth 20000 in
theorem gpX11_whyNotShrink_X11_findPairs_6 : GoodIn wsX11_whyNotShrink wsX110 := goodIn_r _ [107, 108, 109, 110, 111, 112, 113, 114, 115, 116, 117, 118, 119, 120, 121, 122, 123, 124] (by decide +kernel) (by decide +kernel)
set_option maxRecDepth 20000 in
theorem gpX11_whyNotShrink_X11_findPairs_7 : GoodIn wsX11_whyNotShrink wsX40 := goodIn_r _ [137, 138, 139, 140, 141, 142, 143, 144, 145, 146, 147, 148] (by decide +kernel) (by decide +kernel)
set_option maxRecDepth 20000 in
theorem gpX11_whyNotShrink_X11_findPairs_8 : GoodIn wsX11_whyNotShrink wsX20 := goodIn_r _ [149, 150, 151, 152, 153, 154, 155, 156, 157, 158, 159, 160] (by decide +kernel) (by decide +kernel)
set_option maxRecDepth 20000 in
theorem gpX11_whyNotShrink_X11_findPairs_9 : GoodIn wsX11_whyNotShrink wsX80 := goodIn_r _ [125, 126, 127, 128, 129, 130, 131] (by decide +kernel) (by decide +kernel)
set_option maxRecDepth 20000 in
theorem gpX11_whyNotShrink_X11_findPairs_10 : GoodIn wsX11_whyNotShrink wsX50 := goodIn_r _ [132, 133, 134, 135, 136] (by decide +kernel) (by decide +kernel)
theorem ggX11_whyNotShrink_X11_findPairs : GoodIn wsX11_whyNotShrink wsX11_findPairs := (goodIn_ca (goodIn_ca (goodIn_ca (goodIn_ca (goodIn_ca (goodIn_ca gpX11_whyNotShrink_X11_findPairs_1 (goodIn_app gpX11_whyNotShrink_X11_findPairs_2 (goodIn_app gpX11_whyNotShrink_X11_findPairs_3 (goodIn_app gpX11_whyNotShrink_X11_findPairs_4 gpX11_whyNotShrink_X11_findPairs_5)))) gpX11_whyNotShrink_X11_findPairs_6) gpX11_whyNotShrink_X11_findPairs_7) gpX11_whyNotShrink_X11_findPairs_8) gpX11_whyNotShrink_X11_findPairs_9) gpX11_whyNotShrink_X11_findPairs_10)
set_option maxRecDepth 20000 in
theorem gX11_whyNotShrink_X11_findPairs : GoodIn wsX11_whyNotShrink (wsV RX11 392 RX11 yX11_findPairs wsX11_findPairs) := goodIn_app (goodIn_of _ (by decide +kernel)) ggX11_whyNotShrink_X11_findPairs
set_option maxRecDepth 20000 in
theorem gpX11_mate_X11_findPairs_1 : GoodIn wsX11_mate (Cond.code yX11_findPairs cX11_findPairs 1 none :: wsX11_findPairs_r1) := goodIn_r _ [27, 28, 29, 14, 1, 30, 31, 32, 33, 34, 35, 36, 37, 38, 39, 40, 41, 42, 43, 16, 17, 18, 19, 20, 21] (by decide +kernel) (by decide +kernel)
set_option maxRecDepth 20000 in
theorem gpX11_mate_X11_findPairs_2 : GoodIn wsX11_mate wsX11_findPairs_r2 := goodIn_r _ [22, 6, 23, 44, 45, 46, 47, 48, 49, 50, 51, 52, 53, 54, 55, 56, 57, 58, 59, 60, 61, 62, 63, 64] (by decide +kernel) (by decide +kernel)
set_option maxRecDepth 20000 in
theorem gpX11_mate_X11_findPairs_3 : GoodIn wsX11_mate wsX11_findPairs_r3 := goodIn_r _ [65, 66, 67, 68, 69, 70, 71, 72, 73, 74, 75, 76, 77, 78, 79, 80, 81, 82, 83, 84, 85, 86, 87, 88] (by decide +kernel) (by decide +kernel)
set_option maxRecDepth 20000 in
theorem gpX11_mate_X11_findPairs_4 : GoodIn wsX11_mate wsX11_findPairs_r4 := goodIn_r _ [89, 90, 91, 92, 93, 94, 95, 96, 97, 98, 99, 100, 101, 102, 103, 104, 105, 106, 107, 108, 109, 110, 111, 112] (by decide +kernel) (by decide +kernel)
set_option maxRecDepth 20000 in
theorem gpX11_mate_X11_findPairs_5 : GoodIn wsX11_mate wsX11_findPairs_r5 := goodIn_r _ [113, 114, 115, 116] (by decide +kernel) (by decide +kernel)
set_option maxRecDepth 20000 in
theorem gpX11_mate_X11_findPairs_6 : GoodIn wsX11_mate wsX110 := goodIn_r _ [118, 119, 120, 121, 122, 123, 124, 125, 126, 127, 128, 129, 130, 131, 132, 133, 134, 135] (by decide +kernel) (by decide +kernel)
set_option maxRecDepth 20000 in
theorem gpX11_mate_X11_findPairs_7 : GoodIn wsX11_mate wsX40 := goodIn_r _ [148, 149, 150, 151, 152, 153, 154, 155, 156, 157, 158, 159] (by decide +kernel) (by decide +kernel)
set_option maxRecDepth 20000 in
theorem gpX11_mate_X11_findPairs_8 : GoodIn wsX11_mate wsX20 := goodIn_r _ [160, 161, 162, 163, 164, 165, 166, 167, 168, 169, 170, 171] (by decide +kernel) (by decide +kernel)
set_option maxRecDepth 20000 in
theorem gpX11_mate_X11_findPairs_9 : GoodIn wsX11_mate wsX80 := goodIn_r _ [141, 142, 143, 144, 145, 146, 147] (by decide +kernel) (by decide +kernel)
set_option maxRecDepth 20000 in
theorem gpX11_mate_X11_findPairs_10 : GoodIn wsX11_mate wsX50 := goodIn_r _ [136, 137, 138, 139, 140] (by decide +kernel) (by decide +kernel)
theorem ggX11_mate_X11_findPairs : GoodIn wsX11_mate wsX11_findPairs := (goodIn_ca (goodIn_ca (goodIn_ca (goodIn_ca (goodIn_ca (goodIn_ca gpX11_mate_X11_findPairs_1 (goodIn_app gpX11_mate_X11_findPairs_2 (goodIn_app gpX11_mate_X11_findPairs_3 (goodIn_app gpX11_mate_X11_findPairs_4 gpX11_mate_X11_findPairs_5)))) gpX11_mate_X11_findPairs_6) gpX11_mate_X11_findPairs_7) gpX11_mate_X11_findPairs_8) gpX11_mate_X11_findPairs_9) gpX11_mate_X11_findPairs_10)
set_option maxRecDepth 20000 in
theorem gX11_mate_X11_findPairs : GoodIn wsX11_mate (wsV RX11 392 RX11 yX11_findPairs wsX11_findPairs) := goodIn_app (goodIn_of _ (by decide +kernel)) ggX11_mate_X11_findPairs
