set_option maxRecDepth 20000 in
theorem gpX11_runCommands_X11_perform_1 : GoodIn wsX11_runCommands (Cond.code yX11_perform cX11_perform 4 none :: wsX11_perform_r1) := goodIn_r _ [209, 30, 31, 210, 211, 212, 213, 9, 214, 36, 42, 43, 197, 38, 39, 40, 41, 44, 45, 46, 47, 48, 49, 50, 51] (by decide +kernel) (by decide +kernel)
set_option maxRecDepth 20000 in
theorem gpX11_runCommands_X11_perform_2 : GoodIn wsX11_runCommands wsX11_perform_r2 := goodIn_r _ [52, 53, 54, 55, 56, 57, 58, 59, 60, 61, 62, 63, 8, 10, 64, 65, 66, 67, 68, 69, 70, 71, 72, 73] (by decide +kernel) (by decide +kernel)
set_option maxRecDepth 20000 in
theorem gpX11_runCommands_X11_perform_3 : GoodIn wsX11_runCommands wsX11_perform_r3 := goodIn_r _ [74, 75, 76, 77, 78, 79, 80, 81, 82, 83, 84, 85, 86, 87, 88, 89, 90, 91, 24, 25, 18, 19, 92, 93] (by decide +kernel) (by decide +kernel)
set_option maxRecDepth 20000 in
theorem gpX11_runCommands_X11_perform_4 : GoodIn wsX11_runCommands wsX11_perform_r4 := goodIn_r _ [94, 95, 96, 97, 98, 99, 100, 101, 102, 103, 104, 105, 106, 107, 108, 109, 110, 111, 112, 113, 114, 115, 116, 117] (by decide +kernel) (by decide +kernel)
set_option maxRecDepth 20000 in
theorem gpX11_runCommands_X11_perform_5 : GoodIn wsX11_runCommands wsX11_perform_r5 := goodIn_r _ [118, 119, 120, 121, 122, 123, 124, 125, 126, 127, 128, 129, 130, 131, 132, 215, 216, 217, 218, 219, 220, 221, 222, 223] (by decide +kernel) (by decide +kernel)
set_option maxRecDepth 20000 in
theorem gpX11_runCommands_X11_perform_6 : GoodIn wsX11_runCommands wsX11_perform_r6 := goodIn_r _ [224, 225, 226, 227, 228, 229, 230, 231, 232, 233, 234, 235, 236, 237, 238, 239, 7, 240, 182, 183, 184, 241, 242, 243] (by decide +kernel) (by decide +kernel)
set_option maxRecDepth 20000 in
theorem gpX11_runCommands_X11_perform_7 : GoodIn wsX11_runCommands wsX11_perform_r7 := goodIn_r _ [244, 245, 246, 247, 248, 249, 250, 251, 252, 253, 254, 255, 256, 257, 258, 259, 260, 261, 262, 263, 264, 265, 173, 174] (by decide +kernel) (by decide +kernel)
set_option maxRecDepth 20000 in
theorem gpX11_runCommands_X11_perform_8 : GoodIn wsX11_runCommands wsX11_perform_r8 := goodIn_r _ [175, 176, 177, 178, 179, 180, 181, 161, 162, 163, 164, 165, 166, 167, 168, 266, 267, 268, 269, 270, 271, 272, 273, 274] (by decide +kernel) (by decide +kernel)
set_option maxRecDepth 20000 in
theorem gpX11_runCommands_X11_perform_9 : GoodIn wsX11_runCommands wsX11_perform_r9 := goodIn_r _ [275, 276, 277, 278, 279, 280, 281, 282, 283, 284, 285, 286, 287, 288, 289, 290, 291, 292, 293, 294, 295, 296, 297, 298] (by decide +kernel) (by decide +kernel)
set_option maxRecDepth 20000 in
theorem gpX11_runCommands_X11_perform_10 : GoodIn wsX11_runCommands wsX11_perform_r10 := goodIn_r _ [299, 300, 301, 302, 303, 304, 305, 306, 307, 308, 309, 310, 311, 312, 313, 314, 315, 316, 137, 317, 318, 319, 320, 321] (by decide +kernel) (by decide +kernel)
set_option maxRecDepth 20000 in
theorem gpX11_runCommands_X11_perform_11 : GoodIn wsX11_runCommands wsX11_perform_r11 := goodIn_r _ [322, 323, 324, 325, 326, 327, 328, 329, 330, 331, 332, 333, 334, 335, 336, 337, 338, 339, 340, 341, 342, 343, 344, 345] (by decide +kernel) (by decide +kernel)
set_option maxRecDepth 20000 in
theorem gpX11_runCommands_X11_perform_12 : GoodIn wsX11_runCommands wsX11_perform_r12 := goodIn_r _ [346, 347, 348, 349, 350, 351, 352, 353, 354, 355] (by decide +kernel) (by decide +kernel)
set_option maxRecDepth 20000 in
theorem gpX11_runCommands_X11_perform_13 : GoodIn wsX11_runCommands wsX110 := goodIn_r _ [356, 357, 358, 359, 360, 361, 362, 363, 364, 365, 366, 367, 368, 369, 370, 371, 372, 373] (by decide +kernel) (by decide +kernel)
set_option maxRecDepth 20000 in
theorem gpX11_runCommands_X11_perform_14 : GoodIn wsX11_runCommands wsX80 := goodIn_r _ [380, 381, 382, 383, 384, 385, 386] (by decide +kernel) (by decide +kernel)
set_option maxRecDepth 20000 in
theorem gpX11_runCommands_X11_perform_15 : GoodIn wsX11_runCommands wsX20 := goodIn_r _ [404, 405, 406, 407, 408, 409, 410, 411, 412, 413, 414, 415] (by decide +kernel) (by decide +kernel)
set_option maxRecDepth 20000 in
theorem gpX11_runCommands_X11_perform_16 : GoodIn wsX11_runCommands wsX40 := goodIn_r _ [392, 393, 394, 395, 396, 397, 398, 399, 400, 401, 402, 403] (by decide +kernel) (by decide +kernel)
set_option maxRecDepth 20000 in
theorem gpX11_runCommands_X11_perform_17 : GoodIn wsX11_runCommands wsX50 := goodIn_r _ [387, 388, 389, 390, 391] (by decide +kernel) (by decide +kernel)
set_option maxRecDepth 20000 in
theorem gpX11_runCommands_X11_perform_18 : GoodIn wsX11_runCommands wsX00 := goodIn_r _ [416, 417, 418, 419, 420] (by decide +kernel) (by decide +kernel)
set_option maxRecDepth 20000 in
theorem gpX11_runCommands_X11_perform_19 : GoodIn wsX11_runCommands wsX10 := goodIn_r _ [421, 422, 423, 424, 425, 426] (by decide +kernel) (by decide +kernel)
theorem ggX11_runCommands_X11_perform : GoodIn wsX11_runCommands wsX11_perform := (goodIn_ca (goodIn_ca (goodIn_ca (goodIn_ca (goodIn_ca (goodIn_ca (goodIn_ca (goodIn_ca gpX11_runCommands_X11_perform_1 (goodIn_app gpX11_runCommands_X11_perform_2 (goodIn_app gpX11_runCommands_X11_perform_3 (goodIn_app gpX11_runCommands_X11_perform_4 (goodIn_app gpX11_runCommands_X11_perform_5 (goodIn_app gpX11_runCommands_X11_perform_6 (goodIn_app gpX11_runCommands_X11_perform_7 (goodIn_app gpX11_runCommands_X11_perform_8 (goodIn_app gpX11_runCommands_X11_perform_9 (goodIn_app gpX11_runCommands_X11_perform_10 (goodIn_app gpX11_runCommands_X11_perform_11 gpX11_runCommands_X11_perform_12))))))))))) gpX11_runCommands_X11_perform_13) gpX11_runCommands_X11_perform_14) gpX11_runCommands_X11_perform_15) gpX11_runCommands_X11_perform_16) gpX11_runCommands_X11_perform_17) gpX11_runCommands_X11_perform_18) gpX11_runCommands_X11_perform_19)
set_option maxRecDepth 20000 in
theorem gX11_runCommands_X11_perform : GoodIn wsX11_runCommands (wsV RX11 185 RX11 yX11_perform wsX11_perform) := goodIn_app (goodIn_of _ (by decide +kernel)) ggX11_runCommands_X11_perform
set_option maxRecDepth 20000 in
theorem gpX11_canPerform_X11_whyNotShrink_1 : GoodIn wsX11_canPerform (Cond.code yX11_whyNotShrink cX11_whyNotShrink 1 (some .int) :: wsX11_whyNotShrink_r1) := goodIn_r _ [7, 1, 2, 8, 9, 10, 11, 12, 6, 13, 14, 15, 16, 17, 18, 19, 20, 21, 22, 23, 24, 25, 26, 27, 28] (by decide +kernel) (by decide +kernel)
set_option maxRecDepth 20000 in
theorem gpX11_canPerform_X11_whyNotShrink_2 : GoodIn wsX11_canPerform wsX11_whyNotShrink_r2 := goodIn_r _ [29, 30, 31, 32, 33, 34, 35, 36, 37, 38, 39, 40, 41, 42, 43, 44, 45, 46, 47, 48, 49, 50, 51, 52] (by decide +kernel) (by decide +kernel)
set_option maxRecDepth 20000 in
theorem gpX11_canPerform_X11_whyNotShrink_3 : GoodIn wsX11_canPerform wsX11_whyNotShrink_r3 := goodIn_r _ [53, 54, 55, 56, 57, 58, 59, 60, 61, 62, 63, 64, 65, 66, 67, 68, 69, 70, 71, 72, 73, 74, 75, 76] (by decide +kernel) (by decide +kernel)
set_option maxRecDepth 20000 in
theorem gpX11_canPerform_X11_whyNotShrink_4 : GoodIn wsX11_canPerform wsX11_whyNotShrink_r4 := goodIn_r _ [77, 78, 79, 80, 81, 82, 83, 84, 85, 86, 87, 88, 89, 90, 91, 92, 93, 94, 95, 96, 97, 98, 99, 100] (by decide +kernel) (by decide +kernel)
set_option maxRecDepth 20000 in
theorem gpX11_canPerform_X11_whyNotShrink_5 : GoodIn wsX11_canPerform wsX11_whyNotShrink_r5 := goodIn_r _ [101, 102, 103, 104, 105, 106, 107, 108, 109, 110] (by decide +kernel) (by decide +kernel)
set_option maxRecDepth 20000 in
theorem gpX11_canPerform_X11_whyNotShrink_6 : GoodIn wsX11_canPerform wsX110 := goodIn_r _ [184, 185, 186, 187, 188, 189, 190, 191, 192, 193, 194, 195, 196, 197, 198, 199, 200, 201] (by decide +kernel) (by decide +kernel)
set_option maxRecDepth 20000 in
theorem gpX11_canPerform_X11_whyNotShrink_7 : GoodIn wsX11_canPerform wsX80 := goodIn_r _ [202, 203, 204, 205, 206, 207, 208] (by decide +kernel) (by decide +kernel)
set_option maxRecDepth 20000 in
theorem gpX11_canPerform_X11_whyNotShrink_8 : GoodIn wsX11_canPerform wsX50 := goodIn_r _ [209, 210, 211, 212, 213] (by decide +kernel) (by decide +kernel)
set_option maxRecDepth 20000 in
theorem gpX11_canPerform_X11_whyNotShrink_9 : GoodIn wsX11_canPerform wsX40 := goodIn_r _ [214, 215, 216, 217, 218, 219, 220, 221, 222, 223, 224, 225] (by decide +kernel) (by decide +kernel)
set_option maxRecDepth 20000 in
theorem gpX11_canPerform_X11_whyNotShrink_10 : GoodIn wsX11_canPerform wsX20 := goodIn_r _ [226, 227, 228, 229, 230, 231, 232, 233, 234, 235, 236, 237] (by decide +kernel) (by decide +kernel)
theorem ggX11_canPerform_X11_whyNotShrink : GoodIn wsX11_canPerform wsX11_whyNotShrink := (goodIn_ca (goodIn_ca (goodIn_ca (goodIn_ca (goodIn_ca (goodIn_ca gpX11_canPerform_X11_whyNotShrink_1 (goodIn_app gpX11_canPerform_X11_whyNotShrink_2 (goodIn_app gpX11_canPerform_X11_whyNotShrink_3 (goodIn_app gpX11_canPerform_X11_whyNotShrink_4 gpX11_canPerform_X11_whyNotShrink_5)))) gpX11_canPerform_X11_whyNotShrink_6) gpX11_canPerform_X11_whyNotShrink_7) gpX11_canPerform_X11_whyNotShrink_8) gpX11_canPerform_X11_whyNotShrink_9) gpX11_canPerform_X11_whyNotShrink_10)
set_option maxRecDepth 20000 in
theorem gX11_canPerform_X11_whyNotShrink : GoodIn wsX11_canPerform (wsV RX11 189 RX11 yX11_whyNotShrink wsX11_whyNotShrink) := goodIn_app (goodIn_of _ (by decide +kernel)) ggX11_canPerform_X11_whyNotShrink
set_option maxRecDepth 20000 in
theorem gpX11_canPerform_X11_whyNotMove_1 : GoodIn wsX11_canPerform (Cond.code yX11_whyNotMove cX11_whyNotMove 3 (some .int) :: wsX11_whyNotMove_r1) := goodIn_r _ [124, 14, 15, 1, 125, 126, 127, 6, 128, 129, 130, 111, 112, 113, 114, 115, 30, 31, 32, 33, 34, 35, 36, 37, 131] (by decide +kernel) (by decide +kernel)
set_option maxRecDepth 20000 in
theorem gpX11_canPerform_X11_whyNotMove_2 : GoodIn wsX11_canPerform wsX11_whyNotMove_r2 := goodIn_r _ [132, 133, 134, 116, 117, 118, 119, 120, 16, 17, 18, 19, 20, 21, 22, 23, 24, 25, 26, 27, 28, 29, 38, 39] (by decide +kernel) (by decide +kernel)
set_option maxRecDepth 20000 in
theorem gpX11_canPerform_X11_whyNotMove_3 : GoodIn wsX11_canPerform wsX11_whyNotMove_r3 := goodIn_r _ [40, 41, 42, 43, 44, 45, 46, 47, 48, 49, 50, 51, 52, 53, 54, 55, 56, 57, 58, 59, 60, 61, 62, 63] (by decide +kernel) (by decide +kernel)
set_option maxRecDepth 20000 in
theorem gpX11_canPerform_X11_whyNotMove_4 : GoodIn wsX11_canPerform wsX11_whyNotMove_r4 := goodIn_r _ [64, 65, 66, 67, 68, 69, 70, 71, 72, 73, 74, 75, 76, 77, 78, 79, 80, 81, 82, 83, 135, 136, 137, 138] (by decide +kernel) (by decide +kernel)
set_option maxRecDepth 20000 in
theorem gpX11_canPerform_X11_whyNotMove_5 : GoodIn wsX11_canPerform wsX11_whyNotMove_r5 := goodIn_r _ [139, 140, 141, 142, 143, 144, 145, 146] (by decide +kernel) (by decide +kernel)
set_option maxRecDepth 20000 in
theorem gpX11_canPerform_X11_whyNotMove_6 : GoodIn wsX11_canPerform wsX110 := goodIn_r _ [184, 185, 186, 187, 188, 189, 190, 191, 192, 193, 194, 195, 196, 197, 198, 199, 200, 201] (by decide +kernel) (by decide +kernel)
set_option maxRecDepth 20000 in
theorem gpX11_canPerform_X11_whyNotMove_7 : GoodIn wsX11_canPerform wsX80 := goodIn_r _ [202, 203, 204, 205, 206, 207, 208] (by decide +kernel) (by decide +kernel)
set_option maxRecDepth 20000 in
theorem gpX11_canPerform_X11_whyNotMove_8 : GoodIn wsX11_canPerform wsX20 := goodIn_r _ [226, 227, 228, 229, 230, 231, 232, 233, 234, 235, 236, 237] (by decide +kernel) (by decide +kernel)
set_option maxRecDepth 20000 in
theorem gpX11_canPerform_X11_whyNotMove_9 : GoodIn wsX11_canPerform wsX40 := goodIn_r _ [214, 215, 216, 217, 218, 219, 220, 221, 222, 223, 224, 225] (by decide +kernel) (by decide +kernel)
theorem ggX11_canPerform_X11_whyNotMove : GoodIn wsX11_canPerform wsX11_whyNotMove := (goodIn_ca (goodIn_ca (goodIn_ca (goodIn_ca (goodIn_ca (goodIn_ca gpX11_canPerform_X11_whyNotMove_1 (goodIn_app gpX11_canPerform_X11_whyNotMove_2 (goodIn_app gpX11_canPerform_X11_whyNotMove_3 (goodIn_app gpX11_canPerform_X11_whyNotMove_4 gpX11_canPerform_X11_whyNotMove_5)))) gpX11_canPerform_X11_whyNotMove_6) gpX11_canPerform_X11_whyNotMove_7) gpX11_canPerform_X11_whyNotMove_8) gpX11_canPerform_X11_whyNotMove_9) (goodIn_sub (fun _ h => List.mem_cons_of_mem _ (List.mem_append_right _ h)) (by decide +kernel)))
set_option maxRecDepth 20000 in
theorem gX11_canPerform_X11_whyNotMove : GoodIn wsX11_canPerform (wsV RX11 202 RX11 yX11_whyNotMove wsX11_whyNotMove) := goodIn_app (goodIn_of _ (by decide +kernel)) ggX11_canPerform_X11_whyNotMove
