set_option maxRecDepth 20000 in
theorem gpX11_runScript_X11_runCommands_1 : GoodIn wsX11_runScript (Cond.code yX11_runCommands cX11_runCommands 7 (some .int) :: wsX11_runCommands_r1) := goodIn_r _ [240, 241, 5, 242, 243, 244, 245, 246, 42, 43, 44, 247, 248, 249, 33, 250, 251, 88, 90, 91, 252, 253, 254, 255, 256] (by decide +kernel) (by decide +kernel)
set_option maxRecDepth 20000 in
theorem gpX11_runScript_X11_runCommands_2 : GoodIn wsX11_runScript wsX11_runCommands_r2 := goodIn_r _ [257, 258, 259, 260, 261, 8, 262, 263, 264, 265, 266, 267, 268, 269, 270, 271, 272, 273, 6, 274, 275, 276, 277, 278] (by decide +kernel) (by decide +kernel)
set_option maxRecDepth 20000 in
theorem gpX11_runScript_X11_runCommands_3 : GoodIn wsX11_runScript wsX11_runCommands_r3 := goodIn_r _ [279, 280, 281, 282, 283, 284, 285, 286, 287, 288, 289, 221, 290, 227, 223, 291, 292, 293, 194, 294, 295, 296, 297, 298] (by decide +kernel) (by decide +kernel)
set_option maxRecDepth 20000 in
theorem gpX11_runScript_X11_runCommands_4 : GoodIn wsX11_runScript wsX11_runCommands_r4 := goodIn_r _ [299, 300, 301, 302, 303, 304, 305, 306, 307, 308, 309, 310, 311, 312, 313, 314, 315, 316, 317, 318, 319, 320, 321, 322] (by decide +kernel) (by decide +kernel)
set_option maxRecDepth 20000 in
theorem gpX11_runScript_X11_runCommands_5 : GoodIn wsX11_runScript wsX11_runCommands_r5 := goodIn_r _ [323, 324, 325, 326, 327, 328, 329, 330, 331, 332, 333, 334, 335, 336, 337, 338, 339, 340, 341, 342, 343, 344, 345, 346] (by decide +kernel) (by decide +kernel)
set_option maxRecDepth 20000 in
theorem gpX11_runScript_X11_runCommands_6 : GoodIn wsX11_runScript wsX11_runCommands_r6 := goodIn_r _ [347, 348, 349, 350, 351, 352, 353, 354, 355, 356, 357, 358, 359, 360, 361, 362, 363, 364, 365, 366, 367, 368, 369, 370] (by decide +kernel) (by decide +kernel)
set_option maxRecDepth 20000 in
theorem gpX11_runScript_X11_runCommands_7 : GoodIn wsX11_runScript wsX11_runCommands_r7 := goodIn_r _ [371, 372, 373, 374, 375, 376, 377, 378, 379, 380, 381, 382, 383, 384, 385, 386, 387, 388, 389, 390, 391, 392, 393, 394] (by decide +kernel) (by decide +kernel)
set_option maxRecDepth 20000 in
theorem gpX11_runScript_X11_runCommands_8 : GoodIn wsX11_runScript wsX11_runCommands_r8 := goodIn_r _ [395, 396, 397, 398, 399, 400, 401, 402, 403, 404, 405, 406, 407, 408, 409, 410, 411, 412, 413, 414, 415, 416, 417, 418] (by decide +kernel) (by decide +kernel)
set_option maxRecDepth 20000 in
theorem gpX11_runScript_X11_runCommands_9 : GoodIn wsX11_runScript wsX11_runCommands_r9 := goodIn_r _ [419, 420, 421, 422, 423, 424, 425, 426, 427, 428, 429, 430, 431, 432, 433, 434, 435, 436, 437, 438, 439, 440, 441, 442] (by decide +kernel) (by decide +kernel)
set_option maxRecDepth 20000 in
theorem gpX11_runScript_X11_runCommands_10 : GoodIn wsX11_runScript wsX11_runCommands_r10 := goodIn_r _ [443, 444, 445, 446, 447, 448, 449, 450, 228, 451, 452, 453, 454, 455, 456, 457, 458, 459, 460, 461, 462, 463, 464, 465] (by decide +kernel) (by decide +kernel)
set_option maxRecDepth 20000 in
theorem gpX11_runScript_X11_runCommands_11 : GoodIn wsX11_runScript wsX11_runCommands_r11 := goodIn_r _ [466, 467, 468, 469, 229, 470, 234, 235, 236, 225, 471, 210, 211, 212, 472, 473, 474, 475, 226, 476, 477, 478, 479, 480] (by decide +kernel) (by decide +kernel)
set_option maxRecDepth 20000 in
theorem gpX11_runScript_X11_runCommands_12 : GoodIn wsX11_runScript wsX11_runCommands_r12 := goodIn_r _ [481, 482, 483, 484, 485, 486, 487, 488, 489, 490, 491, 492, 493, 494, 495, 496, 497, 498, 499, 500, 501, 502, 503, 504] (by decide +kernel) (by decide +kernel)
set_option maxRecDepth 20000 in
theorem gpX11_runScript_X11_runCommands_13 : GoodIn wsX11_runScript wsX11_runCommands_r13 := goodIn_r _ [505, 506, 507, 508, 509, 510, 511, 230, 231, 232, 233, 512, 513, 514, 515, 516, 517, 518, 519, 520, 521, 522, 523, 524] (by decide +kernel) (by decide +kernel)
set_option maxRecDepth 20000 in
theorem gpX11_runScript_X11_runCommands_14 : GoodIn wsX11_runScript wsX11_runCommands_r14 := goodIn_r _ [525, 526, 527, 528, 529, 530, 531, 532, 533, 534, 535, 536, 537, 538, 539, 540, 541, 542, 543, 544, 545, 546, 547, 548] (by decide +kernel) (by decide +kernel)
set_option maxRecDepth 20000 in
theorem gpX11_runScript_X11_runCommands_15 : GoodIn wsX11_runScript wsX11_runCommands_r15 := goodIn_r _ [549, 550, 551, 552, 553, 554, 555, 556, 557, 558, 559, 560, 561, 562, 563, 564, 565, 566, 567] (by decide +kernel) (by decide +kernel)
set_option maxRecDepth 20000 in
theorem gpX11_runScript_X11_runCommands_16 : GoodIn wsX11_runScript wsX110 := goodIn_r _ [568, 569, 570, 571, 572, 573, 574, 575, 576, 577, 578, 579, 580, 581, 582, 583, 584, 585] (by decide +kernel) (by decide +kernel)
set_option maxRecDepth 20000 in
theorem gpX11_runScript_X11_runCommands_17 : GoodIn wsX11_runScript wsX60 := goodIn_r _ [598, 599, 600, 601, 602, 603] (by decide +kernel) (by decide +kernel)
set_option maxRecDepth 20000 in
theorem gpX11_runScript_X11_runCommands_18 : GoodIn wsX11_runScript wsX80 := goodIn_r _ [620, 621, 622, 623, 624, 625, 626] (by decide +kernel) (by decide +kernel)
set_option maxRecDepth 20000 in
theorem gpX11_runScript_X11_runCommands_19 : GoodIn wsX11_runScript wsX50 := goodIn_r _ [627, 628, 629, 630, 631] (by decide +kernel) (by decide +kernel)
set_option maxRecDepth 20000 in
theorem gpX11_runScript_X11_runCommands_20 : GoodIn wsX11_runScript wsX40 := goodIn_r _ [632, 633, 634, 635, 636, 637, 638, 639, 640, 641, 642, 643] (by decide +kernel) (by decide +kernel)
set_option maxRecDepth 20000 in
theorem gpX11_runScript_X11_runCommands_21 : GoodIn wsX11_runScript wsX20 := goodIn_r _ [605, 606, 607, 608, 609, 610, 611, 612, 613, 614, 615, 616] (by decide +kernel) (by decide +kernel)
set_option maxRecDepth 20000 in
theorem gpX11_runScript_X11_runCommands_22 : GoodIn wsX11_runScript wsX00 := goodIn_r _ [644, 645, 646, 647, 648] (by decide +kernel) (by decide +kernel)
set_option maxRecDepth 20000 in
theorem gpX11_runScript_X11_runCommands_23 : GoodIn wsX11_runScript wsX10 := goodIn_r _ [649, 650, 651, 652, 653, 654] (by decide +kernel) (by decide +kernel)
theorem ggX11_runScript_X11_runCommands : GoodIn wsX11_runScript wsX11_runCommands := (goodIn_ca (goodIn_ca (goodIn_ca (goodIn_ca (goodIn_ca (goodIn_ca (goodIn_ca (goodIn_ca (goodIn_ca (goodIn_ca gpX11_runScript_X11_runCommands_1 (goodIn_app gpX11_runScript_X11_runCommands_2 (goodIn_app gpX11_runScript_X11_runCommands_3 (goodIn_app gpX11_runScript_X11_runCommands_4 (goodIn_app gpX11_runScript_X11_runCommands_5 (goodIn_app gpX11_runScript_X11_runCommands_6 (goodIn_app gpX11_runScript_X11_runCommands_7 (goodIn_app gpX11_runScript_X11_runCommands_8 (goodIn_app gpX11_runScript_X11_runCommands_9 (goodIn_app gpX11_runScript_X11_runCommands_10 (goodIn_app gpX11_runScript_X11_runCommands_11 (goodIn_app gpX11_runScript_X11_runCommands_12 (goodIn_app gpX11_runScript_X11_runCommands_13 (goodIn_app gpX11_runScript_X11_runCommands_14 gpX11_runScript_X11_runCommands_15)))))))))))))) gpX11_runScript_X11_runCommands_16) gpX11_runScript_X11_runCommands_17) gpX11_runScript_X11_runCommands_18) gpX11_runScript_X11_runCommands_19) gpX11_runScript_X11_runCommands_20) gpX11_runScript_X11_runCommands_21) gpX11_runScript_X11_runCommands_22) gpX11_runScript_X11_runCommands_23) (goodIn_sub (fun _ h => List.mem_cons_of_mem _ (List.mem_append_right _ h)) (by decide +kernel)))
set_option maxRecDepth 20000 in
theorem gX11_runScript_X11_runCommands : GoodIn wsX11_runScript (wsV RX11 153 RX11 yX11_runCommands wsX11_runCommands) := goodIn_app (goodIn_of _ (by decide +kernel)) ggX11_runScript_X11_runCommands
set_option maxRecDepth 20000 in
theorem gpX11_runCommands_X11_canPerform_1 : GoodIn wsX11_runCommands (Cond.code yX11_canPerform cX11_canPerform 4 (some .boolean) :: wsX11_canPerform_r1) := goodIn_r _ [29, 30, 31, 32, 33, 34, 9, 35, 36, 37, 38, 39, 40, 41, 42, 43, 44, 45, 46, 47, 48, 49, 50, 51, 52] (by decide +kernel) (by decide +kernel)
set_option maxRecDepth 20000 in
theorem gpX11_runCommands_X11_canPerform_2 : GoodIn wsX11_runCommands wsX11_canPerform_r2 := goodIn_r _ [53, 54, 55, 56, 57, 58, 59, 60, 61, 62, 63, 8, 10, 64, 65, 66, 67, 68, 69, 70, 71, 72, 73, 74] (by decide +kernel) (by decide +kernel)
set_option maxRecDepth 20000 in
theorem gpX11_runCommands_X11_canPerform_3 : GoodIn wsX11_runCommands wsX11_canPerform_r3 := goodIn_r _ [75, 76, 77, 78, 79, 80, 81, 82, 83, 84, 85, 86, 87, 88, 89, 90, 91, 24, 25, 18, 19, 92, 93, 94] (by decide +kernel) (by decide +kernel)
set_option maxRecDepth 20000 in
theorem gpX11_runCommands_X11_canPerform_4 : GoodIn wsX11_runCommands wsX11_canPerform_r4 := goodIn_r _ [95, 96, 97, 98, 99, 100, 101, 102, 103, 104, 105, 106, 107, 108, 109, 110, 111, 112, 113, 114, 115, 116, 117, 118] (by decide +kernel) (by decide +kernel)
set_option maxRecDepth 20000 in
theorem gpX11_runCommands_X11_canPerform_5 : GoodIn wsX11_runCommands wsX11_canPerform_r5 := goodIn_r _ [119, 120, 121, 122, 123, 124, 125, 126, 127, 128, 129, 130, 131, 132, 133, 134, 135, 136, 137, 138, 139, 140, 141, 142] (by decide +kernel) (by decide +kernel)
set_option maxRecDepth 20000 in
theorem gpX11_runCommands_X11_canPerform_6 : GoodIn wsX11_runCommands wsX11_canPerform_r6 := goodIn_r _ [143, 144, 145, 146, 147, 148, 149, 150, 151, 152, 153, 154, 155, 156, 157, 158, 159, 160, 161, 162, 163, 164, 165, 166] (by decide +kernel) (by decide +kernel)
set_option maxRecDepth 20000 in
theorem gpX11_runCommands_X11_canPerform_7 : GoodIn wsX11_runCommands wsX11_canPerform_r7 := goodIn_r _ [167, 168, 169, 170, 171, 172, 173, 174, 175, 176, 177, 178, 179, 180, 181, 182, 183, 184, 185, 186, 187, 188, 189, 190] (by decide +kernel) (by decide +kernel)
set_option maxRecDepth 20000 in
theorem gpX11_runCommands_X11_canPerform_8 : GoodIn wsX11_runCommands wsX11_canPerform_r8 := goodIn_r _ [191, 192, 193, 194, 195, 196, 197, 198, 199, 200, 201, 202, 203, 204, 205] (by decide +kernel) (by decide +kernel)
set_option maxRecDepth 20000 in
theorem gpX11_runCommands_X11_canPerform_9 : GoodIn wsX11_runCommands wsX110 := goodIn_r _ [356, 357, 358, 359, 360, 361, 362, 363, 364, 365, 366, 367, 368, 369, 370, 371, 372, 373] (by decide +kernel) (by decide +kernel)
set_option maxRecDepth 20000 in
theorem gpX11_runCommands_X11_canPerform_10 : GoodIn wsX11_runCommands wsX80 := goodIn_r _ [380, 381, 382, 383, 384, 385, 386] (by decide +kernel) (by decide +kernel)
set_option maxRecDepth 20000 in
theorem gpX11_runCommands_X11_canPerform_11 : GoodIn wsX11_runCommands wsX50 := goodIn_r _ [387, 388, 389, 390, 391] (by decide +kernel) (by decide +kernel)
set_option maxRecDepth 20000 in
theorem gpX11_runCommands_X11_canPerform_12 : GoodIn wsX11_runCommands wsX40 := goodIn_r _ [392, 393, 394, 395, 396, 397, 398, 399, 400, 401, 402, 403] (by decide +kernel) (by decide +kernel)
set_option maxRecDepth 20000 in
theorem gpX11_runCommands_X11_canPerform_13 : GoodIn wsX11_runCommands wsX20 := goodIn_r _ [404, 405, 406, 407, 408, 409, 410, 411, 412, 413, 414, 415] (by decide +kernel) (by decide +kernel)
theorem ggX11_runCommands_X11_canPerform : GoodIn wsX11_runCommands wsX11_canPerform := (goodIn_ca (goodIn_ca (goodIn_ca (goodIn_ca (goodIn_ca (goodIn_ca (goodIn_ca gpX11_runCommands_X11_canPerform_1 (goodIn_app gpX11_runCommands_X11_canPerform_2 (goodIn_app gpX11_runCommands_X11_canPerform_3 (goodIn_app gpX11_runCommands_X11_canPerform_4 (goodIn_app gpX11_runCommands_X11_canPerform_5 (goodIn_app gpX11_runCommands_X11_canPerform_6 (goodIn_app gpX11_runCommands_X11_canPerform_7 gpX11_runCommands_X11_canPerform_8))))))) gpX11_runCommands_X11_canPerform_9) gpX11_runCommands_X11_canPerform_10) gpX11_runCommands_X11_canPerform_11) gpX11_runCommands_X11_canPerform_12) gpX11_runCommands_X11_canPerform_13) (goodIn_sub (fun _ h => List.mem_cons_of_mem _ (List.mem_append_right _ h)) (by decide +kernel)))
set_option maxRecDepth 20000 in
theorem gX11_runCommands_X11_canPerform : GoodIn wsX11_runCommands (wsV RX11 181 RX11 yX11_canPerform wsX11_canPerform) := goodIn_app (goodIn_of _ (by decide +kernel)) ggX11_runCommands_X11_canPerform
