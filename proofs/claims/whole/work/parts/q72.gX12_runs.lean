set_option maxRecDepth 20000 in
theorem gpX12_runs_1 : GoodIn wsX12_runScript (Cond.code yX12_runs cX12_runs 6 (some .int) :: wsX12_runs_r1) := goodIn_r _ [122, 1, 42, 123, 124, 43, 44, 95, 96, 8, 97, 125, 126, 127, 128, 129, 130, 131, 132, 133, 85, 134, 135, 136, 137] (by decide +kernel) (by decide +kernel)
set_option maxRecDepth 20000 in
theorem gpX12_runs_2 : GoodIn wsX12_runScript wsX12_runs_r2 := goodIn_r _ [138, 139, 140, 141, 142, 143, 144, 145, 146, 147, 148, 149, 150, 151, 152, 153, 154, 155, 156, 157, 158, 159, 160, 161] (by decide +kernel) (by decide +kernel)
set_option maxRecDepth 20000 in
theorem gpX12_runs_3 : GoodIn wsX12_runScript wsX12_runs_r3 := goodIn_r _ [162, 163, 164, 165, 166, 167, 168, 169, 170, 171, 172, 173, 174, 175, 176, 177, 178, 179, 180, 181, 182, 183, 70, 71] (by decide +kernel) (by decide +kernel)
set_option maxRecDepth 20000 in
theorem gpX12_runs_4 : GoodIn wsX12_runScript wsX12_runs_r4 := goodIn_r _ [72, 184, 185, 186, 187, 188, 189, 190, 191, 192, 193, 194, 195, 196, 197, 198, 199, 200, 201, 202, 203, 204, 205, 206] (by decide +kernel) (by decide +kernel)
set_option maxRecDepth 20000 in
theorem gpX12_runs_5 : GoodIn wsX12_runScript wsX12_runs_r5 := goodIn_r _ [207, 208, 209, 210, 211, 212, 213, 214, 215, 216, 217, 218, 219, 220, 221, 222, 223, 224, 225, 226, 227, 228, 229, 230] (by decide +kernel) (by decide +kernel)
set_option maxRecDepth 20000 in
theorem gpX12_runs_6 : GoodIn wsX12_runScript wsX12_runs_r6 := goodIn_r _ [231, 232, 233, 234, 235, 236, 237, 238, 239, 240, 241, 242, 243, 244, 245, 246, 247, 248, 249, 250, 251, 252, 253, 254] (by decide +kernel) (by decide +kernel)
set_option maxRecDepth 20000 in
theorem gpX12_runs_7 : GoodIn wsX12_runScript wsX12_runs_r7 := goodIn_r _ [255, 256, 257, 258, 259, 260, 261, 262, 263, 264, 265, 266, 267, 268, 269, 270, 271, 272, 273, 274, 275, 276, 277, 278] (by decide +kernel) (by decide +kernel)
set_option maxRecDepth 20000 in
theorem gpX12_runs_8 : GoodIn wsX12_runScript wsX12_runs_r8 := goodIn_r _ [279, 280, 281, 282, 283, 284, 285, 286, 287, 288, 289, 290, 291, 292, 293, 294, 295, 296, 297, 298, 299] (by decide +kernel) (by decide +kernel)
set_option maxRecDepth 20000 in
theorem gpX12_runs_9 : GoodIn wsX12_runScript wsX120 := goodIn_r _ [306, 307, 308, 309, 310, 311, 312, 313, 314, 315, 316, 317, 318, 319, 320, 321, 322, 323, 324, 325, 326, 327, 328, 329, 330, 331, 332, 333, 334, 335, 336, 337, 338, 339, 340, 341, 342, 343, 344, 345, 346, 347, 348, 349, 350, 351, 352, 353] (by decide +kernel) (by decide +kernel)
theorem ggX12_runScript_X12_runs : GoodIn wsX12_runScript wsX12_runs := goodIn_ca (goodIn_ca gpX12_runs_1 (goodIn_app gpX12_runs_2 (goodIn_app gpX12_runs_3 (goodIn_app gpX12_runs_4 (goodIn_app gpX12_runs_5 (goodIn_app gpX12_runs_6 (goodIn_app gpX12_runs_7 gpX12_runs_8))))))) gpX12_runs_9
set_option maxRecDepth 20000 in
theorem gX12_runScript_X12_runs : GoodIn wsX12_runScript (wsV RX12 465 RX12 yX12_runs wsX12_runs) := goodIn_app (goodIn_of _ (by decide +kernel)) ggX12_runScript_X12_runs
