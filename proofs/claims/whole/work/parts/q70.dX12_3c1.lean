set_option maxRecDepth 20000 in
theorem ggX12_runScript_X12_beginsText : GoodIn wsX12_runScript wsX12_beginsText := goodIn_r _ [9, 10, 11, 12, 13, 14, 15, 4, 16, 17, 18, 8, 19, 20, 21, 22, 3, 23, 24, 25, 26, 27, 28, 29, 30, 31, 32, 33, 306, 307, 308, 309, 310, 311, 312, 313, 314, 315, 316, 317, 318, 319, 320, 321, 322, 323, 324, 325, 326, 327, 328, 329, 330, 331, 332, 333, 334, 335, 336, 337, 338, 339, 340, 341, 342, 343, 344, 345, 346, 347, 348, 349, 350, 351, 352, 353] (by decide +kernel) (by decide +kernel)
set_option maxRecDepth 20000 in
theorem gX12_runScript_X12_beginsText : GoodIn wsX12_runScript (wsV RX12 230 RX12 yX12_beginsText wsX12_beginsText) := goodIn_app (goodIn_of _ (by decide +kernel)) ggX12_runScript_X12_beginsText
set_option maxRecDepth 20000 in
theorem ggX12_runScript_X12_isGood : GoodIn wsX12_runScript wsX12_isGood := goodIn_r _ [37, 13, 306, 307, 308, 309, 310, 311, 312, 313, 314, 315, 316, 317, 318, 319, 320, 321, 322, 323, 324, 325, 326, 327, 328, 329, 330, 331, 332, 333, 334, 335, 336, 337, 338, 339, 340, 341, 342, 343, 344, 345, 346, 347, 348, 349, 350, 351, 352, 353] (by decide +kernel) (by decide +kernel)
set_option maxRecDepth 20000 in
theorem gX12_runScript_X12_isGood : GoodIn wsX12_runScript (wsV RX12 148 RX12 yX12_isGood wsX12_isGood) := goodIn_app (goodIn_of _ (by decide +kernel)) ggX12_runScript_X12_isGood
set_option maxRecDepth 20000 in
theorem ggX12_runScript_X12_command : GoodIn wsX12_runScript wsX12_command := goodIn_r _ [41, 4, 2, 1, 42, 43, 44, 45, 46, 47, 8, 48, 49, 50, 51, 52, 53, 54, 55, 56, 57, 58, 59, 60, 61, 3, 21, 34, 35, 36, 37, 13, 62, 63, 64, 65, 20, 14, 15, 16, 17, 18, 19, 12, 22, 23, 24, 25, 26, 11, 27, 28, 29, 30, 31, 32, 33, 66, 67, 68, 69, 70, 71, 72, 73, 74, 75, 76, 77, 78, 79, 80, 81, 82, 83, 84, 85, 86, 87, 88, 89, 90, 91, 92, 93, 94, 95, 96, 97, 306, 307, 308, 309, 310, 311, 312, 313, 314, 315, 316, 317, 318, 319, 320, 321, 322, 323, 324, 325, 326, 327, 328, 329, 330, 331, 332, 333, 334, 335, 336, 337, 338, 339, 340, 341, 342, 343, 344, 345, 346, 347, 348, 349, 350, 351, 352, 353] (by decide +kernel) (by decide +kernel)
set_option maxRecDepth 20000 in
theorem gX12_runScript_X12_command : GoodIn wsX12_runScript (wsV RX12 459 RX12 yX12_command wsX12_command) := goodIn_app (goodIn_of _ (by decide +kernel)) ggX12_runScript_X12_command
set_option maxRecDepth 20000 in
theorem ggX12_runScript_X12_mustSign : GoodIn wsX12_runScript wsX12_mustSign := goodIn_r _ [90, 34, 35, 36, 8, 37, 13, 91, 92, 93, 94, 3, 22, 62, 63, 64, 65, 20, 14, 4, 15, 16, 17, 18, 19, 12, 21, 23, 24, 25, 26, 11, 27, 28, 29, 30, 31, 32, 33, 306, 307, 308, 309, 310, 311, 312, 313, 314, 315, 316, 317, 318, 319, 320, 321, 322, 323, 324, 325, 326, 327, 328, 329, 330, 331, 332, 333, 334, 335, 336, 337, 338, 339, 340, 341, 342, 343, 344, 345, 346, 347, 348, 349, 350, 351, 352, 353] (by decide +kernel) (by decide +kernel)
set_option maxRecDepth 20000 in
theorem gX12_runScript_X12_mustSign : GoodIn wsX12_runScript (wsV RX12 227 RX12 yX12_mustSign wsX12_mustSign) := goodIn_app (goodIn_of _ (by decide +kernel)) ggX12_runScript_X12_mustSign
set_option maxRecDepth 20000 in
theorem ggX12_runScript_X12_closes : GoodIn wsX12_runScript wsX12_closes := goodIn_r _ [101, 4, 42, 1, 91, 92, 93, 8, 94, 3, 22, 34, 35, 36, 37, 13, 16, 17, 18, 19, 12, 20, 21, 23, 24, 25, 26, 11, 27, 28, 29, 30, 31, 32, 33, 87, 88, 89, 90, 62, 63, 64, 65, 14, 15, 306, 307, 308, 309, 310, 311, 312, 313, 314, 315, 316, 317, 318, 319, 320, 321, 322, 323, 324, 325, 326, 327, 328, 329, 330, 331, 332, 333, 334, 335, 336, 337, 338, 339, 340, 341, 342, 343, 344, 345, 346, 347, 348, 349, 350, 351, 352, 353] (by decide +kernel) (by decide +kernel)
set_option maxRecDepth 20000 in
theorem gX12_runScript_X12_closes : GoodIn wsX12_runScript (wsV RX12 462 RX12 yX12_closes wsX12_closes) := goodIn_app (goodIn_of _ (by decide +kernel)) ggX12_runScript_X12_closes
