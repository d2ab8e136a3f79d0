set_option maxRecDepth 20000 in
theorem ggX12_runScript_X12_wrong : GoodIn wsX12_runScript wsX12_wrong := goodIn_r _ [65, 13, 3, 20, 14, 4, 15, 306, 307, 308, 309, 310, 311, 312, 313, 314, 315, 316, 317, 318, 319, 320, 321, 322, 323, 324, 325, 326, 327, 328, 329, 330, 331, 332, 333, 334, 335, 336, 337, 338, 339, 340, 341, 342, 343, 344, 345, 346, 347, 348, 349, 350, 351, 352, 353] (by decide +kernel) (by decide +kernel)
set_option maxRecDepth 20000 in
theorem gX12_runScript_X12_wrong : GoodIn wsX12_runScript (wsV RX12 155 RX12 yX12_wrong wsX12_wrong) := goodIn_app (goodIn_of _ (by decide +kernel)) ggX12_runScript_X12_wrong
set_option maxRecDepth 20000 in
theorem ggX12_runScript_X12_endsText : GoodIn wsX12_runScript wsX12_endsText := goodIn_r _ [105, 13, 106, 14, 107, 15, 108, 109, 110, 111, 8, 112, 113, 95, 96, 97, 306, 307, 308, 309, 310, 311, 312, 313, 314, 315, 316, 317, 318, 319, 320, 321, 322, 323, 324, 325, 326, 327, 328, 329, 330, 331, 332, 333, 334, 335, 336, 337, 338, 339, 340, 341, 342, 343, 344, 345, 346, 347, 348, 349, 350, 351, 352, 353] (by decide +kernel) (by decide +kernel)
set_option maxRecDepth 20000 in
theorem gX12_runScript_X12_endsText : GoodIn wsX12_runScript (wsV RX12 239 RX12 yX12_endsText wsX12_endsText) := goodIn_app (goodIn_of _ (by decide +kernel)) ggX12_runScript_X12_endsText
set_option maxRecDepth 20000 in
theorem ggX12_runScript_X12_laysAside : GoodIn wsX12_runScript wsX12_laysAside := goodIn_r _ [117, 118, 85, 306, 307, 308, 309, 310, 311, 312, 313, 314, 315, 316, 317, 318, 319, 320, 321, 322, 323, 324, 325, 326, 327, 328, 329, 330, 331, 332, 333, 334, 335, 336, 337, 338, 339, 340, 341, 342, 343, 344, 345, 346, 347, 348, 349, 350, 351, 352, 353] (by decide +kernel) (by decide +kernel)
set_option maxRecDepth 20000 in
theorem gX12_runScript_X12_laysAside : GoodIn wsX12_runScript (wsV RX12 233 RX12 yX12_laysAside wsX12_laysAside) := goodIn_app (goodIn_of _ (by decide +kernel)) ggX12_runScript_X12_laysAside
set_option maxRecDepth 20000 in
theorem ggX12_runScript_X12_keeps : GoodIn wsX12_runScript wsX12_keeps := goodIn_r _ [303, 304, 305, 118, 306, 307, 308, 309, 310, 311, 312, 313, 314, 315, 316, 317, 318, 319, 320, 321, 322, 323, 324, 325, 326, 327, 328, 329, 330, 331, 332, 333, 334, 335, 336, 337, 338, 339, 340, 341, 342, 343, 344, 345, 346, 347, 348, 349, 350, 351, 352, 353] (by decide +kernel) (by decide +kernel)
set_option maxRecDepth 20000 in
theorem gX12_runScript_X12_keeps : GoodIn wsX12_runScript (wsV RX12 396 RX12 yX12_keeps wsX12_keeps) := goodIn_app (goodIn_of _ (by decide +kernel)) ggX12_runScript_X12_keeps
