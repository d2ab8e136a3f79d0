set_option maxRecDepth 20000 in
theorem ggX12_runScript_X12_beginsText : GoodIn wsX12_runScript wsX12_beginsText := goodIn_s _ [(9, 7), (4, 1), (16, 3), (8, 1), (19, 4), (3, 1), (23, 11), (306, 48)] rfl (by decide +kernel)
set_option maxRecDepth 20000 in
theorem gX12_runScript_X12_beginsText : GoodIn wsX12_runScript (wsV RX12 230 RX12 yX12_beginsText wsX12_beginsText) := goodIn_app (goodIn_of _ (by decide +kernel)) ggX12_runScript_X12_beginsText
set_option maxRecDepth 20000 in
theorem ggX12_runScript_X12_isGood : GoodIn wsX12_runScript wsX12_isGood := goodIn_s _ [(37, 1), (13, 1), (306, 48)] rfl (by decide +kernel)
set_option maxRecDepth 20000 in
theorem gX12_runScript_X12_isGood : GoodIn wsX12_runScript (wsV RX12 148 RX12 yX12_isGood wsX12_isGood) := goodIn_app (goodIn_of _ (by decide +kernel)) ggX12_runScript_X12_isGood
set_option maxRecDepth 20000 in
theorem ggX12_runScript_X12_command : GoodIn wsX12_runScript wsX12_command := goodIn_s _ [(41, 1), (4, 1), (2, 1), (1, 1), (42, 6), (8, 1), (48, 14), (3, 1), (21, 1), (34, 4), (13, 1), (62, 4), (20, 1), (14, 6), (12, 1), (22, 5), (11, 1), (27, 7), (66, 32), (306, 48)] rfl (by decide +kernel)
set_option maxRecDepth 20000 in
theorem gX12_runScript_X12_command : GoodIn wsX12_runScript (wsV RX12 459 RX12 yX12_command wsX12_command) := goodIn_app (goodIn_of _ (by decide +kernel)) ggX12_runScript_X12_command
set_option maxRecDepth 20000 in
theorem ggX12_runScript_X12_mustSign : GoodIn wsX12_runScript wsX12_mustSign := goodIn_s _ [(90, 1), (34, 3), (8, 1), (37, 1), (13, 1), (91, 4), (3, 1), (22, 1), (62, 4), (20, 1), (14, 1), (4, 1), (15, 5), (12, 1), (21, 1), (23, 4), (11, 1), (27, 7), (306, 48)] rfl (by decide +kernel)
set_option maxRecDepth 20000 in
theorem gX12_runScript_X12_mustSign : GoodIn wsX12_runScript (wsV RX12 227 RX12 yX12_mustSign wsX12_mustSign) := goodIn_app (goodIn_of _ (by decide +kernel)) ggX12_runScript_X12_mustSign
set_option maxRecDepth 20000 in
theorem ggX12_runScript_X12_closes : GoodIn wsX12_runScript wsX12_closes := goodIn_s _ [(101, 1), (4, 1), (42, 1), (1, 1), (91, 3), (8, 1), (94, 1), (3, 1), (22, 1), (34, 4), (13, 1), (16, 4), (12, 1), (20, 2), (23, 4), (11, 1), (27, 7), (87, 4), (62, 4), (14, 2), (306, 48)] rfl (by decide +kernel)
set_option maxRecDepth 20000 in
theorem gX12_runScript_X12_closes : GoodIn wsX12_runScript (wsV RX12 462 RX12 yX12_closes wsX12_closes) := goodIn_app (goodIn_of _ (by decide +kernel)) ggX12_runScript_X12_closes
