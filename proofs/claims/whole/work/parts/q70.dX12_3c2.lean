set_option maxRecDepth 20000 in
theorem ggX12_runScript_X12_wrong : GoodIn wsX12_runScript wsX12_wrong := goodIn_s _ [(65, 1), (13, 1), (3, 1), (20, 1), (14, 1), (4, 1), (15, 1), (306, 48)] rfl (by decide +kernel)
set_option maxRecDepth 20000 in
theorem gX12_runScript_X12_wrong : GoodIn wsX12_runScript (wsV RX12 155 RX12 yX12_wrong wsX12_wrong) := goodIn_app (goodIn_of _ (by decide +kernel)) ggX12_runScript_X12_wrong
set_option maxRecDepth 20000 in
theorem ggX12_runScript_X12_endsText : GoodIn wsX12_runScript wsX12_endsText := goodIn_s _ [(105, 1), (13, 1), (106, 1), (14, 1), (107, 1), (15, 1), (108, 4), (8, 1), (112, 2), (95, 3), (306, 48)] rfl (by decide +kernel)
set_option maxRecDepth 20000 in
theorem gX12_runScript_X12_endsText : GoodIn wsX12_runScript (wsV RX12 239 RX12 yX12_endsText wsX12_endsText) := goodIn_app (goodIn_of _ (by decide +kernel)) ggX12_runScript_X12_endsText
set_option maxRecDepth 20000 in
theorem ggX12_runScript_X12_laysAside : GoodIn wsX12_runScript wsX12_laysAside := goodIn_s _ [(117, 2), (85, 1), (306, 48)] rfl (by decide +kernel)
set_option maxRecDepth 20000 in
theorem gX12_runScript_X12_laysAside : GoodIn wsX12_runScript (wsV RX12 233 RX12 yX12_laysAside wsX12_laysAside) := goodIn_app (goodIn_of _ (by decide +kernel)) ggX12_runScript_X12_laysAside
set_option maxRecDepth 20000 in
theorem ggX12_runScript_X12_keeps : GoodIn wsX12_runScript wsX12_keeps := goodIn_s _ [(303, 3), (118, 1), (306, 48)] rfl (by decide +kernel)
set_option maxRecDepth 20000 in
theorem gX12_runScript_X12_keeps : GoodIn wsX12_runScript (wsV RX12 396 RX12 yX12_keeps wsX12_keeps) := goodIn_app (goodIn_of _ (by decide +kernel)) ggX12_runScript_X12_keeps
