set_option maxRecDepth 20000 in
theorem gX11_nextStep_X4_take : GoodIn wsX11_nextStep (wsV RX11 333 RX4 yX4_take wsX4_take) := goodIn_app (goodIn_of _ (by decide +kernel)) ggX11_nextStep_X4_take
set_option maxRecDepth 20000 in
theorem ggX11_nextStep_X4_chosenStep : GoodIn wsX11_nextStep wsX4_chosenStep := goodIn_s _ [(76, 1), (15, 1), (77, 3), (7, 1), (80, 1), (9, 1), (11, 1), (81, 4), (63, 1), (46, 1), (24, 3), (85, 4), (40, 1), (16, 1), (69, 4), (12, 1), (89, 4), (14, 1), (111, 12)] rfl (by decide +kernel)
set_option maxRecDepth 20000 in
theorem gX11_nextStep_X4_chosenStep : GoodIn wsX11_nextStep (wsV RX11 418 RX4 yX4_chosenStep wsX4_chosenStep) := goodIn_app (goodIn_of _ (by decide +kernel)) ggX11_nextStep_X4_chosenStep

