set_option maxRecDepth 20000 in
theorem gX11_nextStep_X4_take : GoodIn wsX11_nextStep (wsV RX11 333 RX4 yX4_take wsX4_take) := goodIn_app (goodIn_of _ (by decide +kernel)) ggX11_nextStep_X4_take
set_option maxRecDepth 20000 in
theorem ggX11_nextStep_X4_chosenStep : GoodIn wsX11_nextStep wsX4_chosenStep := goodIn_r _ [76, 15, 77, 78, 79, 7, 80, 9, 11, 81, 82, 83, 84, 63, 46, 24, 25, 26, 85, 86, 87, 88, 40, 16, 69, 70, 71, 72, 12, 89, 90, 91, 92, 14, 111, 112, 113, 114, 115, 116, 117, 118, 119, 120, 121, 122] (by decide +kernel) (by decide +kernel)
set_option maxRecDepth 20000 in
theorem gX11_nextStep_X4_chosenStep : GoodIn wsX11_nextStep (wsV RX11 418 RX4 yX4_chosenStep wsX4_chosenStep) := goodIn_app (goodIn_of _ (by decide +kernel)) ggX11_nextStep_X4_chosenStep

