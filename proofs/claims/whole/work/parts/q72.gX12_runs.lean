set_option maxRecDepth 20000 in
theorem gpX12_runs_1 : GoodIn wsX12_runScript (Cond.code yX12_runs cX12_runs 6 (some .int) :: wsX12_runs_r1) := goodIn_s _ [(122, 1), (1, 1), (42, 1), (123, 2), (43, 2), (95, 2), (8, 1), (97, 1), (125, 9), (85, 1), (134, 4)] rfl (by decide +kernel)
set_option maxRecDepth 20000 in
theorem gpX12_runs_2 : GoodIn wsX12_runScript wsX12_runs_r2 := goodIn_s _ [(138, 24)] rfl (by decide +kernel)
set_option maxRecDepth 20000 in
theorem gpX12_runs_3 : GoodIn wsX12_runScript wsX12_runs_r3 := goodIn_s _ [(162, 22), (70, 2)] rfl (by decide +kernel)
set_option maxRecDepth 20000 in
theorem gpX12_runs_4 : GoodIn wsX12_runScript wsX12_runs_r4 := goodIn_s _ [(72, 1), (184, 23)] rfl (by decide +kernel)
set_option maxRecDepth 20000 in
theorem gpX12_runs_5 : GoodIn wsX12_runScript wsX12_runs_r5 := goodIn_s _ [(207, 24)] rfl (by decide +kernel)
set_option maxRecDepth 20000 in
theorem gpX12_runs_6 : GoodIn wsX12_runScript wsX12_runs_r6 := goodIn_s _ [(231, 24)] rfl (by decide +kernel)
set_option maxRecDepth 20000 in
theorem gpX12_runs_7 : GoodIn wsX12_runScript wsX12_runs_r7 := goodIn_s _ [(255, 24)] rfl (by decide +kernel)
set_option maxRecDepth 20000 in
theorem gpX12_runs_8 : GoodIn wsX12_runScript wsX12_runs_r8 := goodIn_s _ [(279, 21)] rfl (by decide +kernel)
set_option maxRecDepth 20000 in
theorem gpX12_runs_9 : GoodIn wsX12_runScript wsX120 := goodIn_s _ [(306, 48)] rfl (by decide +kernel)
theorem ggX12_runScript_X12_runs : GoodIn wsX12_runScript wsX12_runs := goodIn_ca (goodIn_ca gpX12_runs_1 (goodIn_app gpX12_runs_2 (goodIn_app gpX12_runs_3 (goodIn_app gpX12_runs_4 (goodIn_app gpX12_runs_5 (goodIn_app gpX12_runs_6 (goodIn_app gpX12_runs_7 gpX12_runs_8))))))) gpX12_runs_9
set_option maxRecDepth 20000 in
theorem gX12_runScript_X12_runs : GoodIn wsX12_runScript (wsV RX12 465 RX12 yX12_runs wsX12_runs) := goodIn_app (goodIn_of _ (by decide +kernel)) ggX12_runScript_X12_runs
