theorem dX11_nextStep_0 : decode cX11_nextStep 0 = .ok (.aload_n 0, 1) := by decide +kernel
theorem dX11_nextStep_1 : decode cX11_nextStep 1 = .ok (.getfield 73, 3) := by decide +kernel
theorem dX11_nextStep_4 : decode cX11_nextStep 4 = .ok (.aload_n 0, 1) := by decide +kernel
theorem dX11_nextStep_5 : decode cX11_nextStep 5 = .ok (.getfield 40, 3) := by decide +kernel
theorem dX11_nextStep_8 : decode cX11_nextStep 8 = .ok (.aload_n 0, 1) := by decide +kernel
theorem dX11_nextStep_9 : decode cX11_nextStep 9 = .ok (.getfield 53, 3) := by decide +kernel
theorem dX11_nextStep_12 : decode cX11_nextStep 12 = .ok (.invokevirtual 333, 3) := by decide +kernel
theorem dX11_nextStep_15 : decode cX11_nextStep 15 = .ok (.aload_n 0, 1) := by decide +kernel
theorem dX11_nextStep_16 : decode cX11_nextStep 16 = .ok (.getfield 73, 3) := by decide +kernel
theorem dX11_nextStep_19 : decode cX11_nextStep 19 = .ok (.invokevirtual 418, 3) := by decide +kernel
theorem dX11_nextStep_22 : decode cX11_nextStep 22 = .ok (.ireturn, 1) := by decide +kernel
set_option maxRecDepth 20000 in
theorem ggX11_bestDebts_X11_hasFewGroups : GoodIn wsX11_bestDebts wsX11_hasFewGroups := goodIn_r _ [7, 8, 9, 10, 11, 12, 13, 14, 15, 16, 6, 17, 145, 146, 147, 148, 149, 150, 151, 152, 153, 154, 155, 156, 157, 158, 159, 160, 161, 162, 168, 169, 170, 171, 172, 173, 174] (by decide +kernel) (by decide +kernel)
set_option maxRecDepth 20000 in
theorem gX11_bestDebts_X11_hasFewGroups : GoodIn wsX11_bestDebts (wsV RX11 212 RX11 yX11_hasFewGroups wsX11_hasFewGroups) := goodIn_app (goodIn_of _ (by decide +kernel)) ggX11_bestDebts_X11_hasFewGroups
set_option maxRecDepth 20000 in
theorem ggX11_bestDebts_X11_searchBest : GoodIn wsX11_bestDebts wsX11_searchBest := goodIn_r _ [21, 22, 23, 8, 24, 1, 25, 26, 27, 28, 29, 30, 31, 32, 33, 34, 35, 36, 37, 38, 10, 11, 12, 13, 14, 15, 16, 6, 17, 39, 40, 41, 42, 43, 44, 45, 46, 47, 48, 49, 50, 51, 52, 53, 54, 55, 56, 57, 58, 59, 60, 61, 62, 63, 64, 65, 66, 67, 68, 69, 70, 71, 72, 73, 74, 75, 76, 77, 78, 79, 80, 81, 82, 83, 84, 85, 86, 87, 88, 89, 90, 91, 92, 93, 94, 95, 96, 97, 98, 99, 100, 101, 102, 103, 104, 105, 106, 107, 108, 109, 110, 111, 112, 113, 114, 115, 116, 117, 118, 119, 120, 121, 122, 123, 124, 125, 126, 127, 128, 129, 130, 131, 132, 133, 134, 135, 136, 137, 138, 139, 140, 141, 142, 143, 144, 145, 146, 147, 148, 149, 150, 151, 152, 153, 154, 155, 156, 157, 158, 159, 160, 161, 162, 175, 176, 177, 178, 179, 180, 181, 182, 183, 184, 185, 186, 187, 188, 189, 190, 191, 192, 193, 194, 195, 196, 197, 198, 168, 169, 170, 171, 172, 173, 174, 199, 200, 201, 202, 203, 163, 164, 165, 166, 167] (by decide +kernel) (by decide +kernel)
set_option maxRecDepth 20000 in
theorem gX11_bestDebts_X11_searchBest : GoodIn wsX11_bestDebts (wsV RX11 236 RX11 yX11_searchBest wsX11_searchBest) := goodIn_app (goodIn_of _ (by decide +kernel)) ggX11_bestDebts_X11_searchBest
theorem dX11_bestDebts_0 : decode cX11_bestDebts 0 = .ok (.aload_n 0, 1) := by decide +kernel
theorem dX11_bestDebts_1 : decode cX11_bestDebts 1 = .ok (.invokevirtual 212, 3) := by decide +kernel
theorem dX11_bestDebts_4 : decode cX11_bestDebts 4 = .ok (.ifCond .ne 5, 3) := by decide +kernel
theorem dX11_bestDebts_7 : decode cX11_bestDebts 7 = .ok (.iconst (-1), 1) := by decide +kernel
theorem dX11_bestDebts_8 : decode cX11_bestDebts 8 = .ok (.ireturn, 1) := by decide +kernel
theorem dX11_bestDebts_9 : decode cX11_bestDebts 9 = .ok (.aload_n 0, 1) := by decide +kernel
theorem dX11_bestDebts_10 : decode cX11_bestDebts 10 = .ok (.invokevirtual 236, 3) := by decide +kernel
theorem dX11_bestDebts_13 : decode cX11_bestDebts 13 = .ok (.aload_n 0, 1) := by decide +kernel
theorem dX11_bestDebts_14 : decode cX11_bestDebts 14 = .ok (.getfield 87, 3) := by decide +kernel
theorem dX11_bestDebts_17 : decode cX11_bestDebts 17 = .ok (.getfield 421, 3) := by decide +kernel
theorem dX11_bestDebts_20 : decode cX11_bestDebts 20 = .ok (.ireturn, 1) := by decide +kernel
set_option maxRecDepth 20000 in
theorem ggX11_bestCut_X11_hasFewGroups : GoodIn wsX11_bestCut wsX11_hasFewGroups := goodIn_r _ [7, 8, 9, 10, 11, 12, 13, 14, 15, 16, 6, 17, 145, 146, 147, 148, 149, 150, 151, 152, 153, 154, 155, 156, 157, 158, 159, 160, 161, 162, 168, 169, 170, 171, 172, 173, 174] (by decide +kernel) (by decide +kernel)
set_option maxRecDepth 20000 in
theorem gX11_bestCut_X11_hasFewGroups : GoodIn wsX11_bestCut (wsV RX11 212 RX11 yX11_hasFewGroups wsX11_hasFewGroups) := goodIn_app (goodIn_of _ (by decide +kernel)) ggX11_bestCut_X11_hasFewGroups
set_option maxRecDepth 20000 in
theorem ggX11_bestCut_X11_searchBest : GoodIn wsX11_bestCut wsX11_searchBest := goodIn_r _ [21, 22, 23, 8, 24, 1, 25, 26, 27, 28, 29, 30, 31, 32, 33, 34, 35, 36, 37, 38, 10, 11, 12, 13, 14, 15, 16, 6, 17, 39, 40, 41, 42, 43, 44, 45, 46, 47, 48, 49, 50, 51, 52, 53, 54, 55, 56, 57, 58, 59, 60, 61, 62, 63, 64, 65, 66, 67, 68, 69, 70, 71, 72, 73, 74, 75, 76, 77, 78, 79, 80, 81, 82, 83, 84, 85, 86, 87, 88, 89, 90, 91, 92, 93, 94, 95, 96, 97, 98, 99, 100, 101, 102, 103, 104, 105, 106, 107, 108, 109, 110, 111, 112, 113, 114, 115, 116, 117, 118, 119, 120, 121, 122, 123, 124, 125, 126, 127, 128, 129, 130, 131, 132, 133, 134, 135, 136, 137, 138, 139, 140, 141, 142, 143, 144, 145, 146, 147, 148, 149, 150, 151, 152, 153, 154, 155, 156, 157, 158, 159, 160, 161, 162, 175, 176, 177, 178, 179, 180, 181, 182, 183, 184, 185, 186, 187, 188, 189, 190, 191, 192, 193, 194, 195, 196, 197, 198, 168, 169, 170, 171, 172, 173, 174, 199, 200, 201, 202, 203, 163, 164, 165, 166, 167] (by decide +kernel) (by decide +kernel)
set_option maxRecDepth 20000 in
theorem gX11_bestCut_X11_searchBest : GoodIn wsX11_bestCut (wsV RX11 236 RX11 yX11_searchBest wsX11_searchBest) := goodIn_app (goodIn_of _ (by decide +kernel)) ggX11_bestCut_X11_searchBest
theorem dX11_bestCut_0 : decode cX11_bestCut 0 = .ok (.aload_n 0, 1) := by decide +kernel
theorem dX11_bestCut_1 : decode cX11_bestCut 1 = .ok (.invokevirtual 212, 3) := by decide +kernel
theorem dX11_bestCut_4 : decode cX11_bestCut 4 = .ok (.ifCond .ne 5, 3) := by decide +kernel
theorem dX11_bestCut_7 : decode cX11_bestCut 7 = .ok (.iconst (-1), 1) := by decide +kernel
theorem dX11_bestCut_8 : decode cX11_bestCut 8 = .ok (.ireturn, 1) := by decide +kernel
theorem dX11_bestCut_9 : decode cX11_bestCut 9 = .ok (.aload_n 0, 1) := by decide +kernel
theorem dX11_bestCut_10 : decode cX11_bestCut 10 = .ok (.invokevirtual 236, 3) := by decide +kernel
theorem dX11_bestCut_13 : decode cX11_bestCut 13 = .ok (.aload_n 0, 1) := by decide +kernel
theorem dX11_bestCut_14 : decode cX11_bestCut 14 = .ok (.getfield 87, 3) := by decide +kernel
theorem dX11_bestCut_17 : decode cX11_bestCut 17 = .ok (.getfield 424, 3) := by decide +kernel
theorem dX11_bestCut_20 : decode cX11_bestCut 20 = .ok (.ireturn, 1) := by decide +kernel
set_option maxRecDepth 20000 in
theorem ggX11_hasFewGroups_X8_groupCount : GoodIn wsX11_hasFewGroups wsX8_groupCount := goodIn_r _ [6, 7, 8, 9, 10, 11, 30, 31, 32, 33, 34, 35, 36] (by decide +kernel) (by decide +kernel)
set_option maxRecDepth 20000 in
theorem gX11_hasFewGroups_X8_groupCount : GoodIn wsX11_hasFewGroups (wsV RX11 277 RX8 yX8_groupCount wsX8_groupCount) := goodIn_app (goodIn_of _ (by decide +kernel)) ggX11_hasFewGroups_X8_groupCount
theorem dX11_hasFewGroups_0 : decode cX11_hasFewGroups 0 = .ok (.aload_n 0, 1) := by decide +kernel
theorem dX11_hasFewGroups_1 : decode cX11_hasFewGroups 1 = .ok (.getfield 53, 3) := by decide +kernel
theorem dX11_hasFewGroups_4 : decode cX11_hasFewGroups 4 = .ok (.invokevirtual 277, 3) := by decide +kernel
theorem dX11_hasFewGroups_7 : decode cX11_hasFewGroups 7 = .ok (.bipush 7, 2) := by decide +kernel
theorem dX11_hasFewGroups_9 : decode cX11_hasFewGroups 9 = .ok (.if_icmp .gt 7, 3) := by decide +kernel
theorem dX11_hasFewGroups_12 : decode cX11_hasFewGroups 12 = .ok (.iconst 1, 1) := by decide +kernel
theorem dX11_hasFewGroups_13 : decode cX11_hasFewGroups 13 = .ok (.goto 4, 3) := by decide +kernel
theorem dX11_hasFewGroups_16 : decode cX11_hasFewGroups 16 = .ok (.iconst 0, 1) := by decide +kernel
theorem dX11_hasFewGroups_17 : decode cX11_hasFewGroups 17 = .ok (.ireturn, 1) := by decide +kernel
set_option maxRecDepth 20000 in
theorem ggX11_searchBest_X4_take : GoodIn wsX11_searchBest wsX4_take := goodIn_r _ [10, 11, 12, 13, 14, 15, 16, 17, 18, 19, 20, 21, 22, 23, 24, 25, 26, 27, 28, 29, 30, 31, 32, 33, 34, 35, 36, 37, 38, 39, 9, 40, 41, 42, 43, 44, 45, 46, 47, 48, 49, 50, 51, 52, 53, 54, 55, 56, 57, 58, 59, 60, 61, 62, 63, 64, 65, 66, 67, 68, 69, 70, 71, 72, 73, 74, 153, 154, 155, 156, 157, 158, 159, 160, 161, 162, 163, 164, 165, 166, 167, 168, 169, 170, 171, 172, 173, 174, 175, 176, 177, 178, 179, 180, 181, 182, 183] (by decide +kernel) (by decide +kernel)
set_option maxRecDepth 20000 in
theorem gX11_searchBest_X4_take : GoodIn wsX11_searchBest (wsV RX11 333 RX4 yX4_take wsX4_take) := goodIn_app (goodIn_of _ (by decide +kernel)) ggX11_searchBest_X4_take
set_option maxRecDepth 20000 in
theorem ggX11_searchBest_X5_join : GoodIn wsX11_searchBest wsX5_join := goodIn_r _ [79, 80, 81, 82, 83, 84, 85, 86, 50, 51, 52, 87, 54, 55, 22, 56, 25, 26, 27, 28, 57, 58, 184, 185, 186, 187, 188, 165, 166, 167, 168, 169, 170, 171, 172, 173, 174, 175, 176, 177, 178, 179, 180, 181, 182, 183] (by decide +kernel) (by decide +kernel)
set_option maxRecDepth 20000 in
theorem gX11_searchBest_X5_join : GoodIn wsX11_searchBest (wsV RX11 399 RX5 yX5_join wsX5_join) := goodIn_app (goodIn_of _ (by decide +kernel)) ggX11_searchBest_X5_join
set_option maxRecDepth 20000 in
theorem ggX11_searchBest_X0_search : GoodIn wsX11_searchBest wsX0_search := goodIn_r _ [92, 93, 94, 95, 96, 97, 98, 99, 50, 51, 52, 100, 101, 102, 91, 103, 104, 105, 106, 26, 27, 28, 57, 58, 107, 72, 73, 9, 74, 14, 108, 109, 110, 111, 112, 113, 114, 115, 116, 117, 118, 119, 120, 121, 122, 123, 124, 125, 126, 127, 128, 129, 130, 131, 132, 133, 134, 59, 60, 189, 190, 191, 192, 193, 153, 154, 155, 156, 157, 158, 159, 160, 161, 162, 163, 164, 184, 185, 186, 187, 188] (by decide +kernel) (by decide +kernel)
set_option maxRecDepth 20000 in
theorem gX11_searchBest_X0_search : GoodIn wsX11_searchBest (wsV RX11 427 RX0 yX0_search wsX0_search) := goodIn_app (goodIn_of _ (by decide +kernel)) ggX11_searchBest_X0_search
theorem dX11_searchBest_0 : decode cX11_searchBest 0 = .ok (.aload_n 0, 1) := by decide +kernel
theorem dX11_searchBest_1 : decode cX11_searchBest 1 = .ok (.getfield 73, 3) := by decide +kernel
theorem dX11_searchBest_4 : decode cX11_searchBest 4 = .ok (.aload_n 0, 1) := by decide +kernel
theorem dX11_searchBest_5 : decode cX11_searchBest 5 = .ok (.getfield 40, 3) := by decide +kernel
theorem dX11_searchBest_8 : decode cX11_searchBest 8 = .ok (.aload_n 0, 1) := by decide +kernel
theorem dX11_searchBest_9 : decode cX11_searchBest 9 = .ok (.getfield 53, 3) := by decide +kernel
theorem dX11_searchBest_12 : decode cX11_searchBest 12 = .ok (.invokevirtual 333, 3) := by decide +kernel
theorem dX11_searchBest_15 : decode cX11_searchBest 15 = .ok (.aload_n 0, 1) := by decide +kernel
theorem dX11_searchBest_16 : decode cX11_searchBest 16 = .ok (.getfield 80, 3) := by decide +kernel
theorem dX11_searchBest_19 : decode cX11_searchBest 19 = .ok (.aload_n 0, 1) := by decide +kernel
theorem dX11_searchBest_20 : decode cX11_searchBest 20 = .ok (.getfield 40, 3) := by decide +kernel
theorem dX11_searchBest_23 : decode cX11_searchBest 23 = .ok (.aload_n 0, 1) := by decide +kernel
theorem dX11_searchBest_24 : decode cX11_searchBest 24 = .ok (.getfield 53, 3) := by decide +kernel
theorem dX11_searchBest_27 : decode cX11_searchBest 27 = .ok (.invokevirtual 399, 3) := by decide +kernel
theorem dX11_searchBest_30 : decode cX11_searchBest 30 = .ok (.aload_n 0, 1) := by decide +kernel
theorem dX11_searchBest_31 : decode cX11_searchBest 31 = .ok (.getfield 87, 3) := by decide +kernel
theorem dX11_searchBest_34 : decode cX11_searchBest 34 = .ok (.aload_n 0, 1) := by decide +kernel
theorem dX11_searchBest_35 : decode cX11_searchBest 35 = .ok (.getfield 73, 3) := by decide +kernel
theorem dX11_searchBest_38 : decode cX11_searchBest 38 = .ok (.aload_n 0, 1) := by decide +kernel
theorem dX11_searchBest_39 : decode cX11_searchBest 39 = .ok (.getfield 80, 3) := by decide +kernel
theorem dX11_searchBest_42 : decode cX11_searchBest 42 = .ok (.invokevirtual 427, 3) := by decide +kernel
theorem dX11_searchBest_45 : decode cX11_searchBest 45 = .ok (.return_, 1) := by decide +kernel
set_option maxRecDepth 20000 in
theorem ggX11_stepsToEnd_X11_requireTriedSteps : GoodIn wsX11_stepsToEnd wsX11_requireTriedSteps := goodIn_ca (goodIn_r _ [8, 9, 10] (by decide +kernel) (by decide +kernel)) (goodIn_sub (fun _ h => List.mem_cons_of_mem _ (List.mem_append_right _ h)) (by decide +kernel))
set_option maxRecDepth 20000 in
theorem gX11_stepsToEnd_X11_requireTriedSteps : GoodIn wsX11_stepsToEnd (wsV RX11 431 RX11 yX11_requireTriedSteps wsX11_requireTriedSteps) := goodIn_app (goodIn_of _ (by decide +kernel)) ggX11_stepsToEnd_X11_requireTriedSteps
set_option maxRecDepth 20000 in
theorem ggX11_stepsToEnd_X11_trySteps : GoodIn wsX11_stepsToEnd wsX11_trySteps := goodIn_r _ [14, 3, 15, 16, 17, 18, 19, 20, 21, 22, 23, 24, 25, 26, 27, 28, 7, 29, 30, 31, 32, 33, 34, 35, 36, 37, 38, 39, 40, 41, 1, 2, 42, 43, 44, 45, 46, 47, 48, 49, 50, 51, 52, 53, 54, 55, 56, 57, 58, 59, 60, 61, 62, 63, 64, 65, 66, 67, 68, 69, 70, 71, 72, 73, 74, 75, 76, 77, 78, 79, 80, 81, 82, 83, 84, 85, 86, 87, 88, 89, 90, 91, 92, 93, 94, 95, 96, 97, 98, 99, 100, 101, 102, 103, 104, 105, 106, 107, 108, 109, 110, 111, 112, 113, 114, 115, 116, 117, 118, 119, 120, 121, 122, 123, 124, 125, 126, 127, 128, 129, 130, 131, 132, 133, 134, 135, 136, 137, 138, 139, 140, 141, 142, 143, 144, 145, 146, 147, 148, 149, 150, 151, 152, 153, 154, 155, 156, 157, 158, 159, 160, 161, 162, 163, 164, 165, 166, 167, 168, 169, 170, 171, 172, 173, 174, 175, 176, 177, 178, 179, 180, 181, 182, 183, 184, 185, 186, 187, 188, 189, 190, 191, 192, 193, 194, 195, 196] (by decide +kernel) (by decide +kernel)
set_option maxRecDepth 20000 in
theorem gX11_stepsToEnd_X11_trySteps : GoodIn wsX11_stepsToEnd (wsV RX11 434 RX11 yX11_trySteps wsX11_trySteps) := goodIn_app (goodIn_of _ (by decide +kernel)) ggX11_stepsToEnd_X11_trySteps
set_option maxRecDepth 20000 in
theorem ggX11_stepsToEnd_X4_take : GoodIn wsX11_stepsToEnd wsX4_take := goodIn_r _ [46, 47, 48, 49, 50, 51, 52, 53, 54, 55, 56, 57, 19, 58, 25, 21, 59, 7, 60, 61, 62, 63, 64, 65, 66, 67, 68, 69, 70, 71, 45, 72, 73, 74, 75, 76, 77, 78, 79, 80, 81, 82, 83, 84, 85, 86, 87, 88, 89, 90, 91, 92, 93, 94, 95, 96, 97, 98, 99, 100, 101, 102, 103, 104, 105, 106, 173, 174, 175, 176, 177, 178, 179, 180, 181, 182, 183, 184, 185, 186, 187, 188, 189, 190, 191, 192, 193, 194, 195, 196, 166, 167, 168, 169, 170, 171, 172] (by decide +kernel) (by decide +kernel)
set_option maxRecDepth 20000 in
theorem gX11_stepsToEnd_X4_take : GoodIn wsX11_stepsToEnd (wsV RX11 333 RX4 yX4_take wsX4_take) := goodIn_app (goodIn_of _ (by decide +kernel)) ggX11_stepsToEnd_X4_take
set_option maxRecDepth 20000 in
theorem ggX11_stepsToEnd_X4_chosenStep : GoodIn wsX11_stepsToEnd wsX4_chosenStep := goodIn_r _ [110, 53, 111, 112, 113, 45, 114, 47, 49, 115, 116, 117, 118, 97, 80, 59, 7, 60, 119, 120, 121, 122, 74, 54, 103, 104, 105, 106, 50, 123, 124, 125, 126, 52, 173, 174, 175, 176, 177, 178, 179, 180, 181, 182, 183, 184] (by decide +kernel) (by decide +kernel)
set_option maxRecDepth 20000 in
theorem gX11_stepsToEnd_X4_chosenStep : GoodIn wsX11_stepsToEnd (wsV RX11 418 RX4 yX4_chosenStep wsX4_chosenStep) := goodIn_app (goodIn_of _ (by decide +kernel)) ggX11_stepsToEnd_X4_chosenStep
theorem dX11_stepsToEnd_0 : decode cX11_stepsToEnd 0 = .ok (.aload_n 0, 1) := by decide +kernel
theorem dX11_stepsToEnd_1 : decode cX11_stepsToEnd 1 = .ok (.iload_n 1, 1) := by decide +kernel
theorem dX11_stepsToEnd_2 : decode cX11_stepsToEnd 2 = .ok (.invokevirtual 431, 3) := by decide +kernel
theorem dX11_stepsToEnd_5 : decode cX11_stepsToEnd 5 = .ok (.aload_n 0, 1) := by decide +kernel
theorem dX11_stepsToEnd_6 : decode cX11_stepsToEnd 6 = .ok (.iload_n 1, 1) := by decide +kernel
theorem dX11_stepsToEnd_7 : decode cX11_stepsToEnd 7 = .ok (.invokevirtual 434, 3) := by decide +kernel
theorem dX11_stepsToEnd_10 : decode cX11_stepsToEnd 10 = .ok (.istore_n 2, 1) := by decide +kernel
theorem dX11_stepsToEnd_11 : decode cX11_stepsToEnd 11 = .ok (.aload_n 0, 1) := by decide +kernel
theorem dX11_stepsToEnd_12 : decode cX11_stepsToEnd 12 = .ok (.getfield 73, 3) := by decide +kernel
theorem dX11_stepsToEnd_15 : decode cX11_stepsToEnd 15 = .ok (.aload_n 0, 1) := by decide +kernel
theorem dX11_stepsToEnd_16 : decode cX11_stepsToEnd 16 = .ok (.getfield 40, 3) := by decide +kernel
theorem dX11_stepsToEnd_19 : decode cX11_stepsToEnd 19 = .ok (.aload_n 0, 1) := by decide +kernel
theorem dX11_stepsToEnd_20 : decode cX11_stepsToEnd 20 = .ok (.getfield 57, 3) := by decide +kernel
theorem dX11_stepsToEnd_23 : decode cX11_stepsToEnd 23 = .ok (.invokevirtual 333, 3) := by decide +kernel
theorem dX11_stepsToEnd_26 : decode cX11_stepsToEnd 26 = .ok (.aload_n 0, 1) := by decide +kernel
theorem dX11_stepsToEnd_27 : decode cX11_stepsToEnd 27 = .ok (.getfield 73, 3) := by decide +kernel
theorem dX11_stepsToEnd_30 : decode cX11_stepsToEnd 30 = .ok (.invokevirtual 418, 3) := by decide +kernel
theorem dX11_stepsToEnd_33 : decode cX11_stepsToEnd 33 = .ok (.iconst (-1), 1) := by decide +kernel
theorem dX11_stepsToEnd_34 : decode cX11_stepsToEnd 34 = .ok (.if_icmp .ne 7, 3) := by decide +kernel
theorem dX11_stepsToEnd_37 : decode cX11_stepsToEnd 37 = .ok (.iload_n 2, 1) := by decide +kernel
theorem dX11_stepsToEnd_38 : decode cX11_stepsToEnd 38 = .ok (.goto 4, 3) := by decide +kernel
theorem dX11_stepsToEnd_41 : decode cX11_stepsToEnd 41 = .ok (.iconst (-1), 1) := by decide +kernel
theorem dX11_stepsToEnd_42 : decode cX11_stepsToEnd 42 = .ok (.ireturn, 1) := by decide +kernel
set_option maxRecDepth 20000 in
theorem ggX11_cutBehind_X11_requireTriedSteps : GoodIn wsX11_cutBehind wsX11_requireTriedSteps := goodIn_ca (goodIn_r _ [9, 10, 11] (by decide +kernel) (by decide +kernel)) (goodIn_sub (fun _ h => List.mem_cons_of_mem _ (List.mem_append_right _ h)) (by decide +kernel))
set_option maxRecDepth 20000 in
theorem gX11_cutBehind_X11_requireTriedSteps : GoodIn wsX11_cutBehind (wsV RX11 431 RX11 yX11_requireTriedSteps wsX11_requireTriedSteps) := goodIn_app (goodIn_of _ (by decide +kernel)) ggX11_cutBehind_X11_requireTriedSteps
set_option maxRecDepth 20000 in
theorem ggX11_cutBehind_X11_trySteps : GoodIn wsX11_cutBehind wsX11_trySteps := goodIn_r _ [15, 3, 16, 17, 18, 19, 20, 21, 22, 23, 24, 25, 26, 27, 28, 29, 8, 30, 31, 32, 33, 34, 35, 36, 37, 38, 39, 40, 41, 42, 1, 2, 43, 44, 45, 46, 47, 48, 49, 50, 51, 52, 53, 54, 55, 56, 57, 58, 59, 60, 61, 62, 63, 64, 65, 66, 67, 68, 69, 70, 71, 72, 73, 74, 75, 76, 77, 78, 79, 80, 81, 82, 83, 84, 85, 86, 87, 88, 89, 90, 91, 92, 93, 94, 95, 96, 97, 98, 99, 100, 101, 102, 103, 104, 105, 106, 107, 108, 109, 110, 111, 112, 113, 114, 115, 116, 117, 118, 119, 120, 121, 122, 123, 124, 125, 126, 127, 128, 129, 130, 131, 132, 4, 133, 134, 135, 136, 137, 138, 139, 140, 141, 142, 143, 144, 145, 146, 147, 148, 149, 150, 151, 152, 153, 154, 155, 156, 157, 158, 159, 160, 161, 162, 163, 164, 165, 178, 179, 180, 181, 182, 183, 184, 166, 167, 168, 169, 170, 171, 172, 173, 174, 175, 176, 177, 185, 186, 187, 188, 189, 190, 191, 192, 193, 194, 195, 196] (by decide +kernel) (by decide +kernel)
set_option maxRecDepth 20000 in
theorem gX11_cutBehind_X11_trySteps : GoodIn wsX11_cutBehind (wsV RX11 434 RX11 yX11_trySteps wsX11_trySteps) := goodIn_app (goodIn_of _ (by decide +kernel)) ggX11_cutBehind_X11_trySteps
set_option maxRecDepth 20000 in
theorem ggX11_cutBehind_X4_take : GoodIn wsX11_cutBehind wsX4_take := goodIn_r _ [47, 48, 49, 50, 51, 52, 53, 54, 55, 56, 57, 58, 20, 59, 26, 22, 60, 8, 61, 62, 63, 64, 65, 66, 67, 68, 69, 70, 71, 72, 46, 73, 74, 75, 76, 77, 78, 79, 80, 81, 82, 83, 84, 85, 86, 87, 88, 89, 90, 91, 92, 93, 94, 95, 96, 97, 98, 99, 100, 101, 102, 103, 104, 105, 106, 107, 166, 167, 168, 169, 170, 171, 172, 173, 174, 175, 176, 177, 185, 186, 187, 188, 189, 190, 191, 192, 193, 194, 195, 196, 178, 179, 180, 181, 182, 183, 184] (by decide +kernel) (by decide +kernel)
set_option maxRecDepth 20000 in
theorem gX11_cutBehind_X4_take : GoodIn wsX11_cutBehind (wsV RX11 333 RX4 yX4_take wsX4_take) := goodIn_app (goodIn_of _ (by decide +kernel)) ggX11_cutBehind_X4_take
theorem dX11_cutBehind_0 : decode cX11_cutBehind 0 = .ok (.aload_n 0, 1) := by decide +kernel
theorem dX11_cutBehind_1 : decode cX11_cutBehind 1 = .ok (.iload_n 1, 1) := by decide +kernel
theorem dX11_cutBehind_2 : decode cX11_cutBehind 2 = .ok (.invokevirtual 431, 3) := by decide +kernel
theorem dX11_cutBehind_5 : decode cX11_cutBehind 5 = .ok (.aload_n 0, 1) := by decide +kernel
theorem dX11_cutBehind_6 : decode cX11_cutBehind 6 = .ok (.iload_n 1, 1) := by decide +kernel
theorem dX11_cutBehind_7 : decode cX11_cutBehind 7 = .ok (.invokevirtual 434, 3) := by decide +kernel
theorem dX11_cutBehind_10 : decode cX11_cutBehind 10 = .ok (.pop, 1) := by decide +kernel
theorem dX11_cutBehind_11 : decode cX11_cutBehind 11 = .ok (.aload_n 0, 1) := by decide +kernel
theorem dX11_cutBehind_12 : decode cX11_cutBehind 12 = .ok (.getfield 73, 3) := by decide +kernel
theorem dX11_cutBehind_15 : decode cX11_cutBehind 15 = .ok (.aload_n 0, 1) := by decide +kernel
theorem dX11_cutBehind_16 : decode cX11_cutBehind 16 = .ok (.getfield 40, 3) := by decide +kernel
theorem dX11_cutBehind_19 : decode cX11_cutBehind 19 = .ok (.aload_n 0, 1) := by decide +kernel
theorem dX11_cutBehind_20 : decode cX11_cutBehind 20 = .ok (.getfield 57, 3) := by decide +kernel
theorem dX11_cutBehind_23 : decode cX11_cutBehind 23 = .ok (.invokevirtual 333, 3) := by decide +kernel
theorem dX11_cutBehind_26 : decode cX11_cutBehind 26 = .ok (.aload_n 0, 1) := by decide +kernel
theorem dX11_cutBehind_27 : decode cX11_cutBehind 27 = .ok (.getfield 73, 3) := by decide +kernel
theorem dX11_cutBehind_30 : decode cX11_cutBehind 30 = .ok (.getfield 357, 3) := by decide +kernel
theorem dX11_cutBehind_33 : decode cX11_cutBehind 33 = .ok (.ireturn, 1) := by decide +kernel
theorem dX11_requireTriedSteps_0 : decode cX11_requireTriedSteps 0 = .ok (.iload_n 1, 1) := by decide +kernel
theorem dX11_requireTriedSteps_1 : decode cX11_requireTriedSteps 1 = .ok (.ifCond .lt 10, 3) := by decide +kernel
theorem dX11_requireTriedSteps_4 : decode cX11_requireTriedSteps 4 = .ok (.iload_n 1, 1) := by decide +kernel
theorem dX11_requireTriedSteps_5 : decode cX11_requireTriedSteps 5 = .ok (.sipush 200, 3) := by decide +kernel
theorem dX11_requireTriedSteps_8 : decode cX11_requireTriedSteps 8 = .ok (.if_icmp .le 14, 3) := by decide +kernel
theorem dX11_requireTriedSteps_11 : decode cX11_requireTriedSteps 11 = .ok (.new 117, 3) := by decide +kernel
theorem dX11_requireTriedSteps_14 : decode cX11_requireTriedSteps 14 = .ok (.dup, 1) := by decide +kernel
theorem dX11_requireTriedSteps_15 : decode cX11_requireTriedSteps 15 = .ok (.ldc_w 437, 3) := by decide +kernel
theorem dX11_requireTriedSteps_18 : decode cX11_requireTriedSteps 18 = .ok (.invokespecial 121, 3) := by decide +kernel
theorem dX11_requireTriedSteps_21 : decode cX11_requireTriedSteps 21 = .ok (.athrow, 1) := by decide +kernel
theorem dX11_requireTriedSteps_22 : decode cX11_requireTriedSteps 22 = .ok (.return_, 1) := by decide +kernel
set_option maxRecDepth 20000 in
theorem ggX11_trySteps_X8_copyFrom : GoodIn wsX11_trySteps wsX8_copyFrom := goodIn_r _ [7, 8, 9, 10, 11, 12, 13, 14, 15, 16, 17, 18, 19, 20, 21, 22, 23, 24, 25, 156, 157, 158, 159, 160, 161, 162] (by decide +kernel) (by decide +kernel)
set_option maxRecDepth 20000 in
theorem gX11_trySteps_X8_copyFrom : GoodIn wsX11_trySteps (wsV RX11 439 RX8 yX8_copyFrom wsX8_copyFrom) := goodIn_app (goodIn_of _ (by decide +kernel)) ggX11_trySteps_X8_copyFrom
set_option maxRecDepth 20000 in
theorem ggX11_trySteps_X11_makeSteps : GoodIn wsX11_trySteps wsX11_makeSteps := goodIn_r _ [29, 30, 31, 32, 33, 34, 35, 36, 37, 38, 39, 40, 41, 42, 43, 44, 45, 46, 47, 6, 48, 12, 8, 49, 16, 50, 51, 52, 53, 54, 55, 56, 57, 58, 59, 60, 61, 62, 63, 64, 65, 66, 67, 68, 69, 70, 71, 72, 73, 74, 75, 76, 77, 78, 79, 80, 81, 82, 83, 84, 85, 86, 87, 88, 89, 90, 91, 92, 93, 94, 95, 96, 97, 98, 99, 100, 101, 102, 103, 104, 105, 106, 107, 108, 109, 110, 111, 112, 113, 114, 115, 116, 117, 118, 119, 120, 121, 122, 123, 124, 125, 126, 127, 128, 129, 14, 130, 23, 24, 25, 10, 131, 19, 20, 21, 132, 133, 134, 135, 11, 136, 137, 138, 139, 140, 141, 142, 143, 144, 145, 146, 147, 148, 149, 150, 151, 152, 153, 154, 155, 163, 164, 165, 166, 167, 168, 169, 170, 171, 172, 173, 174, 175, 176, 177, 178, 179, 180, 181, 182, 183, 184, 185, 186, 156, 157, 158, 159, 160, 161, 162] (by decide +kernel) (by decide +kernel)
set_option maxRecDepth 20000 in
theorem gX11_trySteps_X11_makeSteps : GoodIn wsX11_trySteps (wsV RX11 232 RX11 yX11_makeSteps wsX11_makeSteps) := goodIn_app (goodIn_of _ (by decide +kernel)) ggX11_trySteps_X11_makeSteps
theorem dX11_trySteps_0 : decode cX11_trySteps 0 = .ok (.aload_n 0, 1) := by decide +kernel
theorem dX11_trySteps_1 : decode cX11_trySteps 1 = .ok (.getfield 57, 3) := by decide +kernel
theorem dX11_trySteps_4 : decode cX11_trySteps 4 = .ok (.aload_n 0, 1) := by decide +kernel
theorem dX11_trySteps_5 : decode cX11_trySteps 5 = .ok (.getfield 53, 3) := by decide +kernel
theorem dX11_trySteps_8 : decode cX11_trySteps 8 = .ok (.invokevirtual 439, 3) := by decide +kernel
theorem dX11_trySteps_11 : decode cX11_trySteps 11 = .ok (.aload_n 0, 1) := by decide +kernel
theorem dX11_trySteps_12 : decode cX11_trySteps 12 = .ok (.aload_n 0, 1) := by decide +kernel
theorem dX11_trySteps_13 : decode cX11_trySteps 13 = .ok (.getfield 57, 3) := by decide +kernel
theorem dX11_trySteps_16 : decode cX11_trySteps 16 = .ok (.iload_n 1, 1) := by decide +kernel
theorem dX11_trySteps_17 : decode cX11_trySteps 17 = .ok (.invokevirtual 232, 3) := by decide +kernel
theorem dX11_trySteps_20 : decode cX11_trySteps 20 = .ok (.ireturn, 1) := by decide +kernel
theorem dX11_events_0 : decode cX11_events 0 = .ok (.aload_n 0, 1) := by decide +kernel
theorem dX11_events_1 : decode cX11_events 1 = .ok (.getfield 53, 3) := by decide +kernel
theorem dX11_events_4 : decode cX11_events 4 = .ok (.getfield 441, 3) := by decide +kernel
theorem dX11_events_7 : decode cX11_events 7 = .ok (.ireturn, 1) := by decide +kernel
set_option maxRecDepth 20000 in
theorem ggX11_event_X11_at : GoodIn wsX11_event wsX11_at := goodIn_r _ [11] (by decide +kernel) (by decide +kernel)
set_option maxRecDepth 20000 in
theorem gX11_event_X11_at : GoodIn wsX11_event (va_wsS RX11 164 yX11_at wsX11_at) := goodIn_app (goodIn_of _ (by decide +kernel)) ggX11_event_X11_at
theorem dX11_event_0 : decode cX11_event 0 = .ok (.iload_n 1, 1) := by decide +kernel
theorem dX11_event_1 : decode cX11_event 1 = .ok (.ifCond .lt 14, 3) := by decide +kernel
theorem dX11_event_4 : decode cX11_event 4 = .ok (.iload_n 1, 1) := by decide +kernel
theorem dX11_event_5 : decode cX11_event 5 = .ok (.aload_n 0, 1) := by decide +kernel
theorem dX11_event_6 : decode cX11_event 6 = .ok (.getfield 53, 3) := by decide +kernel
theorem dX11_event_9 : decode cX11_event 9 = .ok (.getfield 441, 3) := by decide +kernel
theorem dX11_event_12 : decode cX11_event 12 = .ok (.if_icmp .lt 14, 3) := by decide +kernel
theorem dX11_event_15 : decode cX11_event 15 = .ok (.new 288, 3) := by decide +kernel
theorem dX11_event_18 : decode cX11_event 18 = .ok (.dup, 1) := by decide +kernel
theorem dX11_event_19 : decode cX11_event 19 = .ok (.ldc_w 444, 3) := by decide +kernel
theorem dX11_event_22 : decode cX11_event 22 = .ok (.invokespecial 292, 3) := by decide +kernel
theorem dX11_event_25 : decode cX11_event 25 = .ok (.athrow, 1) := by decide +kernel
theorem dX11_event_26 : decode cX11_event 26 = .ok (.iload_n 2, 1) := by decide +kernel
theorem dX11_event_27 : decode cX11_event 27 = .ok (.ifCond .lt 8, 3) := by decide +kernel
theorem dX11_event_30 : decode cX11_event 30 = .ok (.iload_n 2, 1) := by decide +kernel
theorem dX11_event_31 : decode cX11_event 31 = .ok (.iconst 4, 1) := by decide +kernel
theorem dX11_event_32 : decode cX11_event 32 = .ok (.if_icmp .lt 14, 3) := by decide +kernel
theorem dX11_event_35 : decode cX11_event 35 = .ok (.new 117, 3) := by decide +kernel
theorem dX11_event_38 : decode cX11_event 38 = .ok (.dup, 1) := by decide +kernel
theorem dX11_event_39 : decode cX11_event 39 = .ok (.ldc_w 446, 3) := by decide +kernel
theorem dX11_event_42 : decode cX11_event 42 = .ok (.invokespecial 121, 3) := by decide +kernel
theorem dX11_event_45 : decode cX11_event 45 = .ok (.athrow, 1) := by decide +kernel
theorem dX11_event_46 : decode cX11_event 46 = .ok (.aload_n 0, 1) := by decide +kernel
theorem dX11_event_47 : decode cX11_event 47 = .ok (.getfield 53, 3) := by decide +kernel
theorem dX11_event_50 : decode cX11_event 50 = .ok (.getfield 448, 3) := by decide +kernel
theorem dX11_event_53 : decode cX11_event 53 = .ok (.iload_n 1, 1) := by decide +kernel
theorem dX11_event_54 : decode cX11_event 54 = .ok (.iconst 4, 1) := by decide +kernel
theorem dX11_event_55 : decode cX11_event 55 = .ok (.imul, 1) := by decide +kernel
theorem dX11_event_56 : decode cX11_event 56 = .ok (.iload_n 2, 1) := by decide +kernel
theorem dX11_event_57 : decode cX11_event 57 = .ok (.iadd, 1) := by decide +kernel
theorem dX11_event_58 : decode cX11_event 58 = .ok (.invokestatic 164, 3) := by decide +kernel
theorem dX11_event_61 : decode cX11_event 61 = .ok (.ireturn, 1) := by decide +kernel
set_option maxRecDepth 20000 in
theorem ggX11_shrink_X11_whyNotShrink : GoodIn wsX11_shrink wsX11_whyNotShrink := goodIn_r _ [9, 4, 10, 11, 12, 13, 14, 15, 8, 16, 17, 18, 19, 20, 21, 22, 23, 24, 25, 26, 27, 28, 29, 30, 31, 32, 33, 34, 35, 36, 37, 38, 39, 40, 41, 42, 43, 44, 45, 46, 47, 48, 49, 50, 51, 52, 53, 54, 55, 56, 57, 58, 59, 60, 61, 62, 63, 64, 65, 66, 67, 68, 69, 70, 71, 72, 73, 74, 75, 76, 77, 78, 79, 80, 81, 82, 83, 84, 85, 86, 87, 88, 89, 90, 91, 92, 93, 94, 95, 96, 97, 98, 99, 100, 101, 102, 103, 104, 105, 106, 107, 108, 109, 110, 111, 112, 113, 165, 166, 167, 168, 169, 170, 171, 172, 173, 174, 175, 176, 177, 178, 179, 180, 181, 182, 183, 184, 185, 186, 187, 188, 189, 190, 191, 192, 193, 194, 195, 196, 197, 198, 199, 200, 201, 202, 203, 204, 205, 206, 207, 208, 209, 210, 211, 212, 213, 214, 215, 216, 217, 218] (by decide +kernel) (by decide +kernel)
set_option maxRecDepth 20000 in
theorem gX11_shrink_X11_whyNotShrink : GoodIn wsX11_shrink (wsV RX11 189 RX11 yX11_whyNotShrink wsX11_whyNotShrink) := goodIn_app (goodIn_of _ (by decide +kernel)) ggX11_shrink_X11_whyNotShrink
set_option maxRecDepth 20000 in
theorem ggX11_shrink_X3_keep : GoodIn wsX11_shrink wsX3_keep := goodIn_r _ [118, 119, 120, 121, 122, 123, 124, 125, 126, 127, 117, 128, 129, 130, 131, 132, 35, 133, 38, 134, 135, 136, 37, 137, 138, 139, 8, 140, 141, 142, 143, 144, 145, 219, 220, 221, 183, 184, 185, 186, 187, 188, 189] (by decide +kernel) (by decide +kernel)
set_option maxRecDepth 20000 in
theorem gX11_shrink_X3_keep : GoodIn wsX11_shrink (wsV RX11 149 RX3 yX3_keep wsX3_keep) := goodIn_app (goodIn_of _ (by decide +kernel)) ggX11_shrink_X3_keep
set_option maxRecDepth 20000 in
theorem ggX11_shrink_X11_mergeGroups : GoodIn wsX11_shrink wsX11_mergeGroups := goodIn_r _ [149, 11, 17, 4, 18, 150, 13, 14, 15, 8, 16, 19, 20, 21, 22, 23, 24, 25, 26, 27, 28, 29, 30, 31, 32, 33, 34, 35, 36, 37, 38, 39, 40, 41, 42, 43, 44, 45, 46, 47, 48, 49, 50, 51, 52, 53, 54, 55, 56, 57, 58, 59, 60, 61, 62, 63, 64, 65, 66, 67, 68, 69, 70, 71, 72, 73, 74, 75, 76, 77, 78, 79, 80, 81, 82, 83, 84, 85, 86, 87, 88, 89, 90, 91, 92, 93, 94, 95, 96, 97, 98, 99, 100, 101, 102, 103, 104, 105, 106, 107, 108, 109, 110, 111, 112, 113, 151, 152, 153, 154, 155, 156, 157, 158, 159, 160, 137, 161, 162, 163, 165, 166, 167, 168, 169, 170, 171, 172, 173, 174, 175, 176, 177, 178, 179, 180, 181, 182, 207, 208, 209, 210, 211, 212, 213, 214, 215, 216, 217, 218, 195, 196, 197, 198, 199, 200, 201, 202, 203, 204, 205, 206, 183, 184, 185, 186, 187, 188, 189, 190, 191, 192, 193, 194] (by decide +kernel) (by decide +kernel)
set_option maxRecDepth 20000 in
theorem gX11_shrink_X11_mergeGroups : GoodIn wsX11_shrink (wsV RX11 225 RX11 yX11_mergeGroups wsX11_mergeGroups) := goodIn_app (goodIn_of _ (by decide +kernel)) ggX11_shrink_X11_mergeGroups
set_option maxRecDepth 20000 in
theorem ggX11_shrink_X8_groupCount : GoodIn wsX11_shrink wsX8_groupCount := goodIn_r _ [36, 37, 38, 39, 8, 40, 183, 184, 185, 186, 187, 188, 189] (by decide +kernel) (by decide +kernel)
set_option maxRecDepth 20000 in
theorem gX11_shrink_X8_groupCount : GoodIn wsX11_shrink (wsV RX11 277 RX8 yX8_groupCount wsX8_groupCount) := goodIn_app (goodIn_of _ (by decide +kernel)) ggX11_shrink_X8_groupCount
theorem dX11_shrink_0 : decode cX11_shrink 0 = .ok (.aload_n 0, 1) := by decide +kernel
theorem dX11_shrink_1 : decode cX11_shrink 1 = .ok (.invokevirtual 189, 3) := by decide +kernel
theorem dX11_shrink_4 : decode cX11_shrink 4 = .ok (.ifCond .eq 14, 3) := by decide +kernel
theorem dX11_shrink_7 : decode cX11_shrink 7 = .ok (.new 106, 3) := by decide +kernel
theorem dX11_shrink_10 : decode cX11_shrink 10 = .ok (.dup, 1) := by decide +kernel
theorem dX11_shrink_11 : decode cX11_shrink 11 = .ok (.ldc_w 451, 3) := by decide +kernel
theorem dX11_shrink_14 : decode cX11_shrink 14 = .ok (.invokespecial 110, 3) := by decide +kernel
theorem dX11_shrink_17 : decode cX11_shrink 17 = .ok (.athrow, 1) := by decide +kernel
theorem dX11_shrink_18 : decode cX11_shrink 18 = .ok (.aload_n 0, 1) := by decide +kernel
theorem dX11_shrink_19 : decode cX11_shrink 19 = .ok (.getfield 66, 3) := by decide +kernel
theorem dX11_shrink_22 : decode cX11_shrink 22 = .ok (.aload_n 0, 1) := by decide +kernel
theorem dX11_shrink_23 : decode cX11_shrink 23 = .ok (.getfield 53, 3) := by decide +kernel
theorem dX11_shrink_26 : decode cX11_shrink 26 = .ok (.invokevirtual 149, 3) := by decide +kernel
theorem dX11_shrink_29 : decode cX11_shrink 29 = .ok (.aload_n 0, 1) := by decide +kernel
theorem dX11_shrink_30 : decode cX11_shrink 30 = .ok (.invokevirtual 225, 3) := by decide +kernel
theorem dX11_shrink_33 : decode cX11_shrink 33 = .ok (.aload_n 0, 1) := by decide +kernel
theorem dX11_shrink_34 : decode cX11_shrink 34 = .ok (.getfield 53, 3) := by decide +kernel
theorem dX11_shrink_37 : decode cX11_shrink 37 = .ok (.invokevirtual 277, 3) := by decide +kernel
theorem dX11_shrink_40 : decode cX11_shrink 40 = .ok (.ireturn, 1) := by decide +kernel
set_option maxRecDepth 20000 in
theorem ggX11_mergeGroups_X11_findPairs : GoodIn wsX11_mergeGroups wsX11_findPairs := goodIn_r _ [10, 2, 4, 3, 1, 11, 12, 13, 14, 15, 16, 17, 18, 19, 20, 21, 22, 23, 24, 25, 26, 27, 28, 29, 30, 31, 9, 32, 33, 34, 35, 36, 37, 38, 39, 40, 41, 42, 43, 44, 45, 46, 47, 48, 49, 50, 51, 52, 53, 54, 55, 56, 57, 58, 59, 60, 61, 62, 63, 64, 65, 66, 67, 68, 69, 70, 71, 72, 73, 74, 75, 76, 77, 78, 79, 80, 81, 82, 83, 84, 85, 86, 87, 88, 89, 90, 91, 92, 93, 94, 95, 96, 97, 98, 99, 100, 101, 102, 103, 104, 105, 120, 121, 122, 123, 124, 125, 126, 127, 128, 129, 130, 131, 132, 133, 134, 135, 136, 137, 150, 151, 152, 153, 154, 155, 156, 157, 158, 159, 160, 161, 138, 139, 140, 141, 142, 143, 144, 145, 146, 147, 148, 149, 162, 163, 164, 165, 166, 167, 168, 169, 170, 171, 172, 173] (by decide +kernel) (by decide +kernel)
set_option maxRecDepth 20000 in
theorem gX11_mergeGroups_X11_findPairs : GoodIn wsX11_mergeGroups (wsV RX11 392 RX11 yX11_findPairs wsX11_findPairs) := goodIn_app (goodIn_of _ (by decide +kernel)) ggX11_mergeGroups_X11_findPairs
set_option maxRecDepth 20000 in
theorem ggX11_mergeGroups_X5_numberMerged : GoodIn wsX11_mergeGroups wsX5_numberMerged := goodIn_r _ [109, 110, 98, 96, 111, 31, 9, 32, 63, 64, 169, 170, 171, 172, 173, 150, 151, 152, 153, 154, 155, 156, 157, 158, 159, 160, 161] (by decide +kernel) (by decide +kernel)
set_option maxRecDepth 20000 in
theorem gX11_mergeGroups_X5_numberMerged : GoodIn wsX11_mergeGroups (wsV RX11 453 RX5 yX5_numberMerged wsX5_numberMerged) := goodIn_app (goodIn_of _ (by decide +kernel)) ggX11_mergeGroups_X5_numberMerged
set_option maxRecDepth 20000 in
theorem ggX11_mergeGroups_X8_raiseLevel : GoodIn wsX11_mergeGroups wsX8_raiseLevel := goodIn_r _ [115, 116, 117, 30, 29, 118, 119, 58, 59, 27, 60, 31, 9, 32, 63, 64, 162, 163, 164, 165, 166, 167, 168, 169, 170, 171, 172, 173] (by decide +kernel) (by decide +kernel)
set_option maxRecDepth 20000 in
theorem gX11_mergeGroups_X8_raiseLevel : GoodIn wsX11_mergeGroups (wsV RX11 456 RX8 yX8_raiseLevel wsX8_raiseLevel) := goodIn_app (goodIn_of _ (by decide +kernel)) ggX11_mergeGroups_X8_raiseLevel
theorem dX11_mergeGroups_0 : decode cX11_mergeGroups 0 = .ok (.aload_n 0, 1) := by decide +kernel
theorem dX11_mergeGroups_1 : decode cX11_mergeGroups 1 = .ok (.invokevirtual 392, 3) := by decide +kernel
theorem dX11_mergeGroups_4 : decode cX11_mergeGroups 4 = .ok (.aload_n 0, 1) := by decide +kernel
theorem dX11_mergeGroups_5 : decode cX11_mergeGroups 5 = .ok (.getfield 80, 3) := by decide +kernel
theorem dX11_mergeGroups_8 : decode cX11_mergeGroups 8 = .ok (.aload_n 0, 1) := by decide +kernel
theorem dX11_mergeGroups_9 : decode cX11_mergeGroups 9 = .ok (.getfield 73, 3) := by decide +kernel
theorem dX11_mergeGroups_12 : decode cX11_mergeGroups 12 = .ok (.invokevirtual 453, 3) := by decide +kernel
theorem dX11_mergeGroups_15 : decode cX11_mergeGroups 15 = .ok (.aload_n 0, 1) := by decide +kernel
theorem dX11_mergeGroups_16 : decode cX11_mergeGroups 16 = .ok (.getfield 53, 3) := by decide +kernel
theorem dX11_mergeGroups_19 : decode cX11_mergeGroups 19 = .ok (.aload_n 0, 1) := by decide +kernel
theorem dX11_mergeGroups_20 : decode cX11_mergeGroups 20 = .ok (.getfield 40, 3) := by decide +kernel
theorem dX11_mergeGroups_23 : decode cX11_mergeGroups 23 = .ok (.getfield 141, 3) := by decide +kernel
theorem dX11_mergeGroups_26 : decode cX11_mergeGroups 26 = .ok (.aload_n 0, 1) := by decide +kernel
theorem dX11_mergeGroups_27 : decode cX11_mergeGroups 27 = .ok (.getfield 80, 3) := by decide +kernel
theorem dX11_mergeGroups_30 : decode cX11_mergeGroups 30 = .ok (.invokevirtual 456, 3) := by decide +kernel
theorem dX11_mergeGroups_33 : decode cX11_mergeGroups 33 = .ok (.return_, 1) := by decide +kernel
set_option maxRecDepth 20000 in
theorem ggX11_grow_X3_keep : GoodIn wsX11_grow wsX3_keep := goodIn_r _ [10, 11, 12, 13, 14, 15, 16, 17, 18, 19, 9, 20, 21, 22, 23, 24, 25, 26, 27, 28, 29, 30, 31, 32, 33, 34, 35, 36, 37, 38, 39, 40, 41, 73, 74, 75, 66, 67, 68, 69, 70, 71, 72] (by decide +kernel) (by decide +kernel)
set_option maxRecDepth 20000 in
theorem gX11_grow_X3_keep : GoodIn wsX11_grow (wsV RX11 149 RX3 yX3_keep wsX3_keep) := goodIn_app (goodIn_of _ (by decide +kernel)) ggX11_grow_X3_keep
set_option maxRecDepth 20000 in
theorem ggX11_grow_X8_groupCount : GoodIn wsX11_grow wsX8_groupCount := goodIn_r _ [45, 31, 27, 46, 35, 47, 66, 67, 68, 69, 70, 71, 72] (by decide +kernel) (by decide +kernel)
set_option maxRecDepth 20000 in
theorem gX11_grow_X8_groupCount : GoodIn wsX11_grow (wsV RX11 277 RX8 yX8_groupCount wsX8_groupCount) := goodIn_app (goodIn_of _ (by decide +kernel)) ggX11_grow_X8_groupCount
theorem dX11_grow_0 : decode cX11_grow 0 = .ok (.aload_n 0, 1) := by decide +kernel
theorem dX11_grow_1 : decode cX11_grow 1 = .ok (.getfield 53, 3) := by decide +kernel
theorem dX11_grow_4 : decode cX11_grow 4 = .ok (.getfield 192, 3) := by decide +kernel
theorem dX11_grow_7 : decode cX11_grow 7 = .ok (.ifCond .ne 14, 3) := by decide +kernel
theorem dX11_grow_10 : decode cX11_grow 10 = .ok (.new 106, 3) := by decide +kernel
theorem dX11_grow_13 : decode cX11_grow 13 = .ok (.dup, 1) := by decide +kernel
theorem dX11_grow_14 : decode cX11_grow 14 = .ok (.ldc_w 460, 3) := by decide +kernel
theorem dX11_grow_17 : decode cX11_grow 17 = .ok (.invokespecial 110, 3) := by decide +kernel
theorem dX11_grow_20 : decode cX11_grow 20 = .ok (.athrow, 1) := by decide +kernel
theorem dX11_grow_21 : decode cX11_grow 21 = .ok (.aload_n 0, 1) := by decide +kernel
theorem dX11_grow_22 : decode cX11_grow 22 = .ok (.getfield 66, 3) := by decide +kernel
theorem dX11_grow_25 : decode cX11_grow 25 = .ok (.aload_n 0, 1) := by decide +kernel
theorem dX11_grow_26 : decode cX11_grow 26 = .ok (.getfield 53, 3) := by decide +kernel
theorem dX11_grow_29 : decode cX11_grow 29 = .ok (.invokevirtual 149, 3) := by decide +kernel
theorem dX11_grow_32 : decode cX11_grow 32 = .ok (.aload_n 0, 1) := by decide +kernel
theorem dX11_grow_33 : decode cX11_grow 33 = .ok (.getfield 53, 3) := by decide +kernel
theorem dX11_grow_36 : decode cX11_grow 36 = .ok (.dup, 1) := by decide +kernel
theorem dX11_grow_37 : decode cX11_grow 37 = .ok (.getfield 192, 3) := by decide +kernel
theorem dX11_grow_40 : decode cX11_grow 40 = .ok (.iconst 1, 1) := by decide +kernel
theorem dX11_grow_41 : decode cX11_grow 41 = .ok (.isub, 1) := by decide +kernel
theorem dX11_grow_42 : decode cX11_grow 42 = .ok (.putfield 192, 3) := by decide +kernel
theorem dX11_grow_45 : decode cX11_grow 45 = .ok (.aload_n 0, 1) := by decide +kernel
theorem dX11_grow_46 : decode cX11_grow 46 = .ok (.getfield 53, 3) := by decide +kernel
theorem dX11_grow_49 : decode cX11_grow 49 = .ok (.invokevirtual 277, 3) := by decide +kernel
theorem dX11_grow_52 : decode cX11_grow 52 = .ok (.ireturn, 1) := by decide +kernel
set_option maxRecDepth 20000 in
theorem ggX11_move_X11_whyNotMove : GoodIn wsX11_move wsX11_whyNotMove := goodIn_ca (goodIn_r _ [9, 10, 11, 4, 12, 13, 14, 8, 15, 16, 17, 18, 19, 20, 21, 22, 23, 24, 25, 26, 27, 28, 29, 30, 31, 32, 33, 34, 35, 36, 37, 38, 39, 40, 41, 42, 43, 44, 45, 46, 47, 48, 49, 50, 51, 52, 53, 54, 55, 56, 57, 58, 59, 60, 61, 62, 63, 64, 65, 66, 67, 68, 69, 70, 71, 72, 73, 74, 75, 76, 77, 78, 79, 80, 81, 82, 83, 84, 85, 86, 87, 88, 89, 90, 91, 92, 93, 94, 95, 96, 97, 98, 99, 100, 101, 102, 103, 104, 105, 106, 107, 108, 109, 110, 111, 176, 177, 178, 179, 180, 181, 182, 183, 184, 185, 186, 187, 188, 189, 190, 191, 192, 193, 194, 195, 196, 197, 198, 199, 200, 201, 202, 203, 204, 205, 206, 207, 208, 209, 210, 211, 212, 213, 214, 215, 216, 217, 218, 219, 220, 221, 222, 223, 224] (by decide +kernel) (by decide +kernel)) (goodIn_sub (fun _ h => List.mem_cons_of_mem _ (List.mem_append_right _ h)) (by decide +kernel))
set_option maxRecDepth 20000 in
theorem gX11_move_X11_whyNotMove : GoodIn wsX11_move (wsV RX11 202 RX11 yX11_whyNotMove wsX11_whyNotMove) := goodIn_app (goodIn_of _ (by decide +kernel)) ggX11_move_X11_whyNotMove
set_option maxRecDepth 20000 in
theorem ggX11_move_X3_keep : GoodIn wsX11_move wsX3_keep := goodIn_r _ [116, 117, 118, 119, 120, 121, 122, 123, 124, 125, 115, 126, 127, 128, 129, 130, 25, 131, 28, 132, 133, 134, 27, 135, 136, 137, 8, 138, 139, 140, 141, 142, 143, 225, 226, 227, 194, 195, 196, 197, 198, 199, 200] (by decide +kernel) (by decide +kernel)
set_option maxRecDepth 20000 in
theorem gX11_move_X3_keep : GoodIn wsX11_move (wsV RX11 149 RX3 yX3_keep wsX3_keep) := goodIn_app (goodIn_of _ (by decide +kernel)) ggX11_move_X3_keep
set_option maxRecDepth 20000 in
theorem ggX11_move_X11_takeTo : GoodIn wsX11_move wsX11_takeTo := goodIn_r _ [147, 10, 11, 4, 40, 41, 42, 43, 44, 45, 46, 47, 48, 49, 50, 51, 52, 53, 23, 24, 25, 26, 27, 28, 29, 8, 30, 54, 55, 56, 57, 58, 59, 60, 61, 62, 63, 64, 65, 66, 67, 68, 69, 70, 71, 72, 73, 74, 75, 76, 77, 78, 79, 80, 81, 82, 83, 84, 85, 86, 87, 88, 89, 90, 91, 92, 93, 94, 95, 96, 97, 98, 99, 148, 149, 150, 151, 152, 153, 154, 155, 156, 157, 158, 159, 160, 161, 162, 163, 136, 164, 141, 142, 143, 133, 165, 120, 121, 122, 166, 167, 168, 169, 134, 170, 171, 176, 177, 178, 179, 180, 181, 182, 183, 184, 185, 186, 187, 188, 189, 190, 191, 192, 193, 213, 214, 215, 216, 217, 218, 219, 220, 221, 222, 223, 224, 201, 202, 203, 204, 205, 206, 207, 208, 209, 210, 211, 212, 194, 195, 196, 197, 198, 199, 200] (by decide +kernel) (by decide +kernel)
set_option maxRecDepth 20000 in
theorem gX11_move_X11_takeTo : GoodIn wsX11_move (wsV RX11 228 RX11 yX11_takeTo wsX11_takeTo) := goodIn_app (goodIn_of _ (by decide +kernel)) ggX11_move_X11_takeTo
set_option maxRecDepth 20000 in
theorem ggX11_move_X11_cut : GoodIn wsX11_move wsX11_cut := goodIn_r _ [175, 10, 11, 4, 153, 40, 41, 42, 43, 44, 45, 46, 47, 48, 49, 50, 51, 52, 53, 23, 24, 25, 26, 27, 28, 29, 8, 30, 54, 55, 56, 57, 58, 59, 60, 61, 62, 63, 64, 65, 66, 67, 68, 69, 70, 71, 72, 73, 74, 75, 76, 77, 78, 79, 80, 81, 82, 83, 84, 85, 86, 87, 88, 89, 90, 91, 92, 93, 94, 95, 96, 97, 98, 99, 176, 177, 178, 179, 180, 181, 182, 183, 184, 185, 186, 187, 188, 189, 190, 191, 192, 193, 213, 214, 215, 216, 217, 218, 219, 220, 221, 222, 223, 224, 201, 202, 203, 204, 205, 206, 207, 208, 209, 210, 211, 212, 194, 195, 196, 197, 198, 199, 200] (by decide +kernel) (by decide +kernel)
set_option maxRecDepth 20000 in
theorem gX11_move_X11_cut : GoodIn wsX11_move (wsV RX11 366 RX11 yX11_cut wsX11_cut) := goodIn_app (goodIn_of _ (by decide +kernel)) ggX11_move_X11_cut
theorem dX11_move_0 : decode cX11_move 0 = .ok (.aload_n 0, 1) := by decide +kernel
theorem dX11_move_1 : decode cX11_move 1 = .ok (.iload_n 1, 1) := by decide +kernel
theorem dX11_move_2 : decode cX11_move 2 = .ok (.iload_n 2, 1) := by decide +kernel
theorem dX11_move_3 : decode cX11_move 3 = .ok (.invokevirtual 202, 3) := by decide +kernel
theorem dX11_move_6 : decode cX11_move 6 = .ok (.ifCond .eq 14, 3) := by decide +kernel
theorem dX11_move_9 : decode cX11_move 9 = .ok (.new 106, 3) := by decide +kernel
theorem dX11_move_12 : decode cX11_move 12 = .ok (.dup, 1) := by decide +kernel
theorem dX11_move_13 : decode cX11_move 13 = .ok (.ldc_w 462, 3) := by decide +kernel
theorem dX11_move_16 : decode cX11_move 16 = .ok (.invokespecial 110, 3) := by decide +kernel
theorem dX11_move_19 : decode cX11_move 19 = .ok (.athrow, 1) := by decide +kernel
theorem dX11_move_20 : decode cX11_move 20 = .ok (.aload_n 0, 1) := by decide +kernel
theorem dX11_move_21 : decode cX11_move 21 = .ok (.getfield 66, 3) := by decide +kernel
theorem dX11_move_24 : decode cX11_move 24 = .ok (.aload_n 0, 1) := by decide +kernel
theorem dX11_move_25 : decode cX11_move 25 = .ok (.getfield 53, 3) := by decide +kernel
theorem dX11_move_28 : decode cX11_move 28 = .ok (.invokevirtual 149, 3) := by decide +kernel
theorem dX11_move_31 : decode cX11_move 31 = .ok (.aload_n 0, 1) := by decide +kernel
theorem dX11_move_32 : decode cX11_move 32 = .ok (.iload_n 1, 1) := by decide +kernel
theorem dX11_move_33 : decode cX11_move 33 = .ok (.iload_n 2, 1) := by decide +kernel
theorem dX11_move_34 : decode cX11_move 34 = .ok (.invokevirtual 228, 3) := by decide +kernel
theorem dX11_move_37 : decode cX11_move 37 = .ok (.aload_n 0, 1) := by decide +kernel
theorem dX11_move_38 : decode cX11_move 38 = .ok (.invokevirtual 366, 3) := by decide +kernel
theorem dX11_move_41 : decode cX11_move 41 = .ok (.ireturn, 1) := by decide +kernel
set_option maxRecDepth 20000 in
theorem ggX11_takeTo_X4_take : GoodIn wsX11_takeTo wsX4_take := goodIn_r _ [8, 9, 10, 11, 12, 13, 14, 15, 16, 17, 18, 19, 20, 21, 22, 23, 24, 25, 26, 27, 28, 29, 30, 31, 32, 33, 34, 35, 36, 37, 7, 38, 39, 40, 41, 42, 43, 44, 45, 46, 47, 48, 49, 50, 51, 52, 53, 54, 55, 56, 57, 58, 59, 60, 61, 62, 63, 64, 65, 66, 67, 68, 69, 70, 71, 72, 124, 125, 126, 127, 128, 129, 130, 131, 132, 133, 134, 135, 136, 137, 138, 139, 140, 141, 142, 143, 144, 145, 146, 147, 148, 149, 150, 151, 152, 153, 154] (by decide +kernel) (by decide +kernel)
set_option maxRecDepth 20000 in
theorem gX11_takeTo_X4_take : GoodIn wsX11_takeTo (wsV RX11 333 RX4 yX4_take wsX4_take) := goodIn_app (goodIn_of _ (by decide +kernel)) ggX11_takeTo_X4_take
set_option maxRecDepth 20000 in
theorem ggX11_takeTo_X11_transfer : GoodIn wsX11_takeTo wsX11_transfer := goodIn_r _ [76, 1, 77, 78, 79, 80, 24, 25, 26, 81, 82, 83, 7, 84, 63, 46, 85, 86, 87, 20, 88, 89, 90, 91, 92, 93, 94, 95, 96, 97, 98, 57, 58, 99, 100, 101, 102, 103, 104, 105, 106, 107, 108, 109, 110, 111, 112, 113, 114, 115, 116, 117, 118, 119, 120, 121, 122, 123, 124, 125, 126, 127, 128, 129, 130, 131, 132, 133, 134, 135, 148, 149, 150, 151, 152, 153, 154] (by decide +kernel) (by decide +kernel)
set_option maxRecDepth 20000 in
theorem gX11_takeTo_X11_transfer : GoodIn wsX11_takeTo (wsV RX11 464 RX11 yX11_transfer wsX11_transfer) := goodIn_app (goodIn_of _ (by decide +kernel)) ggX11_takeTo_X11_transfer
theorem dX11_takeTo_0 : decode cX11_takeTo 0 = .ok (.aload_n 0, 1) := by decide +kernel
theorem dX11_takeTo_1 : decode cX11_takeTo 1 = .ok (.getfield 73, 3) := by decide +kernel
theorem dX11_takeTo_4 : decode cX11_takeTo 4 = .ok (.aload_n 0, 1) := by decide +kernel
theorem dX11_takeTo_5 : decode cX11_takeTo 5 = .ok (.getfield 40, 3) := by decide +kernel
theorem dX11_takeTo_8 : decode cX11_takeTo 8 = .ok (.aload_n 0, 1) := by decide +kernel
theorem dX11_takeTo_9 : decode cX11_takeTo 9 = .ok (.getfield 53, 3) := by decide +kernel
theorem dX11_takeTo_12 : decode cX11_takeTo 12 = .ok (.invokevirtual 333, 3) := by decide +kernel
theorem dX11_takeTo_15 : decode cX11_takeTo 15 = .ok (.aload_n 0, 1) := by decide +kernel
theorem dX11_takeTo_16 : decode cX11_takeTo 16 = .ok (.aload_n 0, 1) := by decide +kernel
theorem dX11_takeTo_17 : decode cX11_takeTo 17 = .ok (.getfield 53, 3) := by decide +kernel
theorem dX11_takeTo_20 : decode cX11_takeTo 20 = .ok (.iload_n 1, 1) := by decide +kernel
theorem dX11_takeTo_21 : decode cX11_takeTo 21 = .ok (.iload_n 2, 1) := by decide +kernel
theorem dX11_takeTo_22 : decode cX11_takeTo 22 = .ok (.invokevirtual 464, 3) := by decide +kernel
theorem dX11_takeTo_25 : decode cX11_takeTo 25 = .ok (.return_, 1) := by decide +kernel
set_option maxRecDepth 20000 in
theorem ggX11_transfer_X11_at : GoodIn wsX11_transfer wsX11_at := goodIn_r _ [8] (by decide +kernel) (by decide +kernel)
set_option maxRecDepth 20000 in
theorem gX11_transfer_X11_at : GoodIn wsX11_transfer (va_wsS RX11 164 yX11_at wsX11_at) := goodIn_app (goodIn_of _ (by decide +kernel)) ggX11_transfer_X11_at
set_option maxRecDepth 20000 in
theorem ggX11_transfer_X4_gainOf : GoodIn wsX11_transfer wsX4_gainOf := goodIn_r _ [13, 14, 15, 6, 7, 8, 58, 59, 60, 61, 62, 63, 64, 65, 66, 67, 68, 69] (by decide +kernel) (by decide +kernel)
set_option maxRecDepth 20000 in
theorem gX11_transfer_X4_gainOf : GoodIn wsX11_transfer (wsV RX11 409 RX4 yX4_gainOf wsX4_gainOf) := goodIn_app (goodIn_of _ (by decide +kernel)) ggX11_transfer_X4_gainOf
set_option maxRecDepth 20000 in
theorem ggX11_transfer_X8_note : GoodIn wsX11_transfer wsX8_note := goodIn_r _ [20, 21, 22, 23, 24, 25, 26, 27, 28, 29, 30, 31, 7, 32, 70, 71, 72, 73, 74, 75, 76] (by decide +kernel) (by decide +kernel)
set_option maxRecDepth 20000 in
theorem gX11_transfer_X8_note : GoodIn wsX11_transfer (wsV RX11 468 RX8 yX8_note wsX8_note) := goodIn_app (goodIn_of _ (by decide +kernel)) ggX11_transfer_X8_note
set_option maxRecDepth 20000 in
theorem ggX11_transfer_X8_place : GoodIn wsX11_transfer wsX8_place := goodIn_r _ [36, 37, 38, 7, 39, 31, 32, 70, 71, 72, 73, 74, 75, 76] (by decide +kernel) (by decide +kernel)
set_option maxRecDepth 20000 in
theorem gX11_transfer_X8_place : GoodIn wsX11_transfer (wsV RX11 472 RX8 yX8_place wsX8_place) := goodIn_app (goodIn_of _ (by decide +kernel)) ggX11_transfer_X8_place
theorem dX11_transfer_0 : decode cX11_transfer 0 = .ok (.aload_n 0, 1) := by decide +kernel
theorem dX11_transfer_1 : decode cX11_transfer 1 = .ok (.getfield 73, 3) := by decide +kernel
theorem dX11_transfer_4 : decode cX11_transfer 4 = .ok (.getfield 378, 3) := by decide +kernel
theorem dX11_transfer_7 : decode cX11_transfer 7 = .ok (.iload_n 2, 1) := by decide +kernel
theorem dX11_transfer_8 : decode cX11_transfer 8 = .ok (.invokestatic 164, 3) := by decide +kernel
theorem dX11_transfer_11 : decode cX11_transfer 11 = .ok (.istore 4, 2) := by decide +kernel
theorem dX11_transfer_13 : decode cX11_transfer 13 = .ok (.aload_n 1, 1) := by decide +kernel
theorem dX11_transfer_14 : decode cX11_transfer 14 = .ok (.iload_n 2, 1) := by decide +kernel
theorem dX11_transfer_15 : decode cX11_transfer 15 = .ok (.iload 4, 2) := by decide +kernel
theorem dX11_transfer_17 : decode cX11_transfer 17 = .ok (.iload_n 3, 1) := by decide +kernel
theorem dX11_transfer_18 : decode cX11_transfer 18 = .ok (.aload_n 0, 1) := by decide +kernel
theorem dX11_transfer_19 : decode cX11_transfer 19 = .ok (.getfield 73, 3) := by decide +kernel
theorem dX11_transfer_22 : decode cX11_transfer 22 = .ok (.getfield 357, 3) := by decide +kernel
theorem dX11_transfer_25 : decode cX11_transfer 25 = .ok (.aload_n 0, 1) := by decide +kernel
theorem dX11_transfer_26 : decode cX11_transfer 26 = .ok (.getfield 73, 3) := by decide +kernel
theorem dX11_transfer_29 : decode cX11_transfer 29 = .ok (.iload_n 2, 1) := by decide +kernel
theorem dX11_transfer_30 : decode cX11_transfer 30 = .ok (.iload_n 3, 1) := by decide +kernel
theorem dX11_transfer_31 : decode cX11_transfer 31 = .ok (.invokevirtual 409, 3) := by decide +kernel
theorem dX11_transfer_34 : decode cX11_transfer 34 = .ok (.isub, 1) := by decide +kernel
theorem dX11_transfer_35 : decode cX11_transfer 35 = .ok (.invokevirtual 468, 3) := by decide +kernel
theorem dX11_transfer_38 : decode cX11_transfer 38 = .ok (.aload_n 1, 1) := by decide +kernel
theorem dX11_transfer_39 : decode cX11_transfer 39 = .ok (.aload_n 0, 1) := by decide +kernel
theorem dX11_transfer_40 : decode cX11_transfer 40 = .ok (.getfield 73, 3) := by decide +kernel
theorem dX11_transfer_43 : decode cX11_transfer 43 = .ok (.getfield 372, 3) := by decide +kernel
theorem dX11_transfer_46 : decode cX11_transfer 46 = .ok (.iload_n 2, 1) := by decide +kernel
theorem dX11_transfer_47 : decode cX11_transfer 47 = .ok (.invokestatic 164, 3) := by decide +kernel
theorem dX11_transfer_50 : decode cX11_transfer 50 = .ok (.iload_n 3, 1) := by decide +kernel
theorem dX11_transfer_51 : decode cX11_transfer 51 = .ok (.invokevirtual 472, 3) := by decide +kernel
theorem dX11_transfer_54 : decode cX11_transfer 54 = .ok (.return_, 1) := by decide +kernel
set_option maxRecDepth 20000 in
theorem ggX11_step_X11_nextStep : GoodIn wsX11_step wsX11_nextStep := goodIn_r _ [7, 8, 9, 2, 10, 11, 12, 13, 14, 15, 16, 17, 18, 19, 20, 21, 22, 23, 24, 25, 26, 27, 28, 29, 30, 6, 31, 32, 33, 34, 35, 36, 37, 38, 39, 40, 41, 42, 43, 44, 45, 46, 47, 48, 49, 50, 51, 52, 53, 54, 55, 56, 57, 58, 59, 60, 61, 62, 63, 64, 65, 66, 67, 68, 69, 70, 71, 72, 73, 74, 75, 76, 77, 78, 79, 80, 81, 82, 83, 84, 85, 86, 87, 88, 89, 90, 91, 92, 93, 94, 95, 96, 97, 159, 160, 161, 162, 163, 164, 165, 166, 167, 168, 169, 170, 171, 172, 173, 174, 175, 176, 177, 178, 179, 180, 181, 182, 183, 184, 185, 186, 187, 188, 189, 190, 191, 192, 193, 194, 195, 196, 197, 198, 199, 200, 201, 202, 203, 204, 205, 206, 207] (by decide +kernel) (by decide +kernel)
set_option maxRecDepth 20000 in
theorem gX11_step_X11_nextStep : GoodIn wsX11_step (wsV RX11 206 RX11 yX11_nextStep wsX11_nextStep) := goodIn_app (goodIn_of _ (by decide +kernel)) ggX11_step_X11_nextStep
set_option maxRecDepth 20000 in
theorem ggX11_step_X3_keep : GoodIn wsX11_step wsX3_keep := goodIn_r _ [102, 103, 104, 105, 106, 107, 108, 109, 110, 111, 101, 112, 113, 114, 115, 116, 26, 117, 29, 118, 119, 120, 28, 121, 122, 123, 6, 124, 125, 126, 127, 128, 129, 208, 209, 210, 201, 202, 203, 204, 205, 206, 207] (by decide +kernel) (by decide +kernel)
set_option maxRecDepth 20000 in
theorem gX11_step_X3_keep : GoodIn wsX11_step (wsV RX11 149 RX3 yX3_keep wsX3_keep) := goodIn_app (goodIn_of _ (by decide +kernel)) ggX11_step_X3_keep
set_option maxRecDepth 20000 in
theorem ggX11_step_X11_makeSteps : GoodIn wsX11_step wsX11_makeSteps := goodIn_r _ [133, 8, 9, 10, 11, 12, 13, 14, 15, 16, 17, 18, 19, 20, 21, 22, 23, 24, 25, 26, 27, 28, 29, 30, 6, 31, 32, 33, 34, 35, 36, 37, 38, 39, 40, 41, 42, 43, 44, 45, 46, 47, 48, 49, 50, 51, 52, 53, 54, 55, 56, 57, 58, 59, 60, 61, 62, 63, 64, 65, 66, 67, 68, 69, 70, 71, 72, 73, 74, 75, 76, 77, 78, 79, 80, 81, 82, 83, 84, 85, 86, 87, 88, 89, 90, 91, 92, 93, 94, 95, 96, 97, 134, 135, 136, 137, 138, 139, 140, 141, 142, 143, 144, 145, 146, 122, 147, 127, 128, 129, 119, 148, 106, 107, 108, 149, 150, 151, 152, 120, 153, 154, 159, 160, 161, 162, 163, 164, 165, 166, 167, 168, 169, 170, 171, 172, 173, 174, 175, 176, 177, 178, 179, 180, 181, 182, 183, 184, 185, 186, 187, 188, 189, 190, 191, 192, 193, 194, 195, 196, 197, 198, 199, 200, 201, 202, 203, 204, 205, 206, 207] (by decide +kernel) (by decide +kernel)
set_option maxRecDepth 20000 in
theorem gX11_step_X11_makeSteps : GoodIn wsX11_step (wsV RX11 232 RX11 yX11_makeSteps wsX11_makeSteps) := goodIn_app (goodIn_of _ (by decide +kernel)) ggX11_step_X11_makeSteps
set_option maxRecDepth 20000 in
theorem ggX11_step_X11_cut : GoodIn wsX11_step wsX11_cut := goodIn_r _ [158, 8, 9, 2, 139, 10, 11, 12, 13, 14, 15, 16, 17, 18, 19, 20, 21, 22, 23, 24, 25, 26, 27, 28, 29, 30, 6, 31, 32, 33, 34, 35, 36, 37, 38, 39, 40, 41, 42, 43, 44, 45, 46, 47, 48, 49, 50, 51, 52, 53, 54, 55, 56, 57, 58, 59, 60, 61, 62, 63, 64, 65, 66, 67, 68, 69, 70, 71, 72, 73, 74, 75, 76, 77, 159, 160, 161, 162, 163, 164, 165, 166, 167, 168, 169, 170, 171, 172, 173, 174, 175, 176, 177, 178, 179, 180, 181, 182, 183, 184, 185, 186, 187, 188, 189, 190, 191, 192, 193, 194, 195, 196, 197, 198, 199, 200, 201, 202, 203, 204, 205, 206, 207] (by decide +kernel) (by decide +kernel)
set_option maxRecDepth 20000 in
theorem gX11_step_X11_cut : GoodIn wsX11_step (wsV RX11 366 RX11 yX11_cut wsX11_cut) := goodIn_app (goodIn_of _ (by decide +kernel)) ggX11_step_X11_cut
theorem dX11_step_0 : decode cX11_step 0 = .ok (.aload_n 0, 1) := by decide +kernel
theorem dX11_step_1 : decode cX11_step 1 = .ok (.invokevirtual 206, 3) := by decide +kernel
theorem dX11_step_4 : decode cX11_step 4 = .ok (.iconst (-1), 1) := by decide +kernel
theorem dX11_step_5 : decode cX11_step 5 = .ok (.if_icmp .ne 5, 3) := by decide +kernel
theorem dX11_step_8 : decode cX11_step 8 = .ok (.iconst (-1), 1) := by decide +kernel
theorem dX11_step_9 : decode cX11_step 9 = .ok (.ireturn, 1) := by decide +kernel
theorem dX11_step_10 : decode cX11_step 10 = .ok (.aload_n 0, 1) := by decide +kernel
theorem dX11_step_11 : decode cX11_step 11 = .ok (.getfield 66, 3) := by decide +kernel
theorem dX11_step_14 : decode cX11_step 14 = .ok (.aload_n 0, 1) := by decide +kernel
theorem dX11_step_15 : decode cX11_step 15 = .ok (.getfield 53, 3) := by decide +kernel
theorem dX11_step_18 : decode cX11_step 18 = .ok (.invokevirtual 149, 3) := by decide +kernel
theorem dX11_step_21 : decode cX11_step 21 = .ok (.aload_n 0, 1) := by decide +kernel
theorem dX11_step_22 : decode cX11_step 22 = .ok (.aload_n 0, 1) := by decide +kernel
theorem dX11_step_23 : decode cX11_step 23 = .ok (.getfield 53, 3) := by decide +kernel
theorem dX11_step_26 : decode cX11_step 26 = .ok (.iconst 1, 1) := by decide +kernel
theorem dX11_step_27 : decode cX11_step 27 = .ok (.invokevirtual 232, 3) := by decide +kernel
theorem dX11_step_30 : decode cX11_step 30 = .ok (.pop, 1) := by decide +kernel
theorem dX11_step_31 : decode cX11_step 31 = .ok (.aload_n 0, 1) := by decide +kernel
theorem dX11_step_32 : decode cX11_step 32 = .ok (.invokevirtual 366, 3) := by decide +kernel
theorem dX11_step_35 : decode cX11_step 35 = .ok (.ireturn, 1) := by decide +kernel
set_option maxRecDepth 20000 in
theorem ggX11_makeSteps_X4_take : GoodIn wsX11_makeSteps wsX4_take := goodIn_r _ [7, 8, 9, 10, 11, 12, 13, 14, 15, 16, 17, 18, 19, 20, 21, 22, 23, 24, 25, 26, 27, 28, 29, 30, 31, 32, 33, 34, 35, 36, 6, 37, 38, 39, 40, 41, 42, 43, 44, 45, 46, 47, 48, 49, 50, 51, 52, 53, 54, 55, 56, 57, 58, 59, 60, 61, 62, 63, 64, 65, 66, 67, 68, 69, 70, 71, 140, 141, 142, 143, 144, 145, 146, 147, 148, 149, 150, 151, 152, 153, 154, 155, 156, 157, 158, 159, 160, 161, 162, 163, 164, 165, 166, 167, 168, 169, 170] (by decide +kernel) (by decide +kernel)
set_option maxRecDepth 20000 in
theorem gX11_makeSteps_X4_take : GoodIn wsX11_makeSteps (wsV RX11 333 RX4 yX4_take wsX4_take) := goodIn_app (goodIn_of _ (by decide +kernel)) ggX11_makeSteps_X4_take
set_option maxRecDepth 20000 in
theorem ggX11_makeSteps_X4_chosenStep : GoodIn wsX11_makeSteps wsX4_chosenStep := goodIn_r _ [75, 14, 76, 77, 78, 6, 79, 8, 10, 80, 81, 82, 83, 62, 45, 23, 24, 25, 84, 85, 86, 87, 39, 15, 68, 69, 70, 71, 11, 88, 89, 90, 91, 13, 140, 141, 142, 143, 144, 145, 146, 147, 148, 149, 150, 151] (by decide +kernel) (by decide +kernel)
set_option maxRecDepth 20000 in
theorem gX11_makeSteps_X4_chosenStep : GoodIn wsX11_makeSteps (wsV RX11 418 RX4 yX4_chosenStep wsX4_chosenStep) := goodIn_app (goodIn_of _ (by decide +kernel)) ggX11_makeSteps_X4_chosenStep
set_option maxRecDepth 20000 in
theorem ggX11_makeSteps_X11_transfer : GoodIn wsX11_makeSteps wsX11_transfer := goodIn_r _ [95, 1, 96, 97, 98, 99, 23, 24, 25, 100, 81, 82, 6, 83, 62, 45, 101, 102, 103, 19, 104, 105, 106, 107, 108, 109, 110, 111, 112, 113, 114, 56, 57, 115, 116, 117, 118, 119, 120, 121, 122, 123, 124, 125, 126, 127, 128, 129, 130, 131, 132, 133, 134, 135, 136, 137, 138, 139, 140, 141, 142, 143, 144, 145, 146, 147, 148, 149, 150, 151, 164, 165, 166, 167, 168, 169, 170] (by decide +kernel) (by decide +kernel)
set_option maxRecDepth 20000 in
theorem gX11_makeSteps_X11_transfer : GoodIn wsX11_makeSteps (wsV RX11 464 RX11 yX11_transfer wsX11_transfer) := goodIn_app (goodIn_of _ (by decide +kernel)) ggX11_makeSteps_X11_transfer
theorem dX11_makeSteps_0 : decode cX11_makeSteps 0 = .ok (.iconst 0, 1) := by decide +kernel
theorem dX11_makeSteps_1 : decode cX11_makeSteps 1 = .ok (.istore_n 3, 1) := by decide +kernel
theorem dX11_makeSteps_2 : decode cX11_makeSteps 2 = .ok (.iload_n 3, 1) := by decide +kernel
theorem dX11_makeSteps_3 : decode cX11_makeSteps 3 = .ok (.iload_n 2, 1) := by decide +kernel
theorem dX11_makeSteps_4 : decode cX11_makeSteps 4 = .ok (.if_icmp .ge 53, 3) := by decide +kernel
theorem dX11_makeSteps_7 : decode cX11_makeSteps 7 = .ok (.aload_n 0, 1) := by decide +kernel
theorem dX11_makeSteps_8 : decode cX11_makeSteps 8 = .ok (.getfield 73, 3) := by decide +kernel
theorem dX11_makeSteps_11 : decode cX11_makeSteps 11 = .ok (.aload_n 0, 1) := by decide +kernel
theorem dX11_makeSteps_12 : decode cX11_makeSteps 12 = .ok (.getfield 40, 3) := by decide +kernel
theorem dX11_makeSteps_15 : decode cX11_makeSteps 15 = .ok (.aload_n 1, 1) := by decide +kernel
theorem dX11_makeSteps_16 : decode cX11_makeSteps 16 = .ok (.invokevirtual 333, 3) := by decide +kernel
theorem dX11_makeSteps_19 : decode cX11_makeSteps 19 = .ok (.aload_n 0, 1) := by decide +kernel
theorem dX11_makeSteps_20 : decode cX11_makeSteps 20 = .ok (.getfield 73, 3) := by decide +kernel
theorem dX11_makeSteps_23 : decode cX11_makeSteps 23 = .ok (.invokevirtual 418, 3) := by decide +kernel
theorem dX11_makeSteps_26 : decode cX11_makeSteps 26 = .ok (.istore 4, 2) := by decide +kernel
theorem dX11_makeSteps_28 : decode cX11_makeSteps 28 = .ok (.iload 4, 2) := by decide +kernel
theorem dX11_makeSteps_30 : decode cX11_makeSteps 30 = .ok (.iconst (-1), 1) := by decide +kernel
theorem dX11_makeSteps_31 : decode cX11_makeSteps 31 = .ok (.if_icmp .ne 5, 3) := by decide +kernel
theorem dX11_makeSteps_34 : decode cX11_makeSteps 34 = .ok (.iload_n 3, 1) := by decide +kernel
theorem dX11_makeSteps_35 : decode cX11_makeSteps 35 = .ok (.ireturn, 1) := by decide +kernel
theorem dX11_makeSteps_36 : decode cX11_makeSteps 36 = .ok (.aload_n 0, 1) := by decide +kernel
theorem dX11_makeSteps_37 : decode cX11_makeSteps 37 = .ok (.aload_n 1, 1) := by decide +kernel
theorem dX11_makeSteps_38 : decode cX11_makeSteps 38 = .ok (.iload 4, 2) := by decide +kernel
theorem dX11_makeSteps_40 : decode cX11_makeSteps 40 = .ok (.bipush 10, 2) := by decide +kernel
theorem dX11_makeSteps_42 : decode cX11_makeSteps 42 = .ok (.idiv, 1) := by decide +kernel
theorem dX11_makeSteps_43 : decode cX11_makeSteps 43 = .ok (.iload 4, 2) := by decide +kernel
theorem dX11_makeSteps_45 : decode cX11_makeSteps 45 = .ok (.bipush 10, 2) := by decide +kernel
theorem dX11_makeSteps_47 : decode cX11_makeSteps 47 = .ok (.irem, 1) := by decide +kernel
theorem dX11_makeSteps_48 : decode cX11_makeSteps 48 = .ok (.invokevirtual 464, 3) := by decide +kernel
theorem dX11_makeSteps_51 : decode cX11_makeSteps 51 = .ok (.iinc 3 1, 3) := by decide +kernel
theorem dX11_makeSteps_54 : decode cX11_makeSteps 54 = .ok (.goto (-52), 3) := by decide +kernel
theorem dX11_makeSteps_57 : decode cX11_makeSteps 57 = .ok (.iload_n 2, 1) := by decide +kernel
theorem dX11_makeSteps_58 : decode cX11_makeSteps 58 = .ok (.ireturn, 1) := by decide +kernel
set_option maxRecDepth 20000 in
theorem ggX11_steps_X11_isStepCount : GoodIn wsX11_steps wsX11_isStepCount := goodIn_r _ [9] (by decide +kernel) (by decide +kernel)
set_option maxRecDepth 20000 in
theorem gX11_steps_X11_isStepCount : GoodIn wsX11_steps (wsV RX11 209 RX11 yX11_isStepCount wsX11_isStepCount) := goodIn_app (goodIn_of _ (by decide +kernel)) ggX11_steps_X11_isStepCount
set_option maxRecDepth 20000 in
theorem ggX11_steps_X3_keep : GoodIn wsX11_steps wsX3_keep := goodIn_r _ [14, 15, 16, 17, 18, 19, 20, 21, 22, 23, 13, 24, 25, 26, 27, 28, 29, 30, 31, 32, 33, 34, 35, 36, 37, 38, 8, 39, 40, 41, 42, 43, 44, 175, 176, 177, 178, 179, 180, 181, 182, 183, 184] (by decide +kernel) (by decide +kernel)
set_option maxRecDepth 20000 in
theorem gX11_steps_X3_keep : GoodIn wsX11_steps (wsV RX11 149 RX3 yX3_keep wsX3_keep) := goodIn_app (goodIn_of _ (by decide +kernel)) ggX11_steps_X3_keep
set_option maxRecDepth 20000 in
theorem ggX11_steps_X11_makeSteps : GoodIn wsX11_steps wsX11_makeSteps := goodIn_r _ [48, 49, 50, 51, 52, 53, 54, 55, 56, 57, 58, 59, 60, 61, 62, 63, 64, 65, 66, 29, 67, 35, 31, 68, 8, 69, 70, 71, 72, 73, 74, 75, 76, 77, 78, 79, 80, 81, 82, 83, 84, 85, 86, 87, 88, 89, 90, 91, 92, 93, 94, 95, 96, 97, 98, 99, 100, 101, 102, 103, 104, 105, 106, 107, 108, 109, 110, 111, 112, 113, 114, 115, 116, 117, 118, 119, 120, 121, 122, 123, 124, 125, 126, 127, 128, 129, 130, 131, 132, 133, 134, 135, 136, 137, 138, 139, 140, 141, 142, 143, 144, 145, 146, 147, 148, 37, 149, 42, 43, 44, 33, 150, 18, 19, 20, 151, 152, 153, 154, 34, 155, 156, 157, 158, 159, 160, 161, 162, 163, 164, 165, 166, 167, 168, 169, 170, 171, 172, 173, 174, 185, 186, 187, 188, 189, 190, 191, 192, 193, 194, 195, 196, 197, 198, 199, 200, 201, 202, 203, 204, 205, 206, 207, 208, 178, 179, 180, 181, 182, 183, 184] (by decide +kernel) (by decide +kernel)
set_option maxRecDepth 20000 in
theorem gX11_steps_X11_makeSteps : GoodIn wsX11_steps (wsV RX11 232 RX11 yX11_makeSteps wsX11_makeSteps) := goodIn_app (goodIn_of _ (by decide +kernel)) ggX11_steps_X11_makeSteps
theorem dX11_steps_0 : decode cX11_steps 0 = .ok (.aload_n 0, 1) := by decide +kernel
theorem dX11_steps_1 : decode cX11_steps 1 = .ok (.iload_n 1, 1) := by decide +kernel
theorem dX11_steps_2 : decode cX11_steps 2 = .ok (.invokevirtual 209, 3) := by decide +kernel
theorem dX11_steps_5 : decode cX11_steps 5 = .ok (.ifCond .ne 14, 3) := by decide +kernel
theorem dX11_steps_8 : decode cX11_steps 8 = .ok (.new 117, 3) := by decide +kernel
theorem dX11_steps_11 : decode cX11_steps 11 = .ok (.dup, 1) := by decide +kernel
theorem dX11_steps_12 : decode cX11_steps 12 = .ok (.ldc_w 475, 3) := by decide +kernel
theorem dX11_steps_15 : decode cX11_steps 15 = .ok (.invokespecial 121, 3) := by decide +kernel
theorem dX11_steps_18 : decode cX11_steps 18 = .ok (.athrow, 1) := by decide +kernel
theorem dX11_steps_19 : decode cX11_steps 19 = .ok (.aload_n 0, 1) := by decide +kernel
theorem dX11_steps_20 : decode cX11_steps 20 = .ok (.getfield 66, 3) := by decide +kernel
theorem dX11_steps_23 : decode cX11_steps 23 = .ok (.aload_n 0, 1) := by decide +kernel
theorem dX11_steps_24 : decode cX11_steps 24 = .ok (.getfield 53, 3) := by decide +kernel
theorem dX11_steps_27 : decode cX11_steps 27 = .ok (.invokevirtual 149, 3) := by decide +kernel
theorem dX11_steps_30 : decode cX11_steps 30 = .ok (.aload_n 0, 1) := by decide +kernel
theorem dX11_steps_31 : decode cX11_steps 31 = .ok (.aload_n 0, 1) := by decide +kernel
theorem dX11_steps_32 : decode cX11_steps 32 = .ok (.getfield 53, 3) := by decide +kernel
theorem dX11_steps_35 : decode cX11_steps 35 = .ok (.iload_n 1, 1) := by decide +kernel
theorem dX11_steps_36 : decode cX11_steps 36 = .ok (.invokevirtual 232, 3) := by decide +kernel
theorem dX11_steps_39 : decode cX11_steps 39 = .ok (.ireturn, 1) := by decide +kernel
theorem dX11_isStepCount_0 : decode cX11_isStepCount 0 = .ok (.iload_n 1, 1) := by decide +kernel
theorem dX11_isStepCount_1 : decode cX11_isStepCount 1 = .ok (.iconst 1, 1) := by decide +kernel
theorem dX11_isStepCount_2 : decode cX11_isStepCount 2 = .ok (.if_icmp .lt 13, 3) := by decide +kernel
theorem dX11_isStepCount_5 : decode cX11_isStepCount 5 = .ok (.iload_n 1, 1) := by decide +kernel
theorem dX11_isStepCount_6 : decode cX11_isStepCount 6 = .ok (.bipush 99, 2) := by decide +kernel
theorem dX11_isStepCount_8 : decode cX11_isStepCount 8 = .ok (.if_icmp .gt 7, 3) := by decide +kernel
theorem dX11_isStepCount_11 : decode cX11_isStepCount 11 = .ok (.iconst 1, 1) := by decide +kernel
theorem dX11_isStepCount_12 : decode cX11_isStepCount 12 = .ok (.goto 4, 3) := by decide +kernel
theorem dX11_isStepCount_15 : decode cX11_isStepCount 15 = .ok (.iconst 0, 1) := by decide +kernel
theorem dX11_isStepCount_16 : decode cX11_isStepCount 16 = .ok (.ireturn, 1) := by decide +kernel
set_option maxRecDepth 20000 in
theorem ggX11_placeBest_X11_hasFewGroups : GoodIn wsX11_placeBest wsX11_hasFewGroups := goodIn_r _ [9, 4, 10, 11, 12, 13, 14, 15, 16, 17, 8, 18, 202, 203, 204, 205, 206, 207, 208, 209, 210, 211, 212, 213, 214, 215, 216, 217, 218, 219, 220, 221, 222, 223, 224, 225, 226] (by decide +kernel) (by decide +kernel)
set_option maxRecDepth 20000 in
theorem gX11_placeBest_X11_hasFewGroups : GoodIn wsX11_placeBest (wsV RX11 212 RX11 yX11_hasFewGroups wsX11_hasFewGroups) := goodIn_app (goodIn_of _ (by decide +kernel)) ggX11_placeBest_X11_hasFewGroups
set_option maxRecDepth 20000 in
theorem ggX11_placeBest_X3_keep : GoodIn wsX11_placeBest wsX3_keep := goodIn_r _ [23, 24, 25, 26, 27, 28, 29, 30, 31, 32, 22, 33, 34, 35, 36, 37, 13, 38, 16, 39, 40, 41, 15, 42, 43, 44, 8, 45, 46, 47, 48, 49, 50, 227, 228, 229, 220, 221, 222, 223, 224, 225, 226] (by decide +kernel) (by decide +kernel)
set_option maxRecDepth 20000 in
theorem gX11_placeBest_X3_keep : GoodIn wsX11_placeBest (wsV RX11 149 RX3 yX3_keep wsX3_keep) := goodIn_app (goodIn_of _ (by decide +kernel)) ggX11_placeBest_X3_keep
set_option maxRecDepth 20000 in
theorem ggX11_placeBest_X11_searchBest : GoodIn wsX11_placeBest wsX11_searchBest := goodIn_r _ [54, 55, 56, 4, 57, 58, 59, 60, 61, 62, 63, 64, 65, 66, 67, 68, 69, 70, 71, 72, 11, 12, 13, 14, 15, 16, 17, 8, 18, 73, 74, 75, 76, 77, 78, 79, 80, 81, 82, 83, 84, 85, 86, 87, 88, 89, 90, 91, 92, 93, 94, 95, 96, 97, 98, 99, 100, 101, 102, 103, 104, 105, 106, 107, 108, 109, 110, 111, 112, 113, 114, 115, 116, 117, 118, 119, 120, 121, 122, 123, 124, 125, 126, 127, 128, 129, 130, 131, 132, 133, 134, 135, 136, 137, 138, 139, 140, 141, 142, 143, 144, 145, 146, 147, 148, 149, 150, 151, 152, 153, 154, 155, 156, 44, 45, 46, 27, 28, 29, 47, 48, 49, 50, 157, 158, 159, 160, 161, 162, 163, 164, 165, 166, 167, 168, 202, 203, 204, 205, 206, 207, 208, 209, 210, 211, 212, 213, 214, 215, 216, 217, 218, 219, 230, 231, 232, 233, 234, 235, 236, 237, 238, 239, 240, 241, 242, 243, 244, 245, 246, 247, 248, 249, 250, 251, 252, 253, 220, 221, 222, 223, 224, 225, 226, 254, 255, 256, 257, 258, 259, 260, 261, 262, 263] (by decide +kernel) (by decide +kernel)
set_option maxRecDepth 20000 in
theorem gX11_placeBest_X11_searchBest : GoodIn wsX11_placeBest (wsV RX11 236 RX11 yX11_searchBest wsX11_searchBest) := goodIn_app (goodIn_of _ (by decide +kernel)) ggX11_placeBest_X11_searchBest
set_option maxRecDepth 20000 in
theorem ggX11_placeBest_X11_takeBest : GoodIn wsX11_placeBest wsX11_takeBest := goodIn_r _ [172, 4, 58, 173, 55, 174, 10, 11, 12, 13, 14, 15, 16, 17, 8, 18, 175, 176, 177, 178, 179, 56, 59, 60, 61, 62, 63, 64, 65, 66, 67, 68, 69, 70, 71, 72, 73, 74, 75, 76, 77, 78, 79, 80, 81, 82, 83, 84, 85, 86, 87, 88, 89, 90, 91, 92, 93, 94, 95, 96, 97, 98, 99, 100, 101, 102, 103, 104, 105, 106, 107, 108, 109, 110, 111, 112, 113, 114, 115, 116, 117, 118, 180, 181, 182, 183, 184, 185, 186, 187, 188, 189, 190, 191, 192, 193, 43, 194, 48, 49, 50, 40, 195, 27, 28, 29, 196, 197, 198, 199, 41, 200, 201, 202, 203, 204, 205, 206, 207, 208, 209, 210, 211, 212, 213, 214, 215, 216, 217, 218, 219, 259, 260, 261, 262, 263, 230, 231, 232, 233, 234, 235, 236, 237, 238, 239, 240, 241, 220, 221, 222, 223, 224, 225, 226, 242, 243, 244, 245, 246, 247, 248, 249, 250, 251, 252, 253] (by decide +kernel) (by decide +kernel)
set_option maxRecDepth 20000 in
theorem gX11_placeBest_X11_takeBest : GoodIn wsX11_placeBest (wsV RX11 239 RX11 yX11_takeBest wsX11_takeBest) := goodIn_app (goodIn_of _ (by decide +kernel)) ggX11_placeBest_X11_takeBest
theorem dX11_placeBest_0 : decode cX11_placeBest 0 = .ok (.aload_n 0, 1) := by decide +kernel
theorem dX11_placeBest_1 : decode cX11_placeBest 1 = .ok (.invokevirtual 212, 3) := by decide +kernel
theorem dX11_placeBest_4 : decode cX11_placeBest 4 = .ok (.ifCond .ne 14, 3) := by decide +kernel
theorem dX11_placeBest_7 : decode cX11_placeBest 7 = .ok (.new 106, 3) := by decide +kernel
theorem dX11_placeBest_10 : decode cX11_placeBest 10 = .ok (.dup, 1) := by decide +kernel
theorem dX11_placeBest_11 : decode cX11_placeBest 11 = .ok (.ldc_w 477, 3) := by decide +kernel
theorem dX11_placeBest_14 : decode cX11_placeBest 14 = .ok (.invokespecial 110, 3) := by decide +kernel
theorem dX11_placeBest_17 : decode cX11_placeBest 17 = .ok (.athrow, 1) := by decide +kernel
theorem dX11_placeBest_18 : decode cX11_placeBest 18 = .ok (.aload_n 0, 1) := by decide +kernel
theorem dX11_placeBest_19 : decode cX11_placeBest 19 = .ok (.getfield 66, 3) := by decide +kernel
theorem dX11_placeBest_22 : decode cX11_placeBest 22 = .ok (.aload_n 0, 1) := by decide +kernel
theorem dX11_placeBest_23 : decode cX11_placeBest 23 = .ok (.getfield 53, 3) := by decide +kernel
theorem dX11_placeBest_26 : decode cX11_placeBest 26 = .ok (.invokevirtual 149, 3) := by decide +kernel
theorem dX11_placeBest_29 : decode cX11_placeBest 29 = .ok (.aload_n 0, 1) := by decide +kernel
theorem dX11_placeBest_30 : decode cX11_placeBest 30 = .ok (.invokevirtual 236, 3) := by decide +kernel
theorem dX11_placeBest_33 : decode cX11_placeBest 33 = .ok (.aload_n 0, 1) := by decide +kernel
theorem dX11_placeBest_34 : decode cX11_placeBest 34 = .ok (.invokevirtual 239, 3) := by decide +kernel
theorem dX11_placeBest_37 : decode cX11_placeBest 37 = .ok (.ireturn, 1) := by decide +kernel
set_option maxRecDepth 20000 in
theorem ggX11_takeBest_X8_groupCount : GoodIn wsX11_takeBest wsX8_groupCount := goodIn_r _ [10, 11, 12, 13, 14, 15, 148, 149, 150, 151, 152, 153, 154] (by decide +kernel) (by decide +kernel)
set_option maxRecDepth 20000 in
theorem gX11_takeBest_X8_groupCount : GoodIn wsX11_takeBest (wsV RX11 277 RX8 yX8_groupCount wsX8_groupCount) := goodIn_app (goodIn_of _ (by decide +kernel)) ggX11_takeBest_X8_groupCount
set_option maxRecDepth 20000 in
theorem ggX11_takeBest_X11_at : GoodIn wsX11_takeBest wsX11_at := goodIn_r _ [15] (by decide +kernel) (by decide +kernel)
set_option maxRecDepth 20000 in
theorem gX11_takeBest_X11_at : GoodIn wsX11_takeBest (va_wsS RX11 164 yX11_at wsX11_at) := goodIn_app (goodIn_of _ (by decide +kernel)) ggX11_takeBest_X11_at
set_option maxRecDepth 20000 in
theorem ggX11_takeBest_X11_takeTo : GoodIn wsX11_takeBest wsX11_takeTo := goodIn_r _ [20, 4, 21, 1, 22, 23, 24, 25, 26, 27, 28, 29, 30, 31, 32, 33, 34, 35, 7, 8, 9, 10, 11, 12, 13, 14, 15, 36, 37, 38, 39, 40, 41, 42, 43, 44, 45, 46, 47, 48, 49, 50, 51, 52, 53, 54, 55, 56, 57, 58, 59, 60, 61, 62, 63, 64, 65, 66, 67, 68, 69, 70, 71, 72, 73, 74, 75, 76, 77, 78, 79, 80, 81, 82, 83, 84, 85, 5, 86, 87, 16, 88, 89, 90, 91, 92, 93, 94, 95, 96, 97, 98, 99, 100, 101, 102, 103, 104, 105, 106, 107, 108, 109, 110, 111, 112, 113, 114, 115, 116, 117, 118, 119, 120, 121, 122, 123, 124, 125, 126, 127, 128, 129, 130, 136, 137, 138, 139, 140, 141, 142, 143, 144, 145, 146, 147, 155, 156, 157, 158, 159, 160, 161, 162, 163, 164, 165, 166, 148, 149, 150, 151, 152, 153, 154] (by decide +kernel) (by decide +kernel)
set_option maxRecDepth 20000 in
theorem gX11_takeBest_X11_takeTo : GoodIn wsX11_takeBest (wsV RX11 228 RX11 yX11_takeTo wsX11_takeTo) := goodIn_app (goodIn_of _ (by decide +kernel)) ggX11_takeBest_X11_takeTo
theorem dX11_takeBest_0 : decode cX11_takeBest 0 = .ok (.iconst 0, 1) := by decide +kernel
theorem dX11_takeBest_1 : decode cX11_takeBest 1 = .ok (.istore_n 1, 1) := by decide +kernel
theorem dX11_takeBest_2 : decode cX11_takeBest 2 = .ok (.aload_n 0, 1) := by decide +kernel
theorem dX11_takeBest_3 : decode cX11_takeBest 3 = .ok (.getfield 53, 3) := by decide +kernel
theorem dX11_takeBest_6 : decode cX11_takeBest 6 = .ok (.invokevirtual 277, 3) := by decide +kernel
theorem dX11_takeBest_9 : decode cX11_takeBest 9 = .ok (.istore_n 2, 1) := by decide +kernel
theorem dX11_takeBest_10 : decode cX11_takeBest 10 = .ok (.iconst 0, 1) := by decide +kernel
theorem dX11_takeBest_11 : decode cX11_takeBest 11 = .ok (.istore_n 3, 1) := by decide +kernel
theorem dX11_takeBest_12 : decode cX11_takeBest 12 = .ok (.iload_n 3, 1) := by decide +kernel
theorem dX11_takeBest_13 : decode cX11_takeBest 13 = .ok (.iload_n 2, 1) := by decide +kernel
theorem dX11_takeBest_14 : decode cX11_takeBest 14 = .ok (.if_icmp .ge 48, 3) := by decide +kernel
theorem dX11_takeBest_17 : decode cX11_takeBest 17 = .ok (.aload_n 0, 1) := by decide +kernel
theorem dX11_takeBest_18 : decode cX11_takeBest 18 = .ok (.getfield 87, 3) := by decide +kernel
theorem dX11_takeBest_21 : decode cX11_takeBest 21 = .ok (.getfield 479, 3) := by decide +kernel
theorem dX11_takeBest_24 : decode cX11_takeBest 24 = .ok (.iload_n 3, 1) := by decide +kernel
theorem dX11_takeBest_25 : decode cX11_takeBest 25 = .ok (.invokestatic 164, 3) := by decide +kernel
theorem dX11_takeBest_28 : decode cX11_takeBest 28 = .ok (.istore 4, 2) := by decide +kernel
theorem dX11_takeBest_30 : decode cX11_takeBest 30 = .ok (.aload_n 0, 1) := by decide +kernel
theorem dX11_takeBest_31 : decode cX11_takeBest 31 = .ok (.getfield 73, 3) := by decide +kernel
theorem dX11_takeBest_34 : decode cX11_takeBest 34 = .ok (.getfield 378, 3) := by decide +kernel
theorem dX11_takeBest_37 : decode cX11_takeBest 37 = .ok (.iload_n 3, 1) := by decide +kernel
theorem dX11_takeBest_38 : decode cX11_takeBest 38 = .ok (.invokestatic 164, 3) := by decide +kernel
theorem dX11_takeBest_41 : decode cX11_takeBest 41 = .ok (.iload 4, 2) := by decide +kernel
theorem dX11_takeBest_43 : decode cX11_takeBest 43 = .ok (.if_icmp .eq 13, 3) := by decide +kernel
theorem dX11_takeBest_46 : decode cX11_takeBest 46 = .ok (.aload_n 0, 1) := by decide +kernel
theorem dX11_takeBest_47 : decode cX11_takeBest 47 = .ok (.iload_n 3, 1) := by decide +kernel
theorem dX11_takeBest_48 : decode cX11_takeBest 48 = .ok (.iload 4, 2) := by decide +kernel
theorem dX11_takeBest_50 : decode cX11_takeBest 50 = .ok (.invokevirtual 228, 3) := by decide +kernel
theorem dX11_takeBest_53 : decode cX11_takeBest 53 = .ok (.iinc 1 1, 3) := by decide +kernel
theorem dX11_takeBest_56 : decode cX11_takeBest 56 = .ok (.iinc 3 1, 3) := by decide +kernel
theorem dX11_takeBest_59 : decode cX11_takeBest 59 = .ok (.goto (-47), 3) := by decide +kernel
theorem dX11_takeBest_62 : decode cX11_takeBest 62 = .ok (.iload_n 1, 1) := by decide +kernel
theorem dX11_takeBest_63 : decode cX11_takeBest 63 = .ok (.ireturn, 1) := by decide +kernel
set_option maxRecDepth 20000 in
theorem ggX11_placeApart_X11_requireVertex : GoodIn wsX11_placeApart wsX11_requireVertex := goodIn_ca (goodIn_r _ [11, 12, 13, 14, 15, 16, 10, 17, 18, 19, 194, 195, 196, 197, 198, 199, 200, 201, 202, 203, 204, 205, 206, 207, 208, 209, 210, 211, 212, 213, 214, 215, 216, 217, 218, 219, 220, 221, 222, 223] (by decide +kernel) (by decide +kernel)) (goodIn_sub (fun _ h => List.mem_cons_of_mem _ (List.mem_append_right _ h)) (by decide +kernel))
set_option maxRecDepth 20000 in
theorem gX11_placeApart_X11_requireVertex : GoodIn wsX11_placeApart (wsV RX11 297 RX11 yX11_requireVertex wsX11_requireVertex) := goodIn_app (goodIn_of _ (by decide +kernel)) ggX11_placeApart_X11_requireVertex
set_option maxRecDepth 20000 in
theorem ggX11_placeApart_X11_canTakeApart : GoodIn wsX11_placeApart wsX11_canTakeApart := goodIn_r _ [23, 18, 24, 6, 25, 194, 195, 196, 197, 198, 199, 200, 201, 202, 203, 204, 205, 206, 207, 208, 209, 210, 211, 212, 213, 214, 215, 216, 217, 218, 219, 220, 221, 222, 223, 224, 225, 226, 227, 228, 229, 230] (by decide +kernel) (by decide +kernel)
set_option maxRecDepth 20000 in
theorem gX11_placeApart_X11_canTakeApart : GoodIn wsX11_placeApart (wsV RX11 219 RX11 yX11_canTakeApart wsX11_canTakeApart) := goodIn_app (goodIn_of _ (by decide +kernel)) ggX11_placeApart_X11_canTakeApart
set_option maxRecDepth 20000 in
theorem ggX11_placeApart_X3_keep : GoodIn wsX11_placeApart wsX3_keep := goodIn_r _ [30, 31, 32, 33, 34, 35, 36, 37, 38, 39, 29, 40, 41, 42, 43, 44, 45, 46, 47, 48, 49, 50, 51, 52, 53, 54, 10, 55, 56, 57, 58, 59, 60, 231, 232, 233, 224, 225, 226, 227, 228, 229, 230] (by decide +kernel) (by decide +kernel)
set_option maxRecDepth 20000 in
theorem gX11_placeApart_X3_keep : GoodIn wsX11_placeApart (wsV RX11 149 RX3 yX3_keep wsX3_keep) := goodIn_app (goodIn_of _ (by decide +kernel)) ggX11_placeApart_X3_keep
set_option maxRecDepth 20000 in
theorem ggX11_placeApart_X11_takeApart : GoodIn wsX11_placeApart wsX11_takeApart := goodIn_r _ [64, 65, 18, 19, 66, 6, 67, 68, 69, 70, 71, 72, 73, 74, 75, 76, 77, 78, 79, 80, 81, 82, 83, 84, 85, 86, 87, 88, 89, 90, 10, 91, 92, 93, 94, 95, 96, 97, 98, 99, 100, 101, 102, 103, 104, 105, 106, 107, 108, 109, 34, 35, 36, 110, 111, 112, 113, 114, 115, 116, 117, 118, 119, 120, 121, 122, 123, 124, 125, 126, 127, 128, 129, 130, 131, 132, 45, 133, 51, 47, 134, 135, 136, 137, 138, 139, 140, 141, 142, 143, 144, 145, 146, 147, 148, 149, 150, 151, 152, 153, 154, 155, 156, 157, 158, 159, 160, 161, 162, 163, 164, 165, 166, 167, 168, 169, 170, 171, 172, 173, 174, 175, 176, 177, 178, 179, 180, 181, 182, 183, 184, 185, 186, 187, 53, 188, 58, 59, 60, 49, 189, 190, 191, 192, 193, 50, 194, 195, 196, 197, 198, 199, 200, 201, 202, 203, 204, 205, 206, 207, 208, 209, 210, 211, 212, 213, 214, 215, 216, 217, 218, 219, 220, 221, 222, 223, 234, 235, 236, 237, 238, 239, 224, 225, 226, 227, 228, 229, 230, 240, 241, 242, 243, 244, 245, 246, 247, 248, 249, 250, 251] (by decide +kernel) (by decide +kernel)
set_option maxRecDepth 20000 in
theorem gX11_placeApart_X11_takeApart : GoodIn wsX11_placeApart (wsV RX11 242 RX11 yX11_takeApart wsX11_takeApart) := goodIn_app (goodIn_of _ (by decide +kernel)) ggX11_placeApart_X11_takeApart
theorem dX11_placeApart_0 : decode cX11_placeApart 0 = .ok (.aload_n 0, 1) := by decide +kernel
theorem dX11_placeApart_1 : decode cX11_placeApart 1 = .ok (.iload_n 1, 1) := by decide +kernel
theorem dX11_placeApart_2 : decode cX11_placeApart 2 = .ok (.invokevirtual 297, 3) := by decide +kernel
theorem dX11_placeApart_5 : decode cX11_placeApart 5 = .ok (.aload_n 0, 1) := by decide +kernel
theorem dX11_placeApart_6 : decode cX11_placeApart 6 = .ok (.iload_n 2, 1) := by decide +kernel
theorem dX11_placeApart_7 : decode cX11_placeApart 7 = .ok (.invokevirtual 297, 3) := by decide +kernel
theorem dX11_placeApart_10 : decode cX11_placeApart 10 = .ok (.iload_n 1, 1) := by decide +kernel
theorem dX11_placeApart_11 : decode cX11_placeApart 11 = .ok (.iload_n 2, 1) := by decide +kernel
theorem dX11_placeApart_12 : decode cX11_placeApart 12 = .ok (.if_icmp .ne 14, 3) := by decide +kernel
theorem dX11_placeApart_15 : decode cX11_placeApart 15 = .ok (.new 117, 3) := by decide +kernel
theorem dX11_placeApart_18 : decode cX11_placeApart 18 = .ok (.dup, 1) := by decide +kernel
theorem dX11_placeApart_19 : decode cX11_placeApart 19 = .ok (.ldc_w 482, 3) := by decide +kernel
theorem dX11_placeApart_22 : decode cX11_placeApart 22 = .ok (.invokespecial 121, 3) := by decide +kernel
theorem dX11_placeApart_25 : decode cX11_placeApart 25 = .ok (.athrow, 1) := by decide +kernel
theorem dX11_placeApart_26 : decode cX11_placeApart 26 = .ok (.aload_n 0, 1) := by decide +kernel
theorem dX11_placeApart_27 : decode cX11_placeApart 27 = .ok (.invokevirtual 219, 3) := by decide +kernel
theorem dX11_placeApart_30 : decode cX11_placeApart 30 = .ok (.ifCond .ne 14, 3) := by decide +kernel
theorem dX11_placeApart_33 : decode cX11_placeApart 33 = .ok (.new 106, 3) := by decide +kernel
theorem dX11_placeApart_36 : decode cX11_placeApart 36 = .ok (.dup, 1) := by decide +kernel
theorem dX11_placeApart_37 : decode cX11_placeApart 37 = .ok (.ldc_w 484, 3) := by decide +kernel
theorem dX11_placeApart_40 : decode cX11_placeApart 40 = .ok (.invokespecial 110, 3) := by decide +kernel
theorem dX11_placeApart_43 : decode cX11_placeApart 43 = .ok (.athrow, 1) := by decide +kernel
theorem dX11_placeApart_44 : decode cX11_placeApart 44 = .ok (.aload_n 0, 1) := by decide +kernel
theorem dX11_placeApart_45 : decode cX11_placeApart 45 = .ok (.getfield 66, 3) := by decide +kernel
theorem dX11_placeApart_48 : decode cX11_placeApart 48 = .ok (.aload_n 0, 1) := by decide +kernel
theorem dX11_placeApart_49 : decode cX11_placeApart 49 = .ok (.getfield 53, 3) := by decide +kernel
theorem dX11_placeApart_52 : decode cX11_placeApart 52 = .ok (.invokevirtual 149, 3) := by decide +kernel
theorem dX11_placeApart_55 : decode cX11_placeApart 55 = .ok (.aload_n 0, 1) := by decide +kernel
theorem dX11_placeApart_56 : decode cX11_placeApart 56 = .ok (.iload_n 1, 1) := by decide +kernel
theorem dX11_placeApart_57 : decode cX11_placeApart 57 = .ok (.iload_n 2, 1) := by decide +kernel
theorem dX11_placeApart_58 : decode cX11_placeApart 58 = .ok (.invokevirtual 242, 3) := by decide +kernel
theorem dX11_placeApart_61 : decode cX11_placeApart 61 = .ok (.ireturn, 1) := by decide +kernel
theorem dX11_canTakeApart_0 : decode cX11_canTakeApart 0 = .ok (.aload_n 0, 1) := by decide +kernel
theorem dX11_canTakeApart_1 : decode cX11_canTakeApart 1 = .ok (.getfield 40, 3) := by decide +kernel
theorem dX11_canTakeApart_4 : decode cX11_canTakeApart 4 = .ok (.getfield 262, 3) := by decide +kernel
theorem dX11_canTakeApart_7 : decode cX11_canTakeApart 7 = .ok (.iconst 2, 1) := by decide +kernel
theorem dX11_canTakeApart_8 : decode cX11_canTakeApart 8 = .ok (.if_icmp .ne 17, 3) := by decide +kernel
theorem dX11_canTakeApart_11 : decode cX11_canTakeApart 11 = .ok (.aload_n 0, 1) := by decide +kernel
theorem dX11_canTakeApart_12 : decode cX11_canTakeApart 12 = .ok (.getfield 53, 3) := by decide +kernel
theorem dX11_canTakeApart_15 : decode cX11_canTakeApart 15 = .ok (.getfield 192, 3) := by decide +kernel
theorem dX11_canTakeApart_18 : decode cX11_canTakeApart 18 = .ok (.ifCond .ne 7, 3) := by decide +kernel
theorem dX11_canTakeApart_21 : decode cX11_canTakeApart 21 = .ok (.iconst 1, 1) := by decide +kernel
theorem dX11_canTakeApart_22 : decode cX11_canTakeApart 22 = .ok (.goto 4, 3) := by decide +kernel
theorem dX11_canTakeApart_25 : decode cX11_canTakeApart 25 = .ok (.iconst 0, 1) := by decide +kernel
theorem dX11_canTakeApart_26 : decode cX11_canTakeApart 26 = .ok (.ireturn, 1) := by decide +kernel
set_option maxRecDepth 20000 in
theorem ggX11_takeApart_X1_run : GoodIn wsX11_takeApart wsX1_run := goodIn_r _ [11, 12, 13, 14, 15, 16, 10, 17, 18, 19, 20, 21, 22, 23, 24, 25, 26, 27, 28, 29, 30, 31, 32, 33, 34, 35, 36, 37, 38, 39, 40, 41, 42, 43, 44, 45, 46, 47, 48, 49, 50, 51, 52, 176, 177, 178, 179, 180, 181, 164, 165, 166, 167, 168, 169, 170, 171, 172, 173, 174, 175] (by decide +kernel) (by decide +kernel)
set_option maxRecDepth 20000 in
theorem gX11_takeApart_X1_run : GoodIn wsX11_takeApart (wsV RX11 320 RX1 yX1_run wsX1_run) := goodIn_app (goodIn_of _ (by decide +kernel)) ggX11_takeApart_X1_run
set_option maxRecDepth 20000 in
theorem ggX11_takeApart_X11_isIn : GoodIn wsX11_takeApart wsX11_isIn := goodIn_r _ [44] (by decide +kernel) (by decide +kernel)
set_option maxRecDepth 20000 in
theorem gX11_takeApart_X11_isIn : GoodIn wsX11_takeApart (va_wsS RX11 486 yX11_isIn wsX11_isIn) := goodIn_app (goodIn_of _ (by decide +kernel)) ggX11_takeApart_X11_isIn
set_option maxRecDepth 20000 in
theorem ggX11_takeApart_X11_at : GoodIn wsX11_takeApart wsX11_at := goodIn_r _ [31] (by decide +kernel) (by decide +kernel)
set_option maxRecDepth 20000 in
theorem gX11_takeApart_X11_at : GoodIn wsX11_takeApart (va_wsS RX11 164 yX11_at wsX11_at) := goodIn_app (goodIn_of _ (by decide +kernel)) ggX11_takeApart_X11_at
set_option maxRecDepth 20000 in
theorem ggX11_takeApart_X11_takeTo : GoodIn wsX11_takeApart wsX11_takeTo := goodIn_r _ [58, 59, 2, 5, 60, 61, 62, 63, 64, 65, 66, 67, 68, 69, 70, 71, 72, 73, 74, 75, 76, 77, 78, 79, 29, 30, 31, 80, 81, 82, 83, 84, 85, 86, 87, 88, 89, 90, 91, 92, 93, 94, 95, 96, 97, 98, 99, 100, 26, 27, 28, 101, 102, 103, 104, 32, 33, 41, 42, 105, 106, 107, 108, 109, 110, 111, 112, 113, 114, 115, 116, 117, 118, 119, 120, 121, 122, 123, 124, 125, 54, 126, 127, 128, 129, 130, 131, 132, 133, 134, 135, 136, 137, 138, 139, 140, 50, 51, 52, 141, 142, 143, 144, 145, 43, 44, 146, 147, 148, 149, 150, 151, 152, 153, 154, 155, 156, 157, 158, 159, 160, 161, 162, 163, 189, 190, 191, 192, 193, 194, 195, 196, 197, 198, 199, 200, 164, 165, 166, 167, 168, 169, 170, 171, 172, 173, 174, 175, 182, 183, 184, 185, 186, 187, 188] (by decide +kernel) (by decide +kernel)
set_option maxRecDepth 20000 in
theorem gX11_takeApart_X11_takeTo : GoodIn wsX11_takeApart (wsV RX11 228 RX11 yX11_takeTo wsX11_takeTo) := goodIn_app (goodIn_of _ (by decide +kernel)) ggX11_takeApart_X11_takeTo
theorem dX11_takeApart_0 : decode cX11_takeApart 0 = .ok (.aload_n 0, 1) := by decide +kernel
theorem dX11_takeApart_1 : decode cX11_takeApart 1 = .ok (.getfield 94, 3) := by decide +kernel
theorem dX11_takeApart_4 : decode cX11_takeApart 4 = .ok (.aload_n 0, 1) := by decide +kernel
theorem dX11_takeApart_5 : decode cX11_takeApart 5 = .ok (.getfield 40, 3) := by decide +kernel
theorem dX11_takeApart_8 : decode cX11_takeApart 8 = .ok (.iload_n 1, 1) := by decide +kernel
theorem dX11_takeApart_9 : decode cX11_takeApart 9 = .ok (.iload_n 2, 1) := by decide +kernel
theorem dX11_takeApart_10 : decode cX11_takeApart 10 = .ok (.invokevirtual 320, 3) := by decide +kernel
theorem dX11_takeApart_13 : decode cX11_takeApart 13 = .ok (.iconst 0, 1) := by decide +kernel
theorem dX11_takeApart_14 : decode cX11_takeApart 14 = .ok (.istore_n 3, 1) := by decide +kernel
theorem dX11_takeApart_15 : decode cX11_takeApart 15 = .ok (.iconst 0, 1) := by decide +kernel
theorem dX11_takeApart_16 : decode cX11_takeApart 16 = .ok (.istore 4, 2) := by decide +kernel
theorem dX11_takeApart_18 : decode cX11_takeApart 18 = .ok (.iload 4, 2) := by decide +kernel
theorem dX11_takeApart_20 : decode cX11_takeApart 20 = .ok (.aload_n 0, 1) := by decide +kernel
theorem dX11_takeApart_21 : decode cX11_takeApart 21 = .ok (.getfield 40, 3) := by decide +kernel
theorem dX11_takeApart_24 : decode cX11_takeApart 24 = .ok (.getfield 141, 3) := by decide +kernel
theorem dX11_takeApart_27 : decode cX11_takeApart 27 = .ok (.if_icmp .ge 59, 3) := by decide +kernel
theorem dX11_takeApart_30 : decode cX11_takeApart 30 = .ok (.aload_n 0, 1) := by decide +kernel
theorem dX11_takeApart_31 : decode cX11_takeApart 31 = .ok (.getfield 94, 3) := by decide +kernel
theorem dX11_takeApart_34 : decode cX11_takeApart 34 = .ok (.getfield 327, 3) := by decide +kernel
theorem dX11_takeApart_37 : decode cX11_takeApart 37 = .ok (.iload 4, 2) := by decide +kernel
theorem dX11_takeApart_39 : decode cX11_takeApart 39 = .ok (.invokestatic 486, 3) := by decide +kernel
theorem dX11_takeApart_42 : decode cX11_takeApart 42 = .ok (.ifCond .eq 7, 3) := by decide +kernel
theorem dX11_takeApart_45 : decode cX11_takeApart 45 = .ok (.iconst 0, 1) := by decide +kernel
theorem dX11_takeApart_46 : decode cX11_takeApart 46 = .ok (.goto 4, 3) := by decide +kernel
theorem dX11_takeApart_49 : decode cX11_takeApart 49 = .ok (.iconst 1, 1) := by decide +kernel
theorem dX11_takeApart_50 : decode cX11_takeApart 50 = .ok (.istore 5, 2) := by decide +kernel
theorem dX11_takeApart_52 : decode cX11_takeApart 52 = .ok (.aload_n 0, 1) := by decide +kernel
theorem dX11_takeApart_53 : decode cX11_takeApart 53 = .ok (.getfield 53, 3) := by decide +kernel
theorem dX11_takeApart_56 : decode cX11_takeApart 56 = .ok (.getfield 315, 3) := by decide +kernel
theorem dX11_takeApart_59 : decode cX11_takeApart 59 = .ok (.iload 4, 2) := by decide +kernel
theorem dX11_takeApart_61 : decode cX11_takeApart 61 = .ok (.invokestatic 164, 3) := by decide +kernel
theorem dX11_takeApart_64 : decode cX11_takeApart 64 = .ok (.iload 5, 2) := by decide +kernel
theorem dX11_takeApart_66 : decode cX11_takeApart 66 = .ok (.if_icmp .eq 14, 3) := by decide +kernel
theorem dX11_takeApart_69 : decode cX11_takeApart 69 = .ok (.aload_n 0, 1) := by decide +kernel
theorem dX11_takeApart_70 : decode cX11_takeApart 70 = .ok (.iload 4, 2) := by decide +kernel
theorem dX11_takeApart_72 : decode cX11_takeApart 72 = .ok (.iload 5, 2) := by decide +kernel
theorem dX11_takeApart_74 : decode cX11_takeApart 74 = .ok (.invokevirtual 228, 3) := by decide +kernel
theorem dX11_takeApart_77 : decode cX11_takeApart 77 = .ok (.iinc 3 1, 3) := by decide +kernel
theorem dX11_takeApart_80 : decode cX11_takeApart 80 = .ok (.iinc 4 1, 3) := by decide +kernel
theorem dX11_takeApart_83 : decode cX11_takeApart 83 = .ok (.goto (-65), 3) := by decide +kernel
theorem dX11_takeApart_86 : decode cX11_takeApart 86 = .ok (.iload_n 3, 1) := by decide +kernel
theorem dX11_takeApart_87 : decode cX11_takeApart 87 = .ok (.ireturn, 1) := by decide +kernel
set_option maxRecDepth 20000 in
theorem ggX11_setCredit_X11_isAllowance : GoodIn wsX11_setCredit wsX11_isAllowance := goodIn_r _ [10] (by decide +kernel) (by decide +kernel)
set_option maxRecDepth 20000 in
theorem gX11_setCredit_X11_isAllowance : GoodIn wsX11_setCredit (wsV RX11 222 RX11 yX11_isAllowance wsX11_isAllowance) := goodIn_app (goodIn_of _ (by decide +kernel)) ggX11_setCredit_X11_isAllowance
set_option maxRecDepth 20000 in
theorem ggX11_setCredit_X3_keep : GoodIn wsX11_setCredit wsX3_keep := goodIn_r _ [15, 16, 17, 18, 19, 20, 21, 22, 23, 24, 14, 25, 26, 27, 28, 29, 30, 31, 32, 33, 34, 35, 36, 37, 38, 39, 9, 40, 41, 42, 43, 44, 45, 71, 72, 73, 64, 65, 66, 67, 68, 69, 70] (by decide +kernel) (by decide +kernel)
set_option maxRecDepth 20000 in
theorem gX11_setCredit_X3_keep : GoodIn wsX11_setCredit (wsV RX11 149 RX3 yX3_keep wsX3_keep) := goodIn_app (goodIn_of _ (by decide +kernel)) ggX11_setCredit_X3_keep
theorem dX11_setCredit_0 : decode cX11_setCredit 0 = .ok (.aload_n 0, 1) := by decide +kernel
theorem dX11_setCredit_1 : decode cX11_setCredit 1 = .ok (.iload_n 1, 1) := by decide +kernel
theorem dX11_setCredit_2 : decode cX11_setCredit 2 = .ok (.invokevirtual 222, 3) := by decide +kernel
theorem dX11_setCredit_5 : decode cX11_setCredit 5 = .ok (.ifCond .ne 14, 3) := by decide +kernel
theorem dX11_setCredit_8 : decode cX11_setCredit 8 = .ok (.new 117, 3) := by decide +kernel
theorem dX11_setCredit_11 : decode cX11_setCredit 11 = .ok (.dup, 1) := by decide +kernel
theorem dX11_setCredit_12 : decode cX11_setCredit 12 = .ok (.ldc_w 490, 3) := by decide +kernel
theorem dX11_setCredit_15 : decode cX11_setCredit 15 = .ok (.invokespecial 121, 3) := by decide +kernel
theorem dX11_setCredit_18 : decode cX11_setCredit 18 = .ok (.athrow, 1) := by decide +kernel
theorem dX11_setCredit_19 : decode cX11_setCredit 19 = .ok (.aload_n 0, 1) := by decide +kernel
theorem dX11_setCredit_20 : decode cX11_setCredit 20 = .ok (.getfield 66, 3) := by decide +kernel
theorem dX11_setCredit_23 : decode cX11_setCredit 23 = .ok (.aload_n 0, 1) := by decide +kernel
theorem dX11_setCredit_24 : decode cX11_setCredit 24 = .ok (.getfield 53, 3) := by decide +kernel
theorem dX11_setCredit_27 : decode cX11_setCredit 27 = .ok (.invokevirtual 149, 3) := by decide +kernel
theorem dX11_setCredit_30 : decode cX11_setCredit 30 = .ok (.aload_n 0, 1) := by decide +kernel
theorem dX11_setCredit_31 : decode cX11_setCredit 31 = .ok (.getfield 53, 3) := by decide +kernel
theorem dX11_setCredit_34 : decode cX11_setCredit 34 = .ok (.getfield 245, 3) := by decide +kernel
theorem dX11_setCredit_37 : decode cX11_setCredit 37 = .ok (.istore_n 2, 1) := by decide +kernel
theorem dX11_setCredit_38 : decode cX11_setCredit 38 = .ok (.aload_n 0, 1) := by decide +kernel
theorem dX11_setCredit_39 : decode cX11_setCredit 39 = .ok (.getfield 53, 3) := by decide +kernel
theorem dX11_setCredit_42 : decode cX11_setCredit 42 = .ok (.iload_n 1, 1) := by decide +kernel
theorem dX11_setCredit_43 : decode cX11_setCredit 43 = .ok (.putfield 245, 3) := by decide +kernel
theorem dX11_setCredit_46 : decode cX11_setCredit 46 = .ok (.iload_n 2, 1) := by decide +kernel
theorem dX11_setCredit_47 : decode cX11_setCredit 47 = .ok (.ireturn, 1) := by decide +kernel
theorem dX11_isAllowance_0 : decode cX11_isAllowance 0 = .ok (.iload_n 1, 1) := by decide +kernel
theorem dX11_isAllowance_1 : decode cX11_isAllowance 1 = .ok (.ifCond .lt 13, 3) := by decide +kernel
theorem dX11_isAllowance_4 : decode cX11_isAllowance 4 = .ok (.iload_n 1, 1) := by decide +kernel
theorem dX11_isAllowance_5 : decode cX11_isAllowance 5 = .ok (.bipush 99, 2) := by decide +kernel
theorem dX11_isAllowance_7 : decode cX11_isAllowance 7 = .ok (.if_icmp .gt 7, 3) := by decide +kernel
theorem dX11_isAllowance_10 : decode cX11_isAllowance 10 = .ok (.iconst 1, 1) := by decide +kernel
theorem dX11_isAllowance_11 : decode cX11_isAllowance 11 = .ok (.goto 4, 3) := by decide +kernel
theorem dX11_isAllowance_14 : decode cX11_isAllowance 14 = .ok (.iconst 0, 1) := by decide +kernel
theorem dX11_isAllowance_15 : decode cX11_isAllowance 15 = .ok (.ireturn, 1) := by decide +kernel
set_option maxRecDepth 20000 in
theorem ggX11_report_X11_border : GoodIn wsX11_report wsX11_border := goodIn_r _ [11, 2, 12, 13, 14, 15, 10, 16, 5, 6, 17, 18, 19, 20, 21, 22, 23, 24, 25, 26, 27, 28, 54, 55, 56, 57, 58, 59, 60, 61, 62, 63, 64, 65, 66, 67, 68, 69, 70, 71, 72, 73, 74, 75, 76, 77, 78, 79, 80, 81, 82, 83, 84, 85, 86, 87, 88, 89, 90] (by decide +kernel) (by decide +kernel)
set_option maxRecDepth 20000 in
theorem gX11_report_X11_border : GoodIn wsX11_report (wsV RX11 492 RX11 yX11_border wsX11_border) := goodIn_app (goodIn_of _ (by decide +kernel)) ggX11_report_X11_border
set_option maxRecDepth 20000 in
theorem ggX11_report_X11_write : GoodIn wsX11_report wsX11_write := goodIn_r _ [32, 33, 1, 34, 35, 10, 36, 54, 55, 56, 57, 58, 59, 60, 61, 62, 63, 64, 65, 66, 67, 68, 69, 70, 71] (by decide +kernel) (by decide +kernel)
set_option maxRecDepth 20000 in
theorem gX11_report_X11_write : GoodIn wsX11_report (wsV RX11 498 RX11 yX11_write wsX11_write) := goodIn_app (goodIn_of _ (by decide +kernel)) ggX11_report_X11_write
set_option maxRecDepth 20000 in
theorem ggX11_report_X11_at : GoodIn wsX11_report wsX11_at := goodIn_r _ [21] (by decide +kernel) (by decide +kernel)
set_option maxRecDepth 20000 in
theorem gX11_report_X11_at : GoodIn wsX11_report (va_wsS RX11 164 yX11_at wsX11_at) := goodIn_app (goodIn_of _ (by decide +kernel)) ggX11_report_X11_at
set_option maxRecDepth 20000 in
theorem ggX11_report_X11_isIn : GoodIn wsX11_report wsX11_isIn := goodIn_r _ [39] (by decide +kernel) (by decide +kernel)
set_option maxRecDepth 20000 in
theorem gX11_report_X11_isIn : GoodIn wsX11_report (va_wsS RX11 486 yX11_isIn wsX11_isIn) := goodIn_app (goodIn_of _ (by decide +kernel)) ggX11_report_X11_isIn
set_option maxRecDepth 20000 in
theorem ggX11_report_X11_writeVertex : GoodIn wsX11_report wsX11_writeVertex := goodIn_r _ [43, 2, 29, 30, 31, 10, 32, 33, 1, 34, 35, 36, 44, 45, 46, 25, 47, 48, 49, 50, 51, 52, 53, 54, 55, 56, 57, 58, 59, 60, 61, 62, 63, 64, 65, 66, 67, 68, 69, 70, 71, 72, 73, 74, 75, 76, 77, 78, 79, 80, 81, 82, 83] (by decide +kernel) (by decide +kernel)
set_option maxRecDepth 20000 in
theorem gX11_report_X11_writeVertex : GoodIn wsX11_report (wsV RX11 501 RX11 yX11_writeVertex wsX11_writeVertex) := goodIn_app (goodIn_of _ (by decide +kernel)) ggX11_report_X11_writeVertex
theorem dX11_report_0 : decode cX11_report 0 = .ok (.aload_n 0, 1) := by decide +kernel
theorem dX11_report_1 : decode cX11_report 1 = .ok (.invokevirtual 492, 3) := by decide +kernel
theorem dX11_report_4 : decode cX11_report 4 = .ok (.istore_n 1, 1) := by decide +kernel
theorem dX11_report_5 : decode cX11_report 5 = .ok (.aload_n 0, 1) := by decide +kernel
theorem dX11_report_6 : decode cX11_report 6 = .ok (.iconst 0, 1) := by decide +kernel
theorem dX11_report_7 : decode cX11_report 7 = .ok (.putfield 495, 3) := by decide +kernel
theorem dX11_report_10 : decode cX11_report 10 = .ok (.iconst 0, 1) := by decide +kernel
theorem dX11_report_11 : decode cX11_report 11 = .ok (.istore_n 2, 1) := by decide +kernel
theorem dX11_report_12 : decode cX11_report 12 = .ok (.iload_n 2, 1) := by decide +kernel
theorem dX11_report_13 : decode cX11_report 13 = .ok (.aload_n 0, 1) := by decide +kernel
theorem dX11_report_14 : decode cX11_report 14 = .ok (.getfield 40, 3) := by decide +kernel
theorem dX11_report_17 : decode cX11_report 17 = .ok (.getfield 262, 3) := by decide +kernel
theorem dX11_report_20 : decode cX11_report 20 = .ok (.if_icmp .ge 73, 3) := by decide +kernel
theorem dX11_report_23 : decode cX11_report 23 = .ok (.aload_n 0, 1) := by decide +kernel
theorem dX11_report_24 : decode cX11_report 24 = .ok (.bipush 48, 2) := by decide +kernel
theorem dX11_report_26 : decode cX11_report 26 = .ok (.iload_n 2, 1) := by decide +kernel
theorem dX11_report_27 : decode cX11_report 27 = .ok (.iadd, 1) := by decide +kernel
theorem dX11_report_28 : decode cX11_report 28 = .ok (.invokevirtual 498, 3) := by decide +kernel
theorem dX11_report_31 : decode cX11_report 31 = .ok (.aload_n 0, 1) := by decide +kernel
theorem dX11_report_32 : decode cX11_report 32 = .ok (.bipush 58, 2) := by decide +kernel
theorem dX11_report_34 : decode cX11_report 34 = .ok (.invokevirtual 498, 3) := by decide +kernel
theorem dX11_report_37 : decode cX11_report 37 = .ok (.iconst 0, 1) := by decide +kernel
theorem dX11_report_38 : decode cX11_report 38 = .ok (.istore_n 3, 1) := by decide +kernel
theorem dX11_report_39 : decode cX11_report 39 = .ok (.iload_n 3, 1) := by decide +kernel
theorem dX11_report_40 : decode cX11_report 40 = .ok (.aload_n 0, 1) := by decide +kernel
theorem dX11_report_41 : decode cX11_report 41 = .ok (.getfield 40, 3) := by decide +kernel
theorem dX11_report_44 : decode cX11_report 44 = .ok (.getfield 141, 3) := by decide +kernel
theorem dX11_report_47 : decode cX11_report 47 = .ok (.if_icmp .ge 34, 3) := by decide +kernel
theorem dX11_report_50 : decode cX11_report 50 = .ok (.aload_n 0, 1) := by decide +kernel
theorem dX11_report_51 : decode cX11_report 51 = .ok (.getfield 53, 3) := by decide +kernel
theorem dX11_report_54 : decode cX11_report 54 = .ok (.getfield 315, 3) := by decide +kernel
theorem dX11_report_57 : decode cX11_report 57 = .ok (.iload_n 3, 1) := by decide +kernel
theorem dX11_report_58 : decode cX11_report 58 = .ok (.invokestatic 164, 3) := by decide +kernel
theorem dX11_report_61 : decode cX11_report 61 = .ok (.iload_n 2, 1) := by decide +kernel
theorem dX11_report_62 : decode cX11_report 62 = .ok (.if_icmp .ne 13, 3) := by decide +kernel
theorem dX11_report_65 : decode cX11_report 65 = .ok (.aload_n 0, 1) := by decide +kernel
theorem dX11_report_66 : decode cX11_report 66 = .ok (.iload_n 3, 1) := by decide +kernel
theorem dX11_report_67 : decode cX11_report 67 = .ok (.iload_n 1, 1) := by decide +kernel
theorem dX11_report_68 : decode cX11_report 68 = .ok (.iload_n 3, 1) := by decide +kernel
theorem dX11_report_69 : decode cX11_report 69 = .ok (.invokestatic 486, 3) := by decide +kernel
theorem dX11_report_72 : decode cX11_report 72 = .ok (.invokevirtual 501, 3) := by decide +kernel
theorem dX11_report_75 : decode cX11_report 75 = .ok (.iinc 3 1, 3) := by decide +kernel
theorem dX11_report_78 : decode cX11_report 78 = .ok (.goto (-39), 3) := by decide +kernel
theorem dX11_report_81 : decode cX11_report 81 = .ok (.aload_n 0, 1) := by decide +kernel
theorem dX11_report_82 : decode cX11_report 82 = .ok (.bipush 10, 2) := by decide +kernel
theorem dX11_report_84 : decode cX11_report 84 = .ok (.invokevirtual 498, 3) := by decide +kernel
theorem dX11_report_87 : decode cX11_report 87 = .ok (.iinc 2 1, 3) := by decide +kernel
theorem dX11_report_90 : decode cX11_report 90 = .ok (.goto (-78), 3) := by decide +kernel
theorem dX11_report_93 : decode cX11_report 93 = .ok (.aload_n 0, 1) := by decide +kernel
theorem dX11_report_94 : decode cX11_report 94 = .ok (.getfield 495, 3) := by decide +kernel
theorem dX11_report_97 : decode cX11_report 97 = .ok (.ireturn, 1) := by decide +kernel
set_option maxRecDepth 20000 in
theorem ggX11_writeVertex_X11_write : GoodIn wsX11_writeVertex wsX11_write := goodIn_r _ [6, 7, 8, 9, 10, 5, 11, 23, 24, 25, 26, 27, 28, 29, 30, 31, 32, 33, 34, 35, 36, 37, 38, 39, 40] (by decide +kernel) (by decide +kernel)
set_option maxRecDepth 20000 in
theorem gX11_writeVertex_X11_write : GoodIn wsX11_writeVertex (wsV RX11 498 RX11 yX11_write wsX11_write) := goodIn_app (goodIn_of _ (by decide +kernel)) ggX11_writeVertex_X11_write
set_option maxRecDepth 20000 in
theorem ggX11_writeVertex_X2_nameOf : GoodIn wsX11_writeVertex wsX2_nameOf := goodIn_r _ [16, 17, 41, 42, 43, 44, 45, 46, 47, 48, 49, 50, 51, 52] (by decide +kernel) (by decide +kernel)
set_option maxRecDepth 20000 in
theorem gX11_writeVertex_X2_nameOf : GoodIn wsX11_writeVertex (wsV RX11 505 RX2 yX2_nameOf wsX2_nameOf) := goodIn_app (goodIn_of _ (by decide +kernel)) ggX11_writeVertex_X2_nameOf
set_option maxRecDepth 20000 in
theorem ggX11_writeVertex_X10_letterAt : GoodIn wsX11_writeVertex wsX10_letterAt := goodIn_r _ [21, 22] (by decide +kernel) (by decide +kernel)
set_option maxRecDepth 20000 in
theorem gX11_writeVertex_X10_letterAt : GoodIn wsX11_writeVertex (va_wsS RX11 509 yX10_letterAt wsX10_letterAt) := goodIn_app (goodIn_of _ (by decide +kernel)) ggX11_writeVertex_X10_letterAt
theorem dX11_writeVertex_0 : decode cX11_writeVertex 0 = .ok (.aload_n 0, 1) := by decide +kernel
theorem dX11_writeVertex_1 : decode cX11_writeVertex 1 = .ok (.bipush 32, 2) := by decide +kernel
theorem dX11_writeVertex_3 : decode cX11_writeVertex 3 = .ok (.invokevirtual 498, 3) := by decide +kernel
theorem dX11_writeVertex_6 : decode cX11_writeVertex 6 = .ok (.aload_n 0, 1) := by decide +kernel
theorem dX11_writeVertex_7 : decode cX11_writeVertex 7 = .ok (.getfield 40, 3) := by decide +kernel
theorem dX11_writeVertex_10 : decode cX11_writeVertex 10 = .ok (.iload_n 1, 1) := by decide +kernel
theorem dX11_writeVertex_11 : decode cX11_writeVertex 11 = .ok (.invokevirtual 505, 3) := by decide +kernel
theorem dX11_writeVertex_14 : decode cX11_writeVertex 14 = .ok (.lstore_n 3, 1) := by decide +kernel
theorem dX11_writeVertex_15 : decode cX11_writeVertex 15 = .ok (.bipush 7, 2) := by decide +kernel
theorem dX11_writeVertex_17 : decode cX11_writeVertex 17 = .ok (.istore 5, 2) := by decide +kernel
theorem dX11_writeVertex_19 : decode cX11_writeVertex 19 = .ok (.iload 5, 2) := by decide +kernel
theorem dX11_writeVertex_21 : decode cX11_writeVertex 21 = .ok (.ifCond .lt 28, 3) := by decide +kernel
theorem dX11_writeVertex_24 : decode cX11_writeVertex 24 = .ok (.lload_n 3, 1) := by decide +kernel
theorem dX11_writeVertex_25 : decode cX11_writeVertex 25 = .ok (.iload 5, 2) := by decide +kernel
theorem dX11_writeVertex_27 : decode cX11_writeVertex 27 = .ok (.invokestatic 509, 3) := by decide +kernel
theorem dX11_writeVertex_30 : decode cX11_writeVertex 30 = .ok (.istore 6, 2) := by decide +kernel
theorem dX11_writeVertex_32 : decode cX11_writeVertex 32 = .ok (.iload 6, 2) := by decide +kernel
theorem dX11_writeVertex_34 : decode cX11_writeVertex 34 = .ok (.ifCond .eq 9, 3) := by decide +kernel
theorem dX11_writeVertex_37 : decode cX11_writeVertex 37 = .ok (.aload_n 0, 1) := by decide +kernel
theorem dX11_writeVertex_38 : decode cX11_writeVertex 38 = .ok (.iload 6, 2) := by decide +kernel
theorem dX11_writeVertex_40 : decode cX11_writeVertex 40 = .ok (.invokevirtual 498, 3) := by decide +kernel
theorem dX11_writeVertex_43 : decode cX11_writeVertex 43 = .ok (.iinc 5 (-1), 3) := by decide +kernel
theorem dX11_writeVertex_46 : decode cX11_writeVertex 46 = .ok (.goto (-27), 3) := by decide +kernel
theorem dX11_writeVertex_49 : decode cX11_writeVertex 49 = .ok (.iload_n 2, 1) := by decide +kernel
theorem dX11_writeVertex_50 : decode cX11_writeVertex 50 = .ok (.ifCond .eq 9, 3) := by decide +kernel
theorem dX11_writeVertex_53 : decode cX11_writeVertex 53 = .ok (.aload_n 0, 1) := by decide +kernel
theorem dX11_writeVertex_54 : decode cX11_writeVertex 54 = .ok (.bipush 43, 2) := by decide +kernel
theorem dX11_writeVertex_56 : decode cX11_writeVertex 56 = .ok (.invokevirtual 498, 3) := by decide +kernel
theorem dX11_writeVertex_59 : decode cX11_writeVertex 59 = .ok (.return_, 1) := by decide +kernel
set_option maxRecDepth 20000 in
theorem ggX11_write_X11_put : GoodIn wsX11_write wsX11_put := goodIn_r _ [6] (by decide +kernel) (by decide +kernel)
set_option maxRecDepth 20000 in
theorem gX11_write_X11_put : GoodIn wsX11_write (va_wsS RX11 513 yX11_put wsX11_put) := goodIn_app (goodIn_of _ (by decide +kernel)) ggX11_write_X11_put
theorem dX11_write_0 : decode cX11_write 0 = .ok (.aload_n 0, 1) := by decide +kernel
theorem dX11_write_1 : decode cX11_write 1 = .ok (.getfield 98, 3) := by decide +kernel
theorem dX11_write_4 : decode cX11_write 4 = .ok (.aload_n 0, 1) := by decide +kernel
theorem dX11_write_5 : decode cX11_write 5 = .ok (.getfield 495, 3) := by decide +kernel
theorem dX11_write_8 : decode cX11_write 8 = .ok (.iload_n 1, 1) := by decide +kernel
theorem dX11_write_9 : decode cX11_write 9 = .ok (.invokestatic 513, 3) := by decide +kernel
theorem dX11_write_12 : decode cX11_write 12 = .ok (.aload_n 0, 1) := by decide +kernel
theorem dX11_write_13 : decode cX11_write 13 = .ok (.dup, 1) := by decide +kernel
theorem dX11_write_14 : decode cX11_write 14 = .ok (.getfield 495, 3) := by decide +kernel
theorem dX11_write_17 : decode cX11_write 17 = .ok (.iconst 1, 1) := by decide +kernel
theorem dX11_write_18 : decode cX11_write 18 = .ok (.iadd, 1) := by decide +kernel
theorem dX11_write_19 : decode cX11_write 19 = .ok (.putfield 495, 3) := by decide +kernel
theorem dX11_write_22 : decode cX11_write 22 = .ok (.return_, 1) := by decide +kernel
set_option maxRecDepth 20000 in
theorem ggX11_reportByte_X11_at : GoodIn wsX11_reportByte wsX11_at := goodIn_r _ [8] (by decide +kernel) (by decide +kernel)
set_option maxRecDepth 20000 in
theorem gX11_reportByte_X11_at : GoodIn wsX11_reportByte (va_wsS RX11 164 yX11_at wsX11_at) := goodIn_app (goodIn_of _ (by decide +kernel)) ggX11_reportByte_X11_at
theorem dX11_reportByte_0 : decode cX11_reportByte 0 = .ok (.iload_n 1, 1) := by decide +kernel
theorem dX11_reportByte_1 : decode cX11_reportByte 1 = .ok (.ifCond .lt 11, 3) := by decide +kernel
theorem dX11_reportByte_4 : decode cX11_reportByte 4 = .ok (.iload_n 1, 1) := by decide +kernel
theorem dX11_reportByte_5 : decode cX11_reportByte 5 = .ok (.aload_n 0, 1) := by decide +kernel
theorem dX11_reportByte_6 : decode cX11_reportByte 6 = .ok (.getfield 495, 3) := by decide +kernel
theorem dX11_reportByte_9 : decode cX11_reportByte 9 = .ok (.if_icmp .lt 14, 3) := by decide +kernel
theorem dX11_reportByte_12 : decode cX11_reportByte 12 = .ok (.new 288, 3) := by decide +kernel
theorem dX11_reportByte_15 : decode cX11_reportByte 15 = .ok (.dup, 1) := by decide +kernel
theorem dX11_reportByte_16 : decode cX11_reportByte 16 = .ok (.ldc_w 517, 3) := by decide +kernel
theorem dX11_reportByte_19 : decode cX11_reportByte 19 = .ok (.invokespecial 292, 3) := by decide +kernel
theorem dX11_reportByte_22 : decode cX11_reportByte 22 = .ok (.athrow, 1) := by decide +kernel
theorem dX11_reportByte_23 : decode cX11_reportByte 23 = .ok (.aload_n 0, 1) := by decide +kernel
theorem dX11_reportByte_24 : decode cX11_reportByte 24 = .ok (.getfield 98, 3) := by decide +kernel
theorem dX11_reportByte_27 : decode cX11_reportByte 27 = .ok (.iload_n 1, 1) := by decide +kernel
theorem dX11_reportByte_28 : decode cX11_reportByte 28 = .ok (.invokestatic 164, 3) := by decide +kernel
theorem dX11_reportByte_31 : decode cX11_reportByte 31 = .ok (.ireturn, 1) := by decide +kernel
set_option maxRecDepth 20000 in
theorem ggX11_undo_X3_takeBack : GoodIn wsX11_undo wsX3_takeBack := goodIn_r _ [8, 9, 10, 11, 12, 13, 7, 14, 15, 16, 17, 18, 19, 20, 21, 22, 23, 24, 25, 26, 27, 28, 29, 30, 31, 32, 33, 34, 35, 36, 37, 38, 57, 58, 59, 60, 61, 62, 63, 64, 65, 66] (by decide +kernel) (by decide +kernel)
set_option maxRecDepth 20000 in
theorem gX11_undo_X3_takeBack : GoodIn wsX11_undo (wsV RX11 519 RX3 yX3_takeBack wsX3_takeBack) := goodIn_app (goodIn_of _ (by decide +kernel)) ggX11_undo_X3_takeBack
theorem dX11_undo_0 : decode cX11_undo 0 = .ok (.aload_n 0, 1) := by decide +kernel
theorem dX11_undo_1 : decode cX11_undo 1 = .ok (.getfield 66, 3) := by decide +kernel
theorem dX11_undo_4 : decode cX11_undo 4 = .ok (.aload_n 0, 1) := by decide +kernel
theorem dX11_undo_5 : decode cX11_undo 5 = .ok (.getfield 53, 3) := by decide +kernel
theorem dX11_undo_8 : decode cX11_undo 8 = .ok (.invokevirtual 519, 3) := by decide +kernel
theorem dX11_undo_11 : decode cX11_undo 11 = .ok (.ifCond .eq 13, 3) := by decide +kernel
theorem dX11_undo_14 : decode cX11_undo 14 = .ok (.aload_n 0, 1) := by decide +kernel
theorem dX11_undo_15 : decode cX11_undo 15 = .ok (.getfield 66, 3) := by decide +kernel
theorem dX11_undo_18 : decode cX11_undo 18 = .ok (.getfield 280, 3) := by decide +kernel
theorem dX11_undo_21 : decode cX11_undo 21 = .ok (.goto 4, 3) := by decide +kernel
theorem dX11_undo_24 : decode cX11_undo 24 = .ok (.iconst (-1), 1) := by decide +kernel
theorem dX11_undo_25 : decode cX11_undo 25 = .ok (.ireturn, 1) := by decide +kernel
set_option maxRecDepth 20000 in
theorem ggX11_save_X2_copyFrom : GoodIn wsX11_save wsX2_copyFrom := goodIn_r _ [10, 11, 12, 13, 14, 15, 16, 17, 18, 19, 20, 21, 22, 23, 24, 25, 26, 27, 28, 29, 30, 31, 32, 33, 34, 132, 133, 134, 135, 136, 137, 138, 139, 140, 141, 142, 143] (by decide +kernel) (by decide +kernel)
set_option maxRecDepth 20000 in
theorem gX11_save_X2_copyFrom : GoodIn wsX11_save (wsV RX11 131 RX2 yX2_copyFrom wsX2_copyFrom) := goodIn_app (goodIn_of _ (by decide +kernel)) ggX11_save_X2_copyFrom
set_option maxRecDepth 20000 in
theorem ggX11_save_X8_copyFrom : GoodIn wsX11_save wsX8_copyFrom := goodIn_r _ [39, 40, 41, 42, 43, 44, 45, 46, 27, 28, 29, 30, 31, 32, 33, 34, 20, 21, 22, 144, 145, 146, 147, 148, 149, 150] (by decide +kernel) (by decide +kernel)
set_option maxRecDepth 20000 in
theorem gX11_save_X8_copyFrom : GoodIn wsX11_save (wsV RX11 439 RX8 yX8_copyFrom wsX8_copyFrom) := goodIn_app (goodIn_of _ (by decide +kernel)) ggX11_save_X8_copyFrom
set_option maxRecDepth 20000 in
theorem ggX11_save_X11_cut : GoodIn wsX11_save wsX11_cut := goodIn_r _ [50, 51, 2, 4, 52, 53, 54, 55, 56, 57, 58, 59, 60, 61, 62, 63, 64, 65, 66, 67, 68, 38, 69, 44, 40, 70, 28, 71, 72, 73, 74, 9, 75, 13, 14, 16, 76, 77, 78, 79, 80, 81, 82, 83, 84, 85, 86, 87, 88, 89, 90, 91, 92, 93, 94, 95, 96, 97, 98, 99, 100, 101, 102, 103, 104, 105, 106, 107, 108, 109, 110, 111, 112, 113, 114, 115, 116, 117, 118, 119, 120, 121, 122, 123, 124, 125, 126, 127, 128, 129, 130, 131, 151, 152, 153, 154, 155, 156, 157, 158, 159, 160, 161, 162, 132, 133, 134, 135, 136, 137, 138, 139, 140, 141, 142, 143, 144, 145, 146, 147, 148, 149, 150] (by decide +kernel) (by decide +kernel)
set_option maxRecDepth 20000 in
theorem gX11_save_X11_cut : GoodIn wsX11_save (wsV RX11 366 RX11 yX11_cut wsX11_cut) := goodIn_app (goodIn_of _ (by decide +kernel)) ggX11_save_X11_cut
theorem dX11_save_0 : decode cX11_save 0 = .ok (.aload_n 0, 1) := by decide +kernel
theorem dX11_save_1 : decode cX11_save 1 = .ok (.getfield 47, 3) := by decide +kernel
theorem dX11_save_4 : decode cX11_save 4 = .ok (.aload_n 0, 1) := by decide +kernel
theorem dX11_save_5 : decode cX11_save 5 = .ok (.getfield 40, 3) := by decide +kernel
theorem dX11_save_8 : decode cX11_save 8 = .ok (.invokevirtual 131, 3) := by decide +kernel
theorem dX11_save_11 : decode cX11_save 11 = .ok (.aload_n 0, 1) := by decide +kernel
theorem dX11_save_12 : decode cX11_save 12 = .ok (.getfield 60, 3) := by decide +kernel
theorem dX11_save_15 : decode cX11_save 15 = .ok (.aload_n 0, 1) := by decide +kernel
theorem dX11_save_16 : decode cX11_save 16 = .ok (.getfield 53, 3) := by decide +kernel
theorem dX11_save_19 : decode cX11_save 19 = .ok (.invokevirtual 439, 3) := by decide +kernel
theorem dX11_save_22 : decode cX11_save 22 = .ok (.aload_n 0, 1) := by decide +kernel
theorem dX11_save_23 : decode cX11_save 23 = .ok (.iconst 1, 1) := by decide +kernel
theorem dX11_save_24 : decode cX11_save 24 = .ok (.putfield 523, 3) := by decide +kernel
theorem dX11_save_27 : decode cX11_save 27 = .ok (.aload_n 0, 1) := by decide +kernel
theorem dX11_save_28 : decode cX11_save 28 = .ok (.invokevirtual 366, 3) := by decide +kernel
theorem dX11_save_31 : decode cX11_save 31 = .ok (.ireturn, 1) := by decide +kernel
set_option maxRecDepth 20000 in
theorem ggX11_restore_X2_copyFrom : GoodIn wsX11_restore wsX2_copyFrom := goodIn_r _ [13, 14, 15, 16, 17, 18, 19, 20, 21, 22, 23, 24, 25, 26, 27, 28, 29, 30, 31, 32, 33, 34, 35, 36, 37, 141, 142, 143, 144, 145, 146, 147, 148, 149, 150, 151, 152] (by decide +kernel) (by decide +kernel)
set_option maxRecDepth 20000 in
theorem gX11_restore_X2_copyFrom : GoodIn wsX11_restore (wsV RX11 131 RX2 yX2_copyFrom wsX2_copyFrom) := goodIn_app (goodIn_of _ (by decide +kernel)) ggX11_restore_X2_copyFrom
set_option maxRecDepth 20000 in
theorem ggX11_restore_X8_copyFrom : GoodIn wsX11_restore wsX8_copyFrom := goodIn_r _ [42, 43, 44, 45, 46, 47, 48, 49, 30, 31, 32, 33, 34, 35, 36, 37, 23, 24, 25, 153, 154, 155, 156, 157, 158, 159] (by decide +kernel) (by decide +kernel)
set_option maxRecDepth 20000 in
theorem gX11_restore_X8_copyFrom : GoodIn wsX11_restore (wsV RX11 439 RX8 yX8_copyFrom wsX8_copyFrom) := goodIn_app (goodIn_of _ (by decide +kernel)) ggX11_restore_X8_copyFrom
set_option maxRecDepth 20000 in
theorem ggX11_restore_X3_forget : GoodIn wsX11_restore wsX3_forget := goodIn_r _ [54, 55, 160, 161, 162] (by decide +kernel) (by decide +kernel)
set_option maxRecDepth 20000 in
theorem gX11_restore_X3_forget : GoodIn wsX11_restore (wsV RX11 138 RX3 yX3_forget wsX3_forget) := goodIn_app (goodIn_of _ (by decide +kernel)) ggX11_restore_X3_forget
set_option maxRecDepth 20000 in
theorem ggX11_restore_X11_cut : GoodIn wsX11_restore wsX11_cut := goodIn_r _ [59, 60, 4, 6, 61, 62, 63, 64, 65, 66, 67, 68, 69, 70, 71, 72, 73, 74, 75, 76, 77, 41, 78, 47, 43, 79, 31, 80, 81, 82, 83, 12, 84, 16, 17, 19, 85, 86, 87, 88, 89, 90, 91, 92, 93, 94, 95, 96, 97, 98, 99, 100, 101, 102, 103, 104, 105, 106, 107, 108, 109, 110, 111, 112, 113, 114, 115, 116, 117, 118, 119, 120, 121, 122, 123, 124, 125, 126, 127, 128, 129, 130, 131, 132, 133, 134, 135, 136, 137, 138, 139, 140, 163, 164, 165, 166, 167, 168, 169, 170, 171, 172, 173, 174, 141, 142, 143, 144, 145, 146, 147, 148, 149, 150, 151, 152, 153, 154, 155, 156, 157, 158, 159] (by decide +kernel) (by decide +kernel)
set_option maxRecDepth 20000 in
theorem gX11_restore_X11_cut : GoodIn wsX11_restore (wsV RX11 366 RX11 yX11_cut wsX11_cut) := goodIn_app (goodIn_of _ (by decide +kernel)) ggX11_restore_X11_cut
theorem dX11_restore_0 : decode cX11_restore 0 = .ok (.aload_n 0, 1) := by decide +kernel
theorem dX11_restore_1 : decode cX11_restore 1 = .ok (.getfield 523, 3) := by decide +kernel
theorem dX11_restore_4 : decode cX11_restore 4 = .ok (.ifCond .ne 14, 3) := by decide +kernel
theorem dX11_restore_7 : decode cX11_restore 7 = .ok (.new 106, 3) := by decide +kernel
theorem dX11_restore_10 : decode cX11_restore 10 = .ok (.dup, 1) := by decide +kernel
theorem dX11_restore_11 : decode cX11_restore 11 = .ok (.ldc_w 526, 3) := by decide +kernel
theorem dX11_restore_14 : decode cX11_restore 14 = .ok (.invokespecial 110, 3) := by decide +kernel
theorem dX11_restore_17 : decode cX11_restore 17 = .ok (.athrow, 1) := by decide +kernel
theorem dX11_restore_18 : decode cX11_restore 18 = .ok (.aload_n 0, 1) := by decide +kernel
theorem dX11_restore_19 : decode cX11_restore 19 = .ok (.getfield 40, 3) := by decide +kernel
theorem dX11_restore_22 : decode cX11_restore 22 = .ok (.aload_n 0, 1) := by decide +kernel
theorem dX11_restore_23 : decode cX11_restore 23 = .ok (.getfield 47, 3) := by decide +kernel
theorem dX11_restore_26 : decode cX11_restore 26 = .ok (.invokevirtual 131, 3) := by decide +kernel
theorem dX11_restore_29 : decode cX11_restore 29 = .ok (.aload_n 0, 1) := by decide +kernel
theorem dX11_restore_30 : decode cX11_restore 30 = .ok (.getfield 53, 3) := by decide +kernel
theorem dX11_restore_33 : decode cX11_restore 33 = .ok (.aload_n 0, 1) := by decide +kernel
theorem dX11_restore_34 : decode cX11_restore 34 = .ok (.getfield 60, 3) := by decide +kernel
theorem dX11_restore_37 : decode cX11_restore 37 = .ok (.invokevirtual 439, 3) := by decide +kernel
theorem dX11_restore_40 : decode cX11_restore 40 = .ok (.aload_n 0, 1) := by decide +kernel
theorem dX11_restore_41 : decode cX11_restore 41 = .ok (.getfield 66, 3) := by decide +kernel
theorem dX11_restore_44 : decode cX11_restore 44 = .ok (.invokevirtual 138, 3) := by decide +kernel
theorem dX11_restore_47 : decode cX11_restore 47 = .ok (.aload_n 0, 1) := by decide +kernel
theorem dX11_restore_48 : decode cX11_restore 48 = .ok (.invokevirtual 366, 3) := by decide +kernel
theorem dX11_restore_51 : decode cX11_restore 51 = .ok (.ireturn, 1) := by decide +kernel
theorem dX11_at_0 : decode cX11_at 0 = .ok (.iload_n 1, 1) := by decide +kernel
theorem dX11_at_1 : decode cX11_at 1 = .ok (.ifCond .lt 15, 3) := by decide +kernel
theorem dX11_at_4 : decode cX11_at 4 = .ok (.iload_n 1, 1) := by decide +kernel
theorem dX11_at_5 : decode cX11_at 5 = .ok (.aload_n 0, 1) := by decide +kernel
theorem dX11_at_6 : decode cX11_at 6 = .ok (.arraylength, 1) := by decide +kernel
theorem dX11_at_7 : decode cX11_at 7 = .ok (.if_icmp .ge 9, 3) := by decide +kernel
theorem dX11_at_10 : decode cX11_at 10 = .ok (.aload_n 0, 1) := by decide +kernel
theorem dX11_at_11 : decode cX11_at 11 = .ok (.iload_n 1, 1) := by decide +kernel
theorem dX11_at_12 : decode cX11_at 12 = .ok (.iaload, 1) := by decide +kernel
theorem dX11_at_13 : decode cX11_at 13 = .ok (.goto 4, 3) := by decide +kernel
theorem dX11_at_16 : decode cX11_at 16 = .ok (.iconst 0, 1) := by decide +kernel
theorem dX11_at_17 : decode cX11_at 17 = .ok (.ireturn, 1) := by decide +kernel
theorem dX11_put_0 : decode cX11_put 0 = .ok (.iload_n 1, 1) := by decide +kernel
theorem dX11_put_1 : decode cX11_put 1 = .ok (.ifCond .lt 13, 3) := by decide +kernel
theorem dX11_put_4 : decode cX11_put 4 = .ok (.iload_n 1, 1) := by decide +kernel
theorem dX11_put_5 : decode cX11_put 5 = .ok (.aload_n 0, 1) := by decide +kernel
theorem dX11_put_6 : decode cX11_put 6 = .ok (.arraylength, 1) := by decide +kernel
theorem dX11_put_7 : decode cX11_put 7 = .ok (.if_icmp .ge 7, 3) := by decide +kernel
theorem dX11_put_10 : decode cX11_put 10 = .ok (.aload_n 0, 1) := by decide +kernel
theorem dX11_put_11 : decode cX11_put 11 = .ok (.iload_n 1, 1) := by decide +kernel
theorem dX11_put_12 : decode cX11_put 12 = .ok (.iload_n 2, 1) := by decide +kernel
theorem dX11_put_13 : decode cX11_put 13 = .ok (.iastore, 1) := by decide +kernel
theorem dX11_put_14 : decode cX11_put 14 = .ok (.return_, 1) := by decide +kernel
theorem dX11_add_0 : decode cX11_add 0 = .ok (.iload_n 1, 1) := by decide +kernel
theorem dX11_add_1 : decode cX11_add 1 = .ok (.ifCond .lt 16, 3) := by decide +kernel
theorem dX11_add_4 : decode cX11_add 4 = .ok (.iload_n 1, 1) := by decide +kernel
theorem dX11_add_5 : decode cX11_add 5 = .ok (.aload_n 0, 1) := by decide +kernel
theorem dX11_add_6 : decode cX11_add 6 = .ok (.arraylength, 1) := by decide +kernel
theorem dX11_add_7 : decode cX11_add 7 = .ok (.if_icmp .ge 10, 3) := by decide +kernel
theorem dX11_add_10 : decode cX11_add 10 = .ok (.aload_n 0, 1) := by decide +kernel
theorem dX11_add_11 : decode cX11_add 11 = .ok (.iload_n 1, 1) := by decide +kernel
theorem dX11_add_12 : decode cX11_add 12 = .ok (.dup2, 1) := by decide +kernel
theorem dX11_add_13 : decode cX11_add 13 = .ok (.iaload, 1) := by decide +kernel
theorem dX11_add_14 : decode cX11_add 14 = .ok (.iload_n 2, 1) := by decide +kernel
theorem dX11_add_15 : decode cX11_add 15 = .ok (.iadd, 1) := by decide +kernel
theorem dX11_add_16 : decode cX11_add 16 = .ok (.iastore, 1) := by decide +kernel
theorem dX11_add_17 : decode cX11_add 17 = .ok (.return_, 1) := by decide +kernel
theorem dX11_copy_0 : decode cX11_copy 0 = .ok (.aload_n 0, 1) := by decide +kernel
theorem dX11_copy_1 : decode cX11_copy 1 = .ok (.iconst 0, 1) := by decide +kernel
theorem dX11_copy_2 : decode cX11_copy 2 = .ok (.aload_n 1, 1) := by decide +kernel
theorem dX11_copy_3 : decode cX11_copy 3 = .ok (.iconst 0, 1) := by decide +kernel
theorem dX11_copy_4 : decode cX11_copy 4 = .ok (.aload_n 0, 1) := by decide +kernel
theorem dX11_copy_5 : decode cX11_copy 5 = .ok (.arraylength, 1) := by decide +kernel
theorem dX11_copy_6 : decode cX11_copy 6 = .ok (.aload_n 1, 1) := by decide +kernel
theorem dX11_copy_7 : decode cX11_copy 7 = .ok (.arraylength, 1) := by decide +kernel
theorem dX11_copy_8 : decode cX11_copy 8 = .ok (.invokestatic 528, 3) := by decide +kernel
theorem dX11_copy_11 : decode cX11_copy 11 = .ok (.invokestatic 533, 3) := by decide +kernel
theorem dX11_copy_14 : decode cX11_copy 14 = .ok (.return_, 1) := by decide +kernel
theorem dX11_isIn_0 : decode cX11_isIn 0 = .ok (.iload_n 0, 1) := by decide +kernel
theorem dX11_isIn_1 : decode cX11_isIn 1 = .ok (.iload_n 1, 1) := by decide +kernel
theorem dX11_isIn_2 : decode cX11_isIn 2 = .ok (.iushr, 1) := by decide +kernel
theorem dX11_isIn_3 : decode cX11_isIn 3 = .ok (.iconst 1, 1) := by decide +kernel
theorem dX11_isIn_4 : decode cX11_isIn 4 = .ok (.iand, 1) := by decide +kernel
theorem dX11_isIn_5 : decode cX11_isIn 5 = .ok (.ifCond .eq 7, 3) := by decide +kernel
theorem dX11_isIn_8 : decode cX11_isIn 8 = .ok (.iconst 1, 1) := by decide +kernel
theorem dX11_isIn_9 : decode cX11_isIn 9 = .ok (.goto 4, 3) := by decide +kernel
theorem dX11_isIn_12 : decode cX11_isIn 12 = .ok (.iconst 0, 1) := by decide +kernel
theorem dX11_isIn_13 : decode cX11_isIn 13 = .ok (.ireturn, 1) := by decide +kernel
