set_option maxRecDepth 20000 in
theorem ggL_law_L_back : GoodIn wsL_law wsL_back := goodIn_ca (goodIn_ca (goodIn_ca (goodIn_s _ [(1338, 1), (1130, 3), (2, 1), (1133, 1), (380, 1), (786, 1), (394, 1), (1134, 1), (835, 4), (390, 1), (374, 1), (705, 3), (389, 1), (708, 8), (454, 1), (716, 3), (379, 1), (719, 1), (438, 1), (671, 1), (552, 2), (720, 3), (373, 1), (723, 1), (427, 1), (544, 1), (546, 1), (724, 4), (450, 2), (453, 1), (728, 4), (452, 1), (732, 1), (677, 1), (122, 1), (678, 1), (733, 6), (505, 2), (739, 4), (455, 1), (743, 9), (839, 3), (393, 1), (842, 1), (459, 1), (843, 11), (460, 1), (854, 9), (778, 4), (515, 2), (521, 1), (768, 1), (704, 1), (782, 4), (386, 1), (787, 7), (542, 1), (794, 1), (113, 3), (760, 4), (543, 1), (631, 4), (431, 2), (795, 2), (225, 1), (797, 4), (1135, 4), (497, 2), (1139, 1), (944, 3), (385, 1), (947, 2), (683, 1), (949, 1), (131, 2), (950, 4), (446, 1), (954, 4), (673, 2), (437, 1), (439, 2), (663, 4), (134, 3), (1140, 9), (461, 1), (1149, 7), (1161, 4), (1018, 2), (74, 1), (1020, 5), (4, 1), (1025, 4), (7, 1), (1029, 1), (14, 2), (1030, 4), (17, 1), (1034, 4), (18, 1), (1038, 3), (36, 1), (1041, 1), (323, 1), (1042, 8), (24, 1), (1050, 11), (264, 1), (159, 1), (265, 1), (1061, 4), (42, 1), (806, 5), (1065, 4), (32, 1), (19, 1), (801, 5), (1069, 14), (1008, 1), (1083, 4), (774, 1), (1087, 4), (698, 2), (1091, 4), (752, 1), (1095, 10), (1010, 8), (1339, 18), (1413, 7), (1435, 5), (1423, 12), (1401, 12), (1420, 3), (1357, 13), (1374, 3)] rfl (by decide +kernel)) (goodIn_sub (fun _ h => List.mem_append_left _ (List.mem_append_right _ h)) (by decide +kernel))) (goodIn_sub (fun _ h => List.mem_append_left _ (List.mem_append_left _ (List.mem_append_right _ h))) (by decide +kernel))) (goodIn_sub (fun _ h => List.mem_append_right _ h) (by decide +kernel))
set_option maxRecDepth 20000 in
theorem gL_law_L_back : GoodIn wsL_law (va_wsS RL 195 yL_back wsL_back) := goodIn_app (goodIn_of _ (by decide +kernel)) ggL_law_L_back
theorem dL_law_0 : decode cL_law 0 = .ok (.aload_n 0, 1) := by decide +kernel
theorem dL_law_1 : decode cL_law 1 = .ok (.invokestatic 163, 3) := by decide +kernel
theorem dL_law_4 : decode cL_law 4 = .ok (.astore_n 1, 1) := by decide +kernel
theorem dL_law_5 : decode cL_law 5 = .ok (.new 27, 3) := by decide +kernel
theorem dL_law_8 : decode cL_law 8 = .ok (.dup, 1) := by decide +kernel
theorem dL_law_9 : decode cL_law 9 = .ok (.invokespecial 167, 3) := by decide +kernel
theorem dL_law_12 : decode cL_law 12 = .ok (.astore_n 2, 1) := by decide +kernel
theorem dL_law_13 : decode cL_law 13 = .ok (.aload_n 2, 1) := by decide +kernel
theorem dL_law_14 : decode cL_law 14 = .ok (.aload_n 1, 1) := by decide +kernel
theorem dL_law_15 : decode cL_law 15 = .ok (.getfield 168, 3) := by decide +kernel
theorem dL_law_18 : decode cL_law 18 = .ok (.invokestatic 172, 3) := by decide +kernel
theorem dL_law_21 : decode cL_law 21 = .ok (.ifCond .eq 14, 3) := by decide +kernel
theorem dL_law_24 : decode cL_law 24 = .ok (.aload_n 2, 1) := by decide +kernel
theorem dL_law_25 : decode cL_law 25 = .ok (.invokevirtual 176, 3) := by decide +kernel
theorem dL_law_28 : decode cL_law 28 = .ok (.aload_n 1, 1) := by decide +kernel
theorem dL_law_29 : decode cL_law 29 = .ok (.getfield 83, 3) := by decide +kernel
theorem dL_law_32 : decode cL_law 32 = .ok (.if_icmp .eq 5, 3) := by decide +kernel
theorem dL_law_35 : decode cL_law 35 = .ok (.iconst 0, 1) := by decide +kernel
theorem dL_law_36 : decode cL_law 36 = .ok (.ireturn, 1) := by decide +kernel
theorem dL_law_37 : decode cL_law 37 = .ok (.iconst 0, 1) := by decide +kernel
theorem dL_law_38 : decode cL_law 38 = .ok (.istore_n 3, 1) := by decide +kernel
theorem dL_law_39 : decode cL_law 39 = .ok (.iload_n 3, 1) := by decide +kernel
theorem dL_law_40 : decode cL_law 40 = .ok (.bipush 14, 2) := by decide +kernel
theorem dL_law_42 : decode cL_law 42 = .ok (.if_icmp .ge 45, 3) := by decide +kernel
theorem dL_law_45 : decode cL_law 45 = .ok (.aload_n 2, 1) := by decide +kernel
theorem dL_law_46 : decode cL_law 46 = .ok (.aload_n 1, 1) := by decide +kernel
theorem dL_law_47 : decode cL_law 47 = .ok (.invokestatic 179, 3) := by decide +kernel
theorem dL_law_50 : decode cL_law 50 = .ok (.ifCond .eq 29, 3) := by decide +kernel
theorem dL_law_53 : decode cL_law 53 = .ok (.aload_n 2, 1) := by decide +kernel
theorem dL_law_54 : decode cL_law 54 = .ok (.aload_n 1, 1) := by decide +kernel
theorem dL_law_55 : decode cL_law 55 = .ok (.invokestatic 183, 3) := by decide +kernel
theorem dL_law_58 : decode cL_law 58 = .ok (.ifCond .eq 21, 3) := by decide +kernel
theorem dL_law_61 : decode cL_law 61 = .ok (.aload_n 2, 1) := by decide +kernel
theorem dL_law_62 : decode cL_law 62 = .ok (.aload_n 1, 1) := by decide +kernel
theorem dL_law_63 : decode cL_law 63 = .ok (.aload_n 0, 1) := by decide +kernel
theorem dL_law_64 : decode cL_law 64 = .ok (.iload_n 3, 1) := by decide +kernel
theorem dL_law_65 : decode cL_law 65 = .ok (.invokestatic 185, 3) := by decide +kernel
theorem dL_law_68 : decode cL_law 68 = .ok (.ifCond .eq 11, 3) := by decide +kernel
theorem dL_law_71 : decode cL_law 71 = .ok (.aload_n 2, 1) := by decide +kernel
theorem dL_law_72 : decode cL_law 72 = .ok (.aload_n 1, 1) := by decide +kernel
theorem dL_law_73 : decode cL_law 73 = .ok (.invokestatic 189, 3) := by decide +kernel
theorem dL_law_76 : decode cL_law 76 = .ok (.ifCond .ne 5, 3) := by decide +kernel
theorem dL_law_79 : decode cL_law 79 = .ok (.iconst 0, 1) := by decide +kernel
theorem dL_law_80 : decode cL_law 80 = .ok (.ireturn, 1) := by decide +kernel
theorem dL_law_81 : decode cL_law 81 = .ok (.iinc 3 1, 3) := by decide +kernel
theorem dL_law_84 : decode cL_law 84 = .ok (.goto (-45), 3) := by decide +kernel
theorem dL_law_87 : decode cL_law 87 = .ok (.aload_n 2, 1) := by decide +kernel
theorem dL_law_88 : decode cL_law 88 = .ok (.aload_n 1, 1) := by decide +kernel
theorem dL_law_89 : decode cL_law 89 = .ok (.invokestatic 192, 3) := by decide +kernel
theorem dL_law_92 : decode cL_law 92 = .ok (.ifCond .eq 15, 3) := by decide +kernel
theorem dL_law_95 : decode cL_law 95 = .ok (.aload_n 2, 1) := by decide +kernel
theorem dL_law_96 : decode cL_law 96 = .ok (.aload_n 1, 1) := by decide +kernel
theorem dL_law_97 : decode cL_law 97 = .ok (.invokestatic 195, 3) := by decide +kernel
theorem dL_law_100 : decode cL_law 100 = .ok (.ifCond .eq 7, 3) := by decide +kernel
theorem dL_law_103 : decode cL_law 103 = .ok (.iconst 1, 1) := by decide +kernel
theorem dL_law_104 : decode cL_law 104 = .ok (.goto 4, 3) := by decide +kernel
theorem dL_law_107 : decode cL_law 107 = .ok (.iconst 0, 1) := by decide +kernel
theorem dL_law_108 : decode cL_law 108 = .ok (.ireturn, 1) := by decide +kernel
set_option maxRecDepth 20000 in
theorem ggL_shared_X11_part : GoodIn wsL_shared wsX11_part := goodIn_ca (goodIn_ca (goodIn_s _ [(7, 11), (6, 1), (18, 110), (299, 49)] rfl (by decide +kernel)) (goodIn_sub (fun _ h => List.mem_cons_of_mem _ (List.mem_append_left _ (List.mem_append_right _ h))) (by decide +kernel))) (goodIn_sub (fun _ h => List.mem_cons_of_mem _ (List.mem_append_right _ h)) (by decide +kernel))
set_option maxRecDepth 20000 in
theorem gL_shared_X11_part : GoodIn wsL_shared (wsV RL 198 RX11 yX11_part wsX11_part) := goodIn_app (goodIn_of _ (by decide +kernel)) ggL_shared_X11_part
set_option maxRecDepth 20000 in
theorem ggL_shared_X11_setting : GoodIn wsL_shared wsX11_setting := goodIn_ca (goodIn_s _ [(131, 1), (8, 2), (11, 1), (132, 1), (118, 1), (25, 1), (133, 1), (12, 1), (134, 7), (49, 7), (141, 1), (40, 7), (6, 1), (47, 1), (142, 4), (100, 1), (146, 4), (103, 11), (150, 7), (299, 18), (329, 22)] rfl (by decide +kernel)) (goodIn_sub (fun _ h => List.mem_cons_of_mem _ (List.mem_append_left _ (List.mem_append_right _ h))) (by decide +kernel))
set_option maxRecDepth 20000 in
theorem gL_shared_X11_setting : GoodIn wsL_shared (wsV RL 40 RX11 yX11_setting wsX11_setting) := goodIn_app (goodIn_of _ (by decide +kernel)) ggL_shared_X11_setting
set_option maxRecDepth 20000 in
theorem ggL_shared_X11_debts : GoodIn wsL_shared wsX11_debts := goodIn_s _ [(160, 1), (10, 3), (161, 1), (26, 21), (6, 1), (47, 47), (299, 49)] rfl (by decide +kernel)
set_option maxRecDepth 20000 in
theorem gL_shared_X11_debts : GoodIn wsL_shared (wsV RL 68 RX11 yX11_debts wsX11_debts) := goodIn_app (goodIn_of _ (by decide +kernel)) ggL_shared_X11_debts
set_option maxRecDepth 20000 in
theorem ggL_shared_X11_cut : GoodIn wsL_shared wsX11_cut := goodIn_s _ [(165, 1), (10, 3), (166, 1), (26, 21), (6, 1), (47, 47), (299, 49)] rfl (by decide +kernel)
set_option maxRecDepth 20000 in
theorem gL_shared_X11_cut : GoodIn wsL_shared (wsV RL 64 RX11 yX11_cut wsX11_cut) := goodIn_app (goodIn_of _ (by decide +kernel)) ggL_shared_X11_cut
set_option maxRecDepth 20000 in
theorem ggL_shared_X11_group : GoodIn wsL_shared wsX11_group := goodIn_ca (goodIn_ca (goodIn_s _ [(170, 1), (8, 5), (171, 6), (6, 1), (177, 1), (19, 2), (178, 4), (141, 1), (40, 8), (26, 14), (48, 47), (182, 4), (299, 30), (341, 7), (329, 12)] rfl (by decide +kernel)) (goodIn_sub (fun _ h => List.mem_cons_of_mem _ (List.mem_append_left _ (List.mem_append_right _ h))) (by decide +kernel))) (goodIn_sub (fun _ h => List.mem_cons_of_mem _ (List.mem_append_right _ h)) (by decide +kernel))
set_option maxRecDepth 20000 in
theorem gL_shared_X11_group : GoodIn wsL_shared (wsV RL 200 RX11 yX11_group wsX11_group) := goodIn_app (goodIn_of _ (by decide +kernel)) ggL_shared_X11_group
set_option maxRecDepth 20000 in
theorem ggL_shared_X11_mate : GoodIn wsL_shared wsX11_mate := goodIn_ca (goodIn_s _ [(189, 3), (174, 3), (6, 1), (177, 1), (19, 2), (178, 4), (12, 1), (141, 1), (40, 8), (192, 4), (10, 2), (26, 14), (48, 46), (196, 27), (94, 1), (299, 18), (351, 5), (341, 7), (317, 24)] rfl (by decide +kernel)) (goodIn_sub (fun _ h => List.mem_cons_of_mem _ (List.mem_append_right _ h)) (by decide +kernel))
set_option maxRecDepth 20000 in
theorem gL_shared_X11_mate : GoodIn wsL_shared (wsV RL 203 RX11 yX11_mate wsX11_mate) := goodIn_app (goodIn_of _ (by decide +kernel)) ggL_shared_X11_mate
set_option maxRecDepth 20000 in
theorem ggL_shared_X11_bestDebts : GoodIn wsL_shared wsX11_bestDebts := goodIn_s _ [(226, 6), (6, 1), (232, 1), (12, 1), (141, 1), (40, 8), (233, 4), (10, 2), (190, 1), (26, 14), (48, 46), (196, 13), (237, 29), (148, 1), (266, 15), (147, 1), (149, 1), (299, 18), (356, 5), (341, 7), (317, 24), (351, 5)] rfl (by decide +kernel)
set_option maxRecDepth 20000 in
theorem gL_shared_X11_bestDebts : GoodIn wsL_shared (wsV RL 206 RX11 yX11_bestDebts wsX11_bestDebts) := goodIn_app (goodIn_of _ (by decide +kernel)) ggL_shared_X11_bestDebts
set_option maxRecDepth 20000 in
theorem ggL_shared_X11_bestCut : GoodIn wsL_shared wsX11_bestCut := goodIn_s _ [(284, 1), (227, 1), (285, 1), (229, 3), (6, 1), (232, 1), (12, 1), (141, 1), (40, 8), (233, 4), (10, 2), (190, 1), (26, 14), (48, 46), (196, 13), (237, 29), (148, 1), (266, 15), (147, 1), (149, 1), (299, 18), (356, 5), (341, 7), (317, 24), (351, 5)] rfl (by decide +kernel)
set_option maxRecDepth 20000 in
theorem gL_shared_X11_bestCut : GoodIn wsL_shared (wsV RL 209 RX11 yX11_bestCut wsX11_bestCut) := goodIn_app (goodIn_of _ (by decide +kernel)) ggL_shared_X11_bestCut
theorem dL_shared_0 : decode cL_shared 0 = .ok (.iconst 0, 1) := by decide +kernel
theorem dL_shared_1 : decode cL_shared 1 = .ok (.istore_n 2, 1) := by decide +kernel
theorem dL_shared_2 : decode cL_shared 2 = .ok (.iconst 0, 1) := by decide +kernel
theorem dL_shared_3 : decode cL_shared 3 = .ok (.istore_n 3, 1) := by decide +kernel
theorem dL_shared_4 : decode cL_shared 4 = .ok (.iconst 0, 1) := by decide +kernel
theorem dL_shared_5 : decode cL_shared 5 = .ok (.istore 4, 2) := by decide +kernel
theorem dL_shared_7 : decode cL_shared 7 = .ok (.iconst 0, 1) := by decide +kernel
theorem dL_shared_8 : decode cL_shared 8 = .ok (.istore 5, 2) := by decide +kernel
theorem dL_shared_10 : decode cL_shared 10 = .ok (.iconst 0, 1) := by decide +kernel
theorem dL_shared_11 : decode cL_shared 11 = .ok (.istore 6, 2) := by decide +kernel
theorem dL_shared_13 : decode cL_shared 13 = .ok (.iload 6, 2) := by decide +kernel
theorem dL_shared_15 : decode cL_shared 15 = .ok (.aload_n 1, 1) := by decide +kernel
theorem dL_shared_16 : decode cL_shared 16 = .ok (.getfield 101, 3) := by decide +kernel
theorem dL_shared_19 : decode cL_shared 19 = .ok (.if_icmp .ge 67, 3) := by decide +kernel
theorem dL_shared_22 : decode cL_shared 22 = .ok (.iload_n 2, 1) := by decide +kernel
theorem dL_shared_23 : decode cL_shared 23 = .ok (.aload_n 0, 1) := by decide +kernel
theorem dL_shared_24 : decode cL_shared 24 = .ok (.iload 6, 2) := by decide +kernel
theorem dL_shared_26 : decode cL_shared 26 = .ok (.iconst 2, 1) := by decide +kernel
theorem dL_shared_27 : decode cL_shared 27 = .ok (.invokevirtual 198, 3) := by decide +kernel
theorem dL_shared_30 : decode cL_shared 30 = .ok (.iand, 1) := by decide +kernel
theorem dL_shared_31 : decode cL_shared 31 = .ok (.ifCond .eq 5, 3) := by decide +kernel
theorem dL_shared_34 : decode cL_shared 34 = .ok (.iconst 0, 1) := by decide +kernel
theorem dL_shared_35 : decode cL_shared 35 = .ok (.ireturn, 1) := by decide +kernel
theorem dL_shared_36 : decode cL_shared 36 = .ok (.iload_n 2, 1) := by decide +kernel
theorem dL_shared_37 : decode cL_shared 37 = .ok (.aload_n 0, 1) := by decide +kernel
theorem dL_shared_38 : decode cL_shared 38 = .ok (.iload 6, 2) := by decide +kernel
theorem dL_shared_40 : decode cL_shared 40 = .ok (.iconst 2, 1) := by decide +kernel
theorem dL_shared_41 : decode cL_shared 41 = .ok (.invokevirtual 198, 3) := by decide +kernel
theorem dL_shared_44 : decode cL_shared 44 = .ok (.ior, 1) := by decide +kernel
theorem dL_shared_45 : decode cL_shared 45 = .ok (.istore_n 2, 1) := by decide +kernel
theorem dL_shared_46 : decode cL_shared 46 = .ok (.iload_n 3, 1) := by decide +kernel
theorem dL_shared_47 : decode cL_shared 47 = .ok (.aload_n 0, 1) := by decide +kernel
theorem dL_shared_48 : decode cL_shared 48 = .ok (.iload 6, 2) := by decide +kernel
theorem dL_shared_50 : decode cL_shared 50 = .ok (.iconst 0, 1) := by decide +kernel
theorem dL_shared_51 : decode cL_shared 51 = .ok (.invokevirtual 198, 3) := by decide +kernel
theorem dL_shared_54 : decode cL_shared 54 = .ok (.iadd, 1) := by decide +kernel
theorem dL_shared_55 : decode cL_shared 55 = .ok (.istore_n 3, 1) := by decide +kernel
theorem dL_shared_56 : decode cL_shared 56 = .ok (.iload 5, 2) := by decide +kernel
theorem dL_shared_58 : decode cL_shared 58 = .ok (.aload_n 0, 1) := by decide +kernel
theorem dL_shared_59 : decode cL_shared 59 = .ok (.iload 6, 2) := by decide +kernel
theorem dL_shared_61 : decode cL_shared 61 = .ok (.iconst 1, 1) := by decide +kernel
theorem dL_shared_62 : decode cL_shared 62 = .ok (.invokevirtual 198, 3) := by decide +kernel
theorem dL_shared_65 : decode cL_shared 65 = .ok (.iadd, 1) := by decide +kernel
theorem dL_shared_66 : decode cL_shared 66 = .ok (.istore 5, 2) := by decide +kernel
theorem dL_shared_68 : decode cL_shared 68 = .ok (.iload 4, 2) := by decide +kernel
theorem dL_shared_70 : decode cL_shared 70 = .ok (.aload_n 0, 1) := by decide +kernel
theorem dL_shared_71 : decode cL_shared 71 = .ok (.iload 6, 2) := by decide +kernel
theorem dL_shared_73 : decode cL_shared 73 = .ok (.iconst 4, 1) := by decide +kernel
theorem dL_shared_74 : decode cL_shared 74 = .ok (.invokevirtual 198, 3) := by decide +kernel
theorem dL_shared_77 : decode cL_shared 77 = .ok (.iadd, 1) := by decide +kernel
theorem dL_shared_78 : decode cL_shared 78 = .ok (.istore 4, 2) := by decide +kernel
theorem dL_shared_80 : decode cL_shared 80 = .ok (.iinc 6 1, 3) := by decide +kernel
theorem dL_shared_83 : decode cL_shared 83 = .ok (.goto (-70), 3) := by decide +kernel
theorem dL_shared_86 : decode cL_shared 86 = .ok (.iload_n 2, 1) := by decide +kernel
theorem dL_shared_87 : decode cL_shared 87 = .ok (.iconst 1, 1) := by decide +kernel
theorem dL_shared_88 : decode cL_shared 88 = .ok (.aload_n 1, 1) := by decide +kernel
theorem dL_shared_89 : decode cL_shared 89 = .ok (.getfield 83, 3) := by decide +kernel
theorem dL_shared_92 : decode cL_shared 92 = .ok (.ishl, 1) := by decide +kernel
theorem dL_shared_93 : decode cL_shared 93 = .ok (.iconst 1, 1) := by decide +kernel
theorem dL_shared_94 : decode cL_shared 94 = .ok (.isub, 1) := by decide +kernel
theorem dL_shared_95 : decode cL_shared 95 = .ok (.if_icmp .ne 33, 3) := by decide +kernel
theorem dL_shared_98 : decode cL_shared 98 = .ok (.iload_n 3, 1) := by decide +kernel
theorem dL_shared_99 : decode cL_shared 99 = .ok (.aload_n 0, 1) := by decide +kernel
theorem dL_shared_100 : decode cL_shared 100 = .ok (.bipush 6, 2) := by decide +kernel
theorem dL_shared_102 : decode cL_shared 102 = .ok (.invokevirtual 40, 3) := by decide +kernel
theorem dL_shared_105 : decode cL_shared 105 = .ok (.if_icmp .ne 23, 3) := by decide +kernel
theorem dL_shared_108 : decode cL_shared 108 = .ok (.iload 5, 2) := by decide +kernel
theorem dL_shared_110 : decode cL_shared 110 = .ok (.aload_n 0, 1) := by decide +kernel
theorem dL_shared_111 : decode cL_shared 111 = .ok (.invokevirtual 68, 3) := by decide +kernel
theorem dL_shared_114 : decode cL_shared 114 = .ok (.if_icmp .ne 14, 3) := by decide +kernel
theorem dL_shared_117 : decode cL_shared 117 = .ok (.iload 4, 2) := by decide +kernel
theorem dL_shared_119 : decode cL_shared 119 = .ok (.iconst 2, 1) := by decide +kernel
theorem dL_shared_120 : decode cL_shared 120 = .ok (.aload_n 0, 1) := by decide +kernel
theorem dL_shared_121 : decode cL_shared 121 = .ok (.invokevirtual 64, 3) := by decide +kernel
theorem dL_shared_124 : decode cL_shared 124 = .ok (.imul, 1) := by decide +kernel
theorem dL_shared_125 : decode cL_shared 125 = .ok (.if_icmp .eq 5, 3) := by decide +kernel
theorem dL_shared_128 : decode cL_shared 128 = .ok (.iconst 0, 1) := by decide +kernel
theorem dL_shared_129 : decode cL_shared 129 = .ok (.ireturn, 1) := by decide +kernel
theorem dL_shared_130 : decode cL_shared 130 = .ok (.iconst 0, 1) := by decide +kernel
theorem dL_shared_131 : decode cL_shared 131 = .ok (.istore 6, 2) := by decide +kernel
theorem dL_shared_133 : decode cL_shared 133 = .ok (.iconst 0, 1) := by decide +kernel
theorem dL_shared_134 : decode cL_shared 134 = .ok (.istore 7, 2) := by decide +kernel
theorem dL_shared_136 : decode cL_shared 136 = .ok (.iload 7, 2) := by decide +kernel
theorem dL_shared_138 : decode cL_shared 138 = .ok (.aload_n 0, 1) := by decide +kernel
theorem dL_shared_139 : decode cL_shared 139 = .ok (.bipush 9, 2) := by decide +kernel
theorem dL_shared_141 : decode cL_shared 141 = .ok (.invokevirtual 40, 3) := by decide +kernel
theorem dL_shared_144 : decode cL_shared 144 = .ok (.if_icmp .ge 132, 3) := by decide +kernel
theorem dL_shared_147 : decode cL_shared 147 = .ok (.iload 6, 2) := by decide +kernel
theorem dL_shared_149 : decode cL_shared 149 = .ok (.aload_n 0, 1) := by decide +kernel
theorem dL_shared_150 : decode cL_shared 150 = .ok (.iload 7, 2) := by decide +kernel
theorem dL_shared_152 : decode cL_shared 152 = .ok (.iconst 0, 1) := by decide +kernel
theorem dL_shared_153 : decode cL_shared 153 = .ok (.invokevirtual 200, 3) := by decide +kernel
theorem dL_shared_156 : decode cL_shared 156 = .ok (.iand, 1) := by decide +kernel
theorem dL_shared_157 : decode cL_shared 157 = .ok (.ifCond .ne 33, 3) := by decide +kernel
theorem dL_shared_160 : decode cL_shared 160 = .ok (.aload_n 0, 1) := by decide +kernel
theorem dL_shared_161 : decode cL_shared 161 = .ok (.aload_n 0, 1) := by decide +kernel
theorem dL_shared_162 : decode cL_shared 162 = .ok (.iload 7, 2) := by decide +kernel
theorem dL_shared_164 : decode cL_shared 164 = .ok (.iconst 2, 1) := by decide +kernel
theorem dL_shared_165 : decode cL_shared 165 = .ok (.invokevirtual 200, 3) := by decide +kernel
theorem dL_shared_168 : decode cL_shared 168 = .ok (.iconst 2, 1) := by decide +kernel
theorem dL_shared_169 : decode cL_shared 169 = .ok (.invokevirtual 198, 3) := by decide +kernel
theorem dL_shared_172 : decode cL_shared 172 = .ok (.aload_n 0, 1) := by decide +kernel
theorem dL_shared_173 : decode cL_shared 173 = .ok (.iload 7, 2) := by decide +kernel
theorem dL_shared_175 : decode cL_shared 175 = .ok (.iconst 0, 1) := by decide +kernel
theorem dL_shared_176 : decode cL_shared 176 = .ok (.invokevirtual 200, 3) := by decide +kernel
theorem dL_shared_179 : decode cL_shared 179 = .ok (.iand, 1) := by decide +kernel
theorem dL_shared_180 : decode cL_shared 180 = .ok (.aload_n 0, 1) := by decide +kernel
theorem dL_shared_181 : decode cL_shared 181 = .ok (.iload 7, 2) := by decide +kernel
theorem dL_shared_183 : decode cL_shared 183 = .ok (.iconst 0, 1) := by decide +kernel
theorem dL_shared_184 : decode cL_shared 184 = .ok (.invokevirtual 200, 3) := by decide +kernel
theorem dL_shared_187 : decode cL_shared 187 = .ok (.if_icmp .eq 5, 3) := by decide +kernel
theorem dL_shared_190 : decode cL_shared 190 = .ok (.iconst 0, 1) := by decide +kernel
theorem dL_shared_191 : decode cL_shared 191 = .ok (.ireturn, 1) := by decide +kernel
theorem dL_shared_192 : decode cL_shared 192 = .ok (.iload 6, 2) := by decide +kernel
theorem dL_shared_194 : decode cL_shared 194 = .ok (.aload_n 0, 1) := by decide +kernel
theorem dL_shared_195 : decode cL_shared 195 = .ok (.iload 7, 2) := by decide +kernel
theorem dL_shared_197 : decode cL_shared 197 = .ok (.iconst 0, 1) := by decide +kernel
theorem dL_shared_198 : decode cL_shared 198 = .ok (.invokevirtual 200, 3) := by decide +kernel
theorem dL_shared_201 : decode cL_shared 201 = .ok (.ior, 1) := by decide +kernel
theorem dL_shared_202 : decode cL_shared 202 = .ok (.istore 6, 2) := by decide +kernel
theorem dL_shared_204 : decode cL_shared 204 = .ok (.aload_n 0, 1) := by decide +kernel
theorem dL_shared_205 : decode cL_shared 205 = .ok (.iload 7, 2) := by decide +kernel
theorem dL_shared_207 : decode cL_shared 207 = .ok (.invokevirtual 203, 3) := by decide +kernel
theorem dL_shared_210 : decode cL_shared 210 = .ok (.istore 8, 2) := by decide +kernel
theorem dL_shared_212 : decode cL_shared 212 = .ok (.iload 8, 2) := by decide +kernel
theorem dL_shared_214 : decode cL_shared 214 = .ok (.ifCond .lt 56, 3) := by decide +kernel
theorem dL_shared_217 : decode cL_shared 217 = .ok (.aload_n 0, 1) := by decide +kernel
theorem dL_shared_218 : decode cL_shared 218 = .ok (.iload 8, 2) := by decide +kernel
theorem dL_shared_220 : decode cL_shared 220 = .ok (.invokevirtual 203, 3) := by decide +kernel
theorem dL_shared_223 : decode cL_shared 223 = .ok (.iload 7, 2) := by decide +kernel
theorem dL_shared_225 : decode cL_shared 225 = .ok (.if_icmp .ne 43, 3) := by decide +kernel
theorem dL_shared_228 : decode cL_shared 228 = .ok (.aload_n 0, 1) := by decide +kernel
theorem dL_shared_229 : decode cL_shared 229 = .ok (.iload 7, 2) := by decide +kernel
theorem dL_shared_231 : decode cL_shared 231 = .ok (.iconst 1, 1) := by decide +kernel
theorem dL_shared_232 : decode cL_shared 232 = .ok (.invokevirtual 200, 3) := by decide +kernel
theorem dL_shared_235 : decode cL_shared 235 = .ok (.aload_n 0, 1) := by decide +kernel
theorem dL_shared_236 : decode cL_shared 236 = .ok (.iload 8, 2) := by decide +kernel
theorem dL_shared_238 : decode cL_shared 238 = .ok (.iconst 1, 1) := by decide +kernel
theorem dL_shared_239 : decode cL_shared 239 = .ok (.invokevirtual 200, 3) := by decide +kernel
theorem dL_shared_242 : decode cL_shared 242 = .ok (.iadd, 1) := by decide +kernel
theorem dL_shared_243 : decode cL_shared 243 = .ok (.aload_n 0, 1) := by decide +kernel
theorem dL_shared_244 : decode cL_shared 244 = .ok (.iconst 5, 1) := by decide +kernel
theorem dL_shared_245 : decode cL_shared 245 = .ok (.invokevirtual 40, 3) := by decide +kernel
theorem dL_shared_248 : decode cL_shared 248 = .ok (.if_icmp .gt 20, 3) := by decide +kernel
theorem dL_shared_251 : decode cL_shared 251 = .ok (.aload_n 0, 1) := by decide +kernel
theorem dL_shared_252 : decode cL_shared 252 = .ok (.iload 7, 2) := by decide +kernel
theorem dL_shared_254 : decode cL_shared 254 = .ok (.iconst 2, 1) := by decide +kernel
theorem dL_shared_255 : decode cL_shared 255 = .ok (.invokevirtual 200, 3) := by decide +kernel
theorem dL_shared_258 : decode cL_shared 258 = .ok (.aload_n 0, 1) := by decide +kernel
theorem dL_shared_259 : decode cL_shared 259 = .ok (.iload 8, 2) := by decide +kernel
theorem dL_shared_261 : decode cL_shared 261 = .ok (.iconst 2, 1) := by decide +kernel
theorem dL_shared_262 : decode cL_shared 262 = .ok (.invokevirtual 200, 3) := by decide +kernel
theorem dL_shared_265 : decode cL_shared 265 = .ok (.if_icmp .eq 5, 3) := by decide +kernel
theorem dL_shared_268 : decode cL_shared 268 = .ok (.iconst 0, 1) := by decide +kernel
theorem dL_shared_269 : decode cL_shared 269 = .ok (.ireturn, 1) := by decide +kernel
theorem dL_shared_270 : decode cL_shared 270 = .ok (.iinc 7 1, 3) := by decide +kernel
theorem dL_shared_273 : decode cL_shared 273 = .ok (.goto (-137), 3) := by decide +kernel
theorem dL_shared_276 : decode cL_shared 276 = .ok (.iload 6, 2) := by decide +kernel
theorem dL_shared_278 : decode cL_shared 278 = .ok (.iload_n 2, 1) := by decide +kernel
theorem dL_shared_279 : decode cL_shared 279 = .ok (.if_icmp .ne 69, 3) := by decide +kernel
theorem dL_shared_282 : decode cL_shared 282 = .ok (.aload_n 0, 1) := by decide +kernel
theorem dL_shared_283 : decode cL_shared 283 = .ok (.bipush 9, 2) := by decide +kernel
theorem dL_shared_285 : decode cL_shared 285 = .ok (.invokevirtual 40, 3) := by decide +kernel
theorem dL_shared_288 : decode cL_shared 288 = .ok (.bipush 7, 2) := by decide +kernel
theorem dL_shared_290 : decode cL_shared 290 = .ok (.if_icmp .le 14, 3) := by decide +kernel
theorem dL_shared_293 : decode cL_shared 293 = .ok (.aload_n 0, 1) := by decide +kernel
theorem dL_shared_294 : decode cL_shared 294 = .ok (.invokevirtual 206, 3) := by decide +kernel
theorem dL_shared_297 : decode cL_shared 297 = .ok (.iconst (-1), 1) := by decide +kernel
theorem dL_shared_298 : decode cL_shared 298 = .ok (.if_icmp .ne 50, 3) := by decide +kernel
theorem dL_shared_301 : decode cL_shared 301 = .ok (.goto 43, 3) := by decide +kernel
theorem dL_shared_304 : decode cL_shared 304 = .ok (.aload_n 0, 1) := by decide +kernel
theorem dL_shared_305 : decode cL_shared 305 = .ok (.invokevirtual 206, 3) := by decide +kernel
theorem dL_shared_308 : decode cL_shared 308 = .ok (.ifCond .lt 40, 3) := by decide +kernel
theorem dL_shared_311 : decode cL_shared 311 = .ok (.aload_n 0, 1) := by decide +kernel
theorem dL_shared_312 : decode cL_shared 312 = .ok (.invokevirtual 206, 3) := by decide +kernel
theorem dL_shared_315 : decode cL_shared 315 = .ok (.aload_n 0, 1) := by decide +kernel
theorem dL_shared_316 : decode cL_shared 316 = .ok (.invokevirtual 68, 3) := by decide +kernel
theorem dL_shared_319 : decode cL_shared 319 = .ok (.if_icmp .gt 29, 3) := by decide +kernel
theorem dL_shared_322 : decode cL_shared 322 = .ok (.aload_n 0, 1) := by decide +kernel
theorem dL_shared_323 : decode cL_shared 323 = .ok (.invokevirtual 206, 3) := by decide +kernel
theorem dL_shared_326 : decode cL_shared 326 = .ok (.aload_n 0, 1) := by decide +kernel
theorem dL_shared_327 : decode cL_shared 327 = .ok (.invokevirtual 68, 3) := by decide +kernel
theorem dL_shared_330 : decode cL_shared 330 = .ok (.if_icmp .lt 14, 3) := by decide +kernel
theorem dL_shared_333 : decode cL_shared 333 = .ok (.aload_n 0, 1) := by decide +kernel
theorem dL_shared_334 : decode cL_shared 334 = .ok (.invokevirtual 209, 3) := by decide +kernel
theorem dL_shared_337 : decode cL_shared 337 = .ok (.aload_n 0, 1) := by decide +kernel
theorem dL_shared_338 : decode cL_shared 338 = .ok (.invokevirtual 64, 3) := by decide +kernel
theorem dL_shared_341 : decode cL_shared 341 = .ok (.if_icmp .gt 7, 3) := by decide +kernel
theorem dL_shared_344 : decode cL_shared 344 = .ok (.iconst 1, 1) := by decide +kernel
theorem dL_shared_345 : decode cL_shared 345 = .ok (.goto 4, 3) := by decide +kernel
theorem dL_shared_348 : decode cL_shared 348 = .ok (.iconst 0, 1) := by decide +kernel
theorem dL_shared_349 : decode cL_shared 349 = .ok (.ireturn, 1) := by decide +kernel
set_option maxRecDepth 20000 in
theorem ggL_steps_X11_nextStep : GoodIn wsL_steps wsX11_nextStep := goodIn_s _ [(5, 25), (4, 1), (30, 67), (376, 49)] rfl (by decide +kernel)
set_option maxRecDepth 20000 in
theorem gL_steps_X11_nextStep : GoodIn wsL_steps (wsV RL 128 RX11 yX11_nextStep wsX11_nextStep) := goodIn_app (goodIn_of _ (by decide +kernel)) ggL_steps_X11_nextStep
set_option maxRecDepth 20000 in
theorem ggL_steps_X11_cut : GoodIn wsL_steps wsX11_cut := goodIn_s _ [(100, 1), (6, 3), (101, 1), (9, 21), (4, 1), (30, 47), (376, 49)] rfl (by decide +kernel)
set_option maxRecDepth 20000 in
theorem gL_steps_X11_cut : GoodIn wsL_steps (wsV RL 64 RX11 yX11_cut wsX11_cut) := goodIn_app (goodIn_of _ (by decide +kernel)) ggL_steps_X11_cut
set_option maxRecDepth 20000 in
theorem ggL_steps_X11_debts : GoodIn wsL_steps wsX11_debts := goodIn_s _ [(105, 1), (6, 3), (106, 1), (9, 21), (4, 1), (30, 47), (376, 49)] rfl (by decide +kernel)
set_option maxRecDepth 20000 in
theorem gL_steps_X11_debts : GoodIn wsL_steps (wsV RL 68 RX11 yX11_debts wsX11_debts) := goodIn_app (goodIn_of _ (by decide +kernel)) ggL_steps_X11_debts
set_option maxRecDepth 20000 in
theorem ggL_steps_X11_step : GoodIn wsL_steps wsX11_step := goodIn_s _ [(110, 2), (8, 1), (112, 1), (2, 6), (9, 88), (113, 41), (101, 1), (154, 16), (98, 3), (376, 52)] rfl (by decide +kernel)
set_option maxRecDepth 20000 in
theorem gL_steps_X11_step : GoodIn wsL_steps (wsV RL 134 RX11 yX11_step wsX11_step) := goodIn_app (goodIn_of _ (by decide +kernel)) ggL_steps_X11_step
set_option maxRecDepth 20000 in
theorem ggL_steps_X11_stepsToEnd : GoodIn wsL_steps wsX11_stepsToEnd := goodIn_ca (goodIn_s _ [(173, 1), (6, 2), (174, 4), (4, 1), (178, 7), (8, 1), (185, 1), (130, 2), (25, 1), (132, 1), (28, 1), (133, 3), (27, 1), (136, 5), (121, 3), (141, 8), (9, 16), (26, 1), (29, 68), (149, 5), (101, 1), (154, 15), (376, 18), (418, 7), (394, 24)] rfl (by decide +kernel)) (goodIn_sub (fun _ h => List.mem_cons_of_mem _ (List.mem_append_left _ (List.mem_append_right _ h))) (by decide +kernel))
set_option maxRecDepth 20000 in
theorem gL_steps_X11_stepsToEnd : GoodIn wsL_steps (wsV RL 212 RX11 yX11_stepsToEnd wsX11_stepsToEnd) := goodIn_app (goodIn_of _ (by decide +kernel)) ggL_steps_X11_stepsToEnd
set_option maxRecDepth 20000 in
theorem ggL_steps_X11_cutBehind : GoodIn wsL_steps wsX11_cutBehind := goodIn_ca (goodIn_s _ [(189, 1), (6, 2), (174, 1), (101, 1), (175, 3), (4, 1), (178, 7), (8, 1), (185, 1), (130, 2), (25, 1), (132, 1), (28, 1), (133, 3), (27, 1), (136, 5), (121, 3), (141, 8), (9, 16), (26, 1), (29, 68), (149, 20), (376, 30), (418, 7), (406, 12)] rfl (by decide +kernel)) (goodIn_sub (fun _ h => List.mem_cons_of_mem _ (List.mem_append_left _ (List.mem_append_right _ h))) (by decide +kernel))
set_option maxRecDepth 20000 in
theorem gL_steps_X11_cutBehind : GoodIn wsL_steps (wsV RL 215 RX11 yX11_cutBehind wsX11_cutBehind) := goodIn_app (goodIn_of _ (by decide +kernel)) ggL_steps_X11_cutBehind
set_option maxRecDepth 20000 in
theorem ggL_steps_X11_gain : GoodIn wsL_steps wsX11_gain := goodIn_ca (goodIn_s _ [(193, 1), (6, 3), (194, 3), (4, 1), (197, 8), (23, 8), (205, 9), (9, 14), (31, 46), (156, 1), (86, 3), (376, 18), (418, 7), (406, 12), (394, 12)] rfl (by decide +kernel)) (goodIn_sub (fun _ h => List.mem_cons_of_mem _ (List.mem_append_right _ h)) (by decide +kernel))
set_option maxRecDepth 20000 in
theorem gL_steps_X11_gain : GoodIn wsL_steps (wsV RL 218 RX11 yX11_gain wsX11_gain) := goodIn_app (goodIn_of _ (by decide +kernel)) ggL_steps_X11_gain
set_option maxRecDepth 20000 in
theorem ggL_steps_X11_debtsIf : GoodIn wsL_steps wsX11_debtsIf := goodIn_ca (goodIn_s _ [(217, 1), (6, 3), (194, 3), (4, 1), (197, 8), (23, 8), (205, 9), (9, 14), (31, 46), (218, 1), (90, 3), (376, 18), (418, 7), (406, 12), (394, 12)] rfl (by decide +kernel)) (goodIn_sub (fun _ h => List.mem_cons_of_mem _ (List.mem_append_right _ h)) (by decide +kernel))
set_option maxRecDepth 20000 in
theorem gL_steps_X11_debtsIf : GoodIn wsL_steps (wsV RL 221 RX11 yX11_debtsIf wsX11_debtsIf) := goodIn_app (goodIn_of _ (by decide +kernel)) ggL_steps_X11_debtsIf
set_option maxRecDepth 20000 in
theorem ggL_steps_X11_event : GoodIn wsL_steps wsX11_event := goodIn_ca (goodIn_ca (goodIn_s _ [(222, 1), (198, 2), (179, 2), (8, 1), (223, 2), (155, 1), (29, 1), (4, 1), (30, 1), (376, 18), (418, 7)] rfl (by decide +kernel)) (goodIn_sub (fun _ h => List.mem_cons_of_mem _ (List.mem_append_right _ h)) (by decide +kernel))) (goodIn_sub (fun _ h => List.mem_cons_of_mem _ (List.mem_append_left _ (List.mem_append_right _ h))) (by decide +kernel))
set_option maxRecDepth 20000 in
theorem gL_steps_X11_event : GoodIn wsL_steps (wsV RL 224 RX11 yX11_event wsX11_event) := goodIn_app (goodIn_of _ (by decide +kernel)) ggL_steps_X11_event
set_option maxRecDepth 20000 in
theorem ggL_steps_X11_undo : GoodIn wsL_steps wsX11_undo := goodIn_s _ [(228, 1), (111, 1), (8, 1), (229, 4), (116, 1), (233, 1), (118, 2), (124, 8), (25, 1), (132, 1), (28, 1), (133, 3), (27, 1), (136, 3), (4, 1), (139, 2), (121, 3), (141, 4), (376, 18), (425, 3), (418, 7)] rfl (by decide +kernel)
set_option maxRecDepth 20000 in
theorem gL_steps_X11_undo : GoodIn wsL_steps (wsV RL 227 RX11 yX11_undo wsX11_undo) := goodIn_app (goodIn_of _ (by decide +kernel)) ggL_steps_X11_undo
set_option maxRecDepth 20000 in
theorem ggL_steps_L_alike : GoodIn wsL_steps wsL_alike := goodIn_ca (goodIn_ca (goodIn_s _ [(237, 5), (121, 3), (242, 5), (4, 1), (247, 1), (179, 2), (7, 1), (248, 2), (213, 1), (250, 1), (8, 1), (251, 4), (111, 1), (229, 1), (255, 1), (32, 7), (204, 1), (23, 8), (256, 77), (97, 4), (6, 1), (101, 1), (9, 14), (31, 1), (39, 38), (333, 6), (102, 5), (339, 14), (223, 1), (353, 9), (198, 2), (362, 4), (155, 1), (366, 10), (428, 13), (376, 18), (406, 22), (441, 3), (394, 12)] rfl (by decide +kernel)) (goodIn_sub (fun _ h => List.mem_cons_of_mem _ (List.mem_append_left _ (List.mem_append_right _ h))) (by decide +kernel))) (goodIn_sub (fun _ h => List.mem_cons_of_mem _ (List.mem_append_right _ h)) (by decide +kernel))
set_option maxRecDepth 20000 in
theorem gL_steps_L_alike : GoodIn wsL_steps (va_wsS RL 189 yL_alike wsL_alike) := goodIn_app (goodIn_of _ (by decide +kernel)) ggL_steps_L_alike
theorem dL_steps_0 : decode cL_steps 0 = .ok (.aload_n 0, 1) := by decide +kernel
theorem dL_steps_1 : decode cL_steps 1 = .ok (.invokevirtual 128, 3) := by decide +kernel
theorem dL_steps_4 : decode cL_steps 4 = .ok (.istore_n 2, 1) := by decide +kernel
theorem dL_steps_5 : decode cL_steps 5 = .ok (.aload_n 0, 1) := by decide +kernel
theorem dL_steps_6 : decode cL_steps 6 = .ok (.invokevirtual 64, 3) := by decide +kernel
theorem dL_steps_9 : decode cL_steps 9 = .ok (.istore_n 3, 1) := by decide +kernel
theorem dL_steps_10 : decode cL_steps 10 = .ok (.aload_n 0, 1) := by decide +kernel
theorem dL_steps_11 : decode cL_steps 11 = .ok (.invokevirtual 68, 3) := by decide +kernel
theorem dL_steps_14 : decode cL_steps 14 = .ok (.istore 4, 2) := by decide +kernel
theorem dL_steps_16 : decode cL_steps 16 = .ok (.iload_n 2, 1) := by decide +kernel
theorem dL_steps_17 : decode cL_steps 17 = .ok (.ifCond .ge 34, 3) := by decide +kernel
theorem dL_steps_20 : decode cL_steps 20 = .ok (.aload_n 0, 1) := by decide +kernel
theorem dL_steps_21 : decode cL_steps 21 = .ok (.invokevirtual 134, 3) := by decide +kernel
theorem dL_steps_24 : decode cL_steps 24 = .ok (.iconst (-1), 1) := by decide +kernel
theorem dL_steps_25 : decode cL_steps 25 = .ok (.if_icmp .ne 24, 3) := by decide +kernel
theorem dL_steps_28 : decode cL_steps 28 = .ok (.aload_n 0, 1) := by decide +kernel
theorem dL_steps_29 : decode cL_steps 29 = .ok (.iconst 0, 1) := by decide +kernel
theorem dL_steps_30 : decode cL_steps 30 = .ok (.invokevirtual 212, 3) := by decide +kernel
theorem dL_steps_33 : decode cL_steps 33 = .ok (.ifCond .ne 16, 3) := by decide +kernel
theorem dL_steps_36 : decode cL_steps 36 = .ok (.aload_n 0, 1) := by decide +kernel
theorem dL_steps_37 : decode cL_steps 37 = .ok (.iconst 3, 1) := by decide +kernel
theorem dL_steps_38 : decode cL_steps 38 = .ok (.invokevirtual 215, 3) := by decide +kernel
theorem dL_steps_41 : decode cL_steps 41 = .ok (.iload_n 3, 1) := by decide +kernel
theorem dL_steps_42 : decode cL_steps 42 = .ok (.if_icmp .ne 7, 3) := by decide +kernel
theorem dL_steps_45 : decode cL_steps 45 = .ok (.iconst 1, 1) := by decide +kernel
theorem dL_steps_46 : decode cL_steps 46 = .ok (.goto 4, 3) := by decide +kernel
theorem dL_steps_49 : decode cL_steps 49 = .ok (.iconst 0, 1) := by decide +kernel
theorem dL_steps_50 : decode cL_steps 50 = .ok (.ireturn, 1) := by decide +kernel
theorem dL_steps_51 : decode cL_steps 51 = .ok (.aload_n 0, 1) := by decide +kernel
theorem dL_steps_52 : decode cL_steps 52 = .ok (.iload_n 2, 1) := by decide +kernel
theorem dL_steps_53 : decode cL_steps 53 = .ok (.bipush 10, 2) := by decide +kernel
theorem dL_steps_55 : decode cL_steps 55 = .ok (.idiv, 1) := by decide +kernel
theorem dL_steps_56 : decode cL_steps 56 = .ok (.iload_n 2, 1) := by decide +kernel
theorem dL_steps_57 : decode cL_steps 57 = .ok (.bipush 10, 2) := by decide +kernel
theorem dL_steps_59 : decode cL_steps 59 = .ok (.irem, 1) := by decide +kernel
theorem dL_steps_60 : decode cL_steps 60 = .ok (.invokevirtual 218, 3) := by decide +kernel
theorem dL_steps_63 : decode cL_steps 63 = .ok (.istore 5, 2) := by decide +kernel
theorem dL_steps_65 : decode cL_steps 65 = .ok (.aload_n 0, 1) := by decide +kernel
theorem dL_steps_66 : decode cL_steps 66 = .ok (.iload_n 2, 1) := by decide +kernel
theorem dL_steps_67 : decode cL_steps 67 = .ok (.bipush 10, 2) := by decide +kernel
theorem dL_steps_69 : decode cL_steps 69 = .ok (.idiv, 1) := by decide +kernel
theorem dL_steps_70 : decode cL_steps 70 = .ok (.iload_n 2, 1) := by decide +kernel
theorem dL_steps_71 : decode cL_steps 71 = .ok (.bipush 10, 2) := by decide +kernel
theorem dL_steps_73 : decode cL_steps 73 = .ok (.irem, 1) := by decide +kernel
theorem dL_steps_74 : decode cL_steps 74 = .ok (.invokevirtual 221, 3) := by decide +kernel
theorem dL_steps_77 : decode cL_steps 77 = .ok (.istore 6, 2) := by decide +kernel
theorem dL_steps_79 : decode cL_steps 79 = .ok (.aload_n 0, 1) := by decide +kernel
theorem dL_steps_80 : decode cL_steps 80 = .ok (.invokevirtual 134, 3) := by decide +kernel
theorem dL_steps_83 : decode cL_steps 83 = .ok (.iload_n 3, 1) := by decide +kernel
theorem dL_steps_84 : decode cL_steps 84 = .ok (.iload 5, 2) := by decide +kernel
theorem dL_steps_86 : decode cL_steps 86 = .ok (.isub, 1) := by decide +kernel
theorem dL_steps_87 : decode cL_steps 87 = .ok (.if_icmp .ne 37, 3) := by decide +kernel
theorem dL_steps_90 : decode cL_steps 90 = .ok (.aload_n 0, 1) := by decide +kernel
theorem dL_steps_91 : decode cL_steps 91 = .ok (.invokevirtual 68, 3) := by decide +kernel
theorem dL_steps_94 : decode cL_steps 94 = .ok (.iload 6, 2) := by decide +kernel
theorem dL_steps_96 : decode cL_steps 96 = .ok (.if_icmp .ne 28, 3) := by decide +kernel
theorem dL_steps_99 : decode cL_steps 99 = .ok (.iload 4, 2) := by decide +kernel
theorem dL_steps_101 : decode cL_steps 101 = .ok (.ifCond .le 18, 3) := by decide +kernel
theorem dL_steps_104 : decode cL_steps 104 = .ok (.iload 6, 2) := by decide +kernel
theorem dL_steps_106 : decode cL_steps 106 = .ok (.iload 4, 2) := by decide +kernel
theorem dL_steps_108 : decode cL_steps 108 = .ok (.if_icmp .lt 18, 3) := by decide +kernel
theorem dL_steps_111 : decode cL_steps 111 = .ok (.iload 5, 2) := by decide +kernel
theorem dL_steps_113 : decode cL_steps 113 = .ok (.ifCond .gt 13, 3) := by decide +kernel
theorem dL_steps_116 : decode cL_steps 116 = .ok (.goto 8, 3) := by decide +kernel
theorem dL_steps_119 : decode cL_steps 119 = .ok (.iload 5, 2) := by decide +kernel
theorem dL_steps_121 : decode cL_steps 121 = .ok (.ifCond .gt 5, 3) := by decide +kernel
theorem dL_steps_124 : decode cL_steps 124 = .ok (.iconst 0, 1) := by decide +kernel
theorem dL_steps_125 : decode cL_steps 125 = .ok (.ireturn, 1) := by decide +kernel
theorem dL_steps_126 : decode cL_steps 126 = .ok (.aload_n 0, 1) := by decide +kernel
theorem dL_steps_127 : decode cL_steps 127 = .ok (.iconst 0, 1) := by decide +kernel
theorem dL_steps_128 : decode cL_steps 128 = .ok (.iconst 0, 1) := by decide +kernel
theorem dL_steps_129 : decode cL_steps 129 = .ok (.invokevirtual 224, 3) := by decide +kernel
theorem dL_steps_132 : decode cL_steps 132 = .ok (.iload_n 2, 1) := by decide +kernel
theorem dL_steps_133 : decode cL_steps 133 = .ok (.bipush 10, 2) := by decide +kernel
theorem dL_steps_135 : decode cL_steps 135 = .ok (.idiv, 1) := by decide +kernel
theorem dL_steps_136 : decode cL_steps 136 = .ok (.if_icmp .ne 29, 3) := by decide +kernel
theorem dL_steps_139 : decode cL_steps 139 = .ok (.aload_n 0, 1) := by decide +kernel
theorem dL_steps_140 : decode cL_steps 140 = .ok (.iconst 0, 1) := by decide +kernel
theorem dL_steps_141 : decode cL_steps 141 = .ok (.iconst 2, 1) := by decide +kernel
theorem dL_steps_142 : decode cL_steps 142 = .ok (.invokevirtual 224, 3) := by decide +kernel
theorem dL_steps_145 : decode cL_steps 145 = .ok (.iload_n 2, 1) := by decide +kernel
theorem dL_steps_146 : decode cL_steps 146 = .ok (.bipush 10, 2) := by decide +kernel
theorem dL_steps_148 : decode cL_steps 148 = .ok (.irem, 1) := by decide +kernel
theorem dL_steps_149 : decode cL_steps 149 = .ok (.if_icmp .ne 16, 3) := by decide +kernel
theorem dL_steps_152 : decode cL_steps 152 = .ok (.aload_n 0, 1) := by decide +kernel
theorem dL_steps_153 : decode cL_steps 153 = .ok (.iconst 0, 1) := by decide +kernel
theorem dL_steps_154 : decode cL_steps 154 = .ok (.iconst 3, 1) := by decide +kernel
theorem dL_steps_155 : decode cL_steps 155 = .ok (.invokevirtual 224, 3) := by decide +kernel
theorem dL_steps_158 : decode cL_steps 158 = .ok (.aload_n 0, 1) := by decide +kernel
theorem dL_steps_159 : decode cL_steps 159 = .ok (.invokevirtual 64, 3) := by decide +kernel
theorem dL_steps_162 : decode cL_steps 162 = .ok (.if_icmp .eq 5, 3) := by decide +kernel
theorem dL_steps_165 : decode cL_steps 165 = .ok (.iconst 0, 1) := by decide +kernel
theorem dL_steps_166 : decode cL_steps 166 = .ok (.ireturn, 1) := by decide +kernel
theorem dL_steps_167 : decode cL_steps 167 = .ok (.aload_n 0, 1) := by decide +kernel
theorem dL_steps_168 : decode cL_steps 168 = .ok (.invokevirtual 227, 3) := by decide +kernel
theorem dL_steps_171 : decode cL_steps 171 = .ok (.ifCond .lt 15, 3) := by decide +kernel
theorem dL_steps_174 : decode cL_steps 174 = .ok (.aload_n 0, 1) := by decide +kernel
theorem dL_steps_175 : decode cL_steps 175 = .ok (.aload_n 1, 1) := by decide +kernel
theorem dL_steps_176 : decode cL_steps 176 = .ok (.invokestatic 189, 3) := by decide +kernel
theorem dL_steps_179 : decode cL_steps 179 = .ok (.ifCond .eq 7, 3) := by decide +kernel
theorem dL_steps_182 : decode cL_steps 182 = .ok (.iconst 1, 1) := by decide +kernel
theorem dL_steps_183 : decode cL_steps 183 = .ok (.goto 4, 3) := by decide +kernel
theorem dL_steps_186 : decode cL_steps 186 = .ok (.iconst 0, 1) := by decide +kernel
theorem dL_steps_187 : decode cL_steps 187 = .ok (.ireturn, 1) := by decide +kernel
set_option maxRecDepth 20000 in
theorem ggL_flows_X11_flow : GoodIn wsL_flows wsX11_flow := goodIn_ca (goodIn_s _ [(6, 7), (5, 1), (13, 53), (117, 36)] rfl (by decide +kernel)) (goodIn_sub (fun _ h => List.mem_cons_of_mem _ (List.mem_append_right _ h)) (by decide +kernel))
set_option maxRecDepth 20000 in
theorem gL_flows_X11_flow : GoodIn wsL_flows (wsV RL 230 RX11 yX11_flow wsX11_flow) := goodIn_app (goodIn_of _ (by decide +kernel)) ggL_flows_X11_flow
set_option maxRecDepth 20000 in
theorem ggL_flows_X11_between : GoodIn wsL_flows wsX11_between := goodIn_ca (goodIn_s _ [(69, 1), (8, 1), (70, 1), (10, 3), (5, 1), (13, 8), (71, 12), (43, 2), (83, 1), (117, 18), (141, 12)] rfl (by decide +kernel)) (goodIn_sub (fun _ h => List.mem_cons_of_mem _ (List.mem_append_right _ h)) (by decide +kernel))
set_option maxRecDepth 20000 in
theorem gL_flows_X11_between : GoodIn wsL_flows (wsV RL 232 RX11 yX11_between wsX11_between) := goodIn_app (goodIn_of _ (by decide +kernel)) ggL_flows_X11_between
set_option maxRecDepth 20000 in
theorem ggL_flows_X12_all : GoodIn wsL_flows wsX12_all := goodIn_s _ [(88, 2), (104, 13)] rfl (by decide +kernel)
set_option maxRecDepth 20000 in
theorem gL_flows_X12_all : GoodIn wsL_flows (wsV RL 235 RX12 yX12_all wsX12_all) := goodIn_app (goodIn_of _ (by decide +kernel)) ggL_flows_X12_all
set_option maxRecDepth 20000 in
theorem ggL_flows_X12_links : GoodIn wsL_flows wsX12_links := goodIn_s _ [(93, 1), (89, 1), (94, 1), (104, 13)] rfl (by decide +kernel)
set_option maxRecDepth 20000 in
theorem gL_flows_X12_links : GoodIn wsL_flows (wsV RL 238 RX12 yX12_links wsX12_links) := goodIn_app (goodIn_of _ (by decide +kernel)) ggL_flows_X12_links
set_option maxRecDepth 20000 in
theorem ggL_flows_X11_leastFlow : GoodIn wsL_flows wsX11_leastFlow := goodIn_s _ [(98, 1), (8, 1), (20, 1), (7, 1), (9, 1), (21, 23), (5, 1), (44, 22), (117, 18), (141, 12), (135, 6)] rfl (by decide +kernel)
set_option maxRecDepth 20000 in
theorem gL_flows_X11_leastFlow : GoodIn wsL_flows (wsV RL 241 RX11 yX11_leastFlow wsX11_leastFlow) := goodIn_app (goodIn_of _ (by decide +kernel)) ggL_flows_X11_leastFlow
set_option maxRecDepth 20000 in
theorem ggL_flows_X11_side : GoodIn wsL_flows wsX11_side := goodIn_ca (goodIn_s _ [(102, 1), (7, 2), (103, 1), (10, 3), (5, 1), (13, 53), (117, 36)] rfl (by decide +kernel)) (goodIn_sub (fun _ h => List.mem_cons_of_mem _ (List.mem_append_right _ h)) (by decide +kernel))
set_option maxRecDepth 20000 in
theorem gL_flows_X11_side : GoodIn wsL_flows (wsV RL 244 RX11 yX11_side wsX11_side) := goodIn_app (goodIn_of _ (by decide +kernel)) ggL_flows_X11_side
theorem dL_flows_0 : decode cL_flows 0 = .ok (.iconst 0, 1) := by decide +kernel
theorem dL_flows_1 : decode cL_flows 1 = .ok (.istore_n 2, 1) := by decide +kernel
theorem dL_flows_2 : decode cL_flows 2 = .ok (.iload_n 2, 1) := by decide +kernel
theorem dL_flows_3 : decode cL_flows 3 = .ok (.aload_n 1, 1) := by decide +kernel
theorem dL_flows_4 : decode cL_flows 4 = .ok (.getfield 83, 3) := by decide +kernel
theorem dL_flows_7 : decode cL_flows 7 = .ok (.if_icmp .ge 146, 3) := by decide +kernel
theorem dL_flows_10 : decode cL_flows 10 = .ok (.iconst 0, 1) := by decide +kernel
theorem dL_flows_11 : decode cL_flows 11 = .ok (.istore_n 3, 1) := by decide +kernel
theorem dL_flows_12 : decode cL_flows 12 = .ok (.iload_n 3, 1) := by decide +kernel
theorem dL_flows_13 : decode cL_flows 13 = .ok (.iload_n 2, 1) := by decide +kernel
theorem dL_flows_14 : decode cL_flows 14 = .ok (.if_icmp .ge 133, 3) := by decide +kernel
theorem dL_flows_17 : decode cL_flows 17 = .ok (.aload_n 0, 1) := by decide +kernel
theorem dL_flows_18 : decode cL_flows 18 = .ok (.iload_n 2, 1) := by decide +kernel
theorem dL_flows_19 : decode cL_flows 19 = .ok (.iload_n 3, 1) := by decide +kernel
theorem dL_flows_20 : decode cL_flows 20 = .ok (.invokevirtual 230, 3) := by decide +kernel
theorem dL_flows_23 : decode cL_flows 23 = .ok (.istore 4, 2) := by decide +kernel
theorem dL_flows_25 : decode cL_flows 25 = .ok (.iload 4, 2) := by decide +kernel
theorem dL_flows_27 : decode cL_flows 27 = .ok (.aload_n 0, 1) := by decide +kernel
theorem dL_flows_28 : decode cL_flows 28 = .ok (.iload_n 3, 1) := by decide +kernel
theorem dL_flows_29 : decode cL_flows 29 = .ok (.iload_n 2, 1) := by decide +kernel
theorem dL_flows_30 : decode cL_flows 30 = .ok (.invokevirtual 230, 3) := by decide +kernel
theorem dL_flows_33 : decode cL_flows 33 = .ok (.if_icmp .ne 45, 3) := by decide +kernel
theorem dL_flows_36 : decode cL_flows 36 = .ok (.iload 4, 2) := by decide +kernel
theorem dL_flows_38 : decode cL_flows 38 = .ok (.aload_n 0, 1) := by decide +kernel
theorem dL_flows_39 : decode cL_flows 39 = .ok (.iload_n 2, 1) := by decide +kernel
theorem dL_flows_40 : decode cL_flows 40 = .ok (.iload_n 3, 1) := by decide +kernel
theorem dL_flows_41 : decode cL_flows 41 = .ok (.invokevirtual 232, 3) := by decide +kernel
theorem dL_flows_44 : decode cL_flows 44 = .ok (.if_icmp .lt 34, 3) := by decide +kernel
theorem dL_flows_47 : decode cL_flows 47 = .ok (.iload 4, 2) := by decide +kernel
theorem dL_flows_49 : decode cL_flows 49 = .ok (.aload_n 1, 1) := by decide +kernel
theorem dL_flows_50 : decode cL_flows 50 = .ok (.iconst 1, 1) := by decide +kernel
theorem dL_flows_51 : decode cL_flows 51 = .ok (.iload_n 2, 1) := by decide +kernel
theorem dL_flows_52 : decode cL_flows 52 = .ok (.ishl, 1) := by decide +kernel
theorem dL_flows_53 : decode cL_flows 53 = .ok (.aload_n 1, 1) := by decide +kernel
theorem dL_flows_54 : decode cL_flows 54 = .ok (.invokevirtual 235, 3) := by decide +kernel
theorem dL_flows_57 : decode cL_flows 57 = .ok (.iconst 1, 1) := by decide +kernel
theorem dL_flows_58 : decode cL_flows 58 = .ok (.iload_n 2, 1) := by decide +kernel
theorem dL_flows_59 : decode cL_flows 59 = .ok (.ishl, 1) := by decide +kernel
theorem dL_flows_60 : decode cL_flows 60 = .ok (.iconst (-1), 1) := by decide +kernel
theorem dL_flows_61 : decode cL_flows 61 = .ok (.ixor, 1) := by decide +kernel
theorem dL_flows_62 : decode cL_flows 62 = .ok (.iand, 1) := by decide +kernel
theorem dL_flows_63 : decode cL_flows 63 = .ok (.invokevirtual 238, 3) := by decide +kernel
theorem dL_flows_66 : decode cL_flows 66 = .ok (.if_icmp .gt 12, 3) := by decide +kernel
theorem dL_flows_69 : decode cL_flows 69 = .ok (.iload 4, 2) := by decide +kernel
theorem dL_flows_71 : decode cL_flows 71 = .ok (.aload_n 0, 1) := by decide +kernel
theorem dL_flows_72 : decode cL_flows 72 = .ok (.invokevirtual 241, 3) := by decide +kernel
theorem dL_flows_75 : decode cL_flows 75 = .ok (.if_icmp .ge 5, 3) := by decide +kernel
theorem dL_flows_78 : decode cL_flows 78 = .ok (.iconst 0, 1) := by decide +kernel
theorem dL_flows_79 : decode cL_flows 79 = .ok (.ireturn, 1) := by decide +kernel
theorem dL_flows_80 : decode cL_flows 80 = .ok (.aload_n 0, 1) := by decide +kernel
theorem dL_flows_81 : decode cL_flows 81 = .ok (.iload_n 2, 1) := by decide +kernel
theorem dL_flows_82 : decode cL_flows 82 = .ok (.iload_n 3, 1) := by decide +kernel
theorem dL_flows_83 : decode cL_flows 83 = .ok (.invokevirtual 244, 3) := by decide +kernel
theorem dL_flows_86 : decode cL_flows 86 = .ok (.istore 5, 2) := by decide +kernel
theorem dL_flows_88 : decode cL_flows 88 = .ok (.iload 5, 2) := by decide +kernel
theorem dL_flows_90 : decode cL_flows 90 = .ok (.iload_n 2, 1) := by decide +kernel
theorem dL_flows_91 : decode cL_flows 91 = .ok (.ishr, 1) := by decide +kernel
theorem dL_flows_92 : decode cL_flows 92 = .ok (.iconst 1, 1) := by decide +kernel
theorem dL_flows_93 : decode cL_flows 93 = .ok (.iand, 1) := by decide +kernel
theorem dL_flows_94 : decode cL_flows 94 = .ok (.ifCond .eq 45, 3) := by decide +kernel
theorem dL_flows_97 : decode cL_flows 97 = .ok (.iload 5, 2) := by decide +kernel
theorem dL_flows_99 : decode cL_flows 99 = .ok (.iload_n 3, 1) := by decide +kernel
theorem dL_flows_100 : decode cL_flows 100 = .ok (.ishr, 1) := by decide +kernel
theorem dL_flows_101 : decode cL_flows 101 = .ok (.iconst 1, 1) := by decide +kernel
theorem dL_flows_102 : decode cL_flows 102 = .ok (.iand, 1) := by decide +kernel
theorem dL_flows_103 : decode cL_flows 103 = .ok (.iconst 1, 1) := by decide +kernel
theorem dL_flows_104 : decode cL_flows 104 = .ok (.if_icmp .eq 35, 3) := by decide +kernel
theorem dL_flows_107 : decode cL_flows 107 = .ok (.aload_n 1, 1) := by decide +kernel
theorem dL_flows_108 : decode cL_flows 108 = .ok (.iload 5, 2) := by decide +kernel
theorem dL_flows_110 : decode cL_flows 110 = .ok (.aload_n 1, 1) := by decide +kernel
theorem dL_flows_111 : decode cL_flows 111 = .ok (.invokevirtual 235, 3) := by decide +kernel
theorem dL_flows_114 : decode cL_flows 114 = .ok (.iload 5, 2) := by decide +kernel
theorem dL_flows_116 : decode cL_flows 116 = .ok (.iconst (-1), 1) := by decide +kernel
theorem dL_flows_117 : decode cL_flows 117 = .ok (.ixor, 1) := by decide +kernel
theorem dL_flows_118 : decode cL_flows 118 = .ok (.iand, 1) := by decide +kernel
theorem dL_flows_119 : decode cL_flows 119 = .ok (.invokevirtual 238, 3) := by decide +kernel
theorem dL_flows_122 : decode cL_flows 122 = .ok (.iload 4, 2) := by decide +kernel
theorem dL_flows_124 : decode cL_flows 124 = .ok (.if_icmp .ne 15, 3) := by decide +kernel
theorem dL_flows_127 : decode cL_flows 127 = .ok (.iload 5, 2) := by decide +kernel
theorem dL_flows_129 : decode cL_flows 129 = .ok (.aload_n 0, 1) := by decide +kernel
theorem dL_flows_130 : decode cL_flows 130 = .ok (.iload_n 3, 1) := by decide +kernel
theorem dL_flows_131 : decode cL_flows 131 = .ok (.iload_n 2, 1) := by decide +kernel
theorem dL_flows_132 : decode cL_flows 132 = .ok (.invokevirtual 244, 3) := by decide +kernel
theorem dL_flows_135 : decode cL_flows 135 = .ok (.iand, 1) := by decide +kernel
theorem dL_flows_136 : decode cL_flows 136 = .ok (.ifCond .eq 5, 3) := by decide +kernel
theorem dL_flows_139 : decode cL_flows 139 = .ok (.iconst 0, 1) := by decide +kernel
theorem dL_flows_140 : decode cL_flows 140 = .ok (.ireturn, 1) := by decide +kernel
theorem dL_flows_141 : decode cL_flows 141 = .ok (.iinc 3 1, 3) := by decide +kernel
theorem dL_flows_144 : decode cL_flows 144 = .ok (.goto (-132), 3) := by decide +kernel
theorem dL_flows_147 : decode cL_flows 147 = .ok (.iinc 2 1, 3) := by decide +kernel
theorem dL_flows_150 : decode cL_flows 150 = .ok (.goto (-148), 3) := by decide +kernel
theorem dL_flows_153 : decode cL_flows 153 = .ok (.iconst 1, 1) := by decide +kernel
theorem dL_flows_154 : decode cL_flows 154 = .ok (.ireturn, 1) := by decide +kernel
set_option maxRecDepth 20000 in
theorem ggL_back_X11_whyNotShrink : GoodIn wsL_back wsX11_whyNotShrink := goodIn_s _ [(5, 8), (4, 1), (13, 98), (340, 54)] rfl (by decide +kernel)
set_option maxRecDepth 20000 in
theorem gL_back_X11_whyNotShrink : GoodIn wsL_back (wsV RL 107 RX11 yX11_whyNotShrink wsX11_whyNotShrink) := goodIn_app (goodIn_of _ (by decide +kernel)) ggL_back_X11_whyNotShrink
set_option maxRecDepth 20000 in
theorem ggL_back_X11_setting : GoodIn wsL_back wsX11_setting := goodIn_ca (goodIn_s _ [(114, 3), (15, 1), (117, 4), (6, 1), (121, 3), (7, 1), (124, 3), (39, 7), (127, 1), (30, 7), (4, 1), (37, 1), (128, 27), (340, 18), (382, 12), (358, 7), (394, 3)] rfl (by decide +kernel)) (goodIn_sub (fun _ h => List.mem_cons_of_mem _ (List.mem_append_left _ (List.mem_append_left _ (List.mem_append_right _ h)))) (by decide +kernel))
set_option maxRecDepth 20000 in
theorem gL_back_X11_setting : GoodIn wsL_back (wsV RL 40 RX11 yX11_setting wsX11_setting) := goodIn_app (goodIn_of _ (by decide +kernel)) ggL_back_X11_setting
set_option maxRecDepth 20000 in
theorem ggL_back_X11_shrink : GoodIn wsL_back wsX11_shrink := goodIn_ca (goodIn_s _ [(158, 3), (124, 1), (6, 1), (161, 1), (2, 4), (7, 104), (162, 9), (135, 1), (171, 26), (117, 1), (197, 13), (127, 1), (340, 57)] rfl (by decide +kernel)) (goodIn_sub (fun _ h => List.mem_cons_of_mem _ (List.mem_append_left _ (List.mem_append_right _ h))) (by decide +kernel))
set_option maxRecDepth 20000 in
theorem gL_back_X11_shrink : GoodIn wsL_back (wsV RL 110 RX11 yX11_shrink wsX11_shrink) := goodIn_app (goodIn_of _ (by decide +kernel)) ggL_back_X11_shrink
set_option maxRecDepth 20000 in
theorem ggL_back_X11_grow : GoodIn wsL_back wsX11_grow := goodIn_ca (goodIn_s _ [(213, 1), (159, 2), (6, 2), (124, 1), (162, 9), (135, 1), (171, 9), (32, 1), (180, 1), (35, 1), (181, 3), (34, 1), (184, 3), (4, 1), (187, 6), (127, 1), (30, 2), (33, 1), (36, 2), (340, 25), (394, 3)] rfl (by decide +kernel)) (goodIn_sub (fun _ h => List.mem_cons_of_mem _ (List.mem_append_left _ (List.mem_append_right _ h))) (by decide +kernel))
set_option maxRecDepth 20000 in
theorem gL_back_X11_grow : GoodIn wsL_back (wsV RL 114 RX11 yX11_grow wsX11_grow) := goodIn_app (goodIn_of _ (by decide +kernel)) ggL_back_X11_grow
set_option maxRecDepth 20000 in
theorem ggL_back_L_alike : GoodIn wsL_back wsL_alike := goodIn_ca (goodIn_ca (goodIn_s _ [(217, 5), (170, 1), (135, 1), (171, 1), (222, 2), (111, 3), (4, 1), (114, 3), (15, 1), (117, 4), (6, 1), (121, 3), (7, 1), (124, 3), (39, 7), (127, 1), (30, 8), (128, 7), (136, 19), (224, 55), (14, 1), (279, 1), (16, 14), (38, 1), (46, 38), (280, 52), (397, 13), (340, 18), (382, 12), (358, 7), (394, 3), (410, 3), (370, 12)] rfl (by decide +kernel)) (goodIn_sub (fun _ h => List.mem_cons_of_mem _ (List.mem_append_left _ (List.mem_append_left _ (List.mem_append_right _ h)))) (by decide +kernel))) (goodIn_sub (fun _ h => List.mem_cons_of_mem _ (List.mem_append_right _ h)) (by decide +kernel))
set_option maxRecDepth 20000 in
theorem gL_back_L_alike : GoodIn wsL_back (va_wsS RL 189 yL_alike wsL_alike) := goodIn_app (goodIn_of _ (by decide +kernel)) ggL_back_L_alike
set_option maxRecDepth 20000 in
theorem ggL_back_X11_undo : GoodIn wsL_back wsX11_undo := goodIn_s _ [(335, 1), (124, 1), (6, 1), (125, 1), (336, 3), (165, 1), (339, 1), (167, 2), (172, 8), (32, 1), (180, 1), (35, 1), (181, 3), (34, 1), (184, 3), (4, 1), (187, 2), (170, 1), (135, 1), (171, 1), (189, 4), (340, 18), (394, 3), (358, 7)] rfl (by decide +kernel)
set_option maxRecDepth 20000 in
theorem gL_back_X11_undo : GoodIn wsL_back (wsV RL 227 RX11 yX11_undo wsX11_undo) := goodIn_app (goodIn_of _ (by decide +kernel)) ggL_back_X11_undo
theorem dL_back_0 : decode cL_back 0 = .ok (.aload_n 0, 1) := by decide +kernel
theorem dL_back_1 : decode cL_back 1 = .ok (.invokevirtual 107, 3) := by decide +kernel
theorem dL_back_4 : decode cL_back 4 = .ok (.ifCond .le 5, 3) := by decide +kernel
theorem dL_back_7 : decode cL_back 7 = .ok (.iconst 1, 1) := by decide +kernel
theorem dL_back_8 : decode cL_back 8 = .ok (.ireturn, 1) := by decide +kernel
theorem dL_back_9 : decode cL_back 9 = .ok (.aload_n 0, 1) := by decide +kernel
theorem dL_back_10 : decode cL_back 10 = .ok (.bipush 9, 2) := by decide +kernel
theorem dL_back_12 : decode cL_back 12 = .ok (.invokevirtual 40, 3) := by decide +kernel
theorem dL_back_15 : decode cL_back 15 = .ok (.istore_n 2, 1) := by decide +kernel
theorem dL_back_16 : decode cL_back 16 = .ok (.aload_n 0, 1) := by decide +kernel
theorem dL_back_17 : decode cL_back 17 = .ok (.invokevirtual 110, 3) := by decide +kernel
theorem dL_back_20 : decode cL_back 20 = .ok (.iload_n 2, 1) := by decide +kernel
theorem dL_back_21 : decode cL_back 21 = .ok (.if_icmp .ge 11, 3) := by decide +kernel
theorem dL_back_24 : decode cL_back 24 = .ok (.aload_n 0, 1) := by decide +kernel
theorem dL_back_25 : decode cL_back 25 = .ok (.invokevirtual 114, 3) := by decide +kernel
theorem dL_back_28 : decode cL_back 28 = .ok (.iload_n 2, 1) := by decide +kernel
theorem dL_back_29 : decode cL_back 29 = .ok (.if_icmp .eq 5, 3) := by decide +kernel
theorem dL_back_32 : decode cL_back 32 = .ok (.iconst 0, 1) := by decide +kernel
theorem dL_back_33 : decode cL_back 33 = .ok (.ireturn, 1) := by decide +kernel
theorem dL_back_34 : decode cL_back 34 = .ok (.aload_n 0, 1) := by decide +kernel
theorem dL_back_35 : decode cL_back 35 = .ok (.aload_n 1, 1) := by decide +kernel
theorem dL_back_36 : decode cL_back 36 = .ok (.invokestatic 189, 3) := by decide +kernel
theorem dL_back_39 : decode cL_back 39 = .ok (.ifCond .eq 29, 3) := by decide +kernel
theorem dL_back_42 : decode cL_back 42 = .ok (.aload_n 0, 1) := by decide +kernel
theorem dL_back_43 : decode cL_back 43 = .ok (.invokevirtual 227, 3) := by decide +kernel
theorem dL_back_46 : decode cL_back 46 = .ok (.ifCond .lt 22, 3) := by decide +kernel
theorem dL_back_49 : decode cL_back 49 = .ok (.aload_n 0, 1) := by decide +kernel
theorem dL_back_50 : decode cL_back 50 = .ok (.invokevirtual 227, 3) := by decide +kernel
theorem dL_back_53 : decode cL_back 53 = .ok (.ifCond .lt 15, 3) := by decide +kernel
theorem dL_back_56 : decode cL_back 56 = .ok (.aload_n 0, 1) := by decide +kernel
theorem dL_back_57 : decode cL_back 57 = .ok (.aload_n 1, 1) := by decide +kernel
theorem dL_back_58 : decode cL_back 58 = .ok (.invokestatic 189, 3) := by decide +kernel
theorem dL_back_61 : decode cL_back 61 = .ok (.ifCond .eq 7, 3) := by decide +kernel
theorem dL_back_64 : decode cL_back 64 = .ok (.iconst 1, 1) := by decide +kernel
theorem dL_back_65 : decode cL_back 65 = .ok (.goto 4, 3) := by decide +kernel
theorem dL_back_68 : decode cL_back 68 = .ok (.iconst 0, 1) := by decide +kernel
theorem dL_back_69 : decode cL_back 69 = .ok (.ireturn, 1) := by decide +kernel

