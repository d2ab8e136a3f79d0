theorem dL_cell_0 : decode cL_cell 0 = .ok (.iload_n 1, 1) := by decide +kernel
theorem dL_cell_1 : decode cL_cell 1 = .ok (.aload_n 0, 1) := by decide +kernel
theorem dL_cell_2 : decode cL_cell 2 = .ok (.arraylength, 1) := by decide +kernel
theorem dL_cell_3 : decode cL_cell 3 = .ok (.if_icmp .ge 9, 3) := by decide +kernel
theorem dL_cell_6 : decode cL_cell 6 = .ok (.aload_n 0, 1) := by decide +kernel
theorem dL_cell_7 : decode cL_cell 7 = .ok (.iload_n 1, 1) := by decide +kernel
theorem dL_cell_8 : decode cL_cell 8 = .ok (.iaload, 1) := by decide +kernel
theorem dL_cell_9 : decode cL_cell 9 = .ok (.goto 10, 3) := by decide +kernel
theorem dL_cell_12 : decode cL_cell 12 = .ok (.ldc 7, 2) := by decide +kernel
theorem dL_cell_14 : decode cL_cell 14 = .ok (.iload_n 1, 1) := by decide +kernel
theorem dL_cell_15 : decode cL_cell 15 = .ok (.imul, 1) := by decide +kernel
theorem dL_cell_16 : decode cL_cell 16 = .ok (.ldc 8, 2) := by decide +kernel
theorem dL_cell_18 : decode cL_cell 18 = .ok (.iadd, 1) := by decide +kernel
theorem dL_cell_19 : decode cL_cell 19 = .ok (.ireturn, 1) := by decide +kernel
set_option maxRecDepth 20000 in
theorem ggL_pick_L_cell : GoodIn wsL_pick wsL_cell := goodIn_s _ [(5, 3)] rfl (by decide +kernel)
set_option maxRecDepth 20000 in
theorem gL_pick_L_cell : GoodIn wsL_pick (va_wsS RL 9 yL_cell wsL_cell) := goodIn_app (goodIn_of _ (by decide +kernel)) ggL_pick_L_cell
theorem dL_pick_0 : decode cL_pick 0 = .ok (.aload_n 0, 1) := by decide +kernel
theorem dL_pick_1 : decode cL_pick 1 = .ok (.iload_n 1, 1) := by decide +kernel
theorem dL_pick_2 : decode cL_pick 2 = .ok (.invokestatic 9, 3) := by decide +kernel
theorem dL_pick_5 : decode cL_pick 5 = .ok (.ldc 15, 2) := by decide +kernel
theorem dL_pick_7 : decode cL_pick 7 = .ok (.iand, 1) := by decide +kernel
theorem dL_pick_8 : decode cL_pick 8 = .ok (.iload_n 2, 1) := by decide +kernel
theorem dL_pick_9 : decode cL_pick 9 = .ok (.irem, 1) := by decide +kernel
theorem dL_pick_10 : decode cL_pick 10 = .ok (.ireturn, 1) := by decide +kernel
set_option maxRecDepth 20000 in
theorem ggL_feeds_J0_length_8abf5 : GoodIn wsL_feeds wsJ0_length_8abf5 := goodIn_s _ [(6, 5), (5, 1), (11, 3), (79, 4)] rfl (by decide +kernel)
set_option maxRecDepth 20000 in
theorem gL_feeds_J0_length_8abf5 : GoodIn wsL_feeds (wsV RL 16 RJ0 yJ0_length_8abf5 wsJ0_length_8abf5) := goodIn_app (goodIn_of _ (by decide +kernel)) ggL_feeds_J0_length_8abf5
set_option maxRecDepth 20000 in
theorem ggL_feeds_J0_charAt_5068e : GoodIn wsL_feeds wsJ0_charAt_5068e := goodIn_s _ [(17, 1), (7, 1), (18, 3), (5, 1), (21, 1), (12, 2), (22, 29), (79, 4)] rfl (by decide +kernel)
set_option maxRecDepth 20000 in
theorem gL_feeds_J0_charAt_5068e : GoodIn wsL_feeds (wsV RL 22 RJ0 yJ0_charAt_5068e wsJ0_charAt_5068e) := goodIn_app (goodIn_of _ (by decide +kernel)) ggL_feeds_J0_charAt_5068e
set_option maxRecDepth 20000 in
theorem ggL_feeds_X11_feed : GoodIn wsL_feeds wsX11_feed := goodIn_ca (goodIn_s _ [(55, 13), (54, 1), (68, 1), (83, 30)] rfl (by decide +kernel)) (goodIn_sub (fun _ h => List.mem_cons_of_mem _ (List.mem_append_left _ (List.mem_append_right _ h))) (by decide +kernel))
set_option maxRecDepth 20000 in
theorem gL_feeds_X11_feed : GoodIn wsL_feeds (wsV RL 26 RX11 yX11_feed wsX11_feed) := goodIn_app (goodIn_of _ (by decide +kernel)) ggL_feeds_X11_feed
set_option maxRecDepth 20000 in
theorem ggL_feeds_J0_isEmpty_aae02 : GoodIn wsL_feeds wsJ0_isEmpty_aae02 := goodIn_s _ [(72, 1), (7, 1), (79, 4)] rfl (by decide +kernel)
set_option maxRecDepth 20000 in
theorem gL_feeds_J0_isEmpty_aae02 : GoodIn wsL_feeds (wsV RL 32 RJ0 yJ0_isEmpty_aae02 wsJ0_isEmpty_aae02) := goodIn_app (goodIn_of _ (by decide +kernel)) ggL_feeds_J0_isEmpty_aae02
set_option maxRecDepth 20000 in
theorem ggL_feeds_X11_truncate : GoodIn wsL_feeds wsX11_truncate := goodIn_ca (goodIn_s _ [(76, 3), (58, 2), (83, 30)] rfl (by decide +kernel)) (goodIn_sub (fun _ h => List.mem_cons_of_mem _ (List.mem_append_right _ h)) (by decide +kernel))
set_option maxRecDepth 20000 in
theorem gL_feeds_X11_truncate : GoodIn wsL_feeds (wsV RL 36 RX11 yX11_truncate wsX11_truncate) := goodIn_app (goodIn_of _ (by decide +kernel)) ggL_feeds_X11_truncate
theorem dL_feeds_0 : decode cL_feeds 0 = .ok (.iconst 0, 1) := by decide +kernel
theorem dL_feeds_1 : decode cL_feeds 1 = .ok (.istore_n 2, 1) := by decide +kernel
theorem dL_feeds_2 : decode cL_feeds 2 = .ok (.iconst 0, 1) := by decide +kernel
theorem dL_feeds_3 : decode cL_feeds 3 = .ok (.istore_n 3, 1) := by decide +kernel
theorem dL_feeds_4 : decode cL_feeds 4 = .ok (.iload_n 3, 1) := by decide +kernel
theorem dL_feeds_5 : decode cL_feeds 5 = .ok (.aload_n 1, 1) := by decide +kernel
theorem dL_feeds_6 : decode cL_feeds 6 = .ok (.invokevirtual 16, 3) := by decide +kernel
theorem dL_feeds_9 : decode cL_feeds 9 = .ok (.if_icmp .ge 97, 3) := by decide +kernel
theorem dL_feeds_12 : decode cL_feeds 12 = .ok (.iconst 5, 1) := by decide +kernel
theorem dL_feeds_13 : decode cL_feeds 13 = .ok (.newarray .int, 2) := by decide +kernel
theorem dL_feeds_15 : decode cL_feeds 15 = .ok (.astore 4, 2) := by decide +kernel
theorem dL_feeds_17 : decode cL_feeds 17 = .ok (.iconst 0, 1) := by decide +kernel
theorem dL_feeds_18 : decode cL_feeds 18 = .ok (.istore 5, 2) := by decide +kernel
theorem dL_feeds_20 : decode cL_feeds 20 = .ok (.iload 5, 2) := by decide +kernel
theorem dL_feeds_22 : decode cL_feeds 22 = .ok (.bipush 20, 2) := by decide +kernel
theorem dL_feeds_24 : decode cL_feeds 24 = .ok (.if_icmp .ge 51, 3) := by decide +kernel
theorem dL_feeds_27 : decode cL_feeds 27 = .ok (.aload 4, 2) := by decide +kernel
theorem dL_feeds_29 : decode cL_feeds 29 = .ok (.iload 5, 2) := by decide +kernel
theorem dL_feeds_31 : decode cL_feeds 31 = .ok (.iconst 4, 1) := by decide +kernel
theorem dL_feeds_32 : decode cL_feeds 32 = .ok (.idiv, 1) := by decide +kernel
theorem dL_feeds_33 : decode cL_feeds 33 = .ok (.aload 4, 2) := by decide +kernel
theorem dL_feeds_35 : decode cL_feeds 35 = .ok (.iload 5, 2) := by decide +kernel
theorem dL_feeds_37 : decode cL_feeds 37 = .ok (.iconst 4, 1) := by decide +kernel
theorem dL_feeds_38 : decode cL_feeds 38 = .ok (.idiv, 1) := by decide +kernel
theorem dL_feeds_39 : decode cL_feeds 39 = .ok (.iaload, 1) := by decide +kernel
theorem dL_feeds_40 : decode cL_feeds 40 = .ok (.bipush 8, 2) := by decide +kernel
theorem dL_feeds_42 : decode cL_feeds 42 = .ok (.ishl, 1) := by decide +kernel
theorem dL_feeds_43 : decode cL_feeds 43 = .ok (.iload_n 3, 1) := by decide +kernel
theorem dL_feeds_44 : decode cL_feeds 44 = .ok (.iload 5, 2) := by decide +kernel
theorem dL_feeds_46 : decode cL_feeds 46 = .ok (.iadd, 1) := by decide +kernel
theorem dL_feeds_47 : decode cL_feeds 47 = .ok (.aload_n 1, 1) := by decide +kernel
theorem dL_feeds_48 : decode cL_feeds 48 = .ok (.invokevirtual 16, 3) := by decide +kernel
theorem dL_feeds_51 : decode cL_feeds 51 = .ok (.if_icmp .ge 14, 3) := by decide +kernel
theorem dL_feeds_54 : decode cL_feeds 54 = .ok (.aload_n 1, 1) := by decide +kernel
theorem dL_feeds_55 : decode cL_feeds 55 = .ok (.iload_n 3, 1) := by decide +kernel
theorem dL_feeds_56 : decode cL_feeds 56 = .ok (.iload 5, 2) := by decide +kernel
theorem dL_feeds_58 : decode cL_feeds 58 = .ok (.iadd, 1) := by decide +kernel
theorem dL_feeds_59 : decode cL_feeds 59 = .ok (.invokevirtual 22, 3) := by decide +kernel
theorem dL_feeds_62 : decode cL_feeds 62 = .ok (.goto 5, 3) := by decide +kernel
theorem dL_feeds_65 : decode cL_feeds 65 = .ok (.bipush 32, 2) := by decide +kernel
theorem dL_feeds_67 : decode cL_feeds 67 = .ok (.ior, 1) := by decide +kernel
theorem dL_feeds_68 : decode cL_feeds 68 = .ok (.iastore, 1) := by decide +kernel
theorem dL_feeds_69 : decode cL_feeds 69 = .ok (.iinc 5 1, 3) := by decide +kernel
theorem dL_feeds_72 : decode cL_feeds 72 = .ok (.goto (-52), 3) := by decide +kernel
theorem dL_feeds_75 : decode cL_feeds 75 = .ok (.aload_n 0, 1) := by decide +kernel
theorem dL_feeds_76 : decode cL_feeds 76 = .ok (.aload 4, 2) := by decide +kernel
theorem dL_feeds_78 : decode cL_feeds 78 = .ok (.iconst 0, 1) := by decide +kernel
theorem dL_feeds_79 : decode cL_feeds 79 = .ok (.iaload, 1) := by decide +kernel
theorem dL_feeds_80 : decode cL_feeds 80 = .ok (.aload 4, 2) := by decide +kernel
theorem dL_feeds_82 : decode cL_feeds 82 = .ok (.iconst 1, 1) := by decide +kernel
theorem dL_feeds_83 : decode cL_feeds 83 = .ok (.iaload, 1) := by decide +kernel
theorem dL_feeds_84 : decode cL_feeds 84 = .ok (.aload 4, 2) := by decide +kernel
theorem dL_feeds_86 : decode cL_feeds 86 = .ok (.iconst 2, 1) := by decide +kernel
theorem dL_feeds_87 : decode cL_feeds 87 = .ok (.iaload, 1) := by decide +kernel
theorem dL_feeds_88 : decode cL_feeds 88 = .ok (.aload 4, 2) := by decide +kernel
theorem dL_feeds_90 : decode cL_feeds 90 = .ok (.iconst 3, 1) := by decide +kernel
theorem dL_feeds_91 : decode cL_feeds 91 = .ok (.iaload, 1) := by decide +kernel
theorem dL_feeds_92 : decode cL_feeds 92 = .ok (.aload 4, 2) := by decide +kernel
theorem dL_feeds_94 : decode cL_feeds 94 = .ok (.iconst 4, 1) := by decide +kernel
theorem dL_feeds_95 : decode cL_feeds 95 = .ok (.iaload, 1) := by decide +kernel
theorem dL_feeds_96 : decode cL_feeds 96 = .ok (.invokevirtual 26, 3) := by decide +kernel
theorem dL_feeds_99 : decode cL_feeds 99 = .ok (.istore_n 2, 1) := by decide +kernel
theorem dL_feeds_100 : decode cL_feeds 100 = .ok (.iinc 3 20, 3) := by decide +kernel
theorem dL_feeds_103 : decode cL_feeds 103 = .ok (.goto (-99), 3) := by decide +kernel
theorem dL_feeds_106 : decode cL_feeds 106 = .ok (.aload_n 1, 1) := by decide +kernel
theorem dL_feeds_107 : decode cL_feeds 107 = .ok (.invokevirtual 32, 3) := by decide +kernel
theorem dL_feeds_110 : decode cL_feeds 110 = .ok (.ifCond .ne 26, 3) := by decide +kernel
theorem dL_feeds_113 : decode cL_feeds 113 = .ok (.iload_n 2, 1) := by decide +kernel
theorem dL_feeds_114 : decode cL_feeds 114 = .ok (.aload_n 1, 1) := by decide +kernel
theorem dL_feeds_115 : decode cL_feeds 115 = .ok (.invokevirtual 16, 3) := by decide +kernel
theorem dL_feeds_118 : decode cL_feeds 118 = .ok (.if_icmp .lt 22, 3) := by decide +kernel
theorem dL_feeds_121 : decode cL_feeds 121 = .ok (.aload_n 0, 1) := by decide +kernel
theorem dL_feeds_122 : decode cL_feeds 122 = .ok (.aload_n 1, 1) := by decide +kernel
theorem dL_feeds_123 : decode cL_feeds 123 = .ok (.invokevirtual 16, 3) := by decide +kernel
theorem dL_feeds_126 : decode cL_feeds 126 = .ok (.invokevirtual 36, 3) := by decide +kernel
theorem dL_feeds_129 : decode cL_feeds 129 = .ok (.aload_n 1, 1) := by decide +kernel
theorem dL_feeds_130 : decode cL_feeds 130 = .ok (.invokevirtual 16, 3) := by decide +kernel
theorem dL_feeds_133 : decode cL_feeds 133 = .ok (.if_icmp .ne 7, 3) := by decide +kernel
theorem dL_feeds_136 : decode cL_feeds 136 = .ok (.iconst 1, 1) := by decide +kernel
theorem dL_feeds_137 : decode cL_feeds 137 = .ok (.goto 4, 3) := by decide +kernel
theorem dL_feeds_140 : decode cL_feeds 140 = .ok (.iconst 0, 1) := by decide +kernel
theorem dL_feeds_141 : decode cL_feeds 141 = .ok (.ireturn, 1) := by decide +kernel
set_option maxRecDepth 20000 in
theorem ggL_alike_X11_setting : GoodIn wsL_alike wsX11_setting := goodIn_ca (goodIn_s _ [(14, 31), (13, 1), (45, 8), (6, 1), (53, 19), (247, 40)] rfl (by decide +kernel)) (goodIn_sub (fun _ h => List.mem_cons_of_mem _ (List.mem_append_left _ (List.mem_append_right _ h))) (by decide +kernel))
set_option maxRecDepth 20000 in
theorem gL_alike_X11_setting : GoodIn wsL_alike (wsV RL 40 RX11 yX11_setting wsX11_setting) := goodIn_app (goodIn_of _ (by decide +kernel)) ggL_alike_X11_setting
set_option maxRecDepth 20000 in
theorem ggL_alike_X12_limit : GoodIn wsL_alike wsX12_limit := goodIn_s _ [(76, 6), (75, 1), (82, 7), (234, 13)] rfl (by decide +kernel)
set_option maxRecDepth 20000 in
theorem gL_alike_X12_limit : GoodIn wsL_alike (wsV RL 49 RX12 yX12_limit wsX12_limit) := goodIn_app (goodIn_of _ (by decide +kernel)) ggL_alike_X12_limit
set_option maxRecDepth 20000 in
theorem ggL_alike_Jx4a65c_size_8abf5 : GoodIn wsL_alike wsJx4a65c_size_8abf5 := goodIn_s _ [(93, 2), (287, 3)] rfl (by decide +kernel)
set_option maxRecDepth 20000 in
theorem gL_alike_Jx4a65c_size_8abf5_f56Jx4a65c : GoodIn wsL_alike (va_wsF RL 56 RJx4a65c ⟨"java/util/List", "size", "()I"⟩ yJx4a65c_size_8abf5 wsJx4a65c_size_8abf5) := goodIn_app (goodIn_of _ (by decide +kernel)) ggL_alike_Jx4a65c_size_8abf5
set_option maxRecDepth 20000 in
theorem ggL_alike_X12_groups : GoodIn wsL_alike wsX12_groups := goodIn_s _ [(98, 4), (75, 1), (102, 4), (90, 5), (106, 17), (234, 13), (287, 3)] rfl (by decide +kernel)
set_option maxRecDepth 20000 in
theorem gL_alike_X12_groups : GoodIn wsL_alike (wsV RL 61 RX12 yX12_groups wsX12_groups) := goodIn_app (goodIn_of _ (by decide +kernel)) ggL_alike_X12_groups
set_option maxRecDepth 20000 in
theorem ggL_alike_X11_cut : GoodIn wsL_alike wsX11_cut := goodIn_s _ [(126, 2), (17, 1), (22, 1), (128, 15), (38, 7), (13, 1), (45, 1), (143, 1), (30, 7), (144, 38), (247, 18), (290, 12), (265, 19)] rfl (by decide +kernel)
set_option maxRecDepth 20000 in
theorem gL_alike_X11_cut : GoodIn wsL_alike (wsV RL 64 RX11 yX11_cut wsX11_cut) := goodIn_app (goodIn_of _ (by decide +kernel)) ggL_alike_X11_cut
set_option maxRecDepth 20000 in
theorem ggL_alike_X12_cut : GoodIn wsL_alike wsX12_cut := goodIn_s _ [(185, 1), (83, 1), (186, 2), (234, 13)] rfl (by decide +kernel)
set_option maxRecDepth 20000 in
theorem gL_alike_X12_cut : GoodIn wsL_alike (wsV RL 67 RX12 yX12_cut wsX12_cut) := goodIn_app (goodIn_of _ (by decide +kernel)) ggL_alike_X12_cut
set_option maxRecDepth 20000 in
theorem ggL_alike_X11_debts : GoodIn wsL_alike wsX11_debts := goodIn_s _ [(191, 1), (127, 1), (17, 1), (22, 1), (192, 1), (129, 14), (38, 7), (13, 1), (45, 1), (143, 1), (30, 7), (144, 38), (247, 18), (290, 12), (265, 19)] rfl (by decide +kernel)
set_option maxRecDepth 20000 in
theorem gL_alike_X11_debts : GoodIn wsL_alike (wsV RL 68 RX11 yX11_debts wsX11_debts) := goodIn_app (goodIn_of _ (by decide +kernel)) ggL_alike_X11_debts
set_option maxRecDepth 20000 in
theorem ggL_alike_X12_debts : GoodIn wsL_alike wsX12_debts := goodIn_s _ [(196, 1), (77, 1), (197, 1), (52, 1), (6, 1), (53, 1), (198, 3), (75, 1), (201, 1), (83, 1), (186, 1), (84, 5), (202, 1), (73, 2), (76, 1), (78, 5), (234, 13)] rfl (by decide +kernel)
set_option maxRecDepth 20000 in
theorem gL_alike_X12_debts : GoodIn wsL_alike (wsV RL 71 RX12 yX12_debts wsX12_debts) := goodIn_app (goodIn_of _ (by decide +kernel)) ggL_alike_X12_debts
set_option maxRecDepth 20000 in
theorem ggL_alike_X11_events : GoodIn wsL_alike wsX11_events := goodIn_s _ [(206, 1), (22, 1), (207, 1), (247, 18), (277, 7)] rfl (by decide +kernel)
set_option maxRecDepth 20000 in
theorem gL_alike_X11_events : GoodIn wsL_alike (wsV RL 72 RX11 yX11_events wsX11_events) := goodIn_app (goodIn_of _ (by decide +kernel)) ggL_alike_X11_events
set_option maxRecDepth 20000 in
theorem ggL_alike_X11_partOf : GoodIn wsL_alike wsX11_partOf := goodIn_ca (goodIn_s _ [(211, 1), (22, 1), (212, 4), (13, 1), (216, 7), (17, 2), (223, 1), (44, 2), (247, 18), (277, 7), (265, 12)] rfl (by decide +kernel)) (goodIn_sub (fun _ h => List.mem_cons_of_mem _ (List.mem_append_right _ h)) (by decide +kernel))
set_option maxRecDepth 20000 in
theorem gL_alike_X11_partOf : GoodIn wsL_alike (wsV RL 86 RX11 yX11_partOf wsX11_partOf) := goodIn_app (goodIn_of _ (by decide +kernel)) ggL_alike_X11_partOf
set_option maxRecDepth 20000 in
theorem ggL_alike_X11_groupOf : GoodIn wsL_alike wsX11_groupOf := goodIn_ca (goodIn_s _ [(227, 1), (22, 1), (228, 1), (213, 3), (13, 1), (216, 7), (17, 2), (229, 1), (161, 2), (40, 1), (163, 1), (43, 1), (223, 1), (44, 2), (247, 18), (277, 7), (265, 12)] rfl (by decide +kernel)) (goodIn_sub (fun _ h => List.mem_cons_of_mem _ (List.mem_append_right _ h)) (by decide +kernel))
set_option maxRecDepth 20000 in
theorem gL_alike_X11_groupOf : GoodIn wsL_alike (wsV RL 93 RX11 yX11_groupOf wsX11_groupOf) := goodIn_app (goodIn_of _ (by decide +kernel)) ggL_alike_X11_groupOf
set_option maxRecDepth 20000 in
theorem ggL_alike_X12_groupOf : GoodIn wsL_alike wsX12_groupOf := goodIn_s _ [(233, 1), (99, 3), (75, 1), (102, 4), (90, 5), (106, 17), (234, 13), (287, 3)] rfl (by decide +kernel)
set_option maxRecDepth 20000 in
theorem gL_alike_X12_groupOf : GoodIn wsL_alike (wsV RL 96 RX12 yX12_groupOf wsX12_groupOf) := goodIn_app (goodIn_of _ (by decide +kernel)) ggL_alike_X12_groupOf
theorem dL_alike_0 : decode cL_alike 0 = .ok (.aload_n 0, 1) := by decide +kernel
theorem dL_alike_1 : decode cL_alike 1 = .ok (.iconst 4, 1) := by decide +kernel
theorem dL_alike_2 : decode cL_alike 2 = .ok (.invokevirtual 40, 3) := by decide +kernel
theorem dL_alike_5 : decode cL_alike 5 = .ok (.aload_n 1, 1) := by decide +kernel
theorem dL_alike_6 : decode cL_alike 6 = .ok (.getfield 43, 3) := by decide +kernel
theorem dL_alike_9 : decode cL_alike 9 = .ok (.if_icmp .ne 91, 3) := by decide +kernel
theorem dL_alike_12 : decode cL_alike 12 = .ok (.aload_n 0, 1) := by decide +kernel
theorem dL_alike_13 : decode cL_alike 13 = .ok (.iconst 5, 1) := by decide +kernel
theorem dL_alike_14 : decode cL_alike 14 = .ok (.invokevirtual 40, 3) := by decide +kernel
theorem dL_alike_17 : decode cL_alike 17 = .ok (.aload_n 1, 1) := by decide +kernel
theorem dL_alike_18 : decode cL_alike 18 = .ok (.invokevirtual 49, 3) := by decide +kernel
theorem dL_alike_21 : decode cL_alike 21 = .ok (.if_icmp .ne 79, 3) := by decide +kernel
theorem dL_alike_24 : decode cL_alike 24 = .ok (.aload_n 0, 1) := by decide +kernel
theorem dL_alike_25 : decode cL_alike 25 = .ok (.bipush 8, 2) := by decide +kernel
theorem dL_alike_27 : decode cL_alike 27 = .ok (.invokevirtual 40, 3) := by decide +kernel
theorem dL_alike_30 : decode cL_alike 30 = .ok (.aload_n 1, 1) := by decide +kernel
theorem dL_alike_31 : decode cL_alike 31 = .ok (.getfield 52, 3) := by decide +kernel
theorem dL_alike_34 : decode cL_alike 34 = .ok (.invokeinterface 56 1, 5) := by decide +kernel
theorem dL_alike_39 : decode cL_alike 39 = .ok (.iconst 1, 1) := by decide +kernel
theorem dL_alike_40 : decode cL_alike 40 = .ok (.isub, 1) := by decide +kernel
theorem dL_alike_41 : decode cL_alike 41 = .ok (.if_icmp .ne 59, 3) := by decide +kernel
theorem dL_alike_44 : decode cL_alike 44 = .ok (.aload_n 0, 1) := by decide +kernel
theorem dL_alike_45 : decode cL_alike 45 = .ok (.bipush 9, 2) := by decide +kernel
theorem dL_alike_47 : decode cL_alike 47 = .ok (.invokevirtual 40, 3) := by decide +kernel
theorem dL_alike_50 : decode cL_alike 50 = .ok (.aload_n 1, 1) := by decide +kernel
theorem dL_alike_51 : decode cL_alike 51 = .ok (.invokevirtual 61, 3) := by decide +kernel
theorem dL_alike_54 : decode cL_alike 54 = .ok (.if_icmp .ne 46, 3) := by decide +kernel
theorem dL_alike_57 : decode cL_alike 57 = .ok (.aload_n 0, 1) := by decide +kernel
theorem dL_alike_58 : decode cL_alike 58 = .ok (.invokevirtual 64, 3) := by decide +kernel
theorem dL_alike_61 : decode cL_alike 61 = .ok (.aload_n 1, 1) := by decide +kernel
theorem dL_alike_62 : decode cL_alike 62 = .ok (.invokevirtual 67, 3) := by decide +kernel
theorem dL_alike_65 : decode cL_alike 65 = .ok (.if_icmp .ne 35, 3) := by decide +kernel
theorem dL_alike_68 : decode cL_alike 68 = .ok (.aload_n 0, 1) := by decide +kernel
theorem dL_alike_69 : decode cL_alike 69 = .ok (.invokevirtual 68, 3) := by decide +kernel
theorem dL_alike_72 : decode cL_alike 72 = .ok (.aload_n 1, 1) := by decide +kernel
theorem dL_alike_73 : decode cL_alike 73 = .ok (.invokevirtual 71, 3) := by decide +kernel
theorem dL_alike_76 : decode cL_alike 76 = .ok (.if_icmp .ne 24, 3) := by decide +kernel
theorem dL_alike_79 : decode cL_alike 79 = .ok (.aload_n 0, 1) := by decide +kernel
theorem dL_alike_80 : decode cL_alike 80 = .ok (.invokevirtual 72, 3) := by decide +kernel
theorem dL_alike_83 : decode cL_alike 83 = .ok (.bipush 30, 2) := by decide +kernel
theorem dL_alike_85 : decode cL_alike 85 = .ok (.aload_n 1, 1) := by decide +kernel
theorem dL_alike_86 : decode cL_alike 86 = .ok (.getfield 75, 3) := by decide +kernel
theorem dL_alike_89 : decode cL_alike 89 = .ok (.invokeinterface 56 1, 5) := by decide +kernel
theorem dL_alike_94 : decode cL_alike 94 = .ok (.invokestatic 77, 3) := by decide +kernel
theorem dL_alike_97 : decode cL_alike 97 = .ok (.if_icmp .eq 5, 3) := by decide +kernel
theorem dL_alike_100 : decode cL_alike 100 = .ok (.iconst 0, 1) := by decide +kernel
theorem dL_alike_101 : decode cL_alike 101 = .ok (.ireturn, 1) := by decide +kernel
theorem dL_alike_102 : decode cL_alike 102 = .ok (.iconst 0, 1) := by decide +kernel
theorem dL_alike_103 : decode cL_alike 103 = .ok (.istore_n 2, 1) := by decide +kernel
theorem dL_alike_104 : decode cL_alike 104 = .ok (.iload_n 2, 1) := by decide +kernel
theorem dL_alike_105 : decode cL_alike 105 = .ok (.aload_n 1, 1) := by decide +kernel
theorem dL_alike_106 : decode cL_alike 106 = .ok (.getfield 83, 3) := by decide +kernel
theorem dL_alike_109 : decode cL_alike 109 = .ok (.if_icmp .ge 38, 3) := by decide +kernel
theorem dL_alike_112 : decode cL_alike 112 = .ok (.aload_n 0, 1) := by decide +kernel
theorem dL_alike_113 : decode cL_alike 113 = .ok (.iload_n 2, 1) := by decide +kernel
theorem dL_alike_114 : decode cL_alike 114 = .ok (.invokevirtual 86, 3) := by decide +kernel
theorem dL_alike_117 : decode cL_alike 117 = .ok (.aload_n 1, 1) := by decide +kernel
theorem dL_alike_118 : decode cL_alike 118 = .ok (.getfield 89, 3) := by decide +kernel
theorem dL_alike_121 : decode cL_alike 121 = .ok (.iload_n 2, 1) := by decide +kernel
theorem dL_alike_122 : decode cL_alike 122 = .ok (.iaload, 1) := by decide +kernel
theorem dL_alike_123 : decode cL_alike 123 = .ok (.if_icmp .ne 16, 3) := by decide +kernel
theorem dL_alike_126 : decode cL_alike 126 = .ok (.aload_n 0, 1) := by decide +kernel
theorem dL_alike_127 : decode cL_alike 127 = .ok (.iload_n 2, 1) := by decide +kernel
theorem dL_alike_128 : decode cL_alike 128 = .ok (.invokevirtual 93, 3) := by decide +kernel
theorem dL_alike_131 : decode cL_alike 131 = .ok (.aload_n 1, 1) := by decide +kernel
theorem dL_alike_132 : decode cL_alike 132 = .ok (.iload_n 2, 1) := by decide +kernel
theorem dL_alike_133 : decode cL_alike 133 = .ok (.invokevirtual 96, 3) := by decide +kernel
theorem dL_alike_136 : decode cL_alike 136 = .ok (.if_icmp .eq 5, 3) := by decide +kernel
theorem dL_alike_139 : decode cL_alike 139 = .ok (.iconst 0, 1) := by decide +kernel
theorem dL_alike_140 : decode cL_alike 140 = .ok (.ireturn, 1) := by decide +kernel
theorem dL_alike_141 : decode cL_alike 141 = .ok (.iinc 2 1, 3) := by decide +kernel
theorem dL_alike_144 : decode cL_alike 144 = .ok (.goto (-40), 3) := by decide +kernel
theorem dL_alike_147 : decode cL_alike 147 = .ok (.iconst 1, 1) := by decide +kernel
theorem dL_alike_148 : decode cL_alike 148 = .ok (.ireturn, 1) := by decide +kernel
set_option maxRecDepth 20000 in
theorem ggL_acts_L_pick : GoodIn wsL_acts wsL_pick := goodIn_s _ [(8, 4), (7, 1), (12, 3)] rfl (by decide +kernel)
set_option maxRecDepth 20000 in
theorem gL_acts_L_pick : GoodIn wsL_acts (va_wsS RL 97 yL_pick wsL_pick) := goodIn_app (goodIn_of _ (by decide +kernel)) ggL_acts_L_pick
set_option maxRecDepth 20000 in
theorem ggL_acts_X12_groups : GoodIn wsL_acts wsX12_groups := goodIn_s _ [(19, 4), (18, 1), (23, 26), (615, 16)] rfl (by decide +kernel)
set_option maxRecDepth 20000 in
theorem gL_acts_X12_groups : GoodIn wsL_acts (wsV RL 61 RX12 yX12_groups wsX12_groups) := goodIn_app (goodIn_of _ (by decide +kernel)) ggL_acts_X12_groups
set_option maxRecDepth 20000 in
theorem ggL_acts_X12_whyShrink : GoodIn wsL_acts wsX12_whyShrink := goodIn_s _ [(52, 1), (24, 1), (26, 6), (53, 3), (18, 1), (56, 3), (16, 2), (19, 5), (25, 1), (32, 17), (59, 31), (615, 16)] rfl (by decide +kernel)
set_option maxRecDepth 20000 in
theorem gL_acts_X12_whyShrink : GoodIn wsL_acts (wsV RL 104 RX12 yX12_whyShrink wsX12_whyShrink) := goodIn_app (goodIn_of _ (by decide +kernel)) ggL_acts_X12_whyShrink
set_option maxRecDepth 20000 in
theorem ggL_acts_X11_whyNotShrink : GoodIn wsL_acts wsX11_whyNotShrink := goodIn_s _ [(94, 8), (93, 1), (102, 98), (631, 54)] rfl (by decide +kernel)
set_option maxRecDepth 20000 in
theorem gL_acts_X11_whyNotShrink : GoodIn wsL_acts (wsV RL 107 RX11 yX11_whyNotShrink wsX11_whyNotShrink) := goodIn_app (goodIn_of _ (by decide +kernel)) ggL_acts_X11_whyNotShrink
set_option maxRecDepth 20000 in
theorem ggL_acts_X11_shrink : GoodIn wsL_acts wsX11_shrink := goodIn_ca (goodIn_s _ [(203, 4), (95, 1), (207, 1), (91, 4), (96, 104), (208, 51), (631, 57)] rfl (by decide +kernel)) (goodIn_sub (fun _ h => List.mem_cons_of_mem _ (List.mem_append_left _ (List.mem_append_left _ (List.mem_append_right _ h)))) (by decide +kernel))
set_option maxRecDepth 20000 in
theorem gL_acts_X11_shrink : GoodIn wsL_acts (wsV RL 110 RX11 yX11_shrink wsX11_shrink) := goodIn_app (goodIn_of _ (by decide +kernel)) ggL_acts_X11_shrink
set_option maxRecDepth 20000 in
theorem ggL_acts_X12_shrink : GoodIn wsL_acts wsX12_shrink := goodIn_s _ [(262, 1), (57, 1), (263, 1), (237, 3), (24, 1), (53, 3), (18, 1), (56, 1), (58, 1), (16, 2), (19, 5), (25, 24), (59, 31), (264, 21), (217, 1), (285, 13), (149, 1), (298, 11), (216, 1), (218, 1), (309, 1), (615, 16)] rfl (by decide +kernel)
set_option maxRecDepth 20000 in
theorem gL_acts_X12_shrink : GoodIn wsL_acts (wsV RL 113 RX12 yX12_shrink wsX12_shrink) := goodIn_app (goodIn_of _ (by decide +kernel)) ggL_acts_X12_shrink
set_option maxRecDepth 20000 in
theorem ggL_acts_Jx4a65c_size_8abf5 : GoodIn wsL_acts wsJx4a65c_size_8abf5 := goodIn_s _ [(30, 2), (628, 3)] rfl (by decide +kernel)
set_option maxRecDepth 20000 in
theorem gL_acts_Jx4a65c_size_8abf5_f56Jx4a65c : GoodIn wsL_acts (va_wsF RL 56 RJx4a65c ⟨"java/util/List", "size", "()I"⟩ yJx4a65c_size_8abf5 wsJx4a65c_size_8abf5) := goodIn_app (goodIn_of _ (by decide +kernel)) ggL_acts_Jx4a65c_size_8abf5
set_option maxRecDepth 20000 in
theorem ggL_acts_X11_grow : GoodIn wsL_acts wsX11_grow := goodIn_ca (goodIn_s _ [(314, 1), (204, 2), (95, 2), (206, 1), (208, 19), (121, 1), (227, 1), (124, 1), (228, 3), (123, 1), (231, 3), (93, 1), (234, 6), (258, 1), (119, 2), (122, 1), (125, 2), (631, 25), (685, 3)] rfl (by decide +kernel)) (goodIn_sub (fun _ h => List.mem_cons_of_mem _ (List.mem_append_left _ (List.mem_append_left _ (List.mem_append_right _ h)))) (by decide +kernel))
set_option maxRecDepth 20000 in
theorem gL_acts_X11_grow : GoodIn wsL_acts (wsV RL 114 RX11 yX11_grow wsX11_grow) := goodIn_app (goodIn_of _ (by decide +kernel)) ggL_acts_X11_grow
set_option maxRecDepth 20000 in
theorem ggL_acts_X12_grow : GoodIn wsL_acts wsX12_grow := goodIn_s _ [(318, 1), (24, 8), (319, 4), (48, 1), (36, 8), (323, 4), (268, 2), (327, 1), (237, 3), (58, 1), (16, 8), (32, 4), (44, 4), (615, 16)] rfl (by decide +kernel)
set_option maxRecDepth 20000 in
theorem gL_acts_X12_grow : GoodIn wsL_acts (wsV RL 117 RX12 yX12_grow wsX12_grow) := goodIn_app (goodIn_of _ (by decide +kernel)) ggL_acts_X12_grow
set_option maxRecDepth 20000 in
theorem ggL_acts_X12_why : GoodIn wsL_acts wsX12_why := goodIn_s _ [(331, 2), (65, 3), (18, 1), (68, 2), (20, 29), (70, 5), (333, 4), (84, 1), (337, 1), (284, 1), (217, 1), (285, 1), (338, 4), (63, 1), (75, 9), (85, 5), (342, 4), (615, 16)] rfl (by decide +kernel)
set_option maxRecDepth 20000 in
theorem gL_acts_X12_why : GoodIn wsL_acts (wsV RL 118 RX12 yX12_why wsX12_why) := goodIn_app (goodIn_of _ (by decide +kernel)) ggL_acts_X12_why
set_option maxRecDepth 20000 in
theorem ggL_acts_X11_whyNotMove : GoodIn wsL_acts wsX11_whyNotMove := goodIn_ca (goodIn_s _ [(349, 1), (103, 2), (95, 1), (350, 3), (93, 1), (353, 7), (258, 1), (119, 8), (360, 9), (105, 14), (127, 46), (369, 12), (631, 25), (673, 12), (661, 12)] rfl (by decide +kernel)) (goodIn_sub (fun _ h => List.mem_cons_of_mem _ (List.mem_append_left _ (List.mem_append_right _ h))) (by decide +kernel))
set_option maxRecDepth 20000 in
theorem gL_acts_X11_whyNotMove : GoodIn wsL_acts (wsV RL 121 RX11 yX11_whyNotMove wsX11_whyNotMove) := goodIn_app (goodIn_of _ (by decide +kernel)) ggL_acts_X11_whyNotMove
set_option maxRecDepth 20000 in
theorem ggL_acts_X11_move : GoodIn wsL_acts wsX11_move := goodIn_ca (goodIn_ca (goodIn_s _ [(384, 1), (204, 3), (95, 1), (385, 1), (347, 2), (93, 1), (349, 1), (103, 2), (350, 10), (258, 1), (119, 8), (360, 9), (105, 14), (127, 46), (369, 12), (208, 32), (386, 32), (631, 25), (673, 12), (661, 12), (685, 3)] rfl (by decide +kernel)) (goodIn_sub (fun _ h => List.mem_cons_of_mem _ (List.mem_append_left _ (List.mem_append_left _ (List.mem_append_right _ h)))) (by decide +kernel))) (goodIn_sub (fun _ h => List.mem_cons_of_mem _ (List.mem_append_left _ (List.mem_append_right _ h))) (by decide +kernel))
set_option maxRecDepth 20000 in
theorem gL_acts_X11_move : GoodIn wsL_acts (wsV RL 124 RX11 yX11_move wsX11_move) := goodIn_app (goodIn_of _ (by decide +kernel)) ggL_acts_X11_move
set_option maxRecDepth 20000 in
theorem ggL_acts_X12_move : GoodIn wsL_acts wsX12_move := goodIn_s _ [(421, 4), (18, 1), (425, 1), (63, 1), (69, 1), (426, 1), (57, 1), (65, 4), (20, 29), (70, 5), (427, 4), (64, 1), (264, 21), (217, 1), (285, 13), (149, 1), (298, 11), (216, 1), (218, 1), (309, 1), (237, 3), (615, 16)] rfl (by decide +kernel)
set_option maxRecDepth 20000 in
theorem gL_acts_X12_move : GoodIn wsL_acts (wsV RL 127 RX12 yX12_move wsX12_move) := goodIn_app (goodIn_of _ (by decide +kernel)) ggL_acts_X12_move
set_option maxRecDepth 20000 in
theorem ggL_acts_X11_nextStep : GoodIn wsL_acts wsX11_nextStep := goodIn_s _ [(434, 1), (103, 2), (95, 1), (105, 21), (93, 1), (126, 47), (435, 9), (399, 3), (373, 8), (631, 18), (661, 24), (649, 7)] rfl (by decide +kernel)
set_option maxRecDepth 20000 in
theorem gL_acts_X11_nextStep : GoodIn wsL_acts (wsV RL 128 RX11 yX11_nextStep wsX11_nextStep) := goodIn_app (goodIn_of _ (by decide +kernel)) ggL_acts_X11_nextStep
set_option maxRecDepth 20000 in
theorem ggL_acts_X12_next : GoodIn wsL_acts wsX12_next := goodIn_s _ [(447, 1), (84, 1), (342, 3), (18, 1), (345, 1), (337, 1), (284, 1), (217, 1), (285, 1), (338, 4), (63, 1), (69, 1), (75, 9), (85, 5), (58, 1), (16, 2), (19, 30), (65, 4), (70, 5), (333, 4), (448, 4), (59, 4), (64, 1), (452, 1), (329, 4), (615, 16)] rfl (by decide +kernel)
set_option maxRecDepth 20000 in
theorem gL_acts_X12_next : GoodIn wsL_acts (wsV RL 131 RX12 yX12_next wsX12_next) := goodIn_app (goodIn_of _ (by decide +kernel)) ggL_acts_X12_next
set_option maxRecDepth 20000 in
theorem ggL_acts_X11_step : GoodIn wsL_acts wsX11_step := goodIn_s _ [(456, 1), (206, 1), (95, 1), (457, 1), (432, 2), (93, 1), (434, 1), (103, 70), (435, 9), (399, 3), (373, 8), (208, 32), (458, 4), (390, 9), (402, 16), (631, 18), (661, 24), (649, 7), (685, 3)] rfl (by decide +kernel)
set_option maxRecDepth 20000 in
theorem gL_acts_X11_step : GoodIn wsL_acts (wsV RL 134 RX11 yX11_step wsX11_step) := goodIn_app (goodIn_of _ (by decide +kernel)) ggL_acts_X11_step
set_option maxRecDepth 20000 in
theorem ggL_acts_X12_step : GoodIn wsL_acts wsX12_step := goodIn_s _ [(465, 2), (445, 2), (18, 1), (447, 1), (84, 1), (342, 4), (337, 1), (284, 1), (217, 1), (285, 1), (338, 4), (63, 1), (69, 1), (75, 9), (85, 5), (58, 1), (16, 2), (19, 30), (65, 4), (70, 5), (333, 4), (448, 4), (59, 4), (64, 1), (452, 1), (329, 4), (467, 1), (419, 8), (57, 1), (427, 4), (264, 20), (286, 12), (149, 1), (298, 11), (216, 1), (218, 1), (309, 1), (237, 3), (615, 16)] rfl (by decide +kernel)
set_option maxRecDepth 20000 in
theorem gL_acts_X12_step : GoodIn wsL_acts (wsV RL 137 RX12 yX12_step wsX12_step) := goodIn_app (goodIn_of _ (by decide +kernel)) ggL_acts_X12_step
set_option maxRecDepth 20000 in
theorem ggL_acts_X11_steps : GoodIn wsL_acts wsX11_steps := goodIn_ca (goodIn_s _ [(471, 3), (206, 1), (95, 1), (474, 3), (93, 1), (477, 1), (208, 19), (121, 1), (227, 1), (124, 1), (228, 3), (123, 1), (231, 9), (458, 4), (103, 18), (122, 1), (125, 48), (435, 9), (399, 3), (373, 8), (390, 9), (402, 12), (631, 18), (685, 3), (649, 7), (661, 24)] rfl (by decide +kernel)) (goodIn_sub (fun _ h => List.mem_cons_of_mem _ (List.mem_append_right _ h)) (by decide +kernel))
set_option maxRecDepth 20000 in
theorem gL_acts_X11_steps : GoodIn wsL_acts (wsV RL 138 RX11 yX11_steps wsX11_steps) := goodIn_app (goodIn_of _ (by decide +kernel)) ggL_acts_X11_steps
set_option maxRecDepth 20000 in
theorem ggL_acts_X12_steps : GoodIn wsL_acts wsX12_steps := goodIn_s _ [(481, 2), (463, 2), (18, 1), (465, 2), (445, 3), (84, 1), (342, 4), (337, 1), (284, 1), (217, 1), (285, 1), (338, 4), (63, 1), (69, 1), (75, 9), (85, 5), (58, 1), (16, 2), (19, 30), (65, 4), (70, 5), (333, 4), (448, 4), (59, 4), (64, 1), (452, 1), (329, 4), (467, 1), (419, 8), (57, 1), (427, 4), (264, 20), (286, 12), (149, 1), (298, 11), (216, 1), (218, 1), (309, 1), (237, 3), (615, 16)] rfl (by decide +kernel)
set_option maxRecDepth 20000 in
theorem gL_acts_X12_steps : GoodIn wsL_acts (wsV RL 141 RX12 yX12_steps wsX12_steps) := goodIn_app (goodIn_of _ (by decide +kernel)) ggL_acts_X12_steps
set_option maxRecDepth 20000 in
theorem ggL_acts_X12_best : GoodIn wsL_acts wsX12_best := goodIn_s _ [(486, 1), (57, 2), (16, 33), (487, 4), (84, 1), (337, 1), (284, 1), (217, 1), (285, 1), (263, 1), (237, 3), (75, 4), (63, 1), (79, 5), (85, 5), (59, 4), (64, 1), (615, 16)] rfl (by decide +kernel)
set_option maxRecDepth 20000 in
theorem gL_acts_X12_best : GoodIn wsL_acts (wsV RL 142 RX12 yX12_best wsX12_best) := goodIn_app (goodIn_of _ (by decide +kernel)) ggL_acts_X12_best
set_option maxRecDepth 20000 in
theorem ggL_acts_X12_comes : GoodIn wsL_acts wsX12_comes := goodIn_s _ [(425, 1), (63, 1), (69, 1), (426, 1), (57, 1), (65, 3), (18, 1), (68, 1), (20, 29), (70, 5), (427, 4), (64, 1), (264, 21), (217, 1), (285, 13), (149, 1), (298, 11), (216, 1), (218, 1), (309, 1), (237, 3), (615, 16)] rfl (by decide +kernel)
set_option maxRecDepth 20000 in
theorem gL_acts_X12_comes : GoodIn wsL_acts (wsV RL 146 RX12 yX12_comes wsX12_comes) := goodIn_app (goodIn_of _ (by decide +kernel)) ggL_acts_X12_comes
set_option maxRecDepth 20000 in
theorem ggL_acts_X11_placeBest : GoodIn wsL_acts wsX11_placeBest := goodIn_ca (goodIn_s _ [(495, 1), (204, 3), (95, 1), (496, 3), (93, 1), (499, 1), (258, 1), (119, 8), (208, 32), (500, 4), (103, 2), (97, 1), (504, 1), (105, 14), (127, 59), (505, 35), (284, 2), (540, 5), (394, 1), (397, 1), (386, 8), (395, 2), (398, 16), (631, 25), (685, 3), (661, 24), (656, 5), (688, 5)] rfl (by decide +kernel)) (goodIn_sub (fun _ h => List.mem_cons_of_mem _ (List.mem_append_left _ (List.mem_append_left _ (List.mem_append_right _ h)))) (by decide +kernel))
set_option maxRecDepth 20000 in
theorem gL_acts_X11_placeBest : GoodIn wsL_acts (wsV RL 150 RX11 yX11_placeBest wsX11_placeBest) := goodIn_app (goodIn_of _ (by decide +kernel)) ggL_acts_X11_placeBest
set_option maxRecDepth 20000 in
theorem ggL_acts_X12_flow : GoodIn wsL_acts wsX12_flow := goodIn_s _ [(548, 1), (63, 1), (549, 1), (57, 1), (64, 1), (263, 1), (237, 3), (550, 1), (216, 3), (615, 13)] rfl (by decide +kernel)
set_option maxRecDepth 20000 in
theorem gL_acts_X12_flow : GoodIn wsL_acts (wsV RL 153 RX12 yX12_flow wsX12_flow) := goodIn_app (goodIn_of _ (by decide +kernel)) ggL_acts_X12_flow
set_option maxRecDepth 20000 in
theorem ggL_acts_X11_placeApart : GoodIn wsL_acts wsX11_placeApart := goodIn_ca (goodIn_ca (goodIn_ca (goodIn_s _ [(554, 1), (472, 2), (204, 3), (95, 1), (555, 3), (93, 1), (558, 1), (354, 2), (559, 4), (104, 1), (244, 1), (563, 4), (368, 1), (96, 1), (208, 19), (121, 1), (227, 1), (124, 1), (228, 3), (123, 1), (231, 9), (567, 26), (148, 3), (125, 2), (155, 2), (593, 7), (157, 2), (412, 2), (600, 6), (397, 1), (386, 4), (103, 1), (105, 16), (122, 1), (127, 21), (151, 4), (159, 14), (390, 7), (398, 14), (631, 18), (673, 12), (649, 7), (685, 3), (693, 6), (661, 12)] rfl (by decide +kernel)) (goodIn_sub (fun _ h => List.mem_cons_of_mem _ (List.mem_append_right _ h)) (by decide +kernel))) (goodIn_sub (fun _ h => List.mem_cons_of_mem _ (List.mem_append_left _ (List.mem_append_left _ (List.mem_append_right _ h)))) (by decide +kernel))) (goodIn_sub (fun _ h => List.mem_cons_of_mem _ (List.mem_append_left _ (List.mem_append_right _ h))) (by decide +kernel))
set_option maxRecDepth 20000 in
theorem gL_acts_X11_placeApart : GoodIn wsL_acts (wsV RL 157 RX11 yX11_placeApart wsX11_placeApart) := goodIn_app (goodIn_of _ (by decide +kernel)) ggL_acts_X11_placeApart
set_option maxRecDepth 20000 in
theorem ggL_acts_X11_setCredit : GoodIn wsL_acts wsX11_setCredit := goodIn_ca (goodIn_s _ [(609, 1), (472, 2), (206, 1), (95, 1), (610, 4), (93, 1), (614, 1), (208, 19), (121, 1), (227, 1), (124, 1), (228, 3), (123, 1), (231, 9), (631, 25), (685, 3)] rfl (by decide +kernel)) (goodIn_sub (fun _ h => List.mem_cons_of_mem _ (List.mem_append_right _ h)) (by decide +kernel))
set_option maxRecDepth 20000 in
theorem gL_acts_X11_setCredit : GoodIn wsL_acts (wsV RL 160 RX11 yX11_setCredit wsX11_setCredit) := goodIn_app (goodIn_of _ (by decide +kernel)) ggL_acts_X11_setCredit
theorem dL_acts_0 : decode cL_acts 0 = .ok (.aload_n 2, 1) := by decide +kernel
theorem dL_acts_1 : decode cL_acts 1 = .ok (.sipush 340, 3) := by decide +kernel
theorem dL_acts_4 : decode cL_acts 4 = .ok (.iload_n 3, 1) := by decide +kernel
theorem dL_acts_5 : decode cL_acts 5 = .ok (.iadd, 1) := by decide +kernel
theorem dL_acts_6 : decode cL_acts 6 = .ok (.sipush 4000, 3) := by decide +kernel
theorem dL_acts_9 : decode cL_acts 9 = .ok (.invokestatic 97, 3) := by decide +kernel
theorem dL_acts_12 : decode cL_acts 12 = .ok (.istore 4, 2) := by decide +kernel
theorem dL_acts_14 : decode cL_acts 14 = .ok (.aload_n 2, 1) := by decide +kernel
theorem dL_acts_15 : decode cL_acts 15 = .ok (.sipush 380, 3) := by decide +kernel
theorem dL_acts_18 : decode cL_acts 18 = .ok (.iload_n 3, 1) := by decide +kernel
theorem dL_acts_19 : decode cL_acts 19 = .ok (.iadd, 1) := by decide +kernel
theorem dL_acts_20 : decode cL_acts 20 = .ok (.aload_n 1, 1) := by decide +kernel
theorem dL_acts_21 : decode cL_acts 21 = .ok (.invokevirtual 61, 3) := by decide +kernel
theorem dL_acts_24 : decode cL_acts 24 = .ok (.invokestatic 97, 3) := by decide +kernel
theorem dL_acts_27 : decode cL_acts 27 = .ok (.istore 5, 2) := by decide +kernel
theorem dL_acts_29 : decode cL_acts 29 = .ok (.aload_n 2, 1) := by decide +kernel
theorem dL_acts_30 : decode cL_acts 30 = .ok (.sipush 420, 3) := by decide +kernel
theorem dL_acts_33 : decode cL_acts 33 = .ok (.iload_n 3, 1) := by decide +kernel
theorem dL_acts_34 : decode cL_acts 34 = .ok (.iadd, 1) := by decide +kernel
theorem dL_acts_35 : decode cL_acts 35 = .ok (.aload_n 1, 1) := by decide +kernel
theorem dL_acts_36 : decode cL_acts 36 = .ok (.getfield 101, 3) := by decide +kernel
theorem dL_acts_39 : decode cL_acts 39 = .ok (.invokestatic 97, 3) := by decide +kernel
theorem dL_acts_42 : decode cL_acts 42 = .ok (.istore 6, 2) := by decide +kernel
theorem dL_acts_44 : decode cL_acts 44 = .ok (.aload_n 2, 1) := by decide +kernel
theorem dL_acts_45 : decode cL_acts 45 = .ok (.sipush 300, 3) := by decide +kernel
theorem dL_acts_48 : decode cL_acts 48 = .ok (.iload_n 3, 1) := by decide +kernel
theorem dL_acts_49 : decode cL_acts 49 = .ok (.iadd, 1) := by decide +kernel
theorem dL_acts_50 : decode cL_acts 50 = .ok (.bipush 12, 2) := by decide +kernel
theorem dL_acts_52 : decode cL_acts 52 = .ok (.invokestatic 97, 3) := by decide +kernel
theorem dL_acts_55 : decode cL_acts 55 = .ok (.tableswitch 452 0 9 #[53, 53, 90, 120, 120, 173, 173, 201, 232, 309], 53) := by decide +kernel
theorem dL_acts_108 : decode cL_acts 108 = .ok (.aload_n 1, 1) := by decide +kernel
theorem dL_acts_109 : decode cL_acts 109 = .ok (.invokevirtual 104, 3) := by decide +kernel
theorem dL_acts_112 : decode cL_acts 112 = .ok (.istore 7, 2) := by decide +kernel
theorem dL_acts_114 : decode cL_acts 114 = .ok (.aload_n 0, 1) := by decide +kernel
theorem dL_acts_115 : decode cL_acts 115 = .ok (.invokevirtual 107, 3) := by decide +kernel
theorem dL_acts_118 : decode cL_acts 118 = .ok (.iload 7, 2) := by decide +kernel
theorem dL_acts_120 : decode cL_acts 120 = .ok (.if_icmp .ne 23, 3) := by decide +kernel
theorem dL_acts_123 : decode cL_acts 123 = .ok (.iload 7, 2) := by decide +kernel
theorem dL_acts_125 : decode cL_acts 125 = .ok (.ifCond .gt 14, 3) := by decide +kernel
theorem dL_acts_128 : decode cL_acts 128 = .ok (.aload_n 0, 1) := by decide +kernel
theorem dL_acts_129 : decode cL_acts 129 = .ok (.invokevirtual 110, 3) := by decide +kernel
theorem dL_acts_132 : decode cL_acts 132 = .ok (.aload_n 1, 1) := by decide +kernel
theorem dL_acts_133 : decode cL_acts 133 = .ok (.invokevirtual 113, 3) := by decide +kernel
theorem dL_acts_136 : decode cL_acts 136 = .ok (.if_icmp .ne 7, 3) := by decide +kernel
theorem dL_acts_139 : decode cL_acts 139 = .ok (.iconst 1, 1) := by decide +kernel
theorem dL_acts_140 : decode cL_acts 140 = .ok (.goto 4, 3) := by decide +kernel
theorem dL_acts_143 : decode cL_acts 143 = .ok (.iconst 0, 1) := by decide +kernel
theorem dL_acts_144 : decode cL_acts 144 = .ok (.ireturn, 1) := by decide +kernel
theorem dL_acts_145 : decode cL_acts 145 = .ok (.aload_n 1, 1) := by decide +kernel
theorem dL_acts_146 : decode cL_acts 146 = .ok (.getfield 52, 3) := by decide +kernel
theorem dL_acts_149 : decode cL_acts 149 = .ok (.invokeinterface 56 1, 5) := by decide +kernel
theorem dL_acts_154 : decode cL_acts 154 = .ok (.iconst 1, 1) := by decide +kernel
theorem dL_acts_155 : decode cL_acts 155 = .ok (.if_icmp .eq 14, 3) := by decide +kernel
theorem dL_acts_158 : decode cL_acts 158 = .ok (.aload_n 0, 1) := by decide +kernel
theorem dL_acts_159 : decode cL_acts 159 = .ok (.invokevirtual 114, 3) := by decide +kernel
theorem dL_acts_162 : decode cL_acts 162 = .ok (.aload_n 1, 1) := by decide +kernel
theorem dL_acts_163 : decode cL_acts 163 = .ok (.invokevirtual 117, 3) := by decide +kernel
theorem dL_acts_166 : decode cL_acts 166 = .ok (.if_icmp .ne 7, 3) := by decide +kernel
theorem dL_acts_169 : decode cL_acts 169 = .ok (.iconst 1, 1) := by decide +kernel
theorem dL_acts_170 : decode cL_acts 170 = .ok (.goto 4, 3) := by decide +kernel
theorem dL_acts_173 : decode cL_acts 173 = .ok (.iconst 0, 1) := by decide +kernel
theorem dL_acts_174 : decode cL_acts 174 = .ok (.ireturn, 1) := by decide +kernel
theorem dL_acts_175 : decode cL_acts 175 = .ok (.aload_n 1, 1) := by decide +kernel
theorem dL_acts_176 : decode cL_acts 176 = .ok (.iload 5, 2) := by decide +kernel
theorem dL_acts_178 : decode cL_acts 178 = .ok (.iload 6, 2) := by decide +kernel
theorem dL_acts_180 : decode cL_acts 180 = .ok (.invokevirtual 118, 3) := by decide +kernel
theorem dL_acts_183 : decode cL_acts 183 = .ok (.istore 7, 2) := by decide +kernel
theorem dL_acts_185 : decode cL_acts 185 = .ok (.aload_n 0, 1) := by decide +kernel
theorem dL_acts_186 : decode cL_acts 186 = .ok (.iload 5, 2) := by decide +kernel
theorem dL_acts_188 : decode cL_acts 188 = .ok (.iload 6, 2) := by decide +kernel
theorem dL_acts_190 : decode cL_acts 190 = .ok (.invokevirtual 121, 3) := by decide +kernel
theorem dL_acts_193 : decode cL_acts 193 = .ok (.iload 7, 2) := by decide +kernel
theorem dL_acts_195 : decode cL_acts 195 = .ok (.if_icmp .ne 31, 3) := by decide +kernel
theorem dL_acts_198 : decode cL_acts 198 = .ok (.iload 7, 2) := by decide +kernel
theorem dL_acts_200 : decode cL_acts 200 = .ok (.ifCond .gt 22, 3) := by decide +kernel
theorem dL_acts_203 : decode cL_acts 203 = .ok (.aload_n 0, 1) := by decide +kernel
theorem dL_acts_204 : decode cL_acts 204 = .ok (.iload 5, 2) := by decide +kernel
theorem dL_acts_206 : decode cL_acts 206 = .ok (.iload 6, 2) := by decide +kernel
theorem dL_acts_208 : decode cL_acts 208 = .ok (.invokevirtual 124, 3) := by decide +kernel
theorem dL_acts_211 : decode cL_acts 211 = .ok (.aload_n 1, 1) := by decide +kernel
theorem dL_acts_212 : decode cL_acts 212 = .ok (.iload 5, 2) := by decide +kernel
theorem dL_acts_214 : decode cL_acts 214 = .ok (.iload 6, 2) := by decide +kernel
theorem dL_acts_216 : decode cL_acts 216 = .ok (.invokevirtual 127, 3) := by decide +kernel
theorem dL_acts_219 : decode cL_acts 219 = .ok (.if_icmp .ne 7, 3) := by decide +kernel
theorem dL_acts_222 : decode cL_acts 222 = .ok (.iconst 1, 1) := by decide +kernel
theorem dL_acts_223 : decode cL_acts 223 = .ok (.goto 4, 3) := by decide +kernel
theorem dL_acts_226 : decode cL_acts 226 = .ok (.iconst 0, 1) := by decide +kernel
theorem dL_acts_227 : decode cL_acts 227 = .ok (.ireturn, 1) := by decide +kernel
theorem dL_acts_228 : decode cL_acts 228 = .ok (.aload_n 0, 1) := by decide +kernel
theorem dL_acts_229 : decode cL_acts 229 = .ok (.invokevirtual 128, 3) := by decide +kernel
theorem dL_acts_232 : decode cL_acts 232 = .ok (.aload_n 1, 1) := by decide +kernel
theorem dL_acts_233 : decode cL_acts 233 = .ok (.invokevirtual 131, 3) := by decide +kernel
theorem dL_acts_236 : decode cL_acts 236 = .ok (.if_icmp .ne 18, 3) := by decide +kernel
theorem dL_acts_239 : decode cL_acts 239 = .ok (.aload_n 0, 1) := by decide +kernel
theorem dL_acts_240 : decode cL_acts 240 = .ok (.invokevirtual 134, 3) := by decide +kernel
theorem dL_acts_243 : decode cL_acts 243 = .ok (.aload_n 1, 1) := by decide +kernel
theorem dL_acts_244 : decode cL_acts 244 = .ok (.invokevirtual 137, 3) := by decide +kernel
theorem dL_acts_247 : decode cL_acts 247 = .ok (.if_icmp .ne 7, 3) := by decide +kernel
theorem dL_acts_250 : decode cL_acts 250 = .ok (.iconst 1, 1) := by decide +kernel
theorem dL_acts_251 : decode cL_acts 251 = .ok (.goto 4, 3) := by decide +kernel
theorem dL_acts_254 : decode cL_acts 254 = .ok (.iconst 0, 1) := by decide +kernel
theorem dL_acts_255 : decode cL_acts 255 = .ok (.ireturn, 1) := by decide +kernel
theorem dL_acts_256 : decode cL_acts 256 = .ok (.aload_n 0, 1) := by decide +kernel
theorem dL_acts_257 : decode cL_acts 257 = .ok (.iconst 1, 1) := by decide +kernel
theorem dL_acts_258 : decode cL_acts 258 = .ok (.iload 4, 2) := by decide +kernel
theorem dL_acts_260 : decode cL_acts 260 = .ok (.bipush 9, 2) := by decide +kernel
theorem dL_acts_262 : decode cL_acts 262 = .ok (.irem, 1) := by decide +kernel
theorem dL_acts_263 : decode cL_acts 263 = .ok (.iadd, 1) := by decide +kernel
theorem dL_acts_264 : decode cL_acts 264 = .ok (.invokevirtual 138, 3) := by decide +kernel
theorem dL_acts_267 : decode cL_acts 267 = .ok (.aload_n 1, 1) := by decide +kernel
theorem dL_acts_268 : decode cL_acts 268 = .ok (.iconst 1, 1) := by decide +kernel
theorem dL_acts_269 : decode cL_acts 269 = .ok (.iload 4, 2) := by decide +kernel
theorem dL_acts_271 : decode cL_acts 271 = .ok (.bipush 9, 2) := by decide +kernel
theorem dL_acts_273 : decode cL_acts 273 = .ok (.irem, 1) := by decide +kernel
theorem dL_acts_274 : decode cL_acts 274 = .ok (.iadd, 1) := by decide +kernel
theorem dL_acts_275 : decode cL_acts 275 = .ok (.invokevirtual 141, 3) := by decide +kernel
theorem dL_acts_278 : decode cL_acts 278 = .ok (.if_icmp .ne 7, 3) := by decide +kernel
theorem dL_acts_281 : decode cL_acts 281 = .ok (.iconst 1, 1) := by decide +kernel
theorem dL_acts_282 : decode cL_acts 282 = .ok (.goto 4, 3) := by decide +kernel
theorem dL_acts_285 : decode cL_acts 285 = .ok (.iconst 0, 1) := by decide +kernel
theorem dL_acts_286 : decode cL_acts 286 = .ok (.ireturn, 1) := by decide +kernel
theorem dL_acts_287 : decode cL_acts 287 = .ok (.aload_n 1, 1) := by decide +kernel
theorem dL_acts_288 : decode cL_acts 288 = .ok (.invokevirtual 61, 3) := by decide +kernel
theorem dL_acts_291 : decode cL_acts 291 = .ok (.bipush 6, 2) := by decide +kernel
theorem dL_acts_293 : decode cL_acts 293 = .ok (.if_icmp .le 5, 3) := by decide +kernel
theorem dL_acts_296 : decode cL_acts 296 = .ok (.iconst 1, 1) := by decide +kernel
theorem dL_acts_297 : decode cL_acts 297 = .ok (.ireturn, 1) := by decide +kernel
theorem dL_acts_298 : decode cL_acts 298 = .ok (.aload_n 1, 1) := by decide +kernel
theorem dL_acts_299 : decode cL_acts 299 = .ok (.invokevirtual 142, 3) := by decide +kernel
theorem dL_acts_302 : decode cL_acts 302 = .ok (.astore 7, 2) := by decide +kernel
theorem dL_acts_304 : decode cL_acts 304 = .ok (.iconst 0, 1) := by decide +kernel
theorem dL_acts_305 : decode cL_acts 305 = .ok (.istore 8, 2) := by decide +kernel
theorem dL_acts_307 : decode cL_acts 307 = .ok (.iconst 0, 1) := by decide +kernel
theorem dL_acts_308 : decode cL_acts 308 = .ok (.istore 9, 2) := by decide +kernel
theorem dL_acts_310 : decode cL_acts 310 = .ok (.iload 9, 2) := by decide +kernel
theorem dL_acts_312 : decode cL_acts 312 = .ok (.aload_n 1, 1) := by decide +kernel
theorem dL_acts_313 : decode cL_acts 313 = .ok (.invokevirtual 61, 3) := by decide +kernel
theorem dL_acts_316 : decode cL_acts 316 = .ok (.if_icmp .ge 33, 3) := by decide +kernel
theorem dL_acts_319 : decode cL_acts 319 = .ok (.iload 8, 2) := by decide +kernel
theorem dL_acts_321 : decode cL_acts 321 = .ok (.aload_n 1, 1) := by decide +kernel
theorem dL_acts_322 : decode cL_acts 322 = .ok (.iload 9, 2) := by decide +kernel
theorem dL_acts_324 : decode cL_acts 324 = .ok (.aload 7, 2) := by decide +kernel
theorem dL_acts_326 : decode cL_acts 326 = .ok (.iload 9, 2) := by decide +kernel
theorem dL_acts_328 : decode cL_acts 328 = .ok (.iaload, 1) := by decide +kernel
theorem dL_acts_329 : decode cL_acts 329 = .ok (.invokevirtual 146, 3) := by decide +kernel
theorem dL_acts_332 : decode cL_acts 332 = .ok (.ifCond .eq 7, 3) := by decide +kernel
theorem dL_acts_335 : decode cL_acts 335 = .ok (.iconst 1, 1) := by decide +kernel
theorem dL_acts_336 : decode cL_acts 336 = .ok (.goto 4, 3) := by decide +kernel
theorem dL_acts_339 : decode cL_acts 339 = .ok (.iconst 0, 1) := by decide +kernel
theorem dL_acts_340 : decode cL_acts 340 = .ok (.iadd, 1) := by decide +kernel
theorem dL_acts_341 : decode cL_acts 341 = .ok (.istore 8, 2) := by decide +kernel
theorem dL_acts_343 : decode cL_acts 343 = .ok (.iinc 9 1, 3) := by decide +kernel
theorem dL_acts_346 : decode cL_acts 346 = .ok (.goto (-36), 3) := by decide +kernel
theorem dL_acts_349 : decode cL_acts 349 = .ok (.aload_n 0, 1) := by decide +kernel
theorem dL_acts_350 : decode cL_acts 350 = .ok (.invokevirtual 150, 3) := by decide +kernel
theorem dL_acts_353 : decode cL_acts 353 = .ok (.iload 8, 2) := by decide +kernel
theorem dL_acts_355 : decode cL_acts 355 = .ok (.if_icmp .ne 7, 3) := by decide +kernel
theorem dL_acts_358 : decode cL_acts 358 = .ok (.iconst 1, 1) := by decide +kernel
theorem dL_acts_359 : decode cL_acts 359 = .ok (.goto 4, 3) := by decide +kernel
theorem dL_acts_362 : decode cL_acts 362 = .ok (.iconst 0, 1) := by decide +kernel
theorem dL_acts_363 : decode cL_acts 363 = .ok (.ireturn, 1) := by decide +kernel
theorem dL_acts_364 : decode cL_acts 364 = .ok (.iload 4, 2) := by decide +kernel
theorem dL_acts_366 : decode cL_acts 366 = .ok (.aload_n 1, 1) := by decide +kernel
theorem dL_acts_367 : decode cL_acts 367 = .ok (.getfield 83, 3) := by decide +kernel
theorem dL_acts_370 : decode cL_acts 370 = .ok (.irem, 1) := by decide +kernel
theorem dL_acts_371 : decode cL_acts 371 = .ok (.istore 7, 2) := by decide +kernel
theorem dL_acts_373 : decode cL_acts 373 = .ok (.iload 7, 2) := by decide +kernel
theorem dL_acts_375 : decode cL_acts 375 = .ok (.iconst 1, 1) := by decide +kernel
theorem dL_acts_376 : decode cL_acts 376 = .ok (.iadd, 1) := by decide +kernel
theorem dL_acts_377 : decode cL_acts 377 = .ok (.iload 4, 2) := by decide +kernel
theorem dL_acts_379 : decode cL_acts 379 = .ok (.bipush 20, 2) := by decide +kernel
theorem dL_acts_381 : decode cL_acts 381 = .ok (.idiv, 1) := by decide +kernel
theorem dL_acts_382 : decode cL_acts 382 = .ok (.aload_n 1, 1) := by decide +kernel
theorem dL_acts_383 : decode cL_acts 383 = .ok (.getfield 83, 3) := by decide +kernel
theorem dL_acts_386 : decode cL_acts 386 = .ok (.iconst 1, 1) := by decide +kernel
theorem dL_acts_387 : decode cL_acts 387 = .ok (.isub, 1) := by decide +kernel
theorem dL_acts_388 : decode cL_acts 388 = .ok (.irem, 1) := by decide +kernel
theorem dL_acts_389 : decode cL_acts 389 = .ok (.iadd, 1) := by decide +kernel
theorem dL_acts_390 : decode cL_acts 390 = .ok (.aload_n 1, 1) := by decide +kernel
theorem dL_acts_391 : decode cL_acts 391 = .ok (.getfield 83, 3) := by decide +kernel
theorem dL_acts_394 : decode cL_acts 394 = .ok (.irem, 1) := by decide +kernel
theorem dL_acts_395 : decode cL_acts 395 = .ok (.istore 8, 2) := by decide +kernel
theorem dL_acts_397 : decode cL_acts 397 = .ok (.aload_n 1, 1) := by decide +kernel
theorem dL_acts_398 : decode cL_acts 398 = .ok (.getfield 101, 3) := by decide +kernel
theorem dL_acts_401 : decode cL_acts 401 = .ok (.iconst 2, 1) := by decide +kernel
theorem dL_acts_402 : decode cL_acts 402 = .ok (.if_icmp .ne 16, 3) := by decide +kernel
theorem dL_acts_405 : decode cL_acts 405 = .ok (.aload_n 1, 1) := by decide +kernel
theorem dL_acts_406 : decode cL_acts 406 = .ok (.getfield 52, 3) := by decide +kernel
theorem dL_acts_409 : decode cL_acts 409 = .ok (.invokeinterface 56 1, 5) := by decide +kernel
theorem dL_acts_414 : decode cL_acts 414 = .ok (.iconst 1, 1) := by decide +kernel
theorem dL_acts_415 : decode cL_acts 415 = .ok (.if_icmp .le 5, 3) := by decide +kernel
theorem dL_acts_418 : decode cL_acts 418 = .ok (.iconst 1, 1) := by decide +kernel
theorem dL_acts_419 : decode cL_acts 419 = .ok (.ireturn, 1) := by decide +kernel
theorem dL_acts_420 : decode cL_acts 420 = .ok (.aload_n 1, 1) := by decide +kernel
theorem dL_acts_421 : decode cL_acts 421 = .ok (.iload 7, 2) := by decide +kernel
theorem dL_acts_423 : decode cL_acts 423 = .ok (.iload 8, 2) := by decide +kernel
theorem dL_acts_425 : decode cL_acts 425 = .ok (.invokevirtual 153, 3) := by decide +kernel
theorem dL_acts_428 : decode cL_acts 428 = .ok (.iconst 1, 1) := by decide +kernel
theorem dL_acts_429 : decode cL_acts 429 = .ok (.iaload, 1) := by decide +kernel
theorem dL_acts_430 : decode cL_acts 430 = .ok (.istore 9, 2) := by decide +kernel
theorem dL_acts_432 : decode cL_acts 432 = .ok (.iconst 0, 1) := by decide +kernel
theorem dL_acts_433 : decode cL_acts 433 = .ok (.istore 10, 2) := by decide +kernel
theorem dL_acts_435 : decode cL_acts 435 = .ok (.iconst 0, 1) := by decide +kernel
theorem dL_acts_436 : decode cL_acts 436 = .ok (.istore 11, 2) := by decide +kernel
theorem dL_acts_438 : decode cL_acts 438 = .ok (.iload 11, 2) := by decide +kernel
theorem dL_acts_440 : decode cL_acts 440 = .ok (.aload_n 1, 1) := by decide +kernel
theorem dL_acts_441 : decode cL_acts 441 = .ok (.getfield 83, 3) := by decide +kernel
theorem dL_acts_444 : decode cL_acts 444 = .ok (.if_icmp .ge 44, 3) := by decide +kernel
theorem dL_acts_447 : decode cL_acts 447 = .ok (.iload 10, 2) := by decide +kernel
theorem dL_acts_449 : decode cL_acts 449 = .ok (.aload_n 1, 1) := by decide +kernel
theorem dL_acts_450 : decode cL_acts 450 = .ok (.iload 11, 2) := by decide +kernel
theorem dL_acts_452 : decode cL_acts 452 = .ok (.iload 9, 2) := by decide +kernel
theorem dL_acts_454 : decode cL_acts 454 = .ok (.iload 11, 2) := by decide +kernel
theorem dL_acts_456 : decode cL_acts 456 = .ok (.ishr, 1) := by decide +kernel
theorem dL_acts_457 : decode cL_acts 457 = .ok (.iconst 1, 1) := by decide +kernel
theorem dL_acts_458 : decode cL_acts 458 = .ok (.iand, 1) := by decide +kernel
theorem dL_acts_459 : decode cL_acts 459 = .ok (.iconst 1, 1) := by decide +kernel
theorem dL_acts_460 : decode cL_acts 460 = .ok (.if_icmp .ne 7, 3) := by decide +kernel
theorem dL_acts_463 : decode cL_acts 463 = .ok (.iconst 0, 1) := by decide +kernel
theorem dL_acts_464 : decode cL_acts 464 = .ok (.goto 4, 3) := by decide +kernel
theorem dL_acts_467 : decode cL_acts 467 = .ok (.iconst 1, 1) := by decide +kernel
theorem dL_acts_468 : decode cL_acts 468 = .ok (.invokevirtual 146, 3) := by decide +kernel
theorem dL_acts_471 : decode cL_acts 471 = .ok (.ifCond .eq 7, 3) := by decide +kernel
theorem dL_acts_474 : decode cL_acts 474 = .ok (.iconst 1, 1) := by decide +kernel
theorem dL_acts_475 : decode cL_acts 475 = .ok (.goto 4, 3) := by decide +kernel
theorem dL_acts_478 : decode cL_acts 478 = .ok (.iconst 0, 1) := by decide +kernel
theorem dL_acts_479 : decode cL_acts 479 = .ok (.iadd, 1) := by decide +kernel
theorem dL_acts_480 : decode cL_acts 480 = .ok (.istore 10, 2) := by decide +kernel
theorem dL_acts_482 : decode cL_acts 482 = .ok (.iinc 11 1, 3) := by decide +kernel
theorem dL_acts_485 : decode cL_acts 485 = .ok (.goto (-47), 3) := by decide +kernel
theorem dL_acts_488 : decode cL_acts 488 = .ok (.aload_n 0, 1) := by decide +kernel
theorem dL_acts_489 : decode cL_acts 489 = .ok (.iload 7, 2) := by decide +kernel
theorem dL_acts_491 : decode cL_acts 491 = .ok (.iload 8, 2) := by decide +kernel
theorem dL_acts_493 : decode cL_acts 493 = .ok (.invokevirtual 157, 3) := by decide +kernel
theorem dL_acts_496 : decode cL_acts 496 = .ok (.iload 10, 2) := by decide +kernel
theorem dL_acts_498 : decode cL_acts 498 = .ok (.if_icmp .ne 7, 3) := by decide +kernel
theorem dL_acts_501 : decode cL_acts 501 = .ok (.iconst 1, 1) := by decide +kernel
theorem dL_acts_502 : decode cL_acts 502 = .ok (.goto 4, 3) := by decide +kernel
theorem dL_acts_505 : decode cL_acts 505 = .ok (.iconst 0, 1) := by decide +kernel
theorem dL_acts_506 : decode cL_acts 506 = .ok (.ireturn, 1) := by decide +kernel
theorem dL_acts_507 : decode cL_acts 507 = .ok (.aload_n 1, 1) := by decide +kernel
theorem dL_acts_508 : decode cL_acts 508 = .ok (.getfield 43, 3) := by decide +kernel
theorem dL_acts_511 : decode cL_acts 511 = .ok (.istore 7, 2) := by decide +kernel
theorem dL_acts_513 : decode cL_acts 513 = .ok (.aload_n 1, 1) := by decide +kernel
theorem dL_acts_514 : decode cL_acts 514 = .ok (.iload 4, 2) := by decide +kernel
theorem dL_acts_516 : decode cL_acts 516 = .ok (.bipush 40, 2) := by decide +kernel
theorem dL_acts_518 : decode cL_acts 518 = .ok (.irem, 1) := by decide +kernel
theorem dL_acts_519 : decode cL_acts 519 = .ok (.putfield 43, 3) := by decide +kernel
theorem dL_acts_522 : decode cL_acts 522 = .ok (.aload_n 0, 1) := by decide +kernel
theorem dL_acts_523 : decode cL_acts 523 = .ok (.iload 4, 2) := by decide +kernel
theorem dL_acts_525 : decode cL_acts 525 = .ok (.bipush 40, 2) := by decide +kernel
theorem dL_acts_527 : decode cL_acts 527 = .ok (.irem, 1) := by decide +kernel
theorem dL_acts_528 : decode cL_acts 528 = .ok (.invokevirtual 160, 3) := by decide +kernel
theorem dL_acts_531 : decode cL_acts 531 = .ok (.iload 7, 2) := by decide +kernel
theorem dL_acts_533 : decode cL_acts 533 = .ok (.if_icmp .ne 7, 3) := by decide +kernel
theorem dL_acts_536 : decode cL_acts 536 = .ok (.iconst 1, 1) := by decide +kernel
theorem dL_acts_537 : decode cL_acts 537 = .ok (.goto 4, 3) := by decide +kernel
theorem dL_acts_540 : decode cL_acts 540 = .ok (.iconst 0, 1) := by decide +kernel
theorem dL_acts_541 : decode cL_acts 541 = .ok (.ireturn, 1) := by decide +kernel
set_option maxRecDepth 20000 in
theorem ggL_law_X12_grown : GoodIn wsL_law wsX12_grown := goodIn_s _ [(8, 3), (7, 1), (11, 340), (1357, 24)] rfl (by decide +kernel)
set_option maxRecDepth 20000 in
theorem gL_law_X12_grown : GoodIn wsL_law (va_wsS RL 163 yX12_grown wsX12_grown) := goodIn_app (goodIn_of _ (by decide +kernel)) ggL_law_X12_grown
set_option maxRecDepth 20000 in
theorem ggL_law_X11_init : GoodIn wsL_law wsX11_init := goodIn_s _ [(353, 2), (30, 2), (355, 48), (23, 1), (403, 71), (1381, 12), (1339, 18), (1393, 58)] rfl (by decide +kernel)
set_option maxRecDepth 20000 in
theorem gL_law_X11_init : GoodIn wsL_law (wsX11_init) := ggL_law_X11_init
set_option maxRecDepth 20000 in
theorem ggL_law_L_feeds : GoodIn wsL_law wsL_feeds := goodIn_ca (goodIn_ca (goodIn_s _ [(476, 1), (23, 1), (477, 1), (167, 2), (154, 1), (169, 8), (478, 10), (195, 1), (488, 2), (261, 2), (156, 1), (263, 2), (159, 1), (265, 1), (490, 2), (67, 1), (492, 1), (257, 3), (149, 3), (260, 1), (310, 3), (145, 1), (164, 2), (493, 3), (2, 1), (496, 3), (358, 1), (499, 4), (357, 1), (503, 1), (407, 1), (504, 13), (1377, 4), (1339, 18), (1381, 12)] rfl (by decide +kernel)) (goodIn_sub (fun _ h => List.mem_append_left _ (List.mem_append_left _ (List.mem_append_right _ h))) (by decide +kernel))) (goodIn_sub (fun _ h => List.mem_append_left _ (List.mem_append_right _ h)) (by decide +kernel))
set_option maxRecDepth 20000 in
theorem gL_law_L_feeds : GoodIn wsL_law (va_wsS RL 172 yL_feeds wsL_feeds) := goodIn_app (goodIn_of _ (by decide +kernel)) ggL_law_L_feeds
set_option maxRecDepth 20000 in
theorem ggL_law_X11_readText : GoodIn wsL_law wsX11_readText := goodIn_ca (goodIn_s _ [(520, 1), (515, 2), (358, 1), (362, 1), (375, 1), (374, 1), (380, 1), (386, 1), (521, 4), (357, 1), (525, 1), (504, 1), (526, 6), (408, 2), (532, 3), (361, 1), (535, 6), (373, 1), (541, 3), (427, 1), (544, 8), (407, 1), (552, 1), (2, 1), (553, 35), (167, 2), (154, 1), (169, 8), (588, 1), (479, 9), (195, 1), (488, 2), (261, 2), (156, 1), (263, 2), (159, 1), (265, 1), (490, 2), (67, 1), (492, 1), (257, 3), (149, 3), (260, 1), (310, 3), (145, 1), (164, 2), (589, 25), (429, 1), (614, 8), (430, 1), (505, 2), (622, 13), (431, 2), (635, 4), (433, 1), (639, 24), (134, 3), (663, 3), (131, 1), (114, 1), (132, 1), (666, 4), (379, 1), (670, 5), (437, 2), (675, 1), (439, 1), (676, 2), (122, 1), (678, 4), (385, 1), (682, 2), (1339, 18), (1401, 12), (1381, 13), (1377, 4), (1413, 10)] rfl (by decide +kernel)) (goodIn_sub (fun _ h => List.mem_append_left _ (List.mem_append_right _ h)) (by decide +kernel))
set_option maxRecDepth 20000 in
theorem gL_law_X11_readText : GoodIn wsL_law (wsV RL 176 RX11 yX11_readText wsX11_readText) := goodIn_app (goodIn_of _ (by decide +kernel)) ggL_law_X11_readText
set_option maxRecDepth 20000 in
theorem ggL_law_L_shared : GoodIn wsL_law wsL_shared := goodIn_ca (goodIn_ca (goodIn_s _ [(686, 2), (4, 1), (688, 3), (2, 1), (691, 1), (515, 2), (390, 1), (374, 1), (380, 1), (692, 16), (389, 1), (708, 8), (454, 1), (716, 3), (379, 1), (719, 1), (438, 1), (671, 1), (552, 2), (720, 3), (373, 1), (723, 1), (427, 1), (544, 1), (546, 1), (724, 4), (450, 2), (453, 1), (728, 4), (452, 1), (732, 1), (677, 1), (122, 1), (678, 1), (733, 6), (505, 2), (739, 4), (455, 1), (743, 15), (542, 1), (758, 6), (543, 1), (631, 4), (431, 2), (764, 18), (521, 1), (782, 5), (386, 1), (787, 8), (113, 3), (795, 2), (225, 1), (797, 37), (394, 1), (834, 8), (393, 1), (842, 1), (459, 1), (843, 11), (460, 1), (854, 13), (398, 1), (867, 12), (397, 1), (879, 1), (465, 1), (880, 4), (466, 1), (884, 5), (467, 1), (889, 8), (663, 3), (131, 2), (666, 1), (134, 3), (897, 15), (1357, 13), (1339, 18), (1423, 12), (1401, 22), (1435, 10)] rfl (by decide +kernel)) (goodIn_sub (fun _ h => List.mem_append_left _ (List.mem_append_right _ h)) (by decide +kernel))) (goodIn_sub (fun _ h => List.mem_append_right _ h) (by decide +kernel))
set_option maxRecDepth 20000 in
theorem gL_law_L_shared : GoodIn wsL_law (va_wsS RL 179 yL_shared wsL_shared) := goodIn_app (goodIn_of _ (by decide +kernel)) ggL_law_L_shared
set_option maxRecDepth 20000 in
theorem ggL_law_L_steps : GoodIn wsL_law wsL_steps := goodIn_ca (goodIn_ca (goodIn_s _ [(914, 4), (2, 1), (918, 1), (390, 1), (374, 1), (380, 1), (705, 3), (389, 1), (708, 8), (454, 1), (716, 3), (379, 1), (719, 1), (438, 1), (671, 1), (552, 2), (720, 3), (373, 1), (723, 1), (427, 1), (544, 1), (546, 1), (724, 4), (450, 2), (453, 1), (728, 4), (452, 1), (732, 1), (677, 1), (122, 1), (678, 1), (733, 6), (505, 2), (739, 4), (455, 1), (743, 9), (919, 20), (806, 5), (801, 5), (939, 4), (386, 1), (943, 4), (385, 1), (947, 2), (683, 1), (949, 1), (131, 1), (114, 1), (132, 1), (950, 4), (446, 1), (954, 4), (673, 2), (437, 1), (439, 2), (663, 4), (134, 3), (958, 8), (817, 1), (815, 1), (752, 1), (966, 11), (758, 2), (977, 5), (381, 1), (982, 4), (515, 2), (986, 13), (818, 4), (698, 2), (822, 4), (789, 1), (694, 4), (700, 5), (999, 15), (787, 1), (1014, 6), (74, 1), (1020, 5), (4, 1), (1025, 1), (778, 4), (521, 1), (768, 1), (782, 5), (788, 1), (790, 4), (542, 1), (794, 1), (113, 1), (115, 1), (760, 4), (543, 1), (631, 4), (431, 2), (795, 2), (225, 1), (797, 4), (1026, 3), (7, 1), (1029, 1), (14, 2), (1030, 4), (17, 1), (1034, 4), (18, 1), (1038, 3), (36, 1), (1041, 1), (323, 1), (1042, 8), (24, 1), (1050, 11), (264, 1), (159, 1), (265, 1), (1061, 4), (42, 1), (1065, 4), (32, 1), (19, 1), (1069, 18), (774, 1), (1087, 18), (1339, 18), (1423, 12), (1401, 22), (1357, 13), (1374, 3)] rfl (by decide +kernel)) (goodIn_sub (fun _ h => List.mem_append_left _ (List.mem_append_right _ h)) (by decide +kernel))) (goodIn_sub (fun _ h => List.mem_append_right _ h) (by decide +kernel))
set_option maxRecDepth 20000 in
theorem gL_law_L_steps : GoodIn wsL_law (va_wsS RL 183 yL_steps wsL_steps) := goodIn_app (goodIn_of _ (by decide +kernel)) ggL_law_L_steps
set_option maxRecDepth 20000 in
theorem ggL_law_L_acts : GoodIn wsL_law wsL_acts := goodIn_ca (goodIn_ca (goodIn_ca (goodIn_s _ [(1107, 1), (687, 1), (1022, 1), (4, 1), (1021, 1), (1108, 1), (73, 9), (1042, 3), (7, 1), (1045, 5), (24, 1), (1050, 2), (1039, 2), (36, 1), (1041, 1), (323, 1), (1052, 9), (264, 1), (159, 1), (265, 1), (1061, 4), (42, 1), (1109, 8), (23, 1), (1117, 5), (17, 1), (19, 1), (1122, 4), (32, 1), (1126, 2), (225, 1), (1128, 2), (1034, 4), (18, 1), (1078, 1), (1027, 3), (14, 2), (1030, 4), (1130, 3), (2, 1), (1133, 1), (380, 1), (786, 1), (394, 1), (1134, 1), (835, 4), (390, 1), (374, 1), (705, 3), (389, 1), (708, 8), (454, 1), (716, 3), (379, 1), (719, 1), (438, 1), (671, 1), (552, 2), (720, 3), (373, 1), (723, 1), (427, 1), (544, 1), (546, 1), (724, 4), (450, 2), (453, 1), (728, 4), (452, 1), (732, 1), (677, 1), (122, 1), (678, 1), (733, 6), (505, 2), (739, 4), (455, 1), (743, 9), (839, 3), (393, 1), (842, 1), (459, 1), (843, 11), (460, 1), (854, 9), (1135, 4), (497, 2), (386, 1), (1139, 1), (944, 3), (385, 1), (947, 2), (683, 1), (949, 1), (131, 1), (114, 1), (132, 1), (950, 4), (446, 1), (954, 4), (673, 2), (437, 1), (439, 2), (663, 4), (134, 3), (1140, 4), (521, 1), (1144, 5), (461, 1), (1149, 7), (789, 1), (1156, 5), (317, 6), (324, 12), (41, 1), (336, 1), (113, 1), (115, 1), (337, 2), (109, 4), (116, 4), (339, 12), (130, 1), (133, 1), (1038, 1), (1161, 21), (16, 1), (1182, 4), (1073, 5), (1186, 1), (1070, 3), (1187, 4), (818, 4), (698, 2), (822, 4), (694, 4), (700, 5), (1191, 4), (931, 8), (1195, 9), (962, 4), (817, 1), (810, 1), (815, 1), (752, 1), (966, 1), (928, 3), (967, 10), (758, 2), (977, 1), (807, 3), (1204, 8), (37, 1), (1212, 1), (1066, 3), (915, 13), (1213, 9), (939, 5), (958, 4), (1222, 10), (515, 2), (1232, 22), (868, 8), (398, 1), (876, 3), (397, 1), (879, 1), (465, 1), (880, 4), (466, 1), (884, 5), (467, 1), (889, 18), (1254, 9), (33, 1), (1263, 5), (1087, 8), (1268, 8), (402, 1), (1276, 1), (774, 1), (1277, 3), (401, 1), (1280, 9), (471, 1), (1289, 10), (472, 2), (1299, 10), (783, 1), (1309, 4), (1357, 13), (1374, 3), (1339, 18), (1413, 7), (1435, 5), (1423, 12), (1401, 12), (1420, 3), (1440, 11)] rfl (by decide +kernel)) (goodIn_sub (fun _ h => List.mem_append_left _ (List.mem_append_left _ (List.mem_append_right _ h))) (by decide +kernel))) (goodIn_sub (fun _ h => List.mem_append_right _ h) (by decide +kernel))) (goodIn_sub (fun _ h => List.mem_append_left _ (List.mem_append_right _ h)) (by decide +kernel))
set_option maxRecDepth 20000 in
theorem gL_law_L_acts : GoodIn wsL_law (va_wsS RL 185 yL_acts wsL_acts) := goodIn_app (goodIn_of _ (by decide +kernel)) ggL_law_L_acts
set_option maxRecDepth 20000 in
theorem ggL_law_L_alike : GoodIn wsL_law wsL_alike := goodIn_ca (goodIn_ca (goodIn_s _ [(1020, 5), (131, 1), (114, 1), (132, 1), (4, 1), (1025, 1), (778, 3), (2, 1), (781, 1), (515, 2), (374, 1), (521, 1), (768, 1), (704, 1), (782, 1), (380, 1), (783, 4), (386, 1), (787, 2), (721, 2), (373, 1), (723, 1), (427, 1), (544, 1), (546, 1), (789, 1), (717, 2), (379, 1), (719, 1), (438, 1), (671, 1), (552, 2), (790, 4), (542, 1), (794, 1), (113, 1), (115, 1), (760, 4), (543, 1), (631, 4), (431, 2), (795, 2), (225, 1), (797, 4), (1026, 3), (7, 1), (1029, 1), (14, 2), (1030, 4), (17, 1), (1034, 4), (18, 1), (1038, 3), (36, 1), (1041, 1), (323, 1), (1042, 8), (24, 1), (1050, 11), (264, 1), (159, 1), (265, 1), (1061, 4), (42, 1), (806, 4), (390, 1), (810, 1), (705, 3), (389, 1), (708, 8), (454, 1), (716, 1), (720, 1), (724, 4), (450, 2), (453, 1), (728, 4), (452, 1), (732, 1), (677, 1), (122, 1), (678, 1), (733, 6), (505, 2), (739, 4), (455, 1), (743, 9), (1065, 4), (32, 1), (19, 1), (801, 5), (1069, 14), (1008, 1), (1083, 4), (774, 1), (1087, 4), (698, 2), (1091, 4), (752, 1), (1095, 10), (1357, 13), (1339, 18), (1401, 22), (1374, 3), (1423, 12)] rfl (by decide +kernel)) (goodIn_sub (fun _ h => List.mem_append_left _ (List.mem_append_right _ h)) (by decide +kernel))) (goodIn_sub (fun _ h => List.mem_append_right _ h) (by decide +kernel))
set_option maxRecDepth 20000 in
theorem gL_law_L_alike : GoodIn wsL_law (va_wsS RL 189 yL_alike wsL_alike) := goodIn_app (goodIn_of _ (by decide +kernel)) ggL_law_L_alike
set_option maxRecDepth 20000 in
theorem ggL_law_L_flows : GoodIn wsL_law wsL_flows := goodIn_ca (goodIn_s _ [(1315, 1), (4, 1), (1316, 3), (2, 1), (1319, 1), (402, 1), (374, 1), (1320, 1), (1087, 4), (698, 2), (1091, 4), (521, 1), (1277, 3), (401, 1), (1280, 9), (471, 1), (1289, 5), (677, 1), (122, 1), (678, 1), (552, 2), (737, 2), (1294, 5), (472, 2), (505, 2), (758, 2), (1299, 5), (131, 1), (114, 1), (132, 1), (1321, 4), (769, 1), (1325, 1), (628, 2), (373, 1), (630, 1), (543, 1), (631, 4), (431, 2), (752, 1), (1326, 1), (1031, 2), (7, 1), (1033, 1), (17, 1), (1327, 1), (1119, 3), (19, 1), (1328, 8), (1276, 1), (1357, 13), (1339, 18), (1445, 6), (1401, 12)] rfl (by decide +kernel)) (goodIn_sub (fun _ h => List.mem_append_right _ h) (by decide +kernel))
set_option maxRecDepth 20000 in
theorem gL_law_L_flows : GoodIn wsL_law (va_wsS RL 192 yL_flows wsL_flows) := goodIn_app (goodIn_of _ (by decide +kernel)) ggL_law_L_flows
