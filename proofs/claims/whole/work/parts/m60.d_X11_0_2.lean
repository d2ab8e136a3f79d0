theorem dX11_part_76 : decode cX11_part 76 = .ok (.getfield 337, 3) := by decide +kernel
theorem dX11_part_79 : decode cX11_part 79 = .ok (.iload_n 1, 1) := by decide +kernel
theorem dX11_part_80 : decode cX11_part 80 = .ok (.invokestatic 164, 3) := by decide +kernel
theorem dX11_part_83 : decode cX11_part 83 = .ok (.invokevirtual 340, 3) := by decide +kernel
theorem dX11_part_86 : decode cX11_part 86 = .ok (.ireturn, 1) := by decide +kernel
theorem dX11_part_87 : decode cX11_part 87 = .ok (.aload_n 0, 1) := by decide +kernel
theorem dX11_part_88 : decode cX11_part 88 = .ok (.getfield 73, 3) := by decide +kernel
theorem dX11_part_91 : decode cX11_part 91 = .ok (.getfield 343, 3) := by decide +kernel
theorem dX11_part_94 : decode cX11_part 94 = .ok (.iload_n 1, 1) := by decide +kernel
theorem dX11_part_95 : decode cX11_part 95 = .ok (.invokestatic 164, 3) := by decide +kernel
theorem dX11_part_98 : decode cX11_part 98 = .ok (.ireturn, 1) := by decide +kernel
theorem dX11_part_99 : decode cX11_part 99 = .ok (.aload_n 0, 1) := by decide +kernel
theorem dX11_part_100 : decode cX11_part 100 = .ok (.getfield 40, 3) := by decide +kernel
theorem dX11_part_103 : decode cX11_part 103 = .ok (.aload_n 0, 1) := by decide +kernel
theorem dX11_part_104 : decode cX11_part 104 = .ok (.getfield 73, 3) := by decide +kernel
theorem dX11_part_107 : decode cX11_part 107 = .ok (.getfield 343, 3) := by decide +kernel
theorem dX11_part_110 : decode cX11_part 110 = .ok (.iload_n 1, 1) := by decide +kernel
theorem dX11_part_111 : decode cX11_part 111 = .ok (.invokestatic 164, 3) := by decide +kernel
theorem dX11_part_114 : decode cX11_part 114 = .ok (.invokevirtual 346, 3) := by decide +kernel
theorem dX11_part_117 : decode cX11_part 117 = .ok (.ireturn, 1) := by decide +kernel
theorem dX11_part_118 : decode cX11_part 118 = .ok (.aload_n 0, 1) := by decide +kernel
theorem dX11_part_119 : decode cX11_part 119 = .ok (.iload_n 1, 1) := by decide +kernel
theorem dX11_part_120 : decode cX11_part 120 = .ok (.invokevirtual 349, 3) := by decide +kernel
theorem dX11_part_123 : decode cX11_part 123 = .ok (.ireturn, 1) := by decide +kernel
theorem dX11_part_124 : decode cX11_part 124 = .ok (.new 117, 3) := by decide +kernel
theorem dX11_part_127 : decode cX11_part 127 = .ok (.dup, 1) := by decide +kernel
theorem dX11_part_128 : decode cX11_part 128 = .ok (.ldc_w 352, 3) := by decide +kernel
theorem dX11_part_131 : decode cX11_part 131 = .ok (.invokespecial 121, 3) := by decide +kernel
theorem dX11_part_134 : decode cX11_part 134 = .ok (.athrow, 1) := by decide +kernel
set_option maxRecDepth 20000 in
theorem ggX11_cutAround_X11_at : GoodIn wsX11_cutAround wsX11_at := goodIn_s _ [(9, 1)] rfl (by decide +kernel)
set_option maxRecDepth 20000 in
theorem gX11_cutAround_X11_at : GoodIn wsX11_cutAround (va_wsS RX11 164 yX11_at wsX11_at) := goodIn_app (goodIn_of _ (by decide +kernel)) ggX11_cutAround_X11_at
set_option maxRecDepth 20000 in
theorem ggX11_cutAround_X11_isCut : GoodIn wsX11_cutAround wsX11_isCut := goodIn_s _ [(13, 3), (3, 1), (16, 2), (6, 4), (25, 18), (67, 7), (55, 12)] rfl (by decide +kernel)
set_option maxRecDepth 20000 in
theorem gX11_cutAround_X11_isCut : GoodIn wsX11_cutAround (wsV RX11 310 RX11 yX11_isCut wsX11_isCut) := goodIn_app (goodIn_of _ (by decide +kernel)) ggX11_cutAround_X11_isCut
set_option maxRecDepth 20000 in
theorem ggX11_cutAround_X2_endsOf : GoodIn wsX11_cutAround wsX2_endsOf := goodIn_s _ [(22, 3), (7, 3), (55, 12)] rfl (by decide +kernel)
set_option maxRecDepth 20000 in
theorem gX11_cutAround_X2_endsOf : GoodIn wsX11_cutAround (wsV RX11 354 RX2 yX2_endsOf wsX2_endsOf) := goodIn_app (goodIn_of _ (by decide +kernel)) ggX11_cutAround_X2_endsOf
theorem dX11_cutAround_0 : decode cX11_cutAround 0 = .ok (.aload_n 0, 1) := by decide +kernel
theorem dX11_cutAround_1 : decode cX11_cutAround 1 = .ok (.getfield 73, 3) := by decide +kernel
theorem dX11_cutAround_4 : decode cX11_cutAround 4 = .ok (.getfield 343, 3) := by decide +kernel
theorem dX11_cutAround_7 : decode cX11_cutAround 7 = .ok (.iload_n 1, 1) := by decide +kernel
theorem dX11_cutAround_8 : decode cX11_cutAround 8 = .ok (.invokestatic 164, 3) := by decide +kernel
theorem dX11_cutAround_11 : decode cX11_cutAround 11 = .ok (.istore_n 2, 1) := by decide +kernel
theorem dX11_cutAround_12 : decode cX11_cutAround 12 = .ok (.iconst 0, 1) := by decide +kernel
theorem dX11_cutAround_13 : decode cX11_cutAround 13 = .ok (.istore_n 3, 1) := by decide +kernel
theorem dX11_cutAround_14 : decode cX11_cutAround 14 = .ok (.iconst 0, 1) := by decide +kernel
theorem dX11_cutAround_15 : decode cX11_cutAround 15 = .ok (.istore 4, 2) := by decide +kernel
theorem dX11_cutAround_17 : decode cX11_cutAround 17 = .ok (.iload 4, 2) := by decide +kernel
theorem dX11_cutAround_19 : decode cX11_cutAround 19 = .ok (.aload_n 0, 1) := by decide +kernel
theorem dX11_cutAround_20 : decode cX11_cutAround 20 = .ok (.getfield 40, 3) := by decide +kernel
theorem dX11_cutAround_23 : decode cX11_cutAround 23 = .ok (.getfield 259, 3) := by decide +kernel
theorem dX11_cutAround_26 : decode cX11_cutAround 26 = .ok (.if_icmp .ge 47, 3) := by decide +kernel
theorem dX11_cutAround_29 : decode cX11_cutAround 29 = .ok (.aload_n 0, 1) := by decide +kernel
theorem dX11_cutAround_30 : decode cX11_cutAround 30 = .ok (.iload 4, 2) := by decide +kernel
theorem dX11_cutAround_32 : decode cX11_cutAround 32 = .ok (.invokevirtual 310, 3) := by decide +kernel
theorem dX11_cutAround_35 : decode cX11_cutAround 35 = .ok (.ifCond .eq 32, 3) := by decide +kernel
theorem dX11_cutAround_38 : decode cX11_cutAround 38 = .ok (.aload_n 0, 1) := by decide +kernel
theorem dX11_cutAround_39 : decode cX11_cutAround 39 = .ok (.getfield 40, 3) := by decide +kernel
theorem dX11_cutAround_42 : decode cX11_cutAround 42 = .ok (.iload 4, 2) := by decide +kernel
theorem dX11_cutAround_44 : decode cX11_cutAround 44 = .ok (.invokevirtual 354, 3) := by decide +kernel
theorem dX11_cutAround_47 : decode cX11_cutAround 47 = .ok (.iload_n 2, 1) := by decide +kernel
theorem dX11_cutAround_48 : decode cX11_cutAround 48 = .ok (.iand, 1) := by decide +kernel
theorem dX11_cutAround_49 : decode cX11_cutAround 49 = .ok (.ifCond .eq 18, 3) := by decide +kernel
theorem dX11_cutAround_52 : decode cX11_cutAround 52 = .ok (.iload_n 3, 1) := by decide +kernel
theorem dX11_cutAround_53 : decode cX11_cutAround 53 = .ok (.aload_n 0, 1) := by decide +kernel
theorem dX11_cutAround_54 : decode cX11_cutAround 54 = .ok (.getfield 40, 3) := by decide +kernel
theorem dX11_cutAround_57 : decode cX11_cutAround 57 = .ok (.getfield 307, 3) := by decide +kernel
theorem dX11_cutAround_60 : decode cX11_cutAround 60 = .ok (.iload 4, 2) := by decide +kernel
theorem dX11_cutAround_62 : decode cX11_cutAround 62 = .ok (.invokestatic 164, 3) := by decide +kernel
theorem dX11_cutAround_65 : decode cX11_cutAround 65 = .ok (.iadd, 1) := by decide +kernel
theorem dX11_cutAround_66 : decode cX11_cutAround 66 = .ok (.istore_n 3, 1) := by decide +kernel
theorem dX11_cutAround_67 : decode cX11_cutAround 67 = .ok (.iinc 4 1, 3) := by decide +kernel
theorem dX11_cutAround_70 : decode cX11_cutAround 70 = .ok (.goto (-53), 3) := by decide +kernel
theorem dX11_cutAround_73 : decode cX11_cutAround 73 = .ok (.iload_n 3, 1) := by decide +kernel
theorem dX11_cutAround_74 : decode cX11_cutAround 74 = .ok (.ireturn, 1) := by decide +kernel
set_option maxRecDepth 20000 in
theorem ggX11_cut_X4_take : GoodIn wsX11_cut wsX4_take := goodIn_s _ [(9, 30), (8, 1), (39, 35), (92, 31)] rfl (by decide +kernel)
set_option maxRecDepth 20000 in
theorem gX11_cut_X4_take : GoodIn wsX11_cut (wsV RX11 333 RX4 yX4_take wsX4_take) := goodIn_app (goodIn_of _ (by decide +kernel)) ggX11_cut_X4_take
theorem dX11_cut_0 : decode cX11_cut 0 = .ok (.aload_n 0, 1) := by decide +kernel
theorem dX11_cut_1 : decode cX11_cut 1 = .ok (.getfield 73, 3) := by decide +kernel
theorem dX11_cut_4 : decode cX11_cut 4 = .ok (.aload_n 0, 1) := by decide +kernel
theorem dX11_cut_5 : decode cX11_cut 5 = .ok (.getfield 40, 3) := by decide +kernel
theorem dX11_cut_8 : decode cX11_cut 8 = .ok (.aload_n 0, 1) := by decide +kernel
theorem dX11_cut_9 : decode cX11_cut 9 = .ok (.getfield 53, 3) := by decide +kernel
theorem dX11_cut_12 : decode cX11_cut 12 = .ok (.invokevirtual 333, 3) := by decide +kernel
theorem dX11_cut_15 : decode cX11_cut 15 = .ok (.aload_n 0, 1) := by decide +kernel
theorem dX11_cut_16 : decode cX11_cut 16 = .ok (.getfield 73, 3) := by decide +kernel
theorem dX11_cut_19 : decode cX11_cut 19 = .ok (.getfield 357, 3) := by decide +kernel
theorem dX11_cut_22 : decode cX11_cut 22 = .ok (.ireturn, 1) := by decide +kernel
set_option maxRecDepth 20000 in
theorem ggX11_debts_X4_take : GoodIn wsX11_debts wsX4_take := goodIn_s _ [(9, 30), (8, 1), (39, 35), (92, 31)] rfl (by decide +kernel)
set_option maxRecDepth 20000 in
theorem gX11_debts_X4_take : GoodIn wsX11_debts (wsV RX11 333 RX4 yX4_take wsX4_take) := goodIn_app (goodIn_of _ (by decide +kernel)) ggX11_debts_X4_take
theorem dX11_debts_0 : decode cX11_debts 0 = .ok (.aload_n 0, 1) := by decide +kernel
theorem dX11_debts_1 : decode cX11_debts 1 = .ok (.getfield 73, 3) := by decide +kernel
theorem dX11_debts_4 : decode cX11_debts 4 = .ok (.aload_n 0, 1) := by decide +kernel
theorem dX11_debts_5 : decode cX11_debts 5 = .ok (.getfield 40, 3) := by decide +kernel
theorem dX11_debts_8 : decode cX11_debts 8 = .ok (.aload_n 0, 1) := by decide +kernel
theorem dX11_debts_9 : decode cX11_debts 9 = .ok (.getfield 53, 3) := by decide +kernel
theorem dX11_debts_12 : decode cX11_debts 12 = .ok (.invokevirtual 333, 3) := by decide +kernel
theorem dX11_debts_15 : decode cX11_debts 15 = .ok (.aload_n 0, 1) := by decide +kernel
theorem dX11_debts_16 : decode cX11_debts 16 = .ok (.getfield 73, 3) := by decide +kernel
theorem dX11_debts_19 : decode cX11_debts 19 = .ok (.getfield 360, 3) := by decide +kernel
theorem dX11_debts_22 : decode cX11_debts 22 = .ok (.ireturn, 1) := by decide +kernel
set_option maxRecDepth 20000 in
theorem ggX11_border_X11_isCut : GoodIn wsX11_border wsX11_isCut := goodIn_s _ [(7, 3), (1, 1), (10, 4), (6, 1), (14, 1), (22, 18), (52, 7), (40, 12)] rfl (by decide +kernel)
set_option maxRecDepth 20000 in
theorem gX11_border_X11_isCut : GoodIn wsX11_border (wsV RX11 310 RX11 yX11_isCut wsX11_isCut) := goodIn_app (goodIn_of _ (by decide +kernel)) ggX11_border_X11_isCut
set_option maxRecDepth 20000 in
theorem ggX11_border_X2_endsOf : GoodIn wsX11_border wsX2_endsOf := goodIn_s _ [(19, 3), (13, 1), (6, 1), (14, 1), (40, 12)] rfl (by decide +kernel)
set_option maxRecDepth 20000 in
theorem gX11_border_X2_endsOf : GoodIn wsX11_border (wsV RX11 354 RX2 yX2_endsOf wsX2_endsOf) := goodIn_app (goodIn_of _ (by decide +kernel)) ggX11_border_X2_endsOf
theorem dX11_border_0 : decode cX11_border 0 = .ok (.iconst 0, 1) := by decide +kernel
theorem dX11_border_1 : decode cX11_border 1 = .ok (.istore_n 1, 1) := by decide +kernel
theorem dX11_border_2 : decode cX11_border 2 = .ok (.iconst 0, 1) := by decide +kernel
theorem dX11_border_3 : decode cX11_border 3 = .ok (.istore_n 2, 1) := by decide +kernel
theorem dX11_border_4 : decode cX11_border 4 = .ok (.iload_n 2, 1) := by decide +kernel
theorem dX11_border_5 : decode cX11_border 5 = .ok (.aload_n 0, 1) := by decide +kernel
theorem dX11_border_6 : decode cX11_border 6 = .ok (.getfield 40, 3) := by decide +kernel
theorem dX11_border_9 : decode cX11_border 9 = .ok (.getfield 259, 3) := by decide +kernel
theorem dX11_border_12 : decode cX11_border 12 = .ok (.if_icmp .ge 28, 3) := by decide +kernel
theorem dX11_border_15 : decode cX11_border 15 = .ok (.aload_n 0, 1) := by decide +kernel
theorem dX11_border_16 : decode cX11_border 16 = .ok (.iload_n 2, 1) := by decide +kernel
theorem dX11_border_17 : decode cX11_border 17 = .ok (.invokevirtual 310, 3) := by decide +kernel
theorem dX11_border_20 : decode cX11_border 20 = .ok (.ifCond .eq 14, 3) := by decide +kernel
theorem dX11_border_23 : decode cX11_border 23 = .ok (.iload_n 1, 1) := by decide +kernel
theorem dX11_border_24 : decode cX11_border 24 = .ok (.aload_n 0, 1) := by decide +kernel
theorem dX11_border_25 : decode cX11_border 25 = .ok (.getfield 40, 3) := by decide +kernel
theorem dX11_border_28 : decode cX11_border 28 = .ok (.iload_n 2, 1) := by decide +kernel
theorem dX11_border_29 : decode cX11_border 29 = .ok (.invokevirtual 354, 3) := by decide +kernel
theorem dX11_border_32 : decode cX11_border 32 = .ok (.ior, 1) := by decide +kernel
theorem dX11_border_33 : decode cX11_border 33 = .ok (.istore_n 1, 1) := by decide +kernel
theorem dX11_border_34 : decode cX11_border 34 = .ok (.iinc 2 1, 3) := by decide +kernel
theorem dX11_border_37 : decode cX11_border 37 = .ok (.goto (-33), 3) := by decide +kernel
theorem dX11_border_40 : decode cX11_border 40 = .ok (.iload_n 1, 1) := by decide +kernel
theorem dX11_border_41 : decode cX11_border 41 = .ok (.ireturn, 1) := by decide +kernel
set_option maxRecDepth 20000 in
theorem ggX11_heaviest_X4_take : GoodIn wsX11_heaviest wsX4_take := goodIn_s _ [(8, 30), (7, 1), (38, 35), (95, 31)] rfl (by decide +kernel)
set_option maxRecDepth 20000 in
theorem gX11_heaviest_X4_take : GoodIn wsX11_heaviest (wsV RX11 333 RX4 yX4_take wsX4_take) := goodIn_app (goodIn_of _ (by decide +kernel)) ggX11_heaviest_X4_take
set_option maxRecDepth 20000 in
theorem ggX11_heaviest_X4_heaviestPart : GoodIn wsX11_heaviest wsX4_heaviestPart := goodIn_s _ [(76, 1), (11, 1), (16, 1), (24, 3), (95, 12)] rfl (by decide +kernel)
set_option maxRecDepth 20000 in
theorem gX11_heaviest_X4_heaviestPart : GoodIn wsX11_heaviest (wsV RX11 363 RX4 yX4_heaviestPart wsX4_heaviestPart) := goodIn_app (goodIn_of _ (by decide +kernel)) ggX11_heaviest_X4_heaviestPart
theorem dX11_heaviest_0 : decode cX11_heaviest 0 = .ok (.aload_n 0, 1) := by decide +kernel
theorem dX11_heaviest_1 : decode cX11_heaviest 1 = .ok (.getfield 73, 3) := by decide +kernel
theorem dX11_heaviest_4 : decode cX11_heaviest 4 = .ok (.aload_n 0, 1) := by decide +kernel
theorem dX11_heaviest_5 : decode cX11_heaviest 5 = .ok (.getfield 40, 3) := by decide +kernel
theorem dX11_heaviest_8 : decode cX11_heaviest 8 = .ok (.aload_n 0, 1) := by decide +kernel
theorem dX11_heaviest_9 : decode cX11_heaviest 9 = .ok (.getfield 53, 3) := by decide +kernel
theorem dX11_heaviest_12 : decode cX11_heaviest 12 = .ok (.invokevirtual 333, 3) := by decide +kernel
theorem dX11_heaviest_15 : decode cX11_heaviest 15 = .ok (.aload_n 0, 1) := by decide +kernel
theorem dX11_heaviest_16 : decode cX11_heaviest 16 = .ok (.getfield 73, 3) := by decide +kernel
theorem dX11_heaviest_19 : decode cX11_heaviest 19 = .ok (.invokevirtual 363, 3) := by decide +kernel
theorem dX11_heaviest_22 : decode cX11_heaviest 22 = .ok (.ireturn, 1) := by decide +kernel
set_option maxRecDepth 20000 in
theorem ggX11_cutShare_X11_cut : GoodIn wsX11_cutShare wsX11_cut := goodIn_s _ [(7, 2), (1, 1), (9, 23), (6, 1), (32, 65), (109, 12), (97, 12), (121, 7)] rfl (by decide +kernel)
set_option maxRecDepth 20000 in
theorem gX11_cutShare_X11_cut : GoodIn wsX11_cutShare (wsV RX11 366 RX11 yX11_cut wsX11_cut) := goodIn_app (goodIn_of _ (by decide +kernel)) ggX11_cutShare_X11_cut
theorem dX11_cutShare_0 : decode cX11_cutShare 0 = .ok (.aload_n 0, 1) := by decide +kernel
theorem dX11_cutShare_1 : decode cX11_cutShare 1 = .ok (.getfield 40, 3) := by decide +kernel
theorem dX11_cutShare_4 : decode cX11_cutShare 4 = .ok (.getfield 274, 3) := by decide +kernel
theorem dX11_cutShare_7 : decode cX11_cutShare 7 = .ok (.ifCond .ne 5, 3) := by decide +kernel
theorem dX11_cutShare_10 : decode cX11_cutShare 10 = .ok (.fconst 0, 1) := by decide +kernel
theorem dX11_cutShare_11 : decode cX11_cutShare 11 = .ok (.freturn, 1) := by decide +kernel
theorem dX11_cutShare_12 : decode cX11_cutShare 12 = .ok (.aload_n 0, 1) := by decide +kernel
theorem dX11_cutShare_13 : decode cX11_cutShare 13 = .ok (.invokevirtual 366, 3) := by decide +kernel
theorem dX11_cutShare_16 : decode cX11_cutShare 16 = .ok (.i2f, 1) := by decide +kernel
theorem dX11_cutShare_17 : decode cX11_cutShare 17 = .ok (.aload_n 0, 1) := by decide +kernel
theorem dX11_cutShare_18 : decode cX11_cutShare 18 = .ok (.getfield 40, 3) := by decide +kernel
theorem dX11_cutShare_21 : decode cX11_cutShare 21 = .ok (.getfield 274, 3) := by decide +kernel
theorem dX11_cutShare_24 : decode cX11_cutShare 24 = .ok (.i2f, 1) := by decide +kernel
theorem dX11_cutShare_25 : decode cX11_cutShare 25 = .ok (.fdiv, 1) := by decide +kernel
theorem dX11_cutShare_26 : decode cX11_cutShare 26 = .ok (.freturn, 1) := by decide +kernel
set_option maxRecDepth 20000 in
theorem ggX11_imbalance_X4_take : GoodIn wsX11_imbalance wsX4_take := goodIn_s _ [(11, 30), (10, 1), (41, 35), (111, 12), (99, 12), (123, 7)] rfl (by decide +kernel)
set_option maxRecDepth 20000 in
theorem gX11_imbalance_X4_take : GoodIn wsX11_imbalance (wsV RX11 333 RX4 yX4_take wsX4_take) := goodIn_app (goodIn_of _ (by decide +kernel)) ggX11_imbalance_X4_take
set_option maxRecDepth 20000 in
theorem ggX11_imbalance_X4_heaviestPart : GoodIn wsX11_imbalance wsX4_heaviestPart := goodIn_s _ [(79, 1), (14, 1), (19, 1), (27, 3), (111, 12)] rfl (by decide +kernel)
set_option maxRecDepth 20000 in
theorem gX11_imbalance_X4_heaviestPart : GoodIn wsX11_imbalance (wsV RX11 363 RX4 yX4_heaviestPart wsX4_heaviestPart) := goodIn_app (goodIn_of _ (by decide +kernel)) ggX11_imbalance_X4_heaviestPart
set_option maxRecDepth 20000 in
theorem ggX11_imbalance_X11_at : GoodIn wsX11_imbalance wsX11_at := goodIn_s _ [(29, 1)] rfl (by decide +kernel)
set_option maxRecDepth 20000 in
theorem gX11_imbalance_X11_at : GoodIn wsX11_imbalance (va_wsS RX11 164 yX11_at wsX11_at) := goodIn_app (goodIn_of _ (by decide +kernel)) ggX11_imbalance_X11_at
theorem dX11_imbalance_0 : decode cX11_imbalance 0 = .ok (.aload_n 0, 1) := by decide +kernel
theorem dX11_imbalance_1 : decode cX11_imbalance 1 = .ok (.getfield 40, 3) := by decide +kernel
theorem dX11_imbalance_4 : decode cX11_imbalance 4 = .ok (.getfield 271, 3) := by decide +kernel
theorem dX11_imbalance_7 : decode cX11_imbalance 7 = .ok (.ifCond .ne 5, 3) := by decide +kernel
theorem dX11_imbalance_10 : decode cX11_imbalance 10 = .ok (.dconst 0, 1) := by decide +kernel
theorem dX11_imbalance_11 : decode cX11_imbalance 11 = .ok (.dreturn, 1) := by decide +kernel
theorem dX11_imbalance_12 : decode cX11_imbalance 12 = .ok (.aload_n 0, 1) := by decide +kernel
theorem dX11_imbalance_13 : decode cX11_imbalance 13 = .ok (.getfield 73, 3) := by decide +kernel
theorem dX11_imbalance_16 : decode cX11_imbalance 16 = .ok (.aload_n 0, 1) := by decide +kernel
theorem dX11_imbalance_17 : decode cX11_imbalance 17 = .ok (.getfield 40, 3) := by decide +kernel
theorem dX11_imbalance_20 : decode cX11_imbalance 20 = .ok (.aload_n 0, 1) := by decide +kernel
theorem dX11_imbalance_21 : decode cX11_imbalance 21 = .ok (.getfield 53, 3) := by decide +kernel
theorem dX11_imbalance_24 : decode cX11_imbalance 24 = .ok (.invokevirtual 333, 3) := by decide +kernel
theorem dX11_imbalance_27 : decode cX11_imbalance 27 = .ok (.aload_n 0, 1) := by decide +kernel
theorem dX11_imbalance_28 : decode cX11_imbalance 28 = .ok (.getfield 73, 3) := by decide +kernel
theorem dX11_imbalance_31 : decode cX11_imbalance 31 = .ok (.getfield 337, 3) := by decide +kernel
theorem dX11_imbalance_34 : decode cX11_imbalance 34 = .ok (.aload_n 0, 1) := by decide +kernel
theorem dX11_imbalance_35 : decode cX11_imbalance 35 = .ok (.getfield 73, 3) := by decide +kernel
theorem dX11_imbalance_38 : decode cX11_imbalance 38 = .ok (.invokevirtual 363, 3) := by decide +kernel
theorem dX11_imbalance_41 : decode cX11_imbalance 41 = .ok (.invokestatic 164, 3) := by decide +kernel
theorem dX11_imbalance_44 : decode cX11_imbalance 44 = .ok (.istore_n 1, 1) := by decide +kernel
theorem dX11_imbalance_45 : decode cX11_imbalance 45 = .ok (.iload_n 1, 1) := by decide +kernel
theorem dX11_imbalance_46 : decode cX11_imbalance 46 = .ok (.aload_n 0, 1) := by decide +kernel
theorem dX11_imbalance_47 : decode cX11_imbalance 47 = .ok (.getfield 40, 3) := by decide +kernel
theorem dX11_imbalance_50 : decode cX11_imbalance 50 = .ok (.getfield 262, 3) := by decide +kernel
theorem dX11_imbalance_53 : decode cX11_imbalance 53 = .ok (.imul, 1) := by decide +kernel
theorem dX11_imbalance_54 : decode cX11_imbalance 54 = .ok (.i2d, 1) := by decide +kernel
theorem dX11_imbalance_55 : decode cX11_imbalance 55 = .ok (.aload_n 0, 1) := by decide +kernel
theorem dX11_imbalance_56 : decode cX11_imbalance 56 = .ok (.getfield 40, 3) := by decide +kernel
theorem dX11_imbalance_59 : decode cX11_imbalance 59 = .ok (.getfield 271, 3) := by decide +kernel
theorem dX11_imbalance_62 : decode cX11_imbalance 62 = .ok (.i2d, 1) := by decide +kernel
theorem dX11_imbalance_63 : decode cX11_imbalance 63 = .ok (.ddiv, 1) := by decide +kernel
theorem dX11_imbalance_64 : decode cX11_imbalance 64 = .ok (.dreturn, 1) := by decide +kernel
set_option maxRecDepth 20000 in
theorem ggX11_group_X11_requireGroup : GoodIn wsX11_group wsX11_requireGroup := goodIn_ca (goodIn_s _ [(13, 6), (12, 1), (19, 1), (5, 1), (20, 9), (94, 18), (124, 7)] rfl (by decide +kernel)) (goodIn_sub (fun _ h => List.mem_cons_of_mem _ (List.mem_append_right _ h)) (by decide +kernel))
set_option maxRecDepth 20000 in
theorem gX11_group_X11_requireGroup : GoodIn wsX11_group (wsV RX11 369 RX11 yX11_requireGroup wsX11_requireGroup) := goodIn_app (goodIn_of _ (by decide +kernel)) ggX11_group_X11_requireGroup
set_option maxRecDepth 20000 in
theorem ggX11_group_X4_take : GoodIn wsX11_group wsX4_take := goodIn_s _ [(33, 10), (21, 7), (12, 1), (28, 1), (43, 11), (32, 1), (54, 35), (112, 12), (131, 12), (124, 7)] rfl (by decide +kernel)
set_option maxRecDepth 20000 in
theorem gX11_group_X4_take : GoodIn wsX11_group (wsV RX11 333 RX4 yX4_take wsX4_take) := goodIn_app (goodIn_of _ (by decide +kernel)) ggX11_group_X4_take
set_option maxRecDepth 20000 in
theorem ggX11_group_X11_at : GoodIn wsX11_group wsX11_at := goodIn_s _ [(28, 1)] rfl (by decide +kernel)
set_option maxRecDepth 20000 in
theorem gX11_group_X11_at : GoodIn wsX11_group (va_wsS RX11 164 yX11_at wsX11_at) := goodIn_app (goodIn_of _ (by decide +kernel)) ggX11_group_X11_at
set_option maxRecDepth 20000 in
theorem ggX11_group_X4_pullOfAll : GoodIn wsX11_group wsX4_pullOfAll := goodIn_s _ [(93, 1), (36, 1), (79, 1), (27, 1), (12, 1), (28, 1), (112, 12)] rfl (by decide +kernel)
set_option maxRecDepth 20000 in
theorem gX11_group_X4_pullOfAll : GoodIn wsX11_group (wsV RX11 381 RX4 yX4_pullOfAll wsX4_pullOfAll) := goodIn_app (goodIn_of _ (by decide +kernel)) ggX11_group_X4_pullOfAll
theorem dX11_group_0 : decode cX11_group 0 = .ok (.aload_n 0, 1) := by decide +kernel
theorem dX11_group_1 : decode cX11_group 1 = .ok (.iload_n 1, 1) := by decide +kernel
theorem dX11_group_2 : decode cX11_group 2 = .ok (.invokevirtual 369, 3) := by decide +kernel
theorem dX11_group_5 : decode cX11_group 5 = .ok (.aload_n 0, 1) := by decide +kernel
theorem dX11_group_6 : decode cX11_group 6 = .ok (.getfield 73, 3) := by decide +kernel
theorem dX11_group_9 : decode cX11_group 9 = .ok (.aload_n 0, 1) := by decide +kernel
theorem dX11_group_10 : decode cX11_group 10 = .ok (.getfield 40, 3) := by decide +kernel
theorem dX11_group_13 : decode cX11_group 13 = .ok (.aload_n 0, 1) := by decide +kernel
theorem dX11_group_14 : decode cX11_group 14 = .ok (.getfield 53, 3) := by decide +kernel
theorem dX11_group_17 : decode cX11_group 17 = .ok (.invokevirtual 333, 3) := by decide +kernel
theorem dX11_group_20 : decode cX11_group 20 = .ok (.iload_n 2, 1) := by decide +kernel
theorem dX11_group_21 : decode cX11_group 21 = .ok (.tableswitch 76 0 3 #[31, 43, 55, 67], 31) := by decide +kernel
theorem dX11_group_52 : decode cX11_group 52 = .ok (.aload_n 0, 1) := by decide +kernel
theorem dX11_group_53 : decode cX11_group 53 = .ok (.getfield 73, 3) := by decide +kernel
theorem dX11_group_56 : decode cX11_group 56 = .ok (.getfield 372, 3) := by decide +kernel
theorem dX11_group_59 : decode cX11_group 59 = .ok (.iload_n 1, 1) := by decide +kernel
theorem dX11_group_60 : decode cX11_group 60 = .ok (.invokestatic 164, 3) := by decide +kernel
theorem dX11_group_63 : decode cX11_group 63 = .ok (.ireturn, 1) := by decide +kernel
theorem dX11_group_64 : decode cX11_group 64 = .ok (.aload_n 0, 1) := by decide +kernel
theorem dX11_group_65 : decode cX11_group 65 = .ok (.getfield 73, 3) := by decide +kernel
theorem dX11_group_68 : decode cX11_group 68 = .ok (.getfield 375, 3) := by decide +kernel
theorem dX11_group_71 : decode cX11_group 71 = .ok (.iload_n 1, 1) := by decide +kernel
theorem dX11_group_72 : decode cX11_group 72 = .ok (.invokestatic 164, 3) := by decide +kernel
theorem dX11_group_75 : decode cX11_group 75 = .ok (.ireturn, 1) := by decide +kernel
theorem dX11_group_76 : decode cX11_group 76 = .ok (.aload_n 0, 1) := by decide +kernel
theorem dX11_group_77 : decode cX11_group 77 = .ok (.getfield 73, 3) := by decide +kernel
theorem dX11_group_80 : decode cX11_group 80 = .ok (.getfield 378, 3) := by decide +kernel
theorem dX11_group_83 : decode cX11_group 83 = .ok (.iload_n 1, 1) := by decide +kernel
theorem dX11_group_84 : decode cX11_group 84 = .ok (.invokestatic 164, 3) := by decide +kernel
theorem dX11_group_87 : decode cX11_group 87 = .ok (.ireturn, 1) := by decide +kernel
theorem dX11_group_88 : decode cX11_group 88 = .ok (.aload_n 0, 1) := by decide +kernel
theorem dX11_group_89 : decode cX11_group 89 = .ok (.getfield 73, 3) := by decide +kernel
theorem dX11_group_92 : decode cX11_group 92 = .ok (.iload_n 1, 1) := by decide +kernel
theorem dX11_group_93 : decode cX11_group 93 = .ok (.invokevirtual 381, 3) := by decide +kernel
theorem dX11_group_96 : decode cX11_group 96 = .ok (.ireturn, 1) := by decide +kernel
theorem dX11_group_97 : decode cX11_group 97 = .ok (.new 117, 3) := by decide +kernel
theorem dX11_group_100 : decode cX11_group 100 = .ok (.dup, 1) := by decide +kernel
theorem dX11_group_101 : decode cX11_group 101 = .ok (.ldc_w 384, 3) := by decide +kernel
theorem dX11_group_104 : decode cX11_group 104 = .ok (.invokespecial 121, 3) := by decide +kernel
theorem dX11_group_107 : decode cX11_group 107 = .ok (.athrow, 1) := by decide +kernel
set_option maxRecDepth 20000 in
theorem ggX11_groupOf_X11_requireVertex : GoodIn wsX11_groupOf wsX11_requireVertex := goodIn_ca (goodIn_s _ [(7, 6), (6, 1), (13, 3), (25, 18), (50, 12)] rfl (by decide +kernel)) (goodIn_sub (fun _ h => List.mem_cons_of_mem _ (List.mem_append_right _ h)) (by decide +kernel))
set_option maxRecDepth 20000 in
theorem gX11_groupOf_X11_requireVertex : GoodIn wsX11_groupOf (wsV RX11 297 RX11 yX11_requireVertex wsX11_requireVertex) := goodIn_app (goodIn_of _ (by decide +kernel)) ggX11_groupOf_X11_requireVertex
set_option maxRecDepth 20000 in
theorem ggX11_groupOf_X8_groupRow : GoodIn wsX11_groupOf wsX8_groupRow := goodIn_s _ [(20, 2), (43, 7)] rfl (by decide +kernel)
set_option maxRecDepth 20000 in
theorem gX11_groupOf_X8_groupRow : GoodIn wsX11_groupOf (wsV RX11 389 RX8 yX8_groupRow wsX8_groupRow) := goodIn_app (goodIn_of _ (by decide +kernel)) ggX11_groupOf_X8_groupRow
set_option maxRecDepth 20000 in
theorem ggX11_groupOf_X11_at : GoodIn wsX11_groupOf wsX11_at := goodIn_s _ [(24, 1)] rfl (by decide +kernel)
set_option maxRecDepth 20000 in
theorem gX11_groupOf_X11_at : GoodIn wsX11_groupOf (va_wsS RX11 164 yX11_at wsX11_at) := goodIn_app (goodIn_of _ (by decide +kernel)) ggX11_groupOf_X11_at
theorem dX11_groupOf_0 : decode cX11_groupOf 0 = .ok (.aload_n 0, 1) := by decide +kernel
theorem dX11_groupOf_1 : decode cX11_groupOf 1 = .ok (.iload_n 1, 1) := by decide +kernel
theorem dX11_groupOf_2 : decode cX11_groupOf 2 = .ok (.invokevirtual 297, 3) := by decide +kernel
theorem dX11_groupOf_5 : decode cX11_groupOf 5 = .ok (.aload_n 0, 1) := by decide +kernel
theorem dX11_groupOf_6 : decode cX11_groupOf 6 = .ok (.getfield 53, 3) := by decide +kernel
theorem dX11_groupOf_9 : decode cX11_groupOf 9 = .ok (.getfield 386, 3) := by decide +kernel
theorem dX11_groupOf_12 : decode cX11_groupOf 12 = .ok (.aload_n 0, 1) := by decide +kernel
theorem dX11_groupOf_13 : decode cX11_groupOf 13 = .ok (.getfield 53, 3) := by decide +kernel
theorem dX11_groupOf_16 : decode cX11_groupOf 16 = .ok (.invokevirtual 389, 3) := by decide +kernel
theorem dX11_groupOf_19 : decode cX11_groupOf 19 = .ok (.iload_n 1, 1) := by decide +kernel
theorem dX11_groupOf_20 : decode cX11_groupOf 20 = .ok (.iadd, 1) := by decide +kernel
theorem dX11_groupOf_21 : decode cX11_groupOf 21 = .ok (.invokestatic 164, 3) := by decide +kernel
theorem dX11_groupOf_24 : decode cX11_groupOf 24 = .ok (.ireturn, 1) := by decide +kernel
theorem dX11_whyNotShrink_0 : decode cX11_whyNotShrink 0 = .ok (.aload_n 0, 1) := by decide +kernel
theorem dX11_whyNotShrink_1 : decode cX11_whyNotShrink 1 = .ok (.getfield 53, 3) := by decide +kernel
theorem dX11_whyNotShrink_4 : decode cX11_whyNotShrink 4 = .ok (.getfield 192, 3) := by decide +kernel
theorem dX11_whyNotShrink_7 : decode cX11_whyNotShrink 7 = .ok (.iconst 4, 1) := by decide +kernel
theorem dX11_whyNotShrink_8 : decode cX11_whyNotShrink 8 = .ok (.if_icmp .lt 5, 3) := by decide +kernel
theorem dX11_whyNotShrink_11 : decode cX11_whyNotShrink 11 = .ok (.iconst 1, 1) := by decide +kernel
theorem dX11_whyNotShrink_12 : decode cX11_whyNotShrink 12 = .ok (.ireturn, 1) := by decide +kernel
theorem dX11_whyNotShrink_13 : decode cX11_whyNotShrink 13 = .ok (.aload_n 0, 1) := by decide +kernel
theorem dX11_whyNotShrink_14 : decode cX11_whyNotShrink 14 = .ok (.invokevirtual 392, 3) := by decide +kernel
theorem dX11_whyNotShrink_17 : decode cX11_whyNotShrink 17 = .ok (.aload_n 0, 1) := by decide +kernel
theorem dX11_whyNotShrink_18 : decode cX11_whyNotShrink 18 = .ok (.getfield 80, 3) := by decide +kernel
theorem dX11_whyNotShrink_21 : decode cX11_whyNotShrink 21 = .ok (.getfield 395, 3) := by decide +kernel
theorem dX11_whyNotShrink_24 : decode cX11_whyNotShrink 24 = .ok (.ifCond .eq 7, 3) := by decide +kernel
theorem dX11_whyNotShrink_27 : decode cX11_whyNotShrink 27 = .ok (.iconst 0, 1) := by decide +kernel
theorem dX11_whyNotShrink_28 : decode cX11_whyNotShrink 28 = .ok (.goto 4, 3) := by decide +kernel
theorem dX11_whyNotShrink_31 : decode cX11_whyNotShrink 31 = .ok (.iconst 2, 1) := by decide +kernel
theorem dX11_whyNotShrink_32 : decode cX11_whyNotShrink 32 = .ok (.ireturn, 1) := by decide +kernel
set_option maxRecDepth 20000 in
theorem ggX11_findPairs_X4_take : GoodIn wsX11_findPairs wsX4_take := goodIn_s _ [(9, 30), (8, 1), (39, 35), (119, 31)] rfl (by decide +kernel)
set_option maxRecDepth 20000 in
theorem gX11_findPairs_X4_take : GoodIn wsX11_findPairs (wsV RX11 333 RX4 yX4_take wsX4_take) := goodIn_app (goodIn_of _ (by decide +kernel)) ggX11_findPairs_X4_take
set_option maxRecDepth 20000 in
theorem ggX11_findPairs_X5_join : GoodIn wsX11_findPairs wsX5_join := goodIn_s _ [(78, 8), (49, 3), (86, 1), (53, 2), (21, 1), (55, 1), (24, 4), (56, 2), (150, 5), (131, 19)] rfl (by decide +kernel)
set_option maxRecDepth 20000 in
theorem gX11_findPairs_X5_join : GoodIn wsX11_findPairs (wsV RX11 399 RX5 yX5_join wsX5_join) := goodIn_app (goodIn_of _ (by decide +kernel)) ggX11_findPairs_X5_join
set_option maxRecDepth 20000 in
theorem ggX11_findPairs_X5_findMates : GoodIn wsX11_findPairs wsX5_findMates := goodIn_s _ [(90, 4), (85, 1), (49, 3), (25, 3), (94, 3), (77, 1), (97, 4), (79, 1), (58, 2), (150, 5), (119, 12)] rfl (by decide +kernel)
set_option maxRecDepth 20000 in
theorem gX11_findPairs_X5_findMates : GoodIn wsX11_findPairs (wsV RX11 402 RX5 yX5_findMates wsX5_findMates) := goodIn_app (goodIn_of _ (by decide +kernel)) ggX11_findPairs_X5_findMates
theorem dX11_findPairs_0 : decode cX11_findPairs 0 = .ok (.aload_n 0, 1) := by decide +kernel
theorem dX11_findPairs_1 : decode cX11_findPairs 1 = .ok (.getfield 73, 3) := by decide +kernel
theorem dX11_findPairs_4 : decode cX11_findPairs 4 = .ok (.aload_n 0, 1) := by decide +kernel
theorem dX11_findPairs_5 : decode cX11_findPairs 5 = .ok (.getfield 40, 3) := by decide +kernel
theorem dX11_findPairs_8 : decode cX11_findPairs 8 = .ok (.aload_n 0, 1) := by decide +kernel
theorem dX11_findPairs_9 : decode cX11_findPairs 9 = .ok (.getfield 53, 3) := by decide +kernel
theorem dX11_findPairs_12 : decode cX11_findPairs 12 = .ok (.invokevirtual 333, 3) := by decide +kernel
theorem dX11_findPairs_15 : decode cX11_findPairs 15 = .ok (.aload_n 0, 1) := by decide +kernel
theorem dX11_findPairs_16 : decode cX11_findPairs 16 = .ok (.getfield 80, 3) := by decide +kernel
theorem dX11_findPairs_19 : decode cX11_findPairs 19 = .ok (.aload_n 0, 1) := by decide +kernel
theorem dX11_findPairs_20 : decode cX11_findPairs 20 = .ok (.getfield 40, 3) := by decide +kernel
theorem dX11_findPairs_23 : decode cX11_findPairs 23 = .ok (.aload_n 0, 1) := by decide +kernel
theorem dX11_findPairs_24 : decode cX11_findPairs 24 = .ok (.getfield 53, 3) := by decide +kernel
theorem dX11_findPairs_27 : decode cX11_findPairs 27 = .ok (.invokevirtual 399, 3) := by decide +kernel
theorem dX11_findPairs_30 : decode cX11_findPairs 30 = .ok (.aload_n 0, 1) := by decide +kernel
theorem dX11_findPairs_31 : decode cX11_findPairs 31 = .ok (.getfield 80, 3) := by decide +kernel
theorem dX11_findPairs_34 : decode cX11_findPairs 34 = .ok (.aload_n 0, 1) := by decide +kernel
theorem dX11_findPairs_35 : decode cX11_findPairs 35 = .ok (.getfield 73, 3) := by decide +kernel
theorem dX11_findPairs_38 : decode cX11_findPairs 38 = .ok (.invokevirtual 402, 3) := by decide +kernel
theorem dX11_findPairs_41 : decode cX11_findPairs 41 = .ok (.return_, 1) := by decide +kernel
set_option maxRecDepth 20000 in
theorem ggX11_mate_X11_requireGroup : GoodIn wsX11_mate wsX11_requireGroup := goodIn_ca (goodIn_s _ [(7, 6), (6, 1), (13, 11), (118, 18), (141, 7)] rfl (by decide +kernel)) (goodIn_sub (fun _ h => List.mem_cons_of_mem _ (List.mem_append_right _ h)) (by decide +kernel))
set_option maxRecDepth 20000 in
theorem gX11_mate_X11_requireGroup : GoodIn wsX11_mate (wsV RX11 369 RX11 yX11_requireGroup wsX11_requireGroup) := goodIn_app (goodIn_of _ (by decide +kernel)) ggX11_mate_X11_requireGroup
set_option maxRecDepth 20000 in
theorem ggX11_mate_X11_at : GoodIn wsX11_mate wsX11_at := goodIn_s _ [(23, 1)] rfl (by decide +kernel)
set_option maxRecDepth 20000 in
theorem gX11_mate_X11_at : GoodIn wsX11_mate (va_wsS RX11 164 yX11_at wsX11_at) := goodIn_app (goodIn_of _ (by decide +kernel)) ggX11_mate_X11_at
theorem dX11_mate_0 : decode cX11_mate 0 = .ok (.aload_n 0, 1) := by decide +kernel
theorem dX11_mate_1 : decode cX11_mate 1 = .ok (.iload_n 1, 1) := by decide +kernel
theorem dX11_mate_2 : decode cX11_mate 2 = .ok (.invokevirtual 369, 3) := by decide +kernel
theorem dX11_mate_5 : decode cX11_mate 5 = .ok (.aload_n 0, 1) := by decide +kernel
theorem dX11_mate_6 : decode cX11_mate 6 = .ok (.invokevirtual 392, 3) := by decide +kernel
theorem dX11_mate_9 : decode cX11_mate 9 = .ok (.aload_n 0, 1) := by decide +kernel
theorem dX11_mate_10 : decode cX11_mate 10 = .ok (.getfield 80, 3) := by decide +kernel
theorem dX11_mate_13 : decode cX11_mate 13 = .ok (.getfield 406, 3) := by decide +kernel
theorem dX11_mate_16 : decode cX11_mate 16 = .ok (.iload_n 1, 1) := by decide +kernel
theorem dX11_mate_17 : decode cX11_mate 17 = .ok (.invokestatic 164, 3) := by decide +kernel
theorem dX11_mate_20 : decode cX11_mate 20 = .ok (.ireturn, 1) := by decide +kernel
set_option maxRecDepth 20000 in
theorem ggX11_gain_X11_requireGroup : GoodIn wsX11_gain wsX11_requireGroup := goodIn_ca (goodIn_s _ [(8, 6), (7, 1), (14, 1), (3, 1), (15, 9), (97, 25)] rfl (by decide +kernel)) (goodIn_sub (fun _ h => List.mem_cons_of_mem _ (List.mem_append_right _ h)) (by decide +kernel))
set_option maxRecDepth 20000 in
theorem gX11_gain_X11_requireGroup : GoodIn wsX11_gain (wsV RX11 369 RX11 yX11_requireGroup wsX11_requireGroup) := goodIn_app (goodIn_of _ (by decide +kernel)) ggX11_gain_X11_requireGroup
set_option maxRecDepth 20000 in
theorem ggX11_gain_X11_requirePart : GoodIn wsX11_gain wsX11_requirePart := goodIn_ca (goodIn_s _ [(27, 1), (9, 2), (28, 3), (7, 1), (31, 1), (2, 1), (32, 1), (97, 18), (122, 12)] rfl (by decide +kernel)) (goodIn_sub (fun _ h => List.mem_cons_of_mem _ (List.mem_append_right _ h)) (by decide +kernel))
set_option maxRecDepth 20000 in
theorem gX11_gain_X11_requirePart : GoodIn wsX11_gain (wsV RX11 330 RX11 yX11_requirePart wsX11_requirePart) := goodIn_app (goodIn_of _ (by decide +kernel)) ggX11_gain_X11_requirePart
set_option maxRecDepth 20000 in
theorem ggX11_gain_X4_take : GoodIn wsX11_gain wsX4_take := goodIn_s _ [(37, 10), (16, 7), (7, 1), (23, 1), (47, 11), (36, 1), (58, 35), (134, 12), (122, 12), (115, 7)] rfl (by decide +kernel)
set_option maxRecDepth 20000 in
theorem gX11_gain_X4_take : GoodIn wsX11_gain (wsV RX11 333 RX4 yX4_take wsX4_take) := goodIn_app (goodIn_of _ (by decide +kernel)) ggX11_gain_X4_take
set_option maxRecDepth 20000 in
theorem ggX11_gain_X4_gainOf : GoodIn wsX11_gain wsX4_gainOf := goodIn_s _ [(96, 1), (83, 1), (66, 1), (22, 1), (7, 1), (23, 1), (134, 12)] rfl (by decide +kernel)
set_option maxRecDepth 20000 in
theorem gX11_gain_X4_gainOf : GoodIn wsX11_gain (wsV RX11 409 RX4 yX4_gainOf wsX4_gainOf) := goodIn_app (goodIn_of _ (by decide +kernel)) ggX11_gain_X4_gainOf
theorem dX11_gain_0 : decode cX11_gain 0 = .ok (.aload_n 0, 1) := by decide +kernel
theorem dX11_gain_1 : decode cX11_gain 1 = .ok (.iload_n 1, 1) := by decide +kernel
theorem dX11_gain_2 : decode cX11_gain 2 = .ok (.invokevirtual 369, 3) := by decide +kernel
theorem dX11_gain_5 : decode cX11_gain 5 = .ok (.aload_n 0, 1) := by decide +kernel
theorem dX11_gain_6 : decode cX11_gain 6 = .ok (.iload_n 2, 1) := by decide +kernel
theorem dX11_gain_7 : decode cX11_gain 7 = .ok (.invokevirtual 330, 3) := by decide +kernel
theorem dX11_gain_10 : decode cX11_gain 10 = .ok (.aload_n 0, 1) := by decide +kernel
theorem dX11_gain_11 : decode cX11_gain 11 = .ok (.getfield 73, 3) := by decide +kernel
theorem dX11_gain_14 : decode cX11_gain 14 = .ok (.aload_n 0, 1) := by decide +kernel
theorem dX11_gain_15 : decode cX11_gain 15 = .ok (.getfield 40, 3) := by decide +kernel
theorem dX11_gain_18 : decode cX11_gain 18 = .ok (.aload_n 0, 1) := by decide +kernel
theorem dX11_gain_19 : decode cX11_gain 19 = .ok (.getfield 53, 3) := by decide +kernel
theorem dX11_gain_22 : decode cX11_gain 22 = .ok (.invokevirtual 333, 3) := by decide +kernel
theorem dX11_gain_25 : decode cX11_gain 25 = .ok (.aload_n 0, 1) := by decide +kernel
theorem dX11_gain_26 : decode cX11_gain 26 = .ok (.getfield 73, 3) := by decide +kernel
theorem dX11_gain_29 : decode cX11_gain 29 = .ok (.iload_n 1, 1) := by decide +kernel
theorem dX11_gain_30 : decode cX11_gain 30 = .ok (.iload_n 2, 1) := by decide +kernel
theorem dX11_gain_31 : decode cX11_gain 31 = .ok (.invokevirtual 409, 3) := by decide +kernel
theorem dX11_gain_34 : decode cX11_gain 34 = .ok (.ireturn, 1) := by decide +kernel
set_option maxRecDepth 20000 in
theorem ggX11_whyNotMove_X11_requireGroup : GoodIn wsX11_whyNotMove wsX11_requireGroup := goodIn_ca (goodIn_s _ [(8, 6), (7, 1), (14, 1), (3, 1), (15, 9), (105, 25)] rfl (by decide +kernel)) (goodIn_sub (fun _ h => List.mem_cons_of_mem _ (List.mem_append_right _ h)) (by decide +kernel))
set_option maxRecDepth 20000 in
theorem gX11_whyNotMove_X11_requireGroup : GoodIn wsX11_whyNotMove (wsV RX11 369 RX11 yX11_requireGroup wsX11_requireGroup) := goodIn_app (goodIn_of _ (by decide +kernel)) ggX11_whyNotMove_X11_requireGroup
set_option maxRecDepth 20000 in
theorem ggX11_whyNotMove_X11_requirePart : GoodIn wsX11_whyNotMove wsX11_requirePart := goodIn_ca (goodIn_s _ [(27, 1), (9, 2), (28, 3), (7, 1), (31, 1), (2, 1), (32, 1), (105, 18), (130, 12)] rfl (by decide +kernel)) (goodIn_sub (fun _ h => List.mem_cons_of_mem _ (List.mem_append_right _ h)) (by decide +kernel))
set_option maxRecDepth 20000 in
theorem gX11_whyNotMove_X11_requirePart : GoodIn wsX11_whyNotMove (wsV RX11 330 RX11 yX11_requirePart wsX11_requirePart) := goodIn_app (goodIn_of _ (by decide +kernel)) ggX11_whyNotMove_X11_requirePart
set_option maxRecDepth 20000 in
theorem ggX11_whyNotMove_X4_take : GoodIn wsX11_whyNotMove wsX4_take := goodIn_s _ [(37, 10), (16, 7), (7, 1), (23, 1), (47, 11), (36, 1), (58, 35), (142, 12), (130, 12), (123, 7)] rfl (by decide +kernel)
set_option maxRecDepth 20000 in
theorem gX11_whyNotMove_X4_take : GoodIn wsX11_whyNotMove (wsV RX11 333 RX4 yX4_take wsX4_take) := goodIn_app (goodIn_of _ (by decide +kernel)) ggX11_whyNotMove_X4_take
set_option maxRecDepth 20000 in
theorem ggX11_whyNotMove_X4_reasonAgainst : GoodIn wsX11_whyNotMove wsX4_reasonAgainst := goodIn_s _ [(96, 1), (66, 1), (22, 1), (7, 1), (23, 1), (97, 3), (36, 1), (100, 1), (44, 1), (60, 1), (45, 1), (89, 4), (41, 1), (101, 4), (43, 1), (142, 12)] rfl (by decide +kernel)
set_option maxRecDepth 20000 in
theorem gX11_whyNotMove_X4_reasonAgainst : GoodIn wsX11_whyNotMove (wsV RX11 412 RX4 yX4_reasonAgainst wsX4_reasonAgainst) := goodIn_app (goodIn_of _ (by decide +kernel)) ggX11_whyNotMove_X4_reasonAgainst
theorem dX11_whyNotMove_0 : decode cX11_whyNotMove 0 = .ok (.aload_n 0, 1) := by decide +kernel
theorem dX11_whyNotMove_1 : decode cX11_whyNotMove 1 = .ok (.iload_n 1, 1) := by decide +kernel
theorem dX11_whyNotMove_2 : decode cX11_whyNotMove 2 = .ok (.invokevirtual 369, 3) := by decide +kernel
theorem dX11_whyNotMove_5 : decode cX11_whyNotMove 5 = .ok (.aload_n 0, 1) := by decide +kernel
theorem dX11_whyNotMove_6 : decode cX11_whyNotMove 6 = .ok (.iload_n 2, 1) := by decide +kernel
theorem dX11_whyNotMove_7 : decode cX11_whyNotMove 7 = .ok (.invokevirtual 330, 3) := by decide +kernel
theorem dX11_whyNotMove_10 : decode cX11_whyNotMove 10 = .ok (.aload_n 0, 1) := by decide +kernel
theorem dX11_whyNotMove_11 : decode cX11_whyNotMove 11 = .ok (.getfield 73, 3) := by decide +kernel
theorem dX11_whyNotMove_14 : decode cX11_whyNotMove 14 = .ok (.aload_n 0, 1) := by decide +kernel
theorem dX11_whyNotMove_15 : decode cX11_whyNotMove 15 = .ok (.getfield 40, 3) := by decide +kernel
theorem dX11_whyNotMove_18 : decode cX11_whyNotMove 18 = .ok (.aload_n 0, 1) := by decide +kernel
theorem dX11_whyNotMove_19 : decode cX11_whyNotMove 19 = .ok (.getfield 53, 3) := by decide +kernel
theorem dX11_whyNotMove_22 : decode cX11_whyNotMove 22 = .ok (.invokevirtual 333, 3) := by decide +kernel
theorem dX11_whyNotMove_25 : decode cX11_whyNotMove 25 = .ok (.aload_n 0, 1) := by decide +kernel
theorem dX11_whyNotMove_26 : decode cX11_whyNotMove 26 = .ok (.getfield 73, 3) := by decide +kernel
theorem dX11_whyNotMove_29 : decode cX11_whyNotMove 29 = .ok (.iload_n 1, 1) := by decide +kernel
theorem dX11_whyNotMove_30 : decode cX11_whyNotMove 30 = .ok (.iload_n 2, 1) := by decide +kernel
theorem dX11_whyNotMove_31 : decode cX11_whyNotMove 31 = .ok (.invokevirtual 412, 3) := by decide +kernel
theorem dX11_whyNotMove_34 : decode cX11_whyNotMove 34 = .ok (.ireturn, 1) := by decide +kernel
set_option maxRecDepth 20000 in
theorem ggX11_debtsIf_X11_requireGroup : GoodIn wsX11_debtsIf wsX11_requireGroup := goodIn_ca (goodIn_s _ [(8, 6), (7, 1), (14, 1), (3, 1), (15, 9), (97, 25)] rfl (by decide +kernel)) (goodIn_sub (fun _ h => List.mem_cons_of_mem _ (List.mem_append_right _ h)) (by decide +kernel))
set_option maxRecDepth 20000 in
theorem gX11_debtsIf_X11_requireGroup : GoodIn wsX11_debtsIf (wsV RX11 369 RX11 yX11_requireGroup wsX11_requireGroup) := goodIn_app (goodIn_of _ (by decide +kernel)) ggX11_debtsIf_X11_requireGroup
set_option maxRecDepth 20000 in
theorem ggX11_debtsIf_X11_requirePart : GoodIn wsX11_debtsIf wsX11_requirePart := goodIn_ca (goodIn_s _ [(27, 1), (9, 2), (28, 3), (7, 1), (31, 1), (2, 1), (32, 1), (97, 18), (122, 12)] rfl (by decide +kernel)) (goodIn_sub (fun _ h => List.mem_cons_of_mem _ (List.mem_append_right _ h)) (by decide +kernel))
set_option maxRecDepth 20000 in
theorem gX11_debtsIf_X11_requirePart : GoodIn wsX11_debtsIf (wsV RX11 330 RX11 yX11_requirePart wsX11_requirePart) := goodIn_app (goodIn_of _ (by decide +kernel)) ggX11_debtsIf_X11_requirePart
set_option maxRecDepth 20000 in
theorem ggX11_debtsIf_X4_take : GoodIn wsX11_debtsIf wsX4_take := goodIn_s _ [(37, 10), (16, 7), (7, 1), (23, 1), (47, 11), (36, 1), (58, 35), (134, 12), (122, 12), (115, 7)] rfl (by decide +kernel)
set_option maxRecDepth 20000 in
theorem gX11_debtsIf_X4_take : GoodIn wsX11_debtsIf (wsV RX11 333 RX4 yX4_take wsX4_take) := goodIn_app (goodIn_of _ (by decide +kernel)) ggX11_debtsIf_X4_take
set_option maxRecDepth 20000 in
theorem ggX11_debtsIf_X4_debtsWith : GoodIn wsX11_debtsIf wsX4_debtsWith := goodIn_s _ [(96, 1), (66, 1), (44, 1), (60, 1), (45, 1), (22, 1), (7, 1), (23, 1), (89, 3), (36, 1), (92, 1), (41, 1), (134, 12)] rfl (by decide +kernel)
set_option maxRecDepth 20000 in
theorem gX11_debtsIf_X4_debtsWith : GoodIn wsX11_debtsIf (wsV RX11 415 RX4 yX4_debtsWith wsX4_debtsWith) := goodIn_app (goodIn_of _ (by decide +kernel)) ggX11_debtsIf_X4_debtsWith
theorem dX11_debtsIf_0 : decode cX11_debtsIf 0 = .ok (.aload_n 0, 1) := by decide +kernel
theorem dX11_debtsIf_1 : decode cX11_debtsIf 1 = .ok (.iload_n 1, 1) := by decide +kernel
theorem dX11_debtsIf_2 : decode cX11_debtsIf 2 = .ok (.invokevirtual 369, 3) := by decide +kernel
theorem dX11_debtsIf_5 : decode cX11_debtsIf 5 = .ok (.aload_n 0, 1) := by decide +kernel
theorem dX11_debtsIf_6 : decode cX11_debtsIf 6 = .ok (.iload_n 2, 1) := by decide +kernel
theorem dX11_debtsIf_7 : decode cX11_debtsIf 7 = .ok (.invokevirtual 330, 3) := by decide +kernel
theorem dX11_debtsIf_10 : decode cX11_debtsIf 10 = .ok (.aload_n 0, 1) := by decide +kernel
theorem dX11_debtsIf_11 : decode cX11_debtsIf 11 = .ok (.getfield 73, 3) := by decide +kernel
theorem dX11_debtsIf_14 : decode cX11_debtsIf 14 = .ok (.aload_n 0, 1) := by decide +kernel
theorem dX11_debtsIf_15 : decode cX11_debtsIf 15 = .ok (.getfield 40, 3) := by decide +kernel
theorem dX11_debtsIf_18 : decode cX11_debtsIf 18 = .ok (.aload_n 0, 1) := by decide +kernel
theorem dX11_debtsIf_19 : decode cX11_debtsIf 19 = .ok (.getfield 53, 3) := by decide +kernel
theorem dX11_debtsIf_22 : decode cX11_debtsIf 22 = .ok (.invokevirtual 333, 3) := by decide +kernel
theorem dX11_debtsIf_25 : decode cX11_debtsIf 25 = .ok (.aload_n 0, 1) := by decide +kernel
theorem dX11_debtsIf_26 : decode cX11_debtsIf 26 = .ok (.getfield 73, 3) := by decide +kernel
theorem dX11_debtsIf_29 : decode cX11_debtsIf 29 = .ok (.iload_n 1, 1) := by decide +kernel
theorem dX11_debtsIf_30 : decode cX11_debtsIf 30 = .ok (.iload_n 2, 1) := by decide +kernel
theorem dX11_debtsIf_31 : decode cX11_debtsIf 31 = .ok (.invokevirtual 415, 3) := by decide +kernel
theorem dX11_debtsIf_34 : decode cX11_debtsIf 34 = .ok (.ireturn, 1) := by decide +kernel
set_option maxRecDepth 20000 in
theorem ggX11_nextStep_X4_take : GoodIn wsX11_nextStep wsX4_take := goodIn_s _ [(8, 30), (7, 1), (38, 35), (111, 31)] rfl (by decide +kernel)
