theorem dX12_statement_93 : decode cX12_statement 93 = .ok (.goto 8, 3) := by decide +kernel
theorem dX12_statement_96 : decode cX12_statement 96 = .ok (.aload_n 0, 1) := by decide +kernel
theorem dX12_statement_97 : decode cX12_statement 97 = .ok (.iconst 1, 1) := by decide +kernel
theorem dX12_statement_98 : decode cX12_statement 98 = .ok (.invokevirtual 155, 3) := by decide +kernel
theorem dX12_statement_101 : decode cX12_statement 101 = .ok (.aload_n 0, 1) := by decide +kernel
theorem dX12_statement_102 : decode cX12_statement 102 = .ok (.bipush 59, 2) := by decide +kernel
theorem dX12_statement_104 : decode cX12_statement 104 = .ok (.invokevirtual 227, 3) := by decide +kernel
theorem dX12_statement_107 : decode cX12_statement 107 = .ok (.return_, 1) := by decide +kernel
set_option maxRecDepth 20000 in
theorem ggX12_readText_X12_beginsText : GoodIn wsX12_readText wsX12_beginsText := goodIn_s _ [(12, 11), (11, 1), (23, 4), (4, 1), (27, 11), (128, 48)] rfl (by decide +kernel)
set_option maxRecDepth 20000 in
theorem gX12_readText_X12_beginsText : GoodIn wsX12_readText (wsV RX12 230 RX12 yX12_beginsText wsX12_beginsText) := goodIn_app (goodIn_of _ (by decide +kernel)) ggX12_readText_X12_beginsText
set_option maxRecDepth 20000 in
theorem ggX12_readText_X12_laysAside : GoodIn wsX12_readText wsX12_laysAside := goodIn_s _ [(41, 1), (6, 1), (5, 1), (128, 48)] rfl (by decide +kernel)
set_option maxRecDepth 20000 in
theorem gX12_readText_X12_laysAside : GoodIn wsX12_readText (wsV RX12 233 RX12 yX12_laysAside wsX12_laysAside) := goodIn_app (goodIn_of _ (by decide +kernel)) ggX12_readText_X12_laysAside
set_option maxRecDepth 20000 in
theorem ggX12_readText_X12_clears : GoodIn wsX12_readText wsX12_clears := goodIn_s _ [(45, 1), (5, 1), (128, 48)] rfl (by decide +kernel)
set_option maxRecDepth 20000 in
theorem gX12_readText_X12_clears : GoodIn wsX12_readText (wsV RX12 87 RX12 yX12_clears wsX12_clears) := goodIn_app (goodIn_of _ (by decide +kernel)) ggX12_readText_X12_clears
set_option maxRecDepth 20000 in
theorem ggX12_readText_X12_isGood : GoodIn wsX12_readText wsX12_isGood := goodIn_s _ [(49, 1), (16, 1), (128, 48)] rfl (by decide +kernel)
set_option maxRecDepth 20000 in
theorem gX12_readText_X12_isGood : GoodIn wsX12_readText (wsV RX12 148 RX12 yX12_isGood wsX12_isGood) := goodIn_app (goodIn_of _ (by decide +kernel)) ggX12_readText_X12_isGood
set_option maxRecDepth 20000 in
theorem ggX12_readText_X12_statement : GoodIn wsX12_readText wsX12_statement := goodIn_s _ [(53, 9), (11, 1), (62, 1), (4, 1), (25, 1), (46, 4), (16, 1), (63, 4), (5, 1), (2, 1), (67, 4), (24, 1), (17, 1), (19, 1), (18, 1), (20, 4), (15, 1), (26, 5), (14, 1), (31, 7), (71, 31), (3, 1), (102, 11), (128, 48)] rfl (by decide +kernel)
set_option maxRecDepth 20000 in
theorem gX12_readText_X12_statement : GoodIn wsX12_readText (wsV RX12 236 RX12 yX12_statement wsX12_statement) := goodIn_app (goodIn_of _ (by decide +kernel)) ggX12_readText_X12_statement
set_option maxRecDepth 20000 in
theorem ggX12_readText_X12_endsText : GoodIn wsX12_readText wsX12_endsText := goodIn_s _ [(116, 1), (16, 1), (117, 1), (17, 1), (118, 1), (18, 1), (119, 4), (11, 1), (123, 53)] rfl (by decide +kernel)
set_option maxRecDepth 20000 in
theorem gX12_readText_X12_endsText : GoodIn wsX12_readText (wsV RX12 239 RX12 yX12_endsText wsX12_endsText) := goodIn_app (goodIn_of _ (by decide +kernel)) ggX12_readText_X12_endsText
theorem dX12_readText_0 : decode cX12_readText 0 = .ok (.aload_n 0, 1) := by decide +kernel
theorem dX12_readText_1 : decode cX12_readText 1 = .ok (.invokevirtual 230, 3) := by decide +kernel
theorem dX12_readText_4 : decode cX12_readText 4 = .ok (.aload_n 0, 1) := by decide +kernel
theorem dX12_readText_5 : decode cX12_readText 5 = .ok (.invokevirtual 233, 3) := by decide +kernel
theorem dX12_readText_8 : decode cX12_readText 8 = .ok (.iconst 0, 1) := by decide +kernel
theorem dX12_readText_9 : decode cX12_readText 9 = .ok (.istore_n 1, 1) := by decide +kernel
theorem dX12_readText_10 : decode cX12_readText 10 = .ok (.iload_n 1, 1) := by decide +kernel
theorem dX12_readText_11 : decode cX12_readText 11 = .ok (.bipush 14, 2) := by decide +kernel
theorem dX12_readText_13 : decode cX12_readText 13 = .ok (.if_icmp .ge 21, 3) := by decide +kernel
theorem dX12_readText_16 : decode cX12_readText 16 = .ok (.aload_n 0, 1) := by decide +kernel
theorem dX12_readText_17 : decode cX12_readText 17 = .ok (.getfield 48, 3) := by decide +kernel
theorem dX12_readText_20 : decode cX12_readText 20 = .ok (.iload_n 1, 1) := by decide +kernel
theorem dX12_readText_21 : decode cX12_readText 21 = .ok (.aload_n 0, 1) := by decide +kernel
theorem dX12_readText_22 : decode cX12_readText 22 = .ok (.getfield 41, 3) := by decide +kernel
theorem dX12_readText_25 : decode cX12_readText 25 = .ok (.iload_n 1, 1) := by decide +kernel
theorem dX12_readText_26 : decode cX12_readText 26 = .ok (.laload, 1) := by decide +kernel
theorem dX12_readText_27 : decode cX12_readText 27 = .ok (.lastore, 1) := by decide +kernel
theorem dX12_readText_28 : decode cX12_readText 28 = .ok (.iinc 1 1, 3) := by decide +kernel
theorem dX12_readText_31 : decode cX12_readText 31 = .ok (.goto (-21), 3) := by decide +kernel
theorem dX12_readText_34 : decode cX12_readText 34 = .ok (.aload_n 0, 1) := by decide +kernel
theorem dX12_readText_35 : decode cX12_readText 35 = .ok (.invokevirtual 87, 3) := by decide +kernel
theorem dX12_readText_38 : decode cX12_readText 38 = .ok (.aload_n 0, 1) := by decide +kernel
theorem dX12_readText_39 : decode cX12_readText 39 = .ok (.iconst 0, 1) := by decide +kernel
theorem dX12_readText_40 : decode cX12_readText 40 = .ok (.putfield 196, 3) := by decide +kernel
theorem dX12_readText_43 : decode cX12_readText 43 = .ok (.aload_n 0, 1) := by decide +kernel
theorem dX12_readText_44 : decode cX12_readText 44 = .ok (.invokevirtual 148, 3) := by decide +kernel
theorem dX12_readText_47 : decode cX12_readText 47 = .ok (.ifCond .eq 17, 3) := by decide +kernel
theorem dX12_readText_50 : decode cX12_readText 50 = .ok (.aload_n 0, 1) := by decide +kernel
theorem dX12_readText_51 : decode cX12_readText 51 = .ok (.getfield 132, 3) := by decide +kernel
theorem dX12_readText_54 : decode cX12_readText 54 = .ok (.ifCond .eq 10, 3) := by decide +kernel
theorem dX12_readText_57 : decode cX12_readText 57 = .ok (.aload_n 0, 1) := by decide +kernel
theorem dX12_readText_58 : decode cX12_readText 58 = .ok (.invokevirtual 236, 3) := by decide +kernel
theorem dX12_readText_61 : decode cX12_readText 61 = .ok (.goto (-18), 3) := by decide +kernel
theorem dX12_readText_64 : decode cX12_readText 64 = .ok (.aload_n 0, 1) := by decide +kernel
theorem dX12_readText_65 : decode cX12_readText 65 = .ok (.invokevirtual 239, 3) := by decide +kernel
theorem dX12_readText_68 : decode cX12_readText 68 = .ok (.ifCond .ne 58, 3) := by decide +kernel
theorem dX12_readText_71 : decode cX12_readText 71 = .ok (.iconst 0, 1) := by decide +kernel
theorem dX12_readText_72 : decode cX12_readText 72 = .ok (.istore_n 1, 1) := by decide +kernel
theorem dX12_readText_73 : decode cX12_readText 73 = .ok (.iload_n 1, 1) := by decide +kernel
theorem dX12_readText_74 : decode cX12_readText 74 = .ok (.sipush 350, 3) := by decide +kernel
theorem dX12_readText_77 : decode cX12_readText 77 = .ok (.if_icmp .ge 21, 3) := by decide +kernel
theorem dX12_readText_80 : decode cX12_readText 80 = .ok (.aload_n 0, 1) := by decide +kernel
theorem dX12_readText_81 : decode cX12_readText 81 = .ok (.getfield 26, 3) := by decide +kernel
theorem dX12_readText_84 : decode cX12_readText 84 = .ok (.iload_n 1, 1) := by decide +kernel
theorem dX12_readText_85 : decode cX12_readText 85 = .ok (.aload_n 0, 1) := by decide +kernel
theorem dX12_readText_86 : decode cX12_readText 86 = .ok (.getfield 35, 3) := by decide +kernel
theorem dX12_readText_89 : decode cX12_readText 89 = .ok (.iload_n 1, 1) := by decide +kernel
theorem dX12_readText_90 : decode cX12_readText 90 = .ok (.iaload, 1) := by decide +kernel
theorem dX12_readText_91 : decode cX12_readText 91 = .ok (.iastore, 1) := by decide +kernel
theorem dX12_readText_92 : decode cX12_readText 92 = .ok (.iinc 1 1, 3) := by decide +kernel
theorem dX12_readText_95 : decode cX12_readText 95 = .ok (.goto (-22), 3) := by decide +kernel
theorem dX12_readText_98 : decode cX12_readText 98 = .ok (.iconst 0, 1) := by decide +kernel
theorem dX12_readText_99 : decode cX12_readText 99 = .ok (.istore_n 1, 1) := by decide +kernel
theorem dX12_readText_100 : decode cX12_readText 100 = .ok (.iload_n 1, 1) := by decide +kernel
theorem dX12_readText_101 : decode cX12_readText 101 = .ok (.bipush 14, 2) := by decide +kernel
theorem dX12_readText_103 : decode cX12_readText 103 = .ok (.if_icmp .ge 21, 3) := by decide +kernel
theorem dX12_readText_106 : decode cX12_readText 106 = .ok (.aload_n 0, 1) := by decide +kernel
theorem dX12_readText_107 : decode cX12_readText 107 = .ok (.getfield 41, 3) := by decide +kernel
theorem dX12_readText_110 : decode cX12_readText 110 = .ok (.iload_n 1, 1) := by decide +kernel
theorem dX12_readText_111 : decode cX12_readText 111 = .ok (.aload_n 0, 1) := by decide +kernel
theorem dX12_readText_112 : decode cX12_readText 112 = .ok (.getfield 48, 3) := by decide +kernel
theorem dX12_readText_115 : decode cX12_readText 115 = .ok (.iload_n 1, 1) := by decide +kernel
theorem dX12_readText_116 : decode cX12_readText 116 = .ok (.laload, 1) := by decide +kernel
theorem dX12_readText_117 : decode cX12_readText 117 = .ok (.lastore, 1) := by decide +kernel
theorem dX12_readText_118 : decode cX12_readText 118 = .ok (.iinc 1 1, 3) := by decide +kernel
theorem dX12_readText_121 : decode cX12_readText 121 = .ok (.goto (-21), 3) := by decide +kernel
theorem dX12_readText_124 : decode cX12_readText 124 = .ok (.iconst 0, 1) := by decide +kernel
theorem dX12_readText_125 : decode cX12_readText 125 = .ok (.ireturn, 1) := by decide +kernel
theorem dX12_readText_126 : decode cX12_readText 126 = .ok (.aload_n 0, 1) := by decide +kernel
theorem dX12_readText_127 : decode cX12_readText 127 = .ok (.iconst 0, 1) := by decide +kernel
theorem dX12_readText_128 : decode cX12_readText 128 = .ok (.putfield 166, 3) := by decide +kernel
theorem dX12_readText_131 : decode cX12_readText 131 = .ok (.aload_n 0, 1) := by decide +kernel
theorem dX12_readText_132 : decode cX12_readText 132 = .ok (.getfield 26, 3) := by decide +kernel
theorem dX12_readText_135 : decode cX12_readText 135 = .ok (.iconst 0, 1) := by decide +kernel
theorem dX12_readText_136 : decode cX12_readText 136 = .ok (.iaload, 1) := by decide +kernel
theorem dX12_readText_137 : decode cX12_readText 137 = .ok (.ireturn, 1) := by decide +kernel
theorem dX12_allWeight_0 : decode cX12_allWeight 0 = .ok (.iconst 0, 1) := by decide +kernel
theorem dX12_allWeight_1 : decode cX12_allWeight 1 = .ok (.istore_n 1, 1) := by decide +kernel
theorem dX12_allWeight_2 : decode cX12_allWeight 2 = .ok (.iconst 0, 1) := by decide +kernel
theorem dX12_allWeight_3 : decode cX12_allWeight 3 = .ok (.istore_n 2, 1) := by decide +kernel
theorem dX12_allWeight_4 : decode cX12_allWeight 4 = .ok (.iload_n 2, 1) := by decide +kernel
theorem dX12_allWeight_5 : decode cX12_allWeight 5 = .ok (.aload_n 0, 1) := by decide +kernel
theorem dX12_allWeight_6 : decode cX12_allWeight 6 = .ok (.getfield 26, 3) := by decide +kernel
theorem dX12_allWeight_9 : decode cX12_allWeight 9 = .ok (.iconst 0, 1) := by decide +kernel
theorem dX12_allWeight_10 : decode cX12_allWeight 10 = .ok (.iaload, 1) := by decide +kernel
theorem dX12_allWeight_11 : decode cX12_allWeight 11 = .ok (.if_icmp .ge 21, 3) := by decide +kernel
theorem dX12_allWeight_14 : decode cX12_allWeight 14 = .ok (.iload_n 1, 1) := by decide +kernel
theorem dX12_allWeight_15 : decode cX12_allWeight 15 = .ok (.aload_n 0, 1) := by decide +kernel
theorem dX12_allWeight_16 : decode cX12_allWeight 16 = .ok (.getfield 26, 3) := by decide +kernel
theorem dX12_allWeight_19 : decode cX12_allWeight 19 = .ok (.bipush 7, 2) := by decide +kernel
theorem dX12_allWeight_21 : decode cX12_allWeight 21 = .ok (.iload_n 2, 1) := by decide +kernel
theorem dX12_allWeight_22 : decode cX12_allWeight 22 = .ok (.iadd, 1) := by decide +kernel
theorem dX12_allWeight_23 : decode cX12_allWeight 23 = .ok (.iaload, 1) := by decide +kernel
theorem dX12_allWeight_24 : decode cX12_allWeight 24 = .ok (.iadd, 1) := by decide +kernel
theorem dX12_allWeight_25 : decode cX12_allWeight 25 = .ok (.istore_n 1, 1) := by decide +kernel
theorem dX12_allWeight_26 : decode cX12_allWeight 26 = .ok (.iinc 2 1, 3) := by decide +kernel
theorem dX12_allWeight_29 : decode cX12_allWeight 29 = .ok (.goto (-25), 3) := by decide +kernel
theorem dX12_allWeight_32 : decode cX12_allWeight 32 = .ok (.iload_n 1, 1) := by decide +kernel
theorem dX12_allWeight_33 : decode cX12_allWeight 33 = .ok (.ireturn, 1) := by decide +kernel
theorem dX12_allEdges_0 : decode cX12_allEdges 0 = .ok (.iconst 0, 1) := by decide +kernel
theorem dX12_allEdges_1 : decode cX12_allEdges 1 = .ok (.istore_n 1, 1) := by decide +kernel
theorem dX12_allEdges_2 : decode cX12_allEdges 2 = .ok (.iconst 0, 1) := by decide +kernel
theorem dX12_allEdges_3 : decode cX12_allEdges 3 = .ok (.istore_n 2, 1) := by decide +kernel
theorem dX12_allEdges_4 : decode cX12_allEdges 4 = .ok (.iload_n 2, 1) := by decide +kernel
theorem dX12_allEdges_5 : decode cX12_allEdges 5 = .ok (.aload_n 0, 1) := by decide +kernel
theorem dX12_allEdges_6 : decode cX12_allEdges 6 = .ok (.getfield 26, 3) := by decide +kernel
theorem dX12_allEdges_9 : decode cX12_allEdges 9 = .ok (.iconst 1, 1) := by decide +kernel
theorem dX12_allEdges_10 : decode cX12_allEdges 10 = .ok (.iaload, 1) := by decide +kernel
theorem dX12_allEdges_11 : decode cX12_allEdges 11 = .ok (.if_icmp .ge 22, 3) := by decide +kernel
theorem dX12_allEdges_14 : decode cX12_allEdges 14 = .ok (.iload_n 1, 1) := by decide +kernel
theorem dX12_allEdges_15 : decode cX12_allEdges 15 = .ok (.aload_n 0, 1) := by decide +kernel
theorem dX12_allEdges_16 : decode cX12_allEdges 16 = .ok (.getfield 26, 3) := by decide +kernel
theorem dX12_allEdges_19 : decode cX12_allEdges 19 = .ok (.sipush 190, 3) := by decide +kernel
theorem dX12_allEdges_22 : decode cX12_allEdges 22 = .ok (.iload_n 2, 1) := by decide +kernel
theorem dX12_allEdges_23 : decode cX12_allEdges 23 = .ok (.iadd, 1) := by decide +kernel
theorem dX12_allEdges_24 : decode cX12_allEdges 24 = .ok (.iaload, 1) := by decide +kernel
theorem dX12_allEdges_25 : decode cX12_allEdges 25 = .ok (.iadd, 1) := by decide +kernel
theorem dX12_allEdges_26 : decode cX12_allEdges 26 = .ok (.istore_n 1, 1) := by decide +kernel
theorem dX12_allEdges_27 : decode cX12_allEdges 27 = .ok (.iinc 2 1, 3) := by decide +kernel
theorem dX12_allEdges_30 : decode cX12_allEdges 30 = .ok (.goto (-26), 3) := by decide +kernel
theorem dX12_allEdges_33 : decode cX12_allEdges 33 = .ok (.iload_n 1, 1) := by decide +kernel
theorem dX12_allEdges_34 : decode cX12_allEdges 34 = .ok (.ireturn, 1) := by decide +kernel
set_option maxRecDepth 20000 in
theorem ggX12_limit_X12_allWeight : GoodIn wsX12_limit wsX12_allWeight := goodIn_s _ [(6, 1), (1, 1), (7, 48)] rfl (by decide +kernel)
set_option maxRecDepth 20000 in
theorem gX12_limit_X12_allWeight : GoodIn wsX12_limit (wsV RX12 242 RX12 yX12_allWeight wsX12_allWeight) := goodIn_app (goodIn_of _ (by decide +kernel)) ggX12_limit_X12_allWeight
theorem dX12_limit_0 : decode cX12_limit 0 = .ok (.aload_n 0, 1) := by decide +kernel
theorem dX12_limit_1 : decode cX12_limit 1 = .ok (.invokevirtual 242, 3) := by decide +kernel
theorem dX12_limit_4 : decode cX12_limit 4 = .ok (.aload_n 0, 1) := by decide +kernel
theorem dX12_limit_5 : decode cX12_limit 5 = .ok (.getfield 26, 3) := by decide +kernel
theorem dX12_limit_8 : decode cX12_limit 8 = .ok (.iconst 2, 1) := by decide +kernel
theorem dX12_limit_9 : decode cX12_limit 9 = .ok (.iaload, 1) := by decide +kernel
theorem dX12_limit_10 : decode cX12_limit 10 = .ok (.iadd, 1) := by decide +kernel
theorem dX12_limit_11 : decode cX12_limit 11 = .ok (.iconst 1, 1) := by decide +kernel
theorem dX12_limit_12 : decode cX12_limit 12 = .ok (.isub, 1) := by decide +kernel
theorem dX12_limit_13 : decode cX12_limit 13 = .ok (.aload_n 0, 1) := by decide +kernel
theorem dX12_limit_14 : decode cX12_limit 14 = .ok (.getfield 26, 3) := by decide +kernel
theorem dX12_limit_17 : decode cX12_limit 17 = .ok (.iconst 2, 1) := by decide +kernel
theorem dX12_limit_18 : decode cX12_limit 18 = .ok (.iaload, 1) := by decide +kernel
theorem dX12_limit_19 : decode cX12_limit 19 = .ok (.idiv, 1) := by decide +kernel
theorem dX12_limit_20 : decode cX12_limit 20 = .ok (.aload_n 0, 1) := by decide +kernel
theorem dX12_limit_21 : decode cX12_limit 21 = .ok (.getfield 26, 3) := by decide +kernel
theorem dX12_limit_24 : decode cX12_limit 24 = .ok (.iconst 3, 1) := by decide +kernel
theorem dX12_limit_25 : decode cX12_limit 25 = .ok (.iaload, 1) := by decide +kernel
theorem dX12_limit_26 : decode cX12_limit 26 = .ok (.iadd, 1) := by decide +kernel
theorem dX12_limit_27 : decode cX12_limit 27 = .ok (.ireturn, 1) := by decide +kernel
set_option maxRecDepth 20000 in
theorem ggX12_together_X12_hasBit : GoodIn wsX12_together wsX12_hasBit := goodIn_s _ [(5, 1)] rfl (by decide +kernel)
set_option maxRecDepth 20000 in
theorem gX12_together_X12_hasBit : GoodIn wsX12_together (va_wsS RX12 199 yX12_hasBit wsX12_hasBit) := goodIn_app (goodIn_of _ (by decide +kernel)) ggX12_together_X12_hasBit
theorem dX12_together_0 : decode cX12_together 0 = .ok (.iconst 1, 1) := by decide +kernel
theorem dX12_together_1 : decode cX12_together 1 = .ok (.iload_n 1, 1) := by decide +kernel
theorem dX12_together_2 : decode cX12_together 2 = .ok (.ishl, 1) := by decide +kernel
theorem dX12_together_3 : decode cX12_together 3 = .ok (.istore_n 3, 1) := by decide +kernel
theorem dX12_together_4 : decode cX12_together 4 = .ok (.iconst 0, 1) := by decide +kernel
theorem dX12_together_5 : decode cX12_together 5 = .ok (.istore 4, 2) := by decide +kernel
theorem dX12_together_7 : decode cX12_together 7 = .ok (.iload 4, 2) := by decide +kernel
theorem dX12_together_9 : decode cX12_together 9 = .ok (.aload_n 0, 1) := by decide +kernel
theorem dX12_together_10 : decode cX12_together 10 = .ok (.getfield 26, 3) := by decide +kernel
theorem dX12_together_13 : decode cX12_together 13 = .ok (.iconst 0, 1) := by decide +kernel
theorem dX12_together_14 : decode cX12_together 14 = .ok (.iaload, 1) := by decide +kernel
theorem dX12_together_15 : decode cX12_together 15 = .ok (.if_icmp .ge 107, 3) := by decide +kernel
theorem dX12_together_18 : decode cX12_together 18 = .ok (.iconst 0, 1) := by decide +kernel
theorem dX12_together_19 : decode cX12_together 19 = .ok (.istore 5, 2) := by decide +kernel
theorem dX12_together_21 : decode cX12_together 21 = .ok (.iload 5, 2) := by decide +kernel
theorem dX12_together_23 : decode cX12_together 23 = .ok (.aload_n 0, 1) := by decide +kernel
theorem dX12_together_24 : decode cX12_together 24 = .ok (.getfield 26, 3) := by decide +kernel
theorem dX12_together_27 : decode cX12_together 27 = .ok (.iconst 1, 1) := by decide +kernel
theorem dX12_together_28 : decode cX12_together 28 = .ok (.iaload, 1) := by decide +kernel
theorem dX12_together_29 : decode cX12_together 29 = .ok (.if_icmp .ge 87, 3) := by decide +kernel
theorem dX12_together_32 : decode cX12_together 32 = .ok (.aload_n 0, 1) := by decide +kernel
theorem dX12_together_33 : decode cX12_together 33 = .ok (.getfield 26, 3) := by decide +kernel
theorem dX12_together_36 : decode cX12_together 36 = .ok (.bipush 110, 2) := by decide +kernel
theorem dX12_together_38 : decode cX12_together 38 = .ok (.iload 5, 2) := by decide +kernel
theorem dX12_together_40 : decode cX12_together 40 = .ok (.iadd, 1) := by decide +kernel
theorem dX12_together_41 : decode cX12_together 41 = .ok (.iaload, 1) := by decide +kernel
theorem dX12_together_42 : decode cX12_together 42 = .ok (.istore 6, 2) := by decide +kernel
theorem dX12_together_44 : decode cX12_together 44 = .ok (.aload_n 0, 1) := by decide +kernel
theorem dX12_together_45 : decode cX12_together 45 = .ok (.getfield 26, 3) := by decide +kernel
theorem dX12_together_48 : decode cX12_together 48 = .ok (.sipush 150, 3) := by decide +kernel
theorem dX12_together_51 : decode cX12_together 51 = .ok (.iload 5, 2) := by decide +kernel
theorem dX12_together_53 : decode cX12_together 53 = .ok (.iadd, 1) := by decide +kernel
theorem dX12_together_54 : decode cX12_together 54 = .ok (.iaload, 1) := by decide +kernel
theorem dX12_together_55 : decode cX12_together 55 = .ok (.istore 7, 2) := by decide +kernel
theorem dX12_together_57 : decode cX12_together 57 = .ok (.iload_n 2, 1) := by decide +kernel
theorem dX12_together_58 : decode cX12_together 58 = .ok (.iload 6, 2) := by decide +kernel
theorem dX12_together_60 : decode cX12_together 60 = .ok (.invokestatic 199, 3) := by decide +kernel
theorem dX12_together_63 : decode cX12_together 63 = .ok (.ifCond .eq 47, 3) := by decide +kernel
theorem dX12_together_66 : decode cX12_together 66 = .ok (.iload_n 2, 1) := by decide +kernel
theorem dX12_together_67 : decode cX12_together 67 = .ok (.iload 7, 2) := by decide +kernel
theorem dX12_together_69 : decode cX12_together 69 = .ok (.invokestatic 199, 3) := by decide +kernel
theorem dX12_together_72 : decode cX12_together 72 = .ok (.ifCond .ne 6, 3) := by decide +kernel
theorem dX12_together_75 : decode cX12_together 75 = .ok (.goto 35, 3) := by decide +kernel
theorem dX12_together_78 : decode cX12_together 78 = .ok (.iload_n 3, 1) := by decide +kernel
theorem dX12_together_79 : decode cX12_together 79 = .ok (.iload 6, 2) := by decide +kernel
theorem dX12_together_81 : decode cX12_together 81 = .ok (.invokestatic 199, 3) := by decide +kernel
theorem dX12_together_84 : decode cX12_together 84 = .ok (.ifCond .eq 10, 3) := by decide +kernel
theorem dX12_together_87 : decode cX12_together 87 = .ok (.iload_n 3, 1) := by decide +kernel
theorem dX12_together_88 : decode cX12_together 88 = .ok (.iconst 1, 1) := by decide +kernel
theorem dX12_together_89 : decode cX12_together 89 = .ok (.iload 7, 2) := by decide +kernel
theorem dX12_together_91 : decode cX12_together 91 = .ok (.ishl, 1) := by decide +kernel
theorem dX12_together_92 : decode cX12_together 92 = .ok (.ior, 1) := by decide +kernel
theorem dX12_together_93 : decode cX12_together 93 = .ok (.istore_n 3, 1) := by decide +kernel
theorem dX12_together_94 : decode cX12_together 94 = .ok (.iload_n 3, 1) := by decide +kernel
theorem dX12_together_95 : decode cX12_together 95 = .ok (.iload 7, 2) := by decide +kernel
theorem dX12_together_97 : decode cX12_together 97 = .ok (.invokestatic 199, 3) := by decide +kernel
theorem dX12_together_100 : decode cX12_together 100 = .ok (.ifCond .eq 10, 3) := by decide +kernel
theorem dX12_together_103 : decode cX12_together 103 = .ok (.iload_n 3, 1) := by decide +kernel
theorem dX12_together_104 : decode cX12_together 104 = .ok (.iconst 1, 1) := by decide +kernel
theorem dX12_together_105 : decode cX12_together 105 = .ok (.iload 6, 2) := by decide +kernel
theorem dX12_together_107 : decode cX12_together 107 = .ok (.ishl, 1) := by decide +kernel
theorem dX12_together_108 : decode cX12_together 108 = .ok (.ior, 1) := by decide +kernel
theorem dX12_together_109 : decode cX12_together 109 = .ok (.istore_n 3, 1) := by decide +kernel
theorem dX12_together_110 : decode cX12_together 110 = .ok (.iinc 5 1, 3) := by decide +kernel
theorem dX12_together_113 : decode cX12_together 113 = .ok (.goto (-92), 3) := by decide +kernel
theorem dX12_together_116 : decode cX12_together 116 = .ok (.iinc 4 1, 3) := by decide +kernel
theorem dX12_together_119 : decode cX12_together 119 = .ok (.goto (-112), 3) := by decide +kernel
theorem dX12_together_122 : decode cX12_together 122 = .ok (.iload_n 3, 1) := by decide +kernel
theorem dX12_together_123 : decode cX12_together 123 = .ok (.ireturn, 1) := by decide +kernel
theorem dX12_ones_0 : decode cX12_ones 0 = .ok (.iconst 0, 1) := by decide +kernel
theorem dX12_ones_1 : decode cX12_ones 1 = .ok (.istore_n 1, 1) := by decide +kernel
theorem dX12_ones_2 : decode cX12_ones 2 = .ok (.iconst 0, 1) := by decide +kernel
theorem dX12_ones_3 : decode cX12_ones 3 = .ok (.istore_n 2, 1) := by decide +kernel
theorem dX12_ones_4 : decode cX12_ones 4 = .ok (.iload_n 2, 1) := by decide +kernel
theorem dX12_ones_5 : decode cX12_ones 5 = .ok (.bipush 14, 2) := by decide +kernel
theorem dX12_ones_7 : decode cX12_ones 7 = .ok (.if_icmp .ge 17, 3) := by decide +kernel
theorem dX12_ones_10 : decode cX12_ones 10 = .ok (.iload_n 1, 1) := by decide +kernel
theorem dX12_ones_11 : decode cX12_ones 11 = .ok (.iload_n 0, 1) := by decide +kernel
theorem dX12_ones_12 : decode cX12_ones 12 = .ok (.iload_n 2, 1) := by decide +kernel
theorem dX12_ones_13 : decode cX12_ones 13 = .ok (.ishr, 1) := by decide +kernel
theorem dX12_ones_14 : decode cX12_ones 14 = .ok (.iconst 1, 1) := by decide +kernel
theorem dX12_ones_15 : decode cX12_ones 15 = .ok (.iand, 1) := by decide +kernel
theorem dX12_ones_16 : decode cX12_ones 16 = .ok (.iadd, 1) := by decide +kernel
theorem dX12_ones_17 : decode cX12_ones 17 = .ok (.istore_n 1, 1) := by decide +kernel
theorem dX12_ones_18 : decode cX12_ones 18 = .ok (.iinc 2 1, 3) := by decide +kernel
theorem dX12_ones_21 : decode cX12_ones 21 = .ok (.goto (-17), 3) := by decide +kernel
theorem dX12_ones_24 : decode cX12_ones 24 = .ok (.iload_n 1, 1) := by decide +kernel
theorem dX12_ones_25 : decode cX12_ones 25 = .ok (.ireturn, 1) := by decide +kernel
theorem dX12_everything_0 : decode cX12_everything 0 = .ok (.iconst 1, 1) := by decide +kernel
theorem dX12_everything_1 : decode cX12_everything 1 = .ok (.aload_n 0, 1) := by decide +kernel
theorem dX12_everything_2 : decode cX12_everything 2 = .ok (.getfield 26, 3) := by decide +kernel
theorem dX12_everything_5 : decode cX12_everything 5 = .ok (.iconst 0, 1) := by decide +kernel
theorem dX12_everything_6 : decode cX12_everything 6 = .ok (.iaload, 1) := by decide +kernel
theorem dX12_everything_7 : decode cX12_everything 7 = .ok (.ishl, 1) := by decide +kernel
theorem dX12_everything_8 : decode cX12_everything 8 = .ok (.iconst 1, 1) := by decide +kernel
theorem dX12_everything_9 : decode cX12_everything 9 = .ok (.isub, 1) := by decide +kernel
theorem dX12_everything_10 : decode cX12_everything 10 = .ok (.ireturn, 1) := by decide +kernel
set_option maxRecDepth 20000 in
theorem ggX12_largest_X12_everything : GoodIn wsX12_largest wsX12_everything := goodIn_s _ [(6, 1), (1, 1), (17, 48)] rfl (by decide +kernel)
set_option maxRecDepth 20000 in
theorem gX12_largest_X12_everything : GoodIn wsX12_largest (wsV RX12 245 RX12 yX12_everything wsX12_everything) := goodIn_app (goodIn_of _ (by decide +kernel)) ggX12_largest_X12_everything
set_option maxRecDepth 20000 in
theorem ggX12_largest_X12_together : GoodIn wsX12_largest wsX12_together := goodIn_s _ [(10, 1), (1, 1), (11, 2), (5, 1), (13, 1), (17, 48)] rfl (by decide +kernel)
set_option maxRecDepth 20000 in
theorem gX12_largest_X12_together : GoodIn wsX12_largest (wsV RX12 248 RX12 yX12_together wsX12_together) := goodIn_app (goodIn_of _ (by decide +kernel)) ggX12_largest_X12_together
set_option maxRecDepth 20000 in
theorem ggX12_largest_X12_ones : GoodIn wsX12_largest wsX12_ones := goodIn_s _ [(16, 1)] rfl (by decide +kernel)
set_option maxRecDepth 20000 in
theorem gX12_largest_X12_ones : GoodIn wsX12_largest (va_wsS RX12 251 yX12_ones wsX12_ones) := goodIn_app (goodIn_of _ (by decide +kernel)) ggX12_largest_X12_ones
theorem dX12_largest_0 : decode cX12_largest 0 = .ok (.iconst 0, 1) := by decide +kernel
theorem dX12_largest_1 : decode cX12_largest 1 = .ok (.istore_n 1, 1) := by decide +kernel
theorem dX12_largest_2 : decode cX12_largest 2 = .ok (.iconst 0, 1) := by decide +kernel
theorem dX12_largest_3 : decode cX12_largest 3 = .ok (.istore_n 2, 1) := by decide +kernel
theorem dX12_largest_4 : decode cX12_largest 4 = .ok (.iload_n 2, 1) := by decide +kernel
theorem dX12_largest_5 : decode cX12_largest 5 = .ok (.aload_n 0, 1) := by decide +kernel
theorem dX12_largest_6 : decode cX12_largest 6 = .ok (.getfield 26, 3) := by decide +kernel
theorem dX12_largest_9 : decode cX12_largest 9 = .ok (.iconst 0, 1) := by decide +kernel
theorem dX12_largest_10 : decode cX12_largest 10 = .ok (.iaload, 1) := by decide +kernel
theorem dX12_largest_11 : decode cX12_largest 11 = .ok (.if_icmp .ge 33, 3) := by decide +kernel
theorem dX12_largest_14 : decode cX12_largest 14 = .ok (.aload_n 0, 1) := by decide +kernel
theorem dX12_largest_15 : decode cX12_largest 15 = .ok (.iload_n 2, 1) := by decide +kernel
theorem dX12_largest_16 : decode cX12_largest 16 = .ok (.aload_n 0, 1) := by decide +kernel
theorem dX12_largest_17 : decode cX12_largest 17 = .ok (.invokevirtual 245, 3) := by decide +kernel
theorem dX12_largest_20 : decode cX12_largest 20 = .ok (.invokevirtual 248, 3) := by decide +kernel
theorem dX12_largest_23 : decode cX12_largest 23 = .ok (.invokestatic 251, 3) := by decide +kernel
theorem dX12_largest_26 : decode cX12_largest 26 = .ok (.istore_n 3, 1) := by decide +kernel
theorem dX12_largest_27 : decode cX12_largest 27 = .ok (.iload_n 3, 1) := by decide +kernel
theorem dX12_largest_28 : decode cX12_largest 28 = .ok (.iload_n 1, 1) := by decide +kernel
theorem dX12_largest_29 : decode cX12_largest 29 = .ok (.if_icmp .le 7, 3) := by decide +kernel
theorem dX12_largest_32 : decode cX12_largest 32 = .ok (.iload_n 3, 1) := by decide +kernel
theorem dX12_largest_33 : decode cX12_largest 33 = .ok (.goto 4, 3) := by decide +kernel
theorem dX12_largest_36 : decode cX12_largest 36 = .ok (.iload_n 1, 1) := by decide +kernel
theorem dX12_largest_37 : decode cX12_largest 37 = .ok (.istore_n 1, 1) := by decide +kernel
theorem dX12_largest_38 : decode cX12_largest 38 = .ok (.iinc 2 1, 3) := by decide +kernel
theorem dX12_largest_41 : decode cX12_largest 41 = .ok (.goto (-37), 3) := by decide +kernel
theorem dX12_largest_44 : decode cX12_largest 44 = .ok (.iload_n 1, 1) := by decide +kernel
theorem dX12_largest_45 : decode cX12_largest 45 = .ok (.ireturn, 1) := by decide +kernel
set_option maxRecDepth 20000 in
theorem ggX12_setting_X12_isIn : GoodIn wsX12_setting wsX12_isIn := goodIn_s _ [(7, 1)] rfl (by decide +kernel)
set_option maxRecDepth 20000 in
theorem gX12_setting_X12_isIn : GoodIn wsX12_setting (va_wsS RX12 108 yX12_isIn wsX12_isIn) := goodIn_app (goodIn_of _ (by decide +kernel)) ggX12_setting_X12_isIn
set_option maxRecDepth 20000 in
theorem ggX12_setting_X12_goes : GoodIn wsX12_setting wsX12_goes := goodIn_s _ [(11, 4), (6, 1), (15, 1), (50, 48)] rfl (by decide +kernel)
set_option maxRecDepth 20000 in
theorem gX12_setting_X12_goes : GoodIn wsX12_setting (wsV RX12 100 RX12 yX12_goes wsX12_goes) := goodIn_app (goodIn_of _ (by decide +kernel)) ggX12_setting_X12_goes
set_option maxRecDepth 20000 in
theorem ggX12_setting_X12_limit : GoodIn wsX12_setting wsX12_limit := goodIn_s _ [(19, 1), (2, 1), (20, 3), (6, 1), (23, 1), (50, 48)] rfl (by decide +kernel)
set_option maxRecDepth 20000 in
theorem gX12_setting_X12_limit : GoodIn wsX12_setting (wsV RX12 256 RX12 yX12_limit wsX12_limit) := goodIn_app (goodIn_of _ (by decide +kernel)) ggX12_setting_X12_limit
set_option maxRecDepth 20000 in
theorem ggX12_setting_X12_allWeight : GoodIn wsX12_setting wsX12_allWeight := goodIn_s _ [(23, 1), (2, 1), (50, 48)] rfl (by decide +kernel)
set_option maxRecDepth 20000 in
theorem gX12_setting_X12_allWeight : GoodIn wsX12_setting (wsV RX12 242 RX12 yX12_allWeight wsX12_allWeight) := goodIn_app (goodIn_of _ (by decide +kernel)) ggX12_setting_X12_allWeight
set_option maxRecDepth 20000 in
theorem ggX12_setting_X12_allEdges : GoodIn wsX12_setting wsX12_allEdges := goodIn_s _ [(27, 1), (2, 1), (50, 48)] rfl (by decide +kernel)
set_option maxRecDepth 20000 in
theorem gX12_setting_X12_allEdges : GoodIn wsX12_setting (wsV RX12 259 RX12 yX12_allEdges wsX12_allEdges) := goodIn_app (goodIn_of _ (by decide +kernel)) ggX12_setting_X12_allEdges
set_option maxRecDepth 20000 in
theorem ggX12_setting_X12_groups : GoodIn wsX12_setting wsX12_groups := goodIn_s _ [(31, 1), (2, 1), (50, 48)] rfl (by decide +kernel)
set_option maxRecDepth 20000 in
theorem gX12_setting_X12_groups : GoodIn wsX12_setting (wsV RX12 177 RX12 yX12_groups wsX12_groups) := goodIn_app (goodIn_of _ (by decide +kernel)) ggX12_setting_X12_groups
set_option maxRecDepth 20000 in
theorem ggX12_setting_X12_largest : GoodIn wsX12_setting wsX12_largest := goodIn_s _ [(35, 1), (2, 1), (36, 3), (6, 1), (39, 59)] rfl (by decide +kernel)
set_option maxRecDepth 20000 in
theorem gX12_setting_X12_largest : GoodIn wsX12_setting (wsV RX12 262 RX12 yX12_largest wsX12_largest) := goodIn_app (goodIn_of _ (by decide +kernel)) ggX12_setting_X12_largest
theorem dX12_setting_0 : decode cX12_setting 0 = .ok (.aload_n 0, 1) := by decide +kernel
theorem dX12_setting_1 : decode cX12_setting 1 = .ok (.iload_n 1, 1) := by decide +kernel
theorem dX12_setting_2 : decode cX12_setting 2 = .ok (.i2l, 1) := by decide +kernel
theorem dX12_setting_3 : decode cX12_setting 3 = .ok (.lconst 0, 1) := by decide +kernel
theorem dX12_setting_4 : decode cX12_setting 4 = .ok (.ldc2_w 254, 3) := by decide +kernel
theorem dX12_setting_7 : decode cX12_setting 7 = .ok (.invokestatic 108, 3) := by decide +kernel
theorem dX12_setting_10 : decode cX12_setting 10 = .ok (.invokevirtual 100, 3) := by decide +kernel
theorem dX12_setting_13 : decode cX12_setting 13 = .ok (.ifCond .ne 5, 3) := by decide +kernel
theorem dX12_setting_16 : decode cX12_setting 16 = .ok (.iconst 0, 1) := by decide +kernel
theorem dX12_setting_17 : decode cX12_setting 17 = .ok (.ireturn, 1) := by decide +kernel
theorem dX12_setting_18 : decode cX12_setting 18 = .ok (.iload_n 1, 1) := by decide +kernel
theorem dX12_setting_19 : decode cX12_setting 19 = .ok (.tableswitch 78 5 11 #[41, 46, 51, 56, 63, 68, 73], 41) := by decide +kernel
theorem dX12_setting_60 : decode cX12_setting 60 = .ok (.aload_n 0, 1) := by decide +kernel
theorem dX12_setting_61 : decode cX12_setting 61 = .ok (.invokevirtual 256, 3) := by decide +kernel
theorem dX12_setting_64 : decode cX12_setting 64 = .ok (.ireturn, 1) := by decide +kernel
theorem dX12_setting_65 : decode cX12_setting 65 = .ok (.aload_n 0, 1) := by decide +kernel
theorem dX12_setting_66 : decode cX12_setting 66 = .ok (.invokevirtual 242, 3) := by decide +kernel
theorem dX12_setting_69 : decode cX12_setting 69 = .ok (.ireturn, 1) := by decide +kernel
theorem dX12_setting_70 : decode cX12_setting 70 = .ok (.aload_n 0, 1) := by decide +kernel
theorem dX12_setting_71 : decode cX12_setting 71 = .ok (.invokevirtual 259, 3) := by decide +kernel
theorem dX12_setting_74 : decode cX12_setting 74 = .ok (.ireturn, 1) := by decide +kernel
theorem dX12_setting_75 : decode cX12_setting 75 = .ok (.aload_n 0, 1) := by decide +kernel
theorem dX12_setting_76 : decode cX12_setting 76 = .ok (.getfield 26, 3) := by decide +kernel
theorem dX12_setting_79 : decode cX12_setting 79 = .ok (.iconst 5, 1) := by decide +kernel
theorem dX12_setting_80 : decode cX12_setting 80 = .ok (.iaload, 1) := by decide +kernel
theorem dX12_setting_81 : decode cX12_setting 81 = .ok (.ireturn, 1) := by decide +kernel
theorem dX12_setting_82 : decode cX12_setting 82 = .ok (.aload_n 0, 1) := by decide +kernel
theorem dX12_setting_83 : decode cX12_setting 83 = .ok (.invokevirtual 177, 3) := by decide +kernel
theorem dX12_setting_86 : decode cX12_setting 86 = .ok (.ireturn, 1) := by decide +kernel
theorem dX12_setting_87 : decode cX12_setting 87 = .ok (.aload_n 0, 1) := by decide +kernel
theorem dX12_setting_88 : decode cX12_setting 88 = .ok (.getfield 166, 3) := by decide +kernel
theorem dX12_setting_91 : decode cX12_setting 91 = .ok (.ireturn, 1) := by decide +kernel
theorem dX12_setting_92 : decode cX12_setting 92 = .ok (.aload_n 0, 1) := by decide +kernel
theorem dX12_setting_93 : decode cX12_setting 93 = .ok (.invokevirtual 262, 3) := by decide +kernel
theorem dX12_setting_96 : decode cX12_setting 96 = .ok (.ireturn, 1) := by decide +kernel
theorem dX12_setting_97 : decode cX12_setting 97 = .ok (.aload_n 0, 1) := by decide +kernel
theorem dX12_setting_98 : decode cX12_setting 98 = .ok (.getfield 26, 3) := by decide +kernel
theorem dX12_setting_101 : decode cX12_setting 101 = .ok (.iload_n 1, 1) := by decide +kernel
theorem dX12_setting_102 : decode cX12_setting 102 = .ok (.iaload, 1) := by decide +kernel
theorem dX12_setting_103 : decode cX12_setting 103 = .ok (.ireturn, 1) := by decide +kernel
set_option maxRecDepth 20000 in
theorem ggX12_weight_X12_isVertex : GoodIn wsX12_weight wsX12_isVertex := goodIn_s _ [(6, 1), (1, 1), (7, 2), (5, 1), (9, 1), (18, 48)] rfl (by decide +kernel)
set_option maxRecDepth 20000 in
theorem gX12_weight_X12_isVertex : GoodIn wsX12_weight (wsV RX12 265 RX12 yX12_isVertex wsX12_isVertex) := goodIn_app (goodIn_of _ (by decide +kernel)) ggX12_weight_X12_isVertex
set_option maxRecDepth 20000 in
theorem ggX12_weight_X12_goes : GoodIn wsX12_weight wsX12_goes := goodIn_s _ [(13, 4), (5, 1), (17, 49)] rfl (by decide +kernel)
set_option maxRecDepth 20000 in
theorem gX12_weight_X12_goes : GoodIn wsX12_weight (wsV RX12 100 RX12 yX12_goes wsX12_goes) := goodIn_app (goodIn_of _ (by decide +kernel)) ggX12_weight_X12_goes
theorem dX12_weight_0 : decode cX12_weight 0 = .ok (.aload_n 0, 1) := by decide +kernel
theorem dX12_weight_1 : decode cX12_weight 1 = .ok (.aload_n 0, 1) := by decide +kernel
theorem dX12_weight_2 : decode cX12_weight 2 = .ok (.iload_n 1, 1) := by decide +kernel
theorem dX12_weight_3 : decode cX12_weight 3 = .ok (.invokevirtual 265, 3) := by decide +kernel
theorem dX12_weight_6 : decode cX12_weight 6 = .ok (.invokevirtual 100, 3) := by decide +kernel
theorem dX12_weight_9 : decode cX12_weight 9 = .ok (.ifCond .eq 15, 3) := by decide +kernel
theorem dX12_weight_12 : decode cX12_weight 12 = .ok (.aload_n 0, 1) := by decide +kernel
theorem dX12_weight_13 : decode cX12_weight 13 = .ok (.getfield 26, 3) := by decide +kernel
theorem dX12_weight_16 : decode cX12_weight 16 = .ok (.bipush 7, 2) := by decide +kernel
theorem dX12_weight_18 : decode cX12_weight 18 = .ok (.iload_n 1, 1) := by decide +kernel
theorem dX12_weight_19 : decode cX12_weight 19 = .ok (.iadd, 1) := by decide +kernel
theorem dX12_weight_20 : decode cX12_weight 20 = .ok (.iaload, 1) := by decide +kernel
theorem dX12_weight_21 : decode cX12_weight 21 = .ok (.goto 4, 3) := by decide +kernel
theorem dX12_weight_24 : decode cX12_weight 24 = .ok (.iconst 0, 1) := by decide +kernel
theorem dX12_weight_25 : decode cX12_weight 25 = .ok (.ireturn, 1) := by decide +kernel
theorem dX12_isCut_0 : decode cX12_isCut 0 = .ok (.aload_n 0, 1) := by decide +kernel
theorem dX12_isCut_1 : decode cX12_isCut 1 = .ok (.getfield 26, 3) := by decide +kernel
theorem dX12_isCut_4 : decode cX12_isCut 4 = .ok (.bipush 21, 2) := by decide +kernel
theorem dX12_isCut_6 : decode cX12_isCut 6 = .ok (.aload_n 0, 1) := by decide +kernel
theorem dX12_isCut_7 : decode cX12_isCut 7 = .ok (.getfield 26, 3) := by decide +kernel
theorem dX12_isCut_10 : decode cX12_isCut 10 = .ok (.bipush 110, 2) := by decide +kernel
theorem dX12_isCut_12 : decode cX12_isCut 12 = .ok (.iload_n 1, 1) := by decide +kernel
theorem dX12_isCut_13 : decode cX12_isCut 13 = .ok (.iadd, 1) := by decide +kernel
theorem dX12_isCut_14 : decode cX12_isCut 14 = .ok (.iaload, 1) := by decide +kernel
theorem dX12_isCut_15 : decode cX12_isCut 15 = .ok (.iadd, 1) := by decide +kernel
theorem dX12_isCut_16 : decode cX12_isCut 16 = .ok (.iaload, 1) := by decide +kernel
theorem dX12_isCut_17 : decode cX12_isCut 17 = .ok (.aload_n 0, 1) := by decide +kernel
theorem dX12_isCut_18 : decode cX12_isCut 18 = .ok (.getfield 26, 3) := by decide +kernel
theorem dX12_isCut_21 : decode cX12_isCut 21 = .ok (.bipush 21, 2) := by decide +kernel
theorem dX12_isCut_23 : decode cX12_isCut 23 = .ok (.aload_n 0, 1) := by decide +kernel
theorem dX12_isCut_24 : decode cX12_isCut 24 = .ok (.getfield 26, 3) := by decide +kernel
theorem dX12_isCut_27 : decode cX12_isCut 27 = .ok (.sipush 150, 3) := by decide +kernel
theorem dX12_isCut_30 : decode cX12_isCut 30 = .ok (.iload_n 1, 1) := by decide +kernel
theorem dX12_isCut_31 : decode cX12_isCut 31 = .ok (.iadd, 1) := by decide +kernel
theorem dX12_isCut_32 : decode cX12_isCut 32 = .ok (.iaload, 1) := by decide +kernel
theorem dX12_isCut_33 : decode cX12_isCut 33 = .ok (.iadd, 1) := by decide +kernel
theorem dX12_isCut_34 : decode cX12_isCut 34 = .ok (.iaload, 1) := by decide +kernel
theorem dX12_isCut_35 : decode cX12_isCut 35 = .ok (.if_icmp .eq 7, 3) := by decide +kernel
theorem dX12_isCut_38 : decode cX12_isCut 38 = .ok (.iconst 1, 1) := by decide +kernel
theorem dX12_isCut_39 : decode cX12_isCut 39 = .ok (.goto 4, 3) := by decide +kernel
theorem dX12_isCut_42 : decode cX12_isCut 42 = .ok (.iconst 0, 1) := by decide +kernel
theorem dX12_isCut_43 : decode cX12_isCut 43 = .ok (.ireturn, 1) := by decide +kernel
set_option maxRecDepth 20000 in
theorem ggX12_edge_X12_isEdge : GoodIn wsX12_edge wsX12_isEdge := goodIn_s _ [(7, 1), (2, 1), (8, 2), (6, 1), (10, 1), (23, 48)] rfl (by decide +kernel)
set_option maxRecDepth 20000 in
theorem gX12_edge_X12_isEdge : GoodIn wsX12_edge (wsV RX12 268 RX12 yX12_isEdge wsX12_isEdge) := goodIn_app (goodIn_of _ (by decide +kernel)) ggX12_edge_X12_isEdge
set_option maxRecDepth 20000 in
theorem ggX12_edge_X12_isIn : GoodIn wsX12_edge wsX12_isIn := goodIn_s _ [(10, 1)] rfl (by decide +kernel)
set_option maxRecDepth 20000 in
theorem gX12_edge_X12_isIn : GoodIn wsX12_edge (va_wsS RX12 108 yX12_isIn wsX12_isIn) := goodIn_app (goodIn_of _ (by decide +kernel)) ggX12_edge_X12_isIn
set_option maxRecDepth 20000 in
theorem ggX12_edge_X12_goesBoth : GoodIn wsX12_edge wsX12_goesBoth := goodIn_s _ [(14, 2), (23, 48)] rfl (by decide +kernel)
set_option maxRecDepth 20000 in
theorem gX12_edge_X12_goesBoth : GoodIn wsX12_edge (wsV RX12 273 RX12 yX12_goesBoth wsX12_goesBoth) := goodIn_app (goodIn_of _ (by decide +kernel)) ggX12_edge_X12_goesBoth
set_option maxRecDepth 20000 in
theorem ggX12_edge_X12_isCut : GoodIn wsX12_edge wsX12_isCut := goodIn_s _ [(19, 1), (2, 1), (23, 48)] rfl (by decide +kernel)
set_option maxRecDepth 20000 in
theorem gX12_edge_X12_isCut : GoodIn wsX12_edge (wsV RX12 277 RX12 yX12_isCut wsX12_isCut) := goodIn_app (goodIn_of _ (by decide +kernel)) ggX12_edge_X12_isCut
set_option maxRecDepth 20000 in
theorem ggX12_edge_X12_truth : GoodIn wsX12_edge wsX12_truth := goodIn_s _ [(22, 1)] rfl (by decide +kernel)
set_option maxRecDepth 20000 in
theorem gX12_edge_X12_truth : GoodIn wsX12_edge (va_wsS RX12 93 yX12_truth wsX12_truth) := goodIn_app (goodIn_of _ (by decide +kernel)) ggX12_edge_X12_truth
theorem dX12_edge_0 : decode cX12_edge 0 = .ok (.aload_n 0, 1) := by decide +kernel
theorem dX12_edge_1 : decode cX12_edge 1 = .ok (.aload_n 0, 1) := by decide +kernel
theorem dX12_edge_2 : decode cX12_edge 2 = .ok (.iload_n 1, 1) := by decide +kernel
theorem dX12_edge_3 : decode cX12_edge 3 = .ok (.invokevirtual 268, 3) := by decide +kernel
theorem dX12_edge_6 : decode cX12_edge 6 = .ok (.iload_n 2, 1) := by decide +kernel
theorem dX12_edge_7 : decode cX12_edge 7 = .ok (.i2l, 1) := by decide +kernel
theorem dX12_edge_8 : decode cX12_edge 8 = .ok (.lconst 0, 1) := by decide +kernel
theorem dX12_edge_9 : decode cX12_edge 9 = .ok (.ldc2_w 271, 3) := by decide +kernel
theorem dX12_edge_12 : decode cX12_edge 12 = .ok (.invokestatic 108, 3) := by decide +kernel
theorem dX12_edge_15 : decode cX12_edge 15 = .ok (.invokevirtual 273, 3) := by decide +kernel
theorem dX12_edge_18 : decode cX12_edge 18 = .ok (.ifCond .ne 5, 3) := by decide +kernel
theorem dX12_edge_21 : decode cX12_edge 21 = .ok (.iconst 0, 1) := by decide +kernel
theorem dX12_edge_22 : decode cX12_edge 22 = .ok (.ireturn, 1) := by decide +kernel
theorem dX12_edge_23 : decode cX12_edge 23 = .ok (.iload_n 2, 1) := by decide +kernel
theorem dX12_edge_24 : decode cX12_edge 24 = .ok (.tableswitch 60 0 2 #[28, 38, 49], 28) := by decide +kernel
theorem dX12_edge_52 : decode cX12_edge 52 = .ok (.aload_n 0, 1) := by decide +kernel
theorem dX12_edge_53 : decode cX12_edge 53 = .ok (.getfield 26, 3) := by decide +kernel
theorem dX12_edge_56 : decode cX12_edge 56 = .ok (.bipush 110, 2) := by decide +kernel
theorem dX12_edge_58 : decode cX12_edge 58 = .ok (.iload_n 1, 1) := by decide +kernel
theorem dX12_edge_59 : decode cX12_edge 59 = .ok (.iadd, 1) := by decide +kernel
theorem dX12_edge_60 : decode cX12_edge 60 = .ok (.iaload, 1) := by decide +kernel
theorem dX12_edge_61 : decode cX12_edge 61 = .ok (.ireturn, 1) := by decide +kernel
theorem dX12_edge_62 : decode cX12_edge 62 = .ok (.aload_n 0, 1) := by decide +kernel
theorem dX12_edge_63 : decode cX12_edge 63 = .ok (.getfield 26, 3) := by decide +kernel
theorem dX12_edge_66 : decode cX12_edge 66 = .ok (.sipush 150, 3) := by decide +kernel
theorem dX12_edge_69 : decode cX12_edge 69 = .ok (.iload_n 1, 1) := by decide +kernel
theorem dX12_edge_70 : decode cX12_edge 70 = .ok (.iadd, 1) := by decide +kernel
theorem dX12_edge_71 : decode cX12_edge 71 = .ok (.iaload, 1) := by decide +kernel
theorem dX12_edge_72 : decode cX12_edge 72 = .ok (.ireturn, 1) := by decide +kernel
theorem dX12_edge_73 : decode cX12_edge 73 = .ok (.aload_n 0, 1) := by decide +kernel
theorem dX12_edge_74 : decode cX12_edge 74 = .ok (.getfield 26, 3) := by decide +kernel
theorem dX12_edge_77 : decode cX12_edge 77 = .ok (.sipush 190, 3) := by decide +kernel
theorem dX12_edge_80 : decode cX12_edge 80 = .ok (.iload_n 1, 1) := by decide +kernel
theorem dX12_edge_81 : decode cX12_edge 81 = .ok (.iadd, 1) := by decide +kernel
theorem dX12_edge_82 : decode cX12_edge 82 = .ok (.iaload, 1) := by decide +kernel
theorem dX12_edge_83 : decode cX12_edge 83 = .ok (.ireturn, 1) := by decide +kernel
theorem dX12_edge_84 : decode cX12_edge 84 = .ok (.aload_n 0, 1) := by decide +kernel
theorem dX12_edge_85 : decode cX12_edge 85 = .ok (.iload_n 1, 1) := by decide +kernel
theorem dX12_edge_86 : decode cX12_edge 86 = .ok (.invokevirtual 277, 3) := by decide +kernel
theorem dX12_edge_89 : decode cX12_edge 89 = .ok (.invokestatic 93, 3) := by decide +kernel
theorem dX12_edge_92 : decode cX12_edge 92 = .ok (.ireturn, 1) := by decide +kernel
set_option maxRecDepth 20000 in
theorem ggX12_areVertices_X12_isVertex : GoodIn wsX12_areVertices wsX12_isVertex := goodIn_s _ [(5, 4), (4, 1), (9, 49)] rfl (by decide +kernel)
set_option maxRecDepth 20000 in
theorem gX12_areVertices_X12_isVertex : GoodIn wsX12_areVertices (wsV RX12 265 RX12 yX12_isVertex wsX12_isVertex) := goodIn_app (goodIn_of _ (by decide +kernel)) ggX12_areVertices_X12_isVertex
theorem dX12_areVertices_0 : decode cX12_areVertices 0 = .ok (.aload_n 0, 1) := by decide +kernel
theorem dX12_areVertices_1 : decode cX12_areVertices 1 = .ok (.iload_n 1, 1) := by decide +kernel
theorem dX12_areVertices_2 : decode cX12_areVertices 2 = .ok (.invokevirtual 265, 3) := by decide +kernel
theorem dX12_areVertices_5 : decode cX12_areVertices 5 = .ok (.ifCond .eq 15, 3) := by decide +kernel
theorem dX12_areVertices_8 : decode cX12_areVertices 8 = .ok (.aload_n 0, 1) := by decide +kernel
theorem dX12_areVertices_9 : decode cX12_areVertices 9 = .ok (.iload_n 2, 1) := by decide +kernel
theorem dX12_areVertices_10 : decode cX12_areVertices 10 = .ok (.invokevirtual 265, 3) := by decide +kernel
theorem dX12_areVertices_13 : decode cX12_areVertices 13 = .ok (.ifCond .eq 7, 3) := by decide +kernel
theorem dX12_areVertices_16 : decode cX12_areVertices 16 = .ok (.iconst 1, 1) := by decide +kernel
theorem dX12_areVertices_17 : decode cX12_areVertices 17 = .ok (.goto 4, 3) := by decide +kernel
theorem dX12_areVertices_20 : decode cX12_areVertices 20 = .ok (.iconst 0, 1) := by decide +kernel
theorem dX12_areVertices_21 : decode cX12_areVertices 21 = .ok (.ireturn, 1) := by decide +kernel
set_option maxRecDepth 20000 in
theorem ggX12_between_X12_areVertices : GoodIn wsX12_between wsX12_areVertices := goodIn_s _ [(6, 4), (5, 1), (10, 1), (1, 1), (11, 3), (26, 48)] rfl (by decide +kernel)
set_option maxRecDepth 20000 in
theorem gX12_between_X12_areVertices : GoodIn wsX12_between (wsV RX12 280 RX12 yX12_areVertices wsX12_areVertices) := goodIn_app (goodIn_of _ (by decide +kernel)) ggX12_between_X12_areVertices
set_option maxRecDepth 20000 in
theorem ggX12_between_X12_goes : GoodIn wsX12_between wsX12_goes := goodIn_s _ [(17, 4), (5, 1), (21, 1), (26, 48)] rfl (by decide +kernel)
set_option maxRecDepth 20000 in
theorem gX12_between_X12_goes : GoodIn wsX12_between (wsV RX12 100 RX12 yX12_goes wsX12_goes) := goodIn_app (goodIn_of _ (by decide +kernel)) ggX12_between_X12_goes
set_option maxRecDepth 20000 in
theorem ggX12_between_X12_edgeOf : GoodIn wsX12_between wsX12_edgeOf := goodIn_s _ [(25, 1), (1, 1), (26, 48)] rfl (by decide +kernel)
set_option maxRecDepth 20000 in
theorem gX12_between_X12_edgeOf : GoodIn wsX12_between (wsV RX12 193 RX12 yX12_edgeOf wsX12_edgeOf) := goodIn_app (goodIn_of _ (by decide +kernel)) ggX12_between_X12_edgeOf
theorem dX12_between_0 : decode cX12_between 0 = .ok (.aload_n 0, 1) := by decide +kernel
theorem dX12_between_1 : decode cX12_between 1 = .ok (.aload_n 0, 1) := by decide +kernel
theorem dX12_between_2 : decode cX12_between 2 = .ok (.iload_n 1, 1) := by decide +kernel
theorem dX12_between_3 : decode cX12_between 3 = .ok (.iload_n 2, 1) := by decide +kernel
theorem dX12_between_4 : decode cX12_between 4 = .ok (.invokevirtual 280, 3) := by decide +kernel
theorem dX12_between_7 : decode cX12_between 7 = .ok (.invokevirtual 100, 3) := by decide +kernel
theorem dX12_between_10 : decode cX12_between 10 = .ok (.ifCond .ne 5, 3) := by decide +kernel
theorem dX12_between_13 : decode cX12_between 13 = .ok (.iconst 0, 1) := by decide +kernel
theorem dX12_between_14 : decode cX12_between 14 = .ok (.ireturn, 1) := by decide +kernel
theorem dX12_between_15 : decode cX12_between 15 = .ok (.aload_n 0, 1) := by decide +kernel
theorem dX12_between_16 : decode cX12_between 16 = .ok (.iload_n 1, 1) := by decide +kernel
theorem dX12_between_17 : decode cX12_between 17 = .ok (.iload_n 2, 1) := by decide +kernel
theorem dX12_between_18 : decode cX12_between 18 = .ok (.invokevirtual 193, 3) := by decide +kernel
theorem dX12_between_21 : decode cX12_between 21 = .ok (.istore_n 3, 1) := by decide +kernel
theorem dX12_between_22 : decode cX12_between 22 = .ok (.iload_n 3, 1) := by decide +kernel
theorem dX12_between_23 : decode cX12_between 23 = .ok (.iconst (-1), 1) := by decide +kernel
theorem dX12_between_24 : decode cX12_between 24 = .ok (.if_icmp .ne 7, 3) := by decide +kernel
theorem dX12_between_27 : decode cX12_between 27 = .ok (.iconst 0, 1) := by decide +kernel
theorem dX12_between_28 : decode cX12_between 28 = .ok (.goto 13, 3) := by decide +kernel
theorem dX12_between_31 : decode cX12_between 31 = .ok (.aload_n 0, 1) := by decide +kernel
theorem dX12_between_32 : decode cX12_between 32 = .ok (.getfield 26, 3) := by decide +kernel
theorem dX12_between_35 : decode cX12_between 35 = .ok (.sipush 190, 3) := by decide +kernel
theorem dX12_between_38 : decode cX12_between 38 = .ok (.iload_n 3, 1) := by decide +kernel
theorem dX12_between_39 : decode cX12_between 39 = .ok (.iadd, 1) := by decide +kernel
theorem dX12_between_40 : decode cX12_between 40 = .ok (.iaload, 1) := by decide +kernel
theorem dX12_between_41 : decode cX12_between 41 = .ok (.ireturn, 1) := by decide +kernel
set_option maxRecDepth 20000 in
theorem ggX12_outOf_X12_hasBit : GoodIn wsX12_outOf wsX12_hasBit := goodIn_s _ [(5, 1)] rfl (by decide +kernel)
set_option maxRecDepth 20000 in
theorem gX12_outOf_X12_hasBit : GoodIn wsX12_outOf (va_wsS RX12 199 yX12_hasBit wsX12_hasBit) := goodIn_app (goodIn_of _ (by decide +kernel)) ggX12_outOf_X12_hasBit
theorem dX12_outOf_0 : decode cX12_outOf 0 = .ok (.iconst 0, 1) := by decide +kernel
theorem dX12_outOf_1 : decode cX12_outOf 1 = .ok (.istore_n 2, 1) := by decide +kernel
theorem dX12_outOf_2 : decode cX12_outOf 2 = .ok (.iconst 0, 1) := by decide +kernel
theorem dX12_outOf_3 : decode cX12_outOf 3 = .ok (.istore_n 3, 1) := by decide +kernel
theorem dX12_outOf_4 : decode cX12_outOf 4 = .ok (.iload_n 3, 1) := by decide +kernel
theorem dX12_outOf_5 : decode cX12_outOf 5 = .ok (.aload_n 0, 1) := by decide +kernel
theorem dX12_outOf_6 : decode cX12_outOf 6 = .ok (.getfield 26, 3) := by decide +kernel
theorem dX12_outOf_9 : decode cX12_outOf 9 = .ok (.iconst 1, 1) := by decide +kernel
theorem dX12_outOf_10 : decode cX12_outOf 10 = .ok (.iaload, 1) := by decide +kernel
theorem dX12_outOf_11 : decode cX12_outOf 11 = .ok (.if_icmp .ge 56, 3) := by decide +kernel
theorem dX12_outOf_14 : decode cX12_outOf 14 = .ok (.iload_n 2, 1) := by decide +kernel
theorem dX12_outOf_15 : decode cX12_outOf 15 = .ok (.iload_n 1, 1) := by decide +kernel
theorem dX12_outOf_16 : decode cX12_outOf 16 = .ok (.aload_n 0, 1) := by decide +kernel
theorem dX12_outOf_17 : decode cX12_outOf 17 = .ok (.getfield 26, 3) := by decide +kernel
theorem dX12_outOf_20 : decode cX12_outOf 20 = .ok (.bipush 110, 2) := by decide +kernel
theorem dX12_outOf_22 : decode cX12_outOf 22 = .ok (.iload_n 3, 1) := by decide +kernel
theorem dX12_outOf_23 : decode cX12_outOf 23 = .ok (.iadd, 1) := by decide +kernel
theorem dX12_outOf_24 : decode cX12_outOf 24 = .ok (.iaload, 1) := by decide +kernel
theorem dX12_outOf_25 : decode cX12_outOf 25 = .ok (.invokestatic 199, 3) := by decide +kernel
theorem dX12_outOf_28 : decode cX12_outOf 28 = .ok (.iload_n 1, 1) := by decide +kernel
theorem dX12_outOf_29 : decode cX12_outOf 29 = .ok (.aload_n 0, 1) := by decide +kernel
theorem dX12_outOf_30 : decode cX12_outOf 30 = .ok (.getfield 26, 3) := by decide +kernel
theorem dX12_outOf_33 : decode cX12_outOf 33 = .ok (.sipush 150, 3) := by decide +kernel
theorem dX12_outOf_36 : decode cX12_outOf 36 = .ok (.iload_n 3, 1) := by decide +kernel
theorem dX12_outOf_37 : decode cX12_outOf 37 = .ok (.iadd, 1) := by decide +kernel
theorem dX12_outOf_38 : decode cX12_outOf 38 = .ok (.iaload, 1) := by decide +kernel
theorem dX12_outOf_39 : decode cX12_outOf 39 = .ok (.invokestatic 199, 3) := by decide +kernel
theorem dX12_outOf_42 : decode cX12_outOf 42 = .ok (.if_icmp .eq 16, 3) := by decide +kernel
theorem dX12_outOf_45 : decode cX12_outOf 45 = .ok (.aload_n 0, 1) := by decide +kernel
theorem dX12_outOf_46 : decode cX12_outOf 46 = .ok (.getfield 26, 3) := by decide +kernel
theorem dX12_outOf_49 : decode cX12_outOf 49 = .ok (.sipush 190, 3) := by decide +kernel
theorem dX12_outOf_52 : decode cX12_outOf 52 = .ok (.iload_n 3, 1) := by decide +kernel
theorem dX12_outOf_53 : decode cX12_outOf 53 = .ok (.iadd, 1) := by decide +kernel
theorem dX12_outOf_54 : decode cX12_outOf 54 = .ok (.iaload, 1) := by decide +kernel
theorem dX12_outOf_55 : decode cX12_outOf 55 = .ok (.goto 4, 3) := by decide +kernel
theorem dX12_outOf_58 : decode cX12_outOf 58 = .ok (.iconst 0, 1) := by decide +kernel
theorem dX12_outOf_59 : decode cX12_outOf 59 = .ok (.iadd, 1) := by decide +kernel
theorem dX12_outOf_60 : decode cX12_outOf 60 = .ok (.istore_n 2, 1) := by decide +kernel
theorem dX12_outOf_61 : decode cX12_outOf 61 = .ok (.iinc 3 1, 3) := by decide +kernel
theorem dX12_outOf_64 : decode cX12_outOf 64 = .ok (.goto (-60), 3) := by decide +kernel
theorem dX12_outOf_67 : decode cX12_outOf 67 = .ok (.iload_n 2, 1) := by decide +kernel
theorem dX12_outOf_68 : decode cX12_outOf 68 = .ok (.ireturn, 1) := by decide +kernel
set_option maxRecDepth 20000 in
theorem ggX12_flows_X12_everything : GoodIn wsX12_flows wsX12_everything := goodIn_s _ [(7, 2), (16, 48)] rfl (by decide +kernel)
set_option maxRecDepth 20000 in
theorem gX12_flows_X12_everything : GoodIn wsX12_flows (wsV RX12 245 RX12 yX12_everything wsX12_everything) := goodIn_app (goodIn_of _ (by decide +kernel)) ggX12_flows_X12_everything
set_option maxRecDepth 20000 in
theorem ggX12_flows_X12_hasBit : GoodIn wsX12_flows wsX12_hasBit := goodIn_s _ [(11, 1)] rfl (by decide +kernel)
set_option maxRecDepth 20000 in
theorem gX12_flows_X12_hasBit : GoodIn wsX12_flows (va_wsS RX12 199 yX12_hasBit wsX12_hasBit) := goodIn_app (goodIn_of _ (by decide +kernel)) ggX12_flows_X12_hasBit
set_option maxRecDepth 20000 in
theorem ggX12_flows_X12_outOf : GoodIn wsX12_flows wsX12_outOf := goodIn_s _ [(15, 1), (8, 3), (6, 1), (11, 1), (16, 48)] rfl (by decide +kernel)
set_option maxRecDepth 20000 in
theorem gX12_flows_X12_outOf : GoodIn wsX12_flows (wsV RX12 289 RX12 yX12_outOf wsX12_outOf) := goodIn_app (goodIn_of _ (by decide +kernel)) ggX12_flows_X12_outOf
theorem dX12_flows_0 : decode cX12_flows 0 = .ok (.aload_n 0, 1) := by decide +kernel
theorem dX12_flows_1 : decode cX12_flows 1 = .ok (.iconst (-1), 1) := by decide +kernel
theorem dX12_flows_2 : decode cX12_flows 2 = .ok (.putfield 283, 3) := by decide +kernel
theorem dX12_flows_5 : decode cX12_flows 5 = .ok (.aload_n 0, 1) := by decide +kernel
theorem dX12_flows_6 : decode cX12_flows 6 = .ok (.iconst 0, 1) := by decide +kernel
theorem dX12_flows_7 : decode cX12_flows 7 = .ok (.putfield 286, 3) := by decide +kernel
theorem dX12_flows_10 : decode cX12_flows 10 = .ok (.iconst 0, 1) := by decide +kernel
theorem dX12_flows_11 : decode cX12_flows 11 = .ok (.istore_n 3, 1) := by decide +kernel
theorem dX12_flows_12 : decode cX12_flows 12 = .ok (.iload_n 3, 1) := by decide +kernel
theorem dX12_flows_13 : decode cX12_flows 13 = .ok (.aload_n 0, 1) := by decide +kernel
theorem dX12_flows_14 : decode cX12_flows 14 = .ok (.invokevirtual 245, 3) := by decide +kernel
theorem dX12_flows_17 : decode cX12_flows 17 = .ok (.if_icmp .gt 85, 3) := by decide +kernel
theorem dX12_flows_20 : decode cX12_flows 20 = .ok (.iload_n 3, 1) := by decide +kernel
theorem dX12_flows_21 : decode cX12_flows 21 = .ok (.iload_n 1, 1) := by decide +kernel
theorem dX12_flows_22 : decode cX12_flows 22 = .ok (.invokestatic 199, 3) := by decide +kernel
theorem dX12_flows_25 : decode cX12_flows 25 = .ok (.ifCond .eq 71, 3) := by decide +kernel
theorem dX12_flows_28 : decode cX12_flows 28 = .ok (.iload_n 3, 1) := by decide +kernel
theorem dX12_flows_29 : decode cX12_flows 29 = .ok (.iload_n 2, 1) := by decide +kernel
theorem dX12_flows_30 : decode cX12_flows 30 = .ok (.invokestatic 199, 3) := by decide +kernel
theorem dX12_flows_33 : decode cX12_flows 33 = .ok (.ifCond .eq 6, 3) := by decide +kernel
theorem dX12_flows_36 : decode cX12_flows 36 = .ok (.goto 60, 3) := by decide +kernel
theorem dX12_flows_39 : decode cX12_flows 39 = .ok (.aload_n 0, 1) := by decide +kernel
theorem dX12_flows_40 : decode cX12_flows 40 = .ok (.iload_n 3, 1) := by decide +kernel
theorem dX12_flows_41 : decode cX12_flows 41 = .ok (.invokevirtual 289, 3) := by decide +kernel
theorem dX12_flows_44 : decode cX12_flows 44 = .ok (.istore 4, 2) := by decide +kernel
theorem dX12_flows_46 : decode cX12_flows 46 = .ok (.aload_n 0, 1) := by decide +kernel
theorem dX12_flows_47 : decode cX12_flows 47 = .ok (.getfield 283, 3) := by decide +kernel
theorem dX12_flows_50 : decode cX12_flows 50 = .ok (.iconst (-1), 1) := by decide +kernel
theorem dX12_flows_51 : decode cX12_flows 51 = .ok (.if_icmp .eq 12, 3) := by decide +kernel
theorem dX12_flows_54 : decode cX12_flows 54 = .ok (.iload 4, 2) := by decide +kernel
theorem dX12_flows_56 : decode cX12_flows 56 = .ok (.aload_n 0, 1) := by decide +kernel
theorem dX12_flows_57 : decode cX12_flows 57 = .ok (.getfield 283, 3) := by decide +kernel
theorem dX12_flows_60 : decode cX12_flows 60 = .ok (.if_icmp .ge 17, 3) := by decide +kernel
theorem dX12_flows_63 : decode cX12_flows 63 = .ok (.aload_n 0, 1) := by decide +kernel
theorem dX12_flows_64 : decode cX12_flows 64 = .ok (.iload 4, 2) := by decide +kernel
theorem dX12_flows_66 : decode cX12_flows 66 = .ok (.putfield 283, 3) := by decide +kernel
theorem dX12_flows_69 : decode cX12_flows 69 = .ok (.aload_n 0, 1) := by decide +kernel
theorem dX12_flows_70 : decode cX12_flows 70 = .ok (.iload_n 3, 1) := by decide +kernel
theorem dX12_flows_71 : decode cX12_flows 71 = .ok (.putfield 286, 3) := by decide +kernel
theorem dX12_flows_74 : decode cX12_flows 74 = .ok (.goto 22, 3) := by decide +kernel
theorem dX12_flows_77 : decode cX12_flows 77 = .ok (.iload 4, 2) := by decide +kernel
theorem dX12_flows_79 : decode cX12_flows 79 = .ok (.aload_n 0, 1) := by decide +kernel
theorem dX12_flows_80 : decode cX12_flows 80 = .ok (.getfield 283, 3) := by decide +kernel
theorem dX12_flows_83 : decode cX12_flows 83 = .ok (.if_icmp .ne 13, 3) := by decide +kernel
theorem dX12_flows_86 : decode cX12_flows 86 = .ok (.aload_n 0, 1) := by decide +kernel
theorem dX12_flows_87 : decode cX12_flows 87 = .ok (.dup, 1) := by decide +kernel
theorem dX12_flows_88 : decode cX12_flows 88 = .ok (.getfield 286, 3) := by decide +kernel
theorem dX12_flows_91 : decode cX12_flows 91 = .ok (.iload_n 3, 1) := by decide +kernel
theorem dX12_flows_92 : decode cX12_flows 92 = .ok (.iand, 1) := by decide +kernel
theorem dX12_flows_93 : decode cX12_flows 93 = .ok (.putfield 286, 3) := by decide +kernel
theorem dX12_flows_96 : decode cX12_flows 96 = .ok (.iinc 3 1, 3) := by decide +kernel
theorem dX12_flows_99 : decode cX12_flows 99 = .ok (.goto (-87), 3) := by decide +kernel
theorem dX12_flows_102 : decode cX12_flows 102 = .ok (.return_, 1) := by decide +kernel
set_option maxRecDepth 20000 in
theorem ggX12_flow_X12_areVertices : GoodIn wsX12_flow wsX12_areVertices := goodIn_s _ [(6, 4), (5, 1), (10, 5), (39, 48)] rfl (by decide +kernel)
set_option maxRecDepth 20000 in
theorem gX12_flow_X12_areVertices : GoodIn wsX12_flow (wsV RX12 280 RX12 yX12_areVertices wsX12_areVertices) := goodIn_app (goodIn_of _ (by decide +kernel)) ggX12_flow_X12_areVertices
set_option maxRecDepth 20000 in
theorem ggX12_flow_X12_goes : GoodIn wsX12_flow wsX12_goes := goodIn_s _ [(18, 4), (5, 1), (22, 1), (39, 48)] rfl (by decide +kernel)
set_option maxRecDepth 20000 in
theorem gX12_flow_X12_goes : GoodIn wsX12_flow (wsV RX12 100 RX12 yX12_goes wsX12_goes) := goodIn_app (goodIn_of _ (by decide +kernel)) ggX12_flow_X12_goes
set_option maxRecDepth 20000 in
theorem ggX12_flow_X12_flows : GoodIn wsX12_flow wsX12_flows := goodIn_s _ [(26, 1), (1, 1), (27, 4), (5, 1), (31, 1), (11, 1), (32, 55)] rfl (by decide +kernel)
set_option maxRecDepth 20000 in
theorem gX12_flow_X12_flows : GoodIn wsX12_flow (wsV RX12 292 RX12 yX12_flows wsX12_flows) := goodIn_app (goodIn_of _ (by decide +kernel)) ggX12_flow_X12_flows
theorem dX12_flow_0 : decode cX12_flow 0 = .ok (.aload_n 0, 1) := by decide +kernel
theorem dX12_flow_1 : decode cX12_flow 1 = .ok (.aload_n 0, 1) := by decide +kernel
theorem dX12_flow_2 : decode cX12_flow 2 = .ok (.iload_n 1, 1) := by decide +kernel
theorem dX12_flow_3 : decode cX12_flow 3 = .ok (.iload_n 2, 1) := by decide +kernel
theorem dX12_flow_4 : decode cX12_flow 4 = .ok (.invokevirtual 280, 3) := by decide +kernel
theorem dX12_flow_7 : decode cX12_flow 7 = .ok (.invokevirtual 100, 3) := by decide +kernel
theorem dX12_flow_10 : decode cX12_flow 10 = .ok (.ifCond .ne 5, 3) := by decide +kernel
theorem dX12_flow_13 : decode cX12_flow 13 = .ok (.iconst 0, 1) := by decide +kernel
theorem dX12_flow_14 : decode cX12_flow 14 = .ok (.ireturn, 1) := by decide +kernel
theorem dX12_flow_15 : decode cX12_flow 15 = .ok (.iload_n 1, 1) := by decide +kernel
theorem dX12_flow_16 : decode cX12_flow 16 = .ok (.iload_n 2, 1) := by decide +kernel
theorem dX12_flow_17 : decode cX12_flow 17 = .ok (.if_icmp .ne 5, 3) := by decide +kernel
theorem dX12_flow_20 : decode cX12_flow 20 = .ok (.iconst 0, 1) := by decide +kernel
theorem dX12_flow_21 : decode cX12_flow 21 = .ok (.ireturn, 1) := by decide +kernel
theorem dX12_flow_22 : decode cX12_flow 22 = .ok (.aload_n 0, 1) := by decide +kernel
theorem dX12_flow_23 : decode cX12_flow 23 = .ok (.iload_n 1, 1) := by decide +kernel
theorem dX12_flow_24 : decode cX12_flow 24 = .ok (.iload_n 2, 1) := by decide +kernel
theorem dX12_flow_25 : decode cX12_flow 25 = .ok (.invokevirtual 292, 3) := by decide +kernel
theorem dX12_flow_28 : decode cX12_flow 28 = .ok (.aload_n 0, 1) := by decide +kernel
theorem dX12_flow_29 : decode cX12_flow 29 = .ok (.getfield 283, 3) := by decide +kernel
theorem dX12_flow_32 : decode cX12_flow 32 = .ok (.ireturn, 1) := by decide +kernel
set_option maxRecDepth 20000 in
theorem ggX12_side_X12_areVertices : GoodIn wsX12_side wsX12_areVertices := goodIn_s _ [(6, 4), (5, 1), (10, 5), (39, 48)] rfl (by decide +kernel)
set_option maxRecDepth 20000 in
theorem gX12_side_X12_areVertices : GoodIn wsX12_side (wsV RX12 280 RX12 yX12_areVertices wsX12_areVertices) := goodIn_app (goodIn_of _ (by decide +kernel)) ggX12_side_X12_areVertices
set_option maxRecDepth 20000 in
theorem ggX12_side_X12_goes : GoodIn wsX12_side wsX12_goes := goodIn_s _ [(18, 4), (5, 1), (22, 1), (39, 48)] rfl (by decide +kernel)
set_option maxRecDepth 20000 in
theorem gX12_side_X12_goes : GoodIn wsX12_side (wsV RX12 100 RX12 yX12_goes wsX12_goes) := goodIn_app (goodIn_of _ (by decide +kernel)) ggX12_side_X12_goes
set_option maxRecDepth 20000 in
theorem ggX12_side_X12_flows : GoodIn wsX12_side wsX12_flows := goodIn_s _ [(26, 2), (1, 1), (28, 3), (5, 1), (31, 1), (11, 1), (32, 55)] rfl (by decide +kernel)
set_option maxRecDepth 20000 in
theorem gX12_side_X12_flows : GoodIn wsX12_side (wsV RX12 292 RX12 yX12_flows wsX12_flows) := goodIn_app (goodIn_of _ (by decide +kernel)) ggX12_side_X12_flows
theorem dX12_side_0 : decode cX12_side 0 = .ok (.aload_n 0, 1) := by decide +kernel
theorem dX12_side_1 : decode cX12_side 1 = .ok (.aload_n 0, 1) := by decide +kernel
theorem dX12_side_2 : decode cX12_side 2 = .ok (.iload_n 1, 1) := by decide +kernel
theorem dX12_side_3 : decode cX12_side 3 = .ok (.iload_n 2, 1) := by decide +kernel
theorem dX12_side_4 : decode cX12_side 4 = .ok (.invokevirtual 280, 3) := by decide +kernel
theorem dX12_side_7 : decode cX12_side 7 = .ok (.invokevirtual 100, 3) := by decide +kernel
theorem dX12_side_10 : decode cX12_side 10 = .ok (.ifCond .ne 5, 3) := by decide +kernel
theorem dX12_side_13 : decode cX12_side 13 = .ok (.iconst 0, 1) := by decide +kernel
theorem dX12_side_14 : decode cX12_side 14 = .ok (.ireturn, 1) := by decide +kernel
theorem dX12_side_15 : decode cX12_side 15 = .ok (.iload_n 1, 1) := by decide +kernel
theorem dX12_side_16 : decode cX12_side 16 = .ok (.iload_n 2, 1) := by decide +kernel
theorem dX12_side_17 : decode cX12_side 17 = .ok (.if_icmp .ne 5, 3) := by decide +kernel
theorem dX12_side_20 : decode cX12_side 20 = .ok (.iconst 0, 1) := by decide +kernel
theorem dX12_side_21 : decode cX12_side 21 = .ok (.ireturn, 1) := by decide +kernel
theorem dX12_side_22 : decode cX12_side 22 = .ok (.aload_n 0, 1) := by decide +kernel
theorem dX12_side_23 : decode cX12_side 23 = .ok (.iload_n 1, 1) := by decide +kernel
theorem dX12_side_24 : decode cX12_side 24 = .ok (.iload_n 2, 1) := by decide +kernel
theorem dX12_side_25 : decode cX12_side 25 = .ok (.invokevirtual 292, 3) := by decide +kernel
theorem dX12_side_28 : decode cX12_side 28 = .ok (.aload_n 0, 1) := by decide +kernel
theorem dX12_side_29 : decode cX12_side 29 = .ok (.getfield 286, 3) := by decide +kernel
theorem dX12_side_32 : decode cX12_side 32 = .ok (.ireturn, 1) := by decide +kernel
set_option maxRecDepth 20000 in
theorem ggX12_leastFlow_X12_everything : GoodIn wsX12_leastFlow wsX12_everything := goodIn_s _ [(6, 2), (15, 48)] rfl (by decide +kernel)
set_option maxRecDepth 20000 in
theorem gX12_leastFlow_X12_everything : GoodIn wsX12_leastFlow (wsV RX12 245 RX12 yX12_everything wsX12_everything) := goodIn_app (goodIn_of _ (by decide +kernel)) ggX12_leastFlow_X12_everything
set_option maxRecDepth 20000 in
theorem ggX12_leastFlow_X12_outOf : GoodIn wsX12_leastFlow wsX12_outOf := goodIn_s _ [(11, 1), (7, 1), (12, 2), (5, 1), (14, 49)] rfl (by decide +kernel)
set_option maxRecDepth 20000 in
theorem gX12_leastFlow_X12_outOf : GoodIn wsX12_leastFlow (wsV RX12 289 RX12 yX12_outOf wsX12_outOf) := goodIn_app (goodIn_of _ (by decide +kernel)) ggX12_leastFlow_X12_outOf
theorem dX12_leastFlow_0 : decode cX12_leastFlow 0 = .ok (.aload_n 0, 1) := by decide +kernel
theorem dX12_leastFlow_1 : decode cX12_leastFlow 1 = .ok (.iconst 0, 1) := by decide +kernel
theorem dX12_leastFlow_2 : decode cX12_leastFlow 2 = .ok (.putfield 90, 3) := by decide +kernel
theorem dX12_leastFlow_5 : decode cX12_leastFlow 5 = .ok (.iconst (-1), 1) := by decide +kernel
theorem dX12_leastFlow_6 : decode cX12_leastFlow 6 = .ok (.istore_n 1, 1) := by decide +kernel
theorem dX12_leastFlow_7 : decode cX12_leastFlow 7 = .ok (.iconst 1, 1) := by decide +kernel
theorem dX12_leastFlow_8 : decode cX12_leastFlow 8 = .ok (.istore_n 2, 1) := by decide +kernel
theorem dX12_leastFlow_9 : decode cX12_leastFlow 9 = .ok (.iload_n 2, 1) := by decide +kernel
theorem dX12_leastFlow_10 : decode cX12_leastFlow 10 = .ok (.aload_n 0, 1) := by decide +kernel
theorem dX12_leastFlow_11 : decode cX12_leastFlow 11 = .ok (.invokevirtual 245, 3) := by decide +kernel
theorem dX12_leastFlow_14 : decode cX12_leastFlow 14 = .ok (.if_icmp .ge 31, 3) := by decide +kernel
theorem dX12_leastFlow_17 : decode cX12_leastFlow 17 = .ok (.aload_n 0, 1) := by decide +kernel
theorem dX12_leastFlow_18 : decode cX12_leastFlow 18 = .ok (.iload_n 2, 1) := by decide +kernel
theorem dX12_leastFlow_19 : decode cX12_leastFlow 19 = .ok (.invokevirtual 289, 3) := by decide +kernel
theorem dX12_leastFlow_22 : decode cX12_leastFlow 22 = .ok (.istore_n 3, 1) := by decide +kernel
theorem dX12_leastFlow_23 : decode cX12_leastFlow 23 = .ok (.iload_n 1, 1) := by decide +kernel
theorem dX12_leastFlow_24 : decode cX12_leastFlow 24 = .ok (.iconst (-1), 1) := by decide +kernel
theorem dX12_leastFlow_25 : decode cX12_leastFlow 25 = .ok (.if_icmp .eq 8, 3) := by decide +kernel
theorem dX12_leastFlow_28 : decode cX12_leastFlow 28 = .ok (.iload_n 3, 1) := by decide +kernel
theorem dX12_leastFlow_29 : decode cX12_leastFlow 29 = .ok (.iload_n 1, 1) := by decide +kernel
theorem dX12_leastFlow_30 : decode cX12_leastFlow 30 = .ok (.if_icmp .ge 7, 3) := by decide +kernel
theorem dX12_leastFlow_33 : decode cX12_leastFlow 33 = .ok (.iload_n 3, 1) := by decide +kernel
theorem dX12_leastFlow_34 : decode cX12_leastFlow 34 = .ok (.goto 4, 3) := by decide +kernel
theorem dX12_leastFlow_37 : decode cX12_leastFlow 37 = .ok (.iload_n 1, 1) := by decide +kernel
theorem dX12_leastFlow_38 : decode cX12_leastFlow 38 = .ok (.istore_n 1, 1) := by decide +kernel
theorem dX12_leastFlow_39 : decode cX12_leastFlow 39 = .ok (.iinc 2 2, 3) := by decide +kernel
theorem dX12_leastFlow_42 : decode cX12_leastFlow 42 = .ok (.goto (-33), 3) := by decide +kernel
theorem dX12_leastFlow_45 : decode cX12_leastFlow 45 = .ok (.iload_n 1, 1) := by decide +kernel
theorem dX12_leastFlow_46 : decode cX12_leastFlow 46 = .ok (.ireturn, 1) := by decide +kernel
theorem dX12_weightOf_0 : decode cX12_weightOf 0 = .ok (.iconst 0, 1) := by decide +kernel
theorem dX12_weightOf_1 : decode cX12_weightOf 1 = .ok (.istore_n 2, 1) := by decide +kernel
theorem dX12_weightOf_2 : decode cX12_weightOf 2 = .ok (.iconst 0, 1) := by decide +kernel
theorem dX12_weightOf_3 : decode cX12_weightOf 3 = .ok (.istore_n 3, 1) := by decide +kernel
theorem dX12_weightOf_4 : decode cX12_weightOf 4 = .ok (.iload_n 3, 1) := by decide +kernel
theorem dX12_weightOf_5 : decode cX12_weightOf 5 = .ok (.aload_n 0, 1) := by decide +kernel
theorem dX12_weightOf_6 : decode cX12_weightOf 6 = .ok (.getfield 26, 3) := by decide +kernel
theorem dX12_weightOf_9 : decode cX12_weightOf 9 = .ok (.iconst 0, 1) := by decide +kernel
theorem dX12_weightOf_10 : decode cX12_weightOf 10 = .ok (.iaload, 1) := by decide +kernel
theorem dX12_weightOf_11 : decode cX12_weightOf 11 = .ok (.if_icmp .ge 38, 3) := by decide +kernel
theorem dX12_weightOf_14 : decode cX12_weightOf 14 = .ok (.iload_n 2, 1) := by decide +kernel
theorem dX12_weightOf_15 : decode cX12_weightOf 15 = .ok (.aload_n 0, 1) := by decide +kernel
theorem dX12_weightOf_16 : decode cX12_weightOf 16 = .ok (.getfield 26, 3) := by decide +kernel
theorem dX12_weightOf_19 : decode cX12_weightOf 19 = .ok (.bipush 21, 2) := by decide +kernel
theorem dX12_weightOf_21 : decode cX12_weightOf 21 = .ok (.iload_n 3, 1) := by decide +kernel
theorem dX12_weightOf_22 : decode cX12_weightOf 22 = .ok (.iadd, 1) := by decide +kernel
theorem dX12_weightOf_23 : decode cX12_weightOf 23 = .ok (.iaload, 1) := by decide +kernel
theorem dX12_weightOf_24 : decode cX12_weightOf 24 = .ok (.iload_n 1, 1) := by decide +kernel
theorem dX12_weightOf_25 : decode cX12_weightOf 25 = .ok (.if_icmp .ne 15, 3) := by decide +kernel
theorem dX12_weightOf_28 : decode cX12_weightOf 28 = .ok (.aload_n 0, 1) := by decide +kernel
theorem dX12_weightOf_29 : decode cX12_weightOf 29 = .ok (.getfield 26, 3) := by decide +kernel
theorem dX12_weightOf_32 : decode cX12_weightOf 32 = .ok (.bipush 7, 2) := by decide +kernel
theorem dX12_weightOf_34 : decode cX12_weightOf 34 = .ok (.iload_n 3, 1) := by decide +kernel
theorem dX12_weightOf_35 : decode cX12_weightOf 35 = .ok (.iadd, 1) := by decide +kernel
theorem dX12_weightOf_36 : decode cX12_weightOf 36 = .ok (.iaload, 1) := by decide +kernel
theorem dX12_weightOf_37 : decode cX12_weightOf 37 = .ok (.goto 4, 3) := by decide +kernel
theorem dX12_weightOf_40 : decode cX12_weightOf 40 = .ok (.iconst 0, 1) := by decide +kernel
theorem dX12_weightOf_41 : decode cX12_weightOf 41 = .ok (.iadd, 1) := by decide +kernel
theorem dX12_weightOf_42 : decode cX12_weightOf 42 = .ok (.istore_n 2, 1) := by decide +kernel
theorem dX12_weightOf_43 : decode cX12_weightOf 43 = .ok (.iinc 3 1, 3) := by decide +kernel
theorem dX12_weightOf_46 : decode cX12_weightOf 46 = .ok (.goto (-42), 3) := by decide +kernel
theorem dX12_weightOf_49 : decode cX12_weightOf 49 = .ok (.iload_n 2, 1) := by decide +kernel
theorem dX12_weightOf_50 : decode cX12_weightOf 50 = .ok (.ireturn, 1) := by decide +kernel
set_option maxRecDepth 20000 in
theorem ggX12_debtOf_X12_weightOf : GoodIn wsX12_debtOf wsX12_weightOf := goodIn_s _ [(5, 2), (15, 48)] rfl (by decide +kernel)
set_option maxRecDepth 20000 in
theorem gX12_debtOf_X12_weightOf : GoodIn wsX12_debtOf (wsV RX12 296 RX12 yX12_weightOf wsX12_weightOf) := goodIn_app (goodIn_of _ (by decide +kernel)) ggX12_debtOf_X12_weightOf
set_option maxRecDepth 20000 in
theorem ggX12_debtOf_X12_limit : GoodIn wsX12_debtOf wsX12_limit := goodIn_s _ [(10, 1), (6, 1), (11, 3), (4, 1), (14, 49)] rfl (by decide +kernel)
set_option maxRecDepth 20000 in
theorem gX12_debtOf_X12_limit : GoodIn wsX12_debtOf (wsV RX12 256 RX12 yX12_limit wsX12_limit) := goodIn_app (goodIn_of _ (by decide +kernel)) ggX12_debtOf_X12_limit
theorem dX12_debtOf_0 : decode cX12_debtOf 0 = .ok (.aload_n 0, 1) := by decide +kernel
theorem dX12_debtOf_1 : decode cX12_debtOf 1 = .ok (.iload_n 1, 1) := by decide +kernel
theorem dX12_debtOf_2 : decode cX12_debtOf 2 = .ok (.invokevirtual 296, 3) := by decide +kernel
theorem dX12_debtOf_5 : decode cX12_debtOf 5 = .ok (.aload_n 0, 1) := by decide +kernel
theorem dX12_debtOf_6 : decode cX12_debtOf 6 = .ok (.invokevirtual 256, 3) := by decide +kernel
theorem dX12_debtOf_9 : decode cX12_debtOf 9 = .ok (.isub, 1) := by decide +kernel
theorem dX12_debtOf_10 : decode cX12_debtOf 10 = .ok (.istore_n 2, 1) := by decide +kernel
theorem dX12_debtOf_11 : decode cX12_debtOf 11 = .ok (.iload_n 2, 1) := by decide +kernel
theorem dX12_debtOf_12 : decode cX12_debtOf 12 = .ok (.ifCond .le 7, 3) := by decide +kernel
theorem dX12_debtOf_15 : decode cX12_debtOf 15 = .ok (.iload_n 2, 1) := by decide +kernel
theorem dX12_debtOf_16 : decode cX12_debtOf 16 = .ok (.goto 4, 3) := by decide +kernel
theorem dX12_debtOf_19 : decode cX12_debtOf 19 = .ok (.iconst 0, 1) := by decide +kernel
theorem dX12_debtOf_20 : decode cX12_debtOf 20 = .ok (.ireturn, 1) := by decide +kernel
set_option maxRecDepth 20000 in
theorem ggX12_debtsNow_X12_debtOf : GoodIn wsX12_debtsNow wsX12_debtOf := goodIn_s _ [(6, 4), (5, 1), (10, 1), (1, 1), (11, 56)] rfl (by decide +kernel)
set_option maxRecDepth 20000 in
theorem gX12_debtsNow_X12_debtOf : GoodIn wsX12_debtsNow (wsV RX12 299 RX12 yX12_debtOf wsX12_debtOf) := goodIn_app (goodIn_of _ (by decide +kernel)) ggX12_debtsNow_X12_debtOf
theorem dX12_debtsNow_0 : decode cX12_debtsNow 0 = .ok (.iconst 0, 1) := by decide +kernel
theorem dX12_debtsNow_1 : decode cX12_debtsNow 1 = .ok (.istore_n 1, 1) := by decide +kernel
theorem dX12_debtsNow_2 : decode cX12_debtsNow 2 = .ok (.iconst 0, 1) := by decide +kernel
theorem dX12_debtsNow_3 : decode cX12_debtsNow 3 = .ok (.istore_n 2, 1) := by decide +kernel
theorem dX12_debtsNow_4 : decode cX12_debtsNow 4 = .ok (.iload_n 2, 1) := by decide +kernel
theorem dX12_debtsNow_5 : decode cX12_debtsNow 5 = .ok (.aload_n 0, 1) := by decide +kernel
theorem dX12_debtsNow_6 : decode cX12_debtsNow 6 = .ok (.getfield 26, 3) := by decide +kernel
theorem dX12_debtsNow_9 : decode cX12_debtsNow 9 = .ok (.iconst 2, 1) := by decide +kernel
theorem dX12_debtsNow_10 : decode cX12_debtsNow 10 = .ok (.iaload, 1) := by decide +kernel
theorem dX12_debtsNow_11 : decode cX12_debtsNow 11 = .ok (.if_icmp .ge 17, 3) := by decide +kernel
theorem dX12_debtsNow_14 : decode cX12_debtsNow 14 = .ok (.iload_n 1, 1) := by decide +kernel
theorem dX12_debtsNow_15 : decode cX12_debtsNow 15 = .ok (.aload_n 0, 1) := by decide +kernel
theorem dX12_debtsNow_16 : decode cX12_debtsNow 16 = .ok (.iload_n 2, 1) := by decide +kernel
theorem dX12_debtsNow_17 : decode cX12_debtsNow 17 = .ok (.invokevirtual 299, 3) := by decide +kernel
theorem dX12_debtsNow_20 : decode cX12_debtsNow 20 = .ok (.iadd, 1) := by decide +kernel
theorem dX12_debtsNow_21 : decode cX12_debtsNow 21 = .ok (.istore_n 1, 1) := by decide +kernel
theorem dX12_debtsNow_22 : decode cX12_debtsNow 22 = .ok (.iinc 2 1, 3) := by decide +kernel
theorem dX12_debtsNow_25 : decode cX12_debtsNow 25 = .ok (.goto (-21), 3) := by decide +kernel
theorem dX12_debtsNow_28 : decode cX12_debtsNow 28 = .ok (.iload_n 1, 1) := by decide +kernel
theorem dX12_debtsNow_29 : decode cX12_debtsNow 29 = .ok (.ireturn, 1) := by decide +kernel
set_option maxRecDepth 20000 in
theorem ggX12_cutNow_X12_isCut : GoodIn wsX12_cutNow wsX12_isCut := goodIn_s _ [(6, 1), (1, 1), (7, 48)] rfl (by decide +kernel)
set_option maxRecDepth 20000 in
theorem gX12_cutNow_X12_isCut : GoodIn wsX12_cutNow (wsV RX12 277 RX12 yX12_isCut wsX12_isCut) := goodIn_app (goodIn_of _ (by decide +kernel)) ggX12_cutNow_X12_isCut
theorem dX12_cutNow_0 : decode cX12_cutNow 0 = .ok (.iconst 0, 1) := by decide +kernel
theorem dX12_cutNow_1 : decode cX12_cutNow 1 = .ok (.istore_n 1, 1) := by decide +kernel
theorem dX12_cutNow_2 : decode cX12_cutNow 2 = .ok (.iconst 0, 1) := by decide +kernel
theorem dX12_cutNow_3 : decode cX12_cutNow 3 = .ok (.istore_n 2, 1) := by decide +kernel
theorem dX12_cutNow_4 : decode cX12_cutNow 4 = .ok (.iload_n 2, 1) := by decide +kernel
theorem dX12_cutNow_5 : decode cX12_cutNow 5 = .ok (.aload_n 0, 1) := by decide +kernel
theorem dX12_cutNow_6 : decode cX12_cutNow 6 = .ok (.getfield 26, 3) := by decide +kernel
theorem dX12_cutNow_9 : decode cX12_cutNow 9 = .ok (.iconst 1, 1) := by decide +kernel
theorem dX12_cutNow_10 : decode cX12_cutNow 10 = .ok (.iaload, 1) := by decide +kernel
theorem dX12_cutNow_11 : decode cX12_cutNow 11 = .ok (.if_icmp .ge 34, 3) := by decide +kernel
theorem dX12_cutNow_14 : decode cX12_cutNow 14 = .ok (.iload_n 1, 1) := by decide +kernel
theorem dX12_cutNow_15 : decode cX12_cutNow 15 = .ok (.aload_n 0, 1) := by decide +kernel
theorem dX12_cutNow_16 : decode cX12_cutNow 16 = .ok (.iload_n 2, 1) := by decide +kernel
theorem dX12_cutNow_17 : decode cX12_cutNow 17 = .ok (.invokevirtual 277, 3) := by decide +kernel
theorem dX12_cutNow_20 : decode cX12_cutNow 20 = .ok (.ifCond .eq 16, 3) := by decide +kernel
theorem dX12_cutNow_23 : decode cX12_cutNow 23 = .ok (.aload_n 0, 1) := by decide +kernel
theorem dX12_cutNow_24 : decode cX12_cutNow 24 = .ok (.getfield 26, 3) := by decide +kernel
theorem dX12_cutNow_27 : decode cX12_cutNow 27 = .ok (.sipush 190, 3) := by decide +kernel
theorem dX12_cutNow_30 : decode cX12_cutNow 30 = .ok (.iload_n 2, 1) := by decide +kernel
theorem dX12_cutNow_31 : decode cX12_cutNow 31 = .ok (.iadd, 1) := by decide +kernel
theorem dX12_cutNow_32 : decode cX12_cutNow 32 = .ok (.iaload, 1) := by decide +kernel
theorem dX12_cutNow_33 : decode cX12_cutNow 33 = .ok (.goto 4, 3) := by decide +kernel
theorem dX12_cutNow_36 : decode cX12_cutNow 36 = .ok (.iconst 0, 1) := by decide +kernel
theorem dX12_cutNow_37 : decode cX12_cutNow 37 = .ok (.iadd, 1) := by decide +kernel
theorem dX12_cutNow_38 : decode cX12_cutNow 38 = .ok (.istore_n 1, 1) := by decide +kernel
theorem dX12_cutNow_39 : decode cX12_cutNow 39 = .ok (.iinc 2 1, 3) := by decide +kernel
theorem dX12_cutNow_42 : decode cX12_cutNow 42 = .ok (.goto (-38), 3) := by decide +kernel
theorem dX12_cutNow_45 : decode cX12_cutNow 45 = .ok (.iload_n 1, 1) := by decide +kernel
theorem dX12_cutNow_46 : decode cX12_cutNow 46 = .ok (.ireturn, 1) := by decide +kernel
set_option maxRecDepth 20000 in
theorem ggX12_partOf_X12_isVertex : GoodIn wsX12_partOf wsX12_isVertex := goodIn_s _ [(6, 1), (1, 1), (7, 2), (5, 1), (9, 1), (18, 48)] rfl (by decide +kernel)
set_option maxRecDepth 20000 in
theorem gX12_partOf_X12_isVertex : GoodIn wsX12_partOf (wsV RX12 265 RX12 yX12_isVertex wsX12_isVertex) := goodIn_app (goodIn_of _ (by decide +kernel)) ggX12_partOf_X12_isVertex
set_option maxRecDepth 20000 in
theorem ggX12_partOf_X12_goes : GoodIn wsX12_partOf wsX12_goes := goodIn_s _ [(13, 4), (5, 1), (17, 49)] rfl (by decide +kernel)
set_option maxRecDepth 20000 in
theorem gX12_partOf_X12_goes : GoodIn wsX12_partOf (wsV RX12 100 RX12 yX12_goes wsX12_goes) := goodIn_app (goodIn_of _ (by decide +kernel)) ggX12_partOf_X12_goes
theorem dX12_partOf_0 : decode cX12_partOf 0 = .ok (.aload_n 0, 1) := by decide +kernel
theorem dX12_partOf_1 : decode cX12_partOf 1 = .ok (.aload_n 0, 1) := by decide +kernel
theorem dX12_partOf_2 : decode cX12_partOf 2 = .ok (.iload_n 1, 1) := by decide +kernel
theorem dX12_partOf_3 : decode cX12_partOf 3 = .ok (.invokevirtual 265, 3) := by decide +kernel
theorem dX12_partOf_6 : decode cX12_partOf 6 = .ok (.invokevirtual 100, 3) := by decide +kernel
theorem dX12_partOf_9 : decode cX12_partOf 9 = .ok (.ifCond .eq 15, 3) := by decide +kernel
theorem dX12_partOf_12 : decode cX12_partOf 12 = .ok (.aload_n 0, 1) := by decide +kernel
theorem dX12_partOf_13 : decode cX12_partOf 13 = .ok (.getfield 26, 3) := by decide +kernel
theorem dX12_partOf_16 : decode cX12_partOf 16 = .ok (.bipush 21, 2) := by decide +kernel
theorem dX12_partOf_18 : decode cX12_partOf 18 = .ok (.iload_n 1, 1) := by decide +kernel
theorem dX12_partOf_19 : decode cX12_partOf 19 = .ok (.iadd, 1) := by decide +kernel
theorem dX12_partOf_20 : decode cX12_partOf 20 = .ok (.iaload, 1) := by decide +kernel
theorem dX12_partOf_21 : decode cX12_partOf 21 = .ok (.goto 4, 3) := by decide +kernel
theorem dX12_partOf_24 : decode cX12_partOf 24 = .ok (.iconst 0, 1) := by decide +kernel
theorem dX12_partOf_25 : decode cX12_partOf 25 = .ok (.ireturn, 1) := by decide +kernel
set_option maxRecDepth 20000 in
theorem ggX12_inPart_X12_truth : GoodIn wsX12_inPart wsX12_truth := goodIn_s _ [(5, 1)] rfl (by decide +kernel)
set_option maxRecDepth 20000 in
theorem gX12_inPart_X12_truth : GoodIn wsX12_inPart (va_wsS RX12 93 yX12_truth wsX12_truth) := goodIn_app (goodIn_of _ (by decide +kernel)) ggX12_inPart_X12_truth
theorem dX12_inPart_0 : decode cX12_inPart 0 = .ok (.iconst 0, 1) := by decide +kernel
theorem dX12_inPart_1 : decode cX12_inPart 1 = .ok (.istore_n 2, 1) := by decide +kernel
theorem dX12_inPart_2 : decode cX12_inPart 2 = .ok (.iconst 0, 1) := by decide +kernel
theorem dX12_inPart_3 : decode cX12_inPart 3 = .ok (.istore_n 3, 1) := by decide +kernel
theorem dX12_inPart_4 : decode cX12_inPart 4 = .ok (.iload_n 3, 1) := by decide +kernel
theorem dX12_inPart_5 : decode cX12_inPart 5 = .ok (.aload_n 0, 1) := by decide +kernel
theorem dX12_inPart_6 : decode cX12_inPart 6 = .ok (.getfield 26, 3) := by decide +kernel
theorem dX12_inPart_9 : decode cX12_inPart 9 = .ok (.iconst 0, 1) := by decide +kernel
theorem dX12_inPart_10 : decode cX12_inPart 10 = .ok (.iaload, 1) := by decide +kernel
theorem dX12_inPart_11 : decode cX12_inPart 11 = .ok (.if_icmp .ge 35, 3) := by decide +kernel
theorem dX12_inPart_14 : decode cX12_inPart 14 = .ok (.iload_n 2, 1) := by decide +kernel
theorem dX12_inPart_15 : decode cX12_inPart 15 = .ok (.aload_n 0, 1) := by decide +kernel
theorem dX12_inPart_16 : decode cX12_inPart 16 = .ok (.getfield 26, 3) := by decide +kernel
theorem dX12_inPart_19 : decode cX12_inPart 19 = .ok (.bipush 21, 2) := by decide +kernel
theorem dX12_inPart_21 : decode cX12_inPart 21 = .ok (.iload_n 3, 1) := by decide +kernel
theorem dX12_inPart_22 : decode cX12_inPart 22 = .ok (.iadd, 1) := by decide +kernel
theorem dX12_inPart_23 : decode cX12_inPart 23 = .ok (.iaload, 1) := by decide +kernel
theorem dX12_inPart_24 : decode cX12_inPart 24 = .ok (.iload_n 1, 1) := by decide +kernel
theorem dX12_inPart_25 : decode cX12_inPart 25 = .ok (.if_icmp .ne 7, 3) := by decide +kernel
theorem dX12_inPart_28 : decode cX12_inPart 28 = .ok (.iconst 1, 1) := by decide +kernel
theorem dX12_inPart_29 : decode cX12_inPart 29 = .ok (.goto 4, 3) := by decide +kernel
theorem dX12_inPart_32 : decode cX12_inPart 32 = .ok (.iconst 0, 1) := by decide +kernel
theorem dX12_inPart_33 : decode cX12_inPart 33 = .ok (.invokestatic 93, 3) := by decide +kernel
theorem dX12_inPart_36 : decode cX12_inPart 36 = .ok (.iload_n 3, 1) := by decide +kernel
theorem dX12_inPart_37 : decode cX12_inPart 37 = .ok (.ishl, 1) := by decide +kernel
theorem dX12_inPart_38 : decode cX12_inPart 38 = .ok (.ior, 1) := by decide +kernel
theorem dX12_inPart_39 : decode cX12_inPart 39 = .ok (.istore_n 2, 1) := by decide +kernel
theorem dX12_inPart_40 : decode cX12_inPart 40 = .ok (.iinc 3 1, 3) := by decide +kernel
theorem dX12_inPart_43 : decode cX12_inPart 43 = .ok (.goto (-39), 3) := by decide +kernel
theorem dX12_inPart_46 : decode cX12_inPart 46 = .ok (.iload_n 2, 1) := by decide +kernel
theorem dX12_inPart_47 : decode cX12_inPart 47 = .ok (.ireturn, 1) := by decide +kernel
set_option maxRecDepth 20000 in
theorem ggX12_pieces_X12_inPart : GoodIn wsX12_pieces wsX12_inPart := goodIn_s _ [(6, 1), (1, 1), (7, 2), (5, 1), (9, 1), (17, 48)] rfl (by decide +kernel)
set_option maxRecDepth 20000 in
theorem gX12_pieces_X12_inPart : GoodIn wsX12_pieces (wsV RX12 302 RX12 yX12_inPart wsX12_inPart) := goodIn_app (goodIn_of _ (by decide +kernel)) ggX12_pieces_X12_inPart
set_option maxRecDepth 20000 in
theorem ggX12_pieces_X12_hasBit : GoodIn wsX12_pieces wsX12_hasBit := goodIn_s _ [(12, 1)] rfl (by decide +kernel)
set_option maxRecDepth 20000 in
theorem gX12_pieces_X12_hasBit : GoodIn wsX12_pieces (va_wsS RX12 199 yX12_hasBit wsX12_hasBit) := goodIn_app (goodIn_of _ (by decide +kernel)) ggX12_pieces_X12_hasBit
set_option maxRecDepth 20000 in
theorem ggX12_pieces_X12_together : GoodIn wsX12_pieces wsX12_together := goodIn_s _ [(16, 1), (1, 1), (10, 2), (5, 1), (12, 1), (17, 48)] rfl (by decide +kernel)
set_option maxRecDepth 20000 in
theorem gX12_pieces_X12_together : GoodIn wsX12_pieces (wsV RX12 248 RX12 yX12_together wsX12_together) := goodIn_app (goodIn_of _ (by decide +kernel)) ggX12_pieces_X12_together
theorem dX12_pieces_0 : decode cX12_pieces 0 = .ok (.aload_n 0, 1) := by decide +kernel
theorem dX12_pieces_1 : decode cX12_pieces 1 = .ok (.iload_n 1, 1) := by decide +kernel
theorem dX12_pieces_2 : decode cX12_pieces 2 = .ok (.invokevirtual 302, 3) := by decide +kernel
theorem dX12_pieces_5 : decode cX12_pieces 5 = .ok (.istore_n 2, 1) := by decide +kernel
theorem dX12_pieces_6 : decode cX12_pieces 6 = .ok (.iload_n 2, 1) := by decide +kernel
theorem dX12_pieces_7 : decode cX12_pieces 7 = .ok (.istore_n 3, 1) := by decide +kernel
theorem dX12_pieces_8 : decode cX12_pieces 8 = .ok (.iconst 0, 1) := by decide +kernel
theorem dX12_pieces_9 : decode cX12_pieces 9 = .ok (.istore 4, 2) := by decide +kernel
theorem dX12_pieces_11 : decode cX12_pieces 11 = .ok (.iconst 0, 1) := by decide +kernel
theorem dX12_pieces_12 : decode cX12_pieces 12 = .ok (.istore 5, 2) := by decide +kernel
theorem dX12_pieces_14 : decode cX12_pieces 14 = .ok (.iload 5, 2) := by decide +kernel
theorem dX12_pieces_16 : decode cX12_pieces 16 = .ok (.aload_n 0, 1) := by decide +kernel
theorem dX12_pieces_17 : decode cX12_pieces 17 = .ok (.getfield 26, 3) := by decide +kernel
theorem dX12_pieces_20 : decode cX12_pieces 20 = .ok (.iconst 0, 1) := by decide +kernel
theorem dX12_pieces_21 : decode cX12_pieces 21 = .ok (.iaload, 1) := by decide +kernel
theorem dX12_pieces_22 : decode cX12_pieces 22 = .ok (.if_icmp .ge 36, 3) := by decide +kernel
theorem dX12_pieces_25 : decode cX12_pieces 25 = .ok (.iload_n 2, 1) := by decide +kernel
theorem dX12_pieces_26 : decode cX12_pieces 26 = .ok (.iload 5, 2) := by decide +kernel
theorem dX12_pieces_28 : decode cX12_pieces 28 = .ok (.invokestatic 199, 3) := by decide +kernel
theorem dX12_pieces_31 : decode cX12_pieces 31 = .ok (.ifCond .ne 6, 3) := by decide +kernel
theorem dX12_pieces_34 : decode cX12_pieces 34 = .ok (.goto 18, 3) := by decide +kernel
theorem dX12_pieces_37 : decode cX12_pieces 37 = .ok (.iload_n 2, 1) := by decide +kernel
theorem dX12_pieces_38 : decode cX12_pieces 38 = .ok (.aload_n 0, 1) := by decide +kernel
theorem dX12_pieces_39 : decode cX12_pieces 39 = .ok (.iload 5, 2) := by decide +kernel
theorem dX12_pieces_41 : decode cX12_pieces 41 = .ok (.iload_n 3, 1) := by decide +kernel
theorem dX12_pieces_42 : decode cX12_pieces 42 = .ok (.invokevirtual 248, 3) := by decide +kernel
theorem dX12_pieces_45 : decode cX12_pieces 45 = .ok (.iconst (-1), 1) := by decide +kernel
theorem dX12_pieces_46 : decode cX12_pieces 46 = .ok (.ixor, 1) := by decide +kernel
theorem dX12_pieces_47 : decode cX12_pieces 47 = .ok (.iand, 1) := by decide +kernel
theorem dX12_pieces_48 : decode cX12_pieces 48 = .ok (.istore_n 2, 1) := by decide +kernel
theorem dX12_pieces_49 : decode cX12_pieces 49 = .ok (.iinc 4 1, 3) := by decide +kernel
theorem dX12_pieces_52 : decode cX12_pieces 52 = .ok (.iinc 5 1, 3) := by decide +kernel
theorem dX12_pieces_55 : decode cX12_pieces 55 = .ok (.goto (-41), 3) := by decide +kernel
theorem dX12_pieces_58 : decode cX12_pieces 58 = .ok (.iload 4, 2) := by decide +kernel
theorem dX12_pieces_60 : decode cX12_pieces 60 = .ok (.ireturn, 1) := by decide +kernel
set_option maxRecDepth 20000 in
theorem ggX12_part_X12_isPart : GoodIn wsX12_part wsX12_isPart := goodIn_s _ [(6, 4), (5, 1), (10, 1), (54, 48)] rfl (by decide +kernel)
set_option maxRecDepth 20000 in
theorem gX12_part_X12_isPart : GoodIn wsX12_part (wsV RX12 305 RX12 yX12_isPart wsX12_isPart) := goodIn_app (goodIn_of _ (by decide +kernel)) ggX12_part_X12_isPart
set_option maxRecDepth 20000 in
theorem ggX12_part_X12_isIn : GoodIn wsX12_part wsX12_isIn := goodIn_s _ [(10, 1)] rfl (by decide +kernel)
set_option maxRecDepth 20000 in
theorem gX12_part_X12_isIn : GoodIn wsX12_part (va_wsS RX12 108 yX12_isIn wsX12_isIn) := goodIn_app (goodIn_of _ (by decide +kernel)) ggX12_part_X12_isIn
set_option maxRecDepth 20000 in
theorem ggX12_part_X12_goesBoth : GoodIn wsX12_part wsX12_goesBoth := goodIn_s _ [(14, 2), (54, 48)] rfl (by decide +kernel)
set_option maxRecDepth 20000 in
theorem gX12_part_X12_goesBoth : GoodIn wsX12_part (wsV RX12 273 RX12 yX12_goesBoth wsX12_goesBoth) := goodIn_app (goodIn_of _ (by decide +kernel)) ggX12_part_X12_goesBoth
set_option maxRecDepth 20000 in
theorem ggX12_part_X12_weightOf : GoodIn wsX12_part wsX12_weightOf := goodIn_s _ [(19, 1), (7, 1), (54, 48)] rfl (by decide +kernel)
set_option maxRecDepth 20000 in
theorem gX12_part_X12_weightOf : GoodIn wsX12_part (wsV RX12 296 RX12 yX12_weightOf wsX12_weightOf) := goodIn_app (goodIn_of _ (by decide +kernel)) ggX12_part_X12_weightOf
set_option maxRecDepth 20000 in
theorem ggX12_part_X12_debtOf : GoodIn wsX12_part wsX12_debtOf := goodIn_s _ [(23, 1), (16, 3), (5, 1), (19, 1), (7, 1), (24, 8), (54, 48)] rfl (by decide +kernel)
set_option maxRecDepth 20000 in
theorem gX12_part_X12_debtOf : GoodIn wsX12_part (wsV RX12 299 RX12 yX12_debtOf wsX12_debtOf) := goodIn_app (goodIn_of _ (by decide +kernel)) ggX12_part_X12_debtOf
set_option maxRecDepth 20000 in
theorem ggX12_part_X12_inPart : GoodIn wsX12_part wsX12_inPart := goodIn_s _ [(35, 1), (7, 1), (36, 2), (5, 1), (38, 1), (54, 48)] rfl (by decide +kernel)
set_option maxRecDepth 20000 in
theorem gX12_part_X12_inPart : GoodIn wsX12_part (wsV RX12 302 RX12 yX12_inPart wsX12_inPart) := goodIn_app (goodIn_of _ (by decide +kernel)) ggX12_part_X12_inPart
set_option maxRecDepth 20000 in
theorem ggX12_part_X12_pieces : GoodIn wsX12_part wsX12_pieces := goodIn_s _ [(42, 1), (7, 1), (32, 3), (5, 1), (35, 4), (43, 7), (54, 48)] rfl (by decide +kernel)
set_option maxRecDepth 20000 in
theorem gX12_part_X12_pieces : GoodIn wsX12_part (wsV RX12 310 RX12 yX12_pieces wsX12_pieces) := goodIn_app (goodIn_of _ (by decide +kernel)) ggX12_part_X12_pieces
set_option maxRecDepth 20000 in
theorem ggX12_part_X12_outOf : GoodIn wsX12_part wsX12_outOf := goodIn_s _ [(53, 1), (7, 1), (43, 2), (5, 1), (45, 1), (54, 48)] rfl (by decide +kernel)
set_option maxRecDepth 20000 in
theorem gX12_part_X12_outOf : GoodIn wsX12_part (wsV RX12 289 RX12 yX12_outOf wsX12_outOf) := goodIn_app (goodIn_of _ (by decide +kernel)) ggX12_part_X12_outOf
theorem dX12_part_0 : decode cX12_part 0 = .ok (.aload_n 0, 1) := by decide +kernel
theorem dX12_part_1 : decode cX12_part 1 = .ok (.aload_n 0, 1) := by decide +kernel
theorem dX12_part_2 : decode cX12_part 2 = .ok (.iload_n 1, 1) := by decide +kernel
theorem dX12_part_3 : decode cX12_part 3 = .ok (.invokevirtual 305, 3) := by decide +kernel
theorem dX12_part_6 : decode cX12_part 6 = .ok (.iload_n 2, 1) := by decide +kernel
theorem dX12_part_7 : decode cX12_part 7 = .ok (.i2l, 1) := by decide +kernel
theorem dX12_part_8 : decode cX12_part 8 = .ok (.lconst 0, 1) := by decide +kernel
theorem dX12_part_9 : decode cX12_part 9 = .ok (.ldc2_w 308, 3) := by decide +kernel
theorem dX12_part_12 : decode cX12_part 12 = .ok (.invokestatic 108, 3) := by decide +kernel
theorem dX12_part_15 : decode cX12_part 15 = .ok (.invokevirtual 273, 3) := by decide +kernel
theorem dX12_part_18 : decode cX12_part 18 = .ok (.ifCond .ne 5, 3) := by decide +kernel
theorem dX12_part_21 : decode cX12_part 21 = .ok (.iconst 0, 1) := by decide +kernel
theorem dX12_part_22 : decode cX12_part 22 = .ok (.ireturn, 1) := by decide +kernel
theorem dX12_part_23 : decode cX12_part 23 = .ok (.iload_n 2, 1) := by decide +kernel
theorem dX12_part_24 : decode cX12_part 24 = .ok (.tableswitch 56 0 3 #[32, 38, 44, 50], 32) := by decide +kernel
theorem dX12_part_56 : decode cX12_part 56 = .ok (.aload_n 0, 1) := by decide +kernel
theorem dX12_part_57 : decode cX12_part 57 = .ok (.iload_n 1, 1) := by decide +kernel
theorem dX12_part_58 : decode cX12_part 58 = .ok (.invokevirtual 296, 3) := by decide +kernel
theorem dX12_part_61 : decode cX12_part 61 = .ok (.ireturn, 1) := by decide +kernel
theorem dX12_part_62 : decode cX12_part 62 = .ok (.aload_n 0, 1) := by decide +kernel
theorem dX12_part_63 : decode cX12_part 63 = .ok (.iload_n 1, 1) := by decide +kernel
theorem dX12_part_64 : decode cX12_part 64 = .ok (.invokevirtual 299, 3) := by decide +kernel
theorem dX12_part_67 : decode cX12_part 67 = .ok (.ireturn, 1) := by decide +kernel
theorem dX12_part_68 : decode cX12_part 68 = .ok (.aload_n 0, 1) := by decide +kernel
theorem dX12_part_69 : decode cX12_part 69 = .ok (.iload_n 1, 1) := by decide +kernel
theorem dX12_part_70 : decode cX12_part 70 = .ok (.invokevirtual 302, 3) := by decide +kernel
theorem dX12_part_73 : decode cX12_part 73 = .ok (.ireturn, 1) := by decide +kernel
theorem dX12_part_74 : decode cX12_part 74 = .ok (.aload_n 0, 1) := by decide +kernel
theorem dX12_part_75 : decode cX12_part 75 = .ok (.iload_n 1, 1) := by decide +kernel
theorem dX12_part_76 : decode cX12_part 76 = .ok (.invokevirtual 310, 3) := by decide +kernel
theorem dX12_part_79 : decode cX12_part 79 = .ok (.ireturn, 1) := by decide +kernel
theorem dX12_part_80 : decode cX12_part 80 = .ok (.aload_n 0, 1) := by decide +kernel
theorem dX12_part_81 : decode cX12_part 81 = .ok (.aload_n 0, 1) := by decide +kernel
theorem dX12_part_82 : decode cX12_part 82 = .ok (.iload_n 1, 1) := by decide +kernel
theorem dX12_part_83 : decode cX12_part 83 = .ok (.invokevirtual 302, 3) := by decide +kernel
theorem dX12_part_86 : decode cX12_part 86 = .ok (.invokevirtual 289, 3) := by decide +kernel
theorem dX12_part_89 : decode cX12_part 89 = .ok (.ireturn, 1) := by decide +kernel
set_option maxRecDepth 20000 in
theorem ggX12_cut_X12_cutNow : GoodIn wsX12_cut wsX12_cutNow := goodIn_s _ [(6, 5), (5, 1), (11, 49)] rfl (by decide +kernel)
set_option maxRecDepth 20000 in
theorem gX12_cut_X12_cutNow : GoodIn wsX12_cut (wsV RX12 173 RX12 yX12_cutNow wsX12_cutNow) := goodIn_app (goodIn_of _ (by decide +kernel)) ggX12_cut_X12_cutNow
theorem dX12_cut_0 : decode cX12_cut 0 = .ok (.aload_n 0, 1) := by decide +kernel
theorem dX12_cut_1 : decode cX12_cut 1 = .ok (.iconst 0, 1) := by decide +kernel
theorem dX12_cut_2 : decode cX12_cut 2 = .ok (.putfield 90, 3) := by decide +kernel
theorem dX12_cut_5 : decode cX12_cut 5 = .ok (.aload_n 0, 1) := by decide +kernel
theorem dX12_cut_6 : decode cX12_cut 6 = .ok (.invokevirtual 173, 3) := by decide +kernel
theorem dX12_cut_9 : decode cX12_cut 9 = .ok (.ireturn, 1) := by decide +kernel
set_option maxRecDepth 20000 in
theorem ggX12_debts_X12_debtsNow : GoodIn wsX12_debts wsX12_debtsNow := goodIn_s _ [(6, 5), (5, 1), (11, 61)] rfl (by decide +kernel)
set_option maxRecDepth 20000 in
theorem gX12_debts_X12_debtsNow : GoodIn wsX12_debts (wsV RX12 313 RX12 yX12_debtsNow wsX12_debtsNow) := goodIn_app (goodIn_of _ (by decide +kernel)) ggX12_debts_X12_debtsNow
theorem dX12_debts_0 : decode cX12_debts 0 = .ok (.aload_n 0, 1) := by decide +kernel
theorem dX12_debts_1 : decode cX12_debts 1 = .ok (.iconst 0, 1) := by decide +kernel
theorem dX12_debts_2 : decode cX12_debts 2 = .ok (.putfield 90, 3) := by decide +kernel
theorem dX12_debts_5 : decode cX12_debts 5 = .ok (.aload_n 0, 1) := by decide +kernel
theorem dX12_debts_6 : decode cX12_debts 6 = .ok (.invokevirtual 313, 3) := by decide +kernel
theorem dX12_debts_9 : decode cX12_debts 9 = .ok (.ireturn, 1) := by decide +kernel
set_option maxRecDepth 20000 in
theorem ggX12_borderNow_X12_isCut : GoodIn wsX12_borderNow wsX12_isCut := goodIn_s _ [(6, 1), (1, 1), (7, 48)] rfl (by decide +kernel)
set_option maxRecDepth 20000 in
theorem gX12_borderNow_X12_isCut : GoodIn wsX12_borderNow (wsV RX12 277 RX12 yX12_isCut wsX12_isCut) := goodIn_app (goodIn_of _ (by decide +kernel)) ggX12_borderNow_X12_isCut
theorem dX12_borderNow_0 : decode cX12_borderNow 0 = .ok (.iconst 0, 1) := by decide +kernel
theorem dX12_borderNow_1 : decode cX12_borderNow 1 = .ok (.istore_n 1, 1) := by decide +kernel
theorem dX12_borderNow_2 : decode cX12_borderNow 2 = .ok (.iconst 0, 1) := by decide +kernel
theorem dX12_borderNow_3 : decode cX12_borderNow 3 = .ok (.istore_n 2, 1) := by decide +kernel
theorem dX12_borderNow_4 : decode cX12_borderNow 4 = .ok (.iload_n 2, 1) := by decide +kernel
theorem dX12_borderNow_5 : decode cX12_borderNow 5 = .ok (.aload_n 0, 1) := by decide +kernel
theorem dX12_borderNow_6 : decode cX12_borderNow 6 = .ok (.getfield 26, 3) := by decide +kernel
theorem dX12_borderNow_9 : decode cX12_borderNow 9 = .ok (.iconst 1, 1) := by decide +kernel
theorem dX12_borderNow_10 : decode cX12_borderNow 10 = .ok (.iaload, 1) := by decide +kernel
theorem dX12_borderNow_11 : decode cX12_borderNow 11 = .ok (.if_icmp .ge 44, 3) := by decide +kernel
theorem dX12_borderNow_14 : decode cX12_borderNow 14 = .ok (.aload_n 0, 1) := by decide +kernel
theorem dX12_borderNow_15 : decode cX12_borderNow 15 = .ok (.iload_n 2, 1) := by decide +kernel
theorem dX12_borderNow_16 : decode cX12_borderNow 16 = .ok (.invokevirtual 277, 3) := by decide +kernel
theorem dX12_borderNow_19 : decode cX12_borderNow 19 = .ok (.ifCond .eq 30, 3) := by decide +kernel
theorem dX12_borderNow_22 : decode cX12_borderNow 22 = .ok (.iload_n 1, 1) := by decide +kernel
theorem dX12_borderNow_23 : decode cX12_borderNow 23 = .ok (.iconst 1, 1) := by decide +kernel
theorem dX12_borderNow_24 : decode cX12_borderNow 24 = .ok (.aload_n 0, 1) := by decide +kernel
theorem dX12_borderNow_25 : decode cX12_borderNow 25 = .ok (.getfield 26, 3) := by decide +kernel
theorem dX12_borderNow_28 : decode cX12_borderNow 28 = .ok (.bipush 110, 2) := by decide +kernel
theorem dX12_borderNow_30 : decode cX12_borderNow 30 = .ok (.iload_n 2, 1) := by decide +kernel
theorem dX12_borderNow_31 : decode cX12_borderNow 31 = .ok (.iadd, 1) := by decide +kernel
theorem dX12_borderNow_32 : decode cX12_borderNow 32 = .ok (.iaload, 1) := by decide +kernel
theorem dX12_borderNow_33 : decode cX12_borderNow 33 = .ok (.ishl, 1) := by decide +kernel
theorem dX12_borderNow_34 : decode cX12_borderNow 34 = .ok (.iconst 1, 1) := by decide +kernel
theorem dX12_borderNow_35 : decode cX12_borderNow 35 = .ok (.aload_n 0, 1) := by decide +kernel
theorem dX12_borderNow_36 : decode cX12_borderNow 36 = .ok (.getfield 26, 3) := by decide +kernel
theorem dX12_borderNow_39 : decode cX12_borderNow 39 = .ok (.sipush 150, 3) := by decide +kernel
theorem dX12_borderNow_42 : decode cX12_borderNow 42 = .ok (.iload_n 2, 1) := by decide +kernel
theorem dX12_borderNow_43 : decode cX12_borderNow 43 = .ok (.iadd, 1) := by decide +kernel
theorem dX12_borderNow_44 : decode cX12_borderNow 44 = .ok (.iaload, 1) := by decide +kernel
theorem dX12_borderNow_45 : decode cX12_borderNow 45 = .ok (.ishl, 1) := by decide +kernel
theorem dX12_borderNow_46 : decode cX12_borderNow 46 = .ok (.ior, 1) := by decide +kernel
theorem dX12_borderNow_47 : decode cX12_borderNow 47 = .ok (.ior, 1) := by decide +kernel
theorem dX12_borderNow_48 : decode cX12_borderNow 48 = .ok (.istore_n 1, 1) := by decide +kernel
theorem dX12_borderNow_49 : decode cX12_borderNow 49 = .ok (.iinc 2 1, 3) := by decide +kernel
theorem dX12_borderNow_52 : decode cX12_borderNow 52 = .ok (.goto (-48), 3) := by decide +kernel
theorem dX12_borderNow_55 : decode cX12_borderNow 55 = .ok (.iload_n 1, 1) := by decide +kernel
theorem dX12_borderNow_56 : decode cX12_borderNow 56 = .ok (.ireturn, 1) := by decide +kernel
set_option maxRecDepth 20000 in
theorem ggX12_border_X12_borderNow : GoodIn wsX12_border wsX12_borderNow := goodIn_s _ [(6, 5), (5, 1), (11, 49)] rfl (by decide +kernel)
set_option maxRecDepth 20000 in
theorem gX12_border_X12_borderNow : GoodIn wsX12_border (wsV RX12 316 RX12 yX12_borderNow wsX12_borderNow) := goodIn_app (goodIn_of _ (by decide +kernel)) ggX12_border_X12_borderNow
theorem dX12_border_0 : decode cX12_border 0 = .ok (.aload_n 0, 1) := by decide +kernel
theorem dX12_border_1 : decode cX12_border 1 = .ok (.iconst 0, 1) := by decide +kernel
theorem dX12_border_2 : decode cX12_border 2 = .ok (.putfield 90, 3) := by decide +kernel
theorem dX12_border_5 : decode cX12_border 5 = .ok (.aload_n 0, 1) := by decide +kernel
theorem dX12_border_6 : decode cX12_border 6 = .ok (.invokevirtual 316, 3) := by decide +kernel
theorem dX12_border_9 : decode cX12_border 9 = .ok (.ireturn, 1) := by decide +kernel
set_option maxRecDepth 20000 in
theorem ggX12_heaviestNow_X12_weightOf : GoodIn wsX12_heaviestNow wsX12_weightOf := goodIn_s _ [(6, 1), (1, 1), (7, 48)] rfl (by decide +kernel)
set_option maxRecDepth 20000 in
theorem gX12_heaviestNow_X12_weightOf : GoodIn wsX12_heaviestNow (wsV RX12 296 RX12 yX12_weightOf wsX12_weightOf) := goodIn_app (goodIn_of _ (by decide +kernel)) ggX12_heaviestNow_X12_weightOf
theorem dX12_heaviestNow_0 : decode cX12_heaviestNow 0 = .ok (.iconst 0, 1) := by decide +kernel
theorem dX12_heaviestNow_1 : decode cX12_heaviestNow 1 = .ok (.istore_n 1, 1) := by decide +kernel
theorem dX12_heaviestNow_2 : decode cX12_heaviestNow 2 = .ok (.iconst 1, 1) := by decide +kernel
theorem dX12_heaviestNow_3 : decode cX12_heaviestNow 3 = .ok (.istore_n 2, 1) := by decide +kernel
theorem dX12_heaviestNow_4 : decode cX12_heaviestNow 4 = .ok (.iload_n 2, 1) := by decide +kernel
theorem dX12_heaviestNow_5 : decode cX12_heaviestNow 5 = .ok (.aload_n 0, 1) := by decide +kernel
theorem dX12_heaviestNow_6 : decode cX12_heaviestNow 6 = .ok (.getfield 26, 3) := by decide +kernel
theorem dX12_heaviestNow_9 : decode cX12_heaviestNow 9 = .ok (.iconst 2, 1) := by decide +kernel
theorem dX12_heaviestNow_10 : decode cX12_heaviestNow 10 = .ok (.iaload, 1) := by decide +kernel
theorem dX12_heaviestNow_11 : decode cX12_heaviestNow 11 = .ok (.if_icmp .ge 24, 3) := by decide +kernel
theorem dX12_heaviestNow_14 : decode cX12_heaviestNow 14 = .ok (.aload_n 0, 1) := by decide +kernel
theorem dX12_heaviestNow_15 : decode cX12_heaviestNow 15 = .ok (.iload_n 2, 1) := by decide +kernel
theorem dX12_heaviestNow_16 : decode cX12_heaviestNow 16 = .ok (.invokevirtual 296, 3) := by decide +kernel
theorem dX12_heaviestNow_19 : decode cX12_heaviestNow 19 = .ok (.aload_n 0, 1) := by decide +kernel
theorem dX12_heaviestNow_20 : decode cX12_heaviestNow 20 = .ok (.iload_n 1, 1) := by decide +kernel
theorem dX12_heaviestNow_21 : decode cX12_heaviestNow 21 = .ok (.invokevirtual 296, 3) := by decide +kernel
theorem dX12_heaviestNow_24 : decode cX12_heaviestNow 24 = .ok (.if_icmp .le 5, 3) := by decide +kernel
theorem dX12_heaviestNow_27 : decode cX12_heaviestNow 27 = .ok (.iload_n 2, 1) := by decide +kernel
theorem dX12_heaviestNow_28 : decode cX12_heaviestNow 28 = .ok (.istore_n 1, 1) := by decide +kernel
theorem dX12_heaviestNow_29 : decode cX12_heaviestNow 29 = .ok (.iinc 2 1, 3) := by decide +kernel
theorem dX12_heaviestNow_32 : decode cX12_heaviestNow 32 = .ok (.goto (-28), 3) := by decide +kernel
theorem dX12_heaviestNow_35 : decode cX12_heaviestNow 35 = .ok (.iload_n 1, 1) := by decide +kernel
theorem dX12_heaviestNow_36 : decode cX12_heaviestNow 36 = .ok (.ireturn, 1) := by decide +kernel
set_option maxRecDepth 20000 in
theorem ggX12_heaviest_X12_heaviestNow : GoodIn wsX12_heaviest wsX12_heaviestNow := goodIn_s _ [(6, 5), (5, 1), (11, 49)] rfl (by decide +kernel)
set_option maxRecDepth 20000 in
theorem gX12_heaviest_X12_heaviestNow : GoodIn wsX12_heaviest (wsV RX12 319 RX12 yX12_heaviestNow wsX12_heaviestNow) := goodIn_app (goodIn_of _ (by decide +kernel)) ggX12_heaviest_X12_heaviestNow
theorem dX12_heaviest_0 : decode cX12_heaviest 0 = .ok (.aload_n 0, 1) := by decide +kernel
theorem dX12_heaviest_1 : decode cX12_heaviest 1 = .ok (.iconst 0, 1) := by decide +kernel
theorem dX12_heaviest_2 : decode cX12_heaviest 2 = .ok (.putfield 90, 3) := by decide +kernel
theorem dX12_heaviest_5 : decode cX12_heaviest 5 = .ok (.aload_n 0, 1) := by decide +kernel
theorem dX12_heaviest_6 : decode cX12_heaviest 6 = .ok (.invokevirtual 319, 3) := by decide +kernel
theorem dX12_heaviest_9 : decode cX12_heaviest 9 = .ok (.ireturn, 1) := by decide +kernel
set_option maxRecDepth 20000 in
theorem ggX12_cutShare_X12_allEdges : GoodIn wsX12_cutShare wsX12_allEdges := goodIn_s _ [(6, 2), (16, 48)] rfl (by decide +kernel)
set_option maxRecDepth 20000 in
theorem gX12_cutShare_X12_allEdges : GoodIn wsX12_cutShare (wsV RX12 259 RX12 yX12_allEdges wsX12_allEdges) := goodIn_app (goodIn_of _ (by decide +kernel)) ggX12_cutShare_X12_allEdges
set_option maxRecDepth 20000 in
theorem ggX12_cutShare_X12_cutNow : GoodIn wsX12_cutShare wsX12_cutNow := goodIn_s _ [(11, 1), (7, 1), (12, 3), (5, 1), (15, 49)] rfl (by decide +kernel)
set_option maxRecDepth 20000 in
theorem gX12_cutShare_X12_cutNow : GoodIn wsX12_cutShare (wsV RX12 173 RX12 yX12_cutNow wsX12_cutNow) := goodIn_app (goodIn_of _ (by decide +kernel)) ggX12_cutShare_X12_cutNow
theorem dX12_cutShare_0 : decode cX12_cutShare 0 = .ok (.aload_n 0, 1) := by decide +kernel
theorem dX12_cutShare_1 : decode cX12_cutShare 1 = .ok (.iconst 0, 1) := by decide +kernel
theorem dX12_cutShare_2 : decode cX12_cutShare 2 = .ok (.putfield 90, 3) := by decide +kernel
theorem dX12_cutShare_5 : decode cX12_cutShare 5 = .ok (.aload_n 0, 1) := by decide +kernel
theorem dX12_cutShare_6 : decode cX12_cutShare 6 = .ok (.invokevirtual 259, 3) := by decide +kernel
theorem dX12_cutShare_9 : decode cX12_cutShare 9 = .ok (.istore_n 1, 1) := by decide +kernel
theorem dX12_cutShare_10 : decode cX12_cutShare 10 = .ok (.iload_n 1, 1) := by decide +kernel
theorem dX12_cutShare_11 : decode cX12_cutShare 11 = .ok (.ifCond .ne 7, 3) := by decide +kernel
theorem dX12_cutShare_14 : decode cX12_cutShare 14 = .ok (.fconst 0, 1) := by decide +kernel
theorem dX12_cutShare_15 : decode cX12_cutShare 15 = .ok (.goto 11, 3) := by decide +kernel
theorem dX12_cutShare_18 : decode cX12_cutShare 18 = .ok (.aload_n 0, 1) := by decide +kernel
theorem dX12_cutShare_19 : decode cX12_cutShare 19 = .ok (.invokevirtual 173, 3) := by decide +kernel
theorem dX12_cutShare_22 : decode cX12_cutShare 22 = .ok (.i2f, 1) := by decide +kernel
theorem dX12_cutShare_23 : decode cX12_cutShare 23 = .ok (.iload_n 1, 1) := by decide +kernel
theorem dX12_cutShare_24 : decode cX12_cutShare 24 = .ok (.i2f, 1) := by decide +kernel
theorem dX12_cutShare_25 : decode cX12_cutShare 25 = .ok (.fdiv, 1) := by decide +kernel
theorem dX12_cutShare_26 : decode cX12_cutShare 26 = .ok (.freturn, 1) := by decide +kernel
set_option maxRecDepth 20000 in
theorem ggX12_imbalance_X12_allWeight : GoodIn wsX12_imbalance wsX12_allWeight := goodIn_s _ [(7, 1), (2, 1), (16, 48)] rfl (by decide +kernel)
set_option maxRecDepth 20000 in
theorem gX12_imbalance_X12_allWeight : GoodIn wsX12_imbalance (wsV RX12 242 RX12 yX12_allWeight wsX12_allWeight) := goodIn_app (goodIn_of _ (by decide +kernel)) ggX12_imbalance_X12_allWeight
set_option maxRecDepth 20000 in
theorem ggX12_imbalance_X12_heaviestNow : GoodIn wsX12_imbalance wsX12_heaviestNow := goodIn_s _ [(11, 1), (2, 1), (12, 3), (6, 1), (15, 49)] rfl (by decide +kernel)
set_option maxRecDepth 20000 in
theorem gX12_imbalance_X12_heaviestNow : GoodIn wsX12_imbalance (wsV RX12 319 RX12 yX12_heaviestNow wsX12_heaviestNow) := goodIn_app (goodIn_of _ (by decide +kernel)) ggX12_imbalance_X12_heaviestNow
set_option maxRecDepth 20000 in
theorem ggX12_imbalance_X12_weightOf : GoodIn wsX12_imbalance wsX12_weightOf := goodIn_s _ [(15, 1), (2, 1), (16, 48)] rfl (by decide +kernel)
set_option maxRecDepth 20000 in
theorem gX12_imbalance_X12_weightOf : GoodIn wsX12_imbalance (wsV RX12 296 RX12 yX12_weightOf wsX12_weightOf) := goodIn_app (goodIn_of _ (by decide +kernel)) ggX12_imbalance_X12_weightOf
theorem dX12_imbalance_0 : decode cX12_imbalance 0 = .ok (.aload_n 0, 1) := by decide +kernel
theorem dX12_imbalance_1 : decode cX12_imbalance 1 = .ok (.iconst 0, 1) := by decide +kernel
theorem dX12_imbalance_2 : decode cX12_imbalance 2 = .ok (.putfield 90, 3) := by decide +kernel
theorem dX12_imbalance_5 : decode cX12_imbalance 5 = .ok (.aload_n 0, 1) := by decide +kernel
theorem dX12_imbalance_6 : decode cX12_imbalance 6 = .ok (.invokevirtual 242, 3) := by decide +kernel
theorem dX12_imbalance_9 : decode cX12_imbalance 9 = .ok (.istore_n 1, 1) := by decide +kernel
theorem dX12_imbalance_10 : decode cX12_imbalance 10 = .ok (.iload_n 1, 1) := by decide +kernel
theorem dX12_imbalance_11 : decode cX12_imbalance 11 = .ok (.ifCond .ne 7, 3) := by decide +kernel
theorem dX12_imbalance_14 : decode cX12_imbalance 14 = .ok (.dconst 0, 1) := by decide +kernel
theorem dX12_imbalance_15 : decode cX12_imbalance 15 = .ok (.goto 22, 3) := by decide +kernel
theorem dX12_imbalance_18 : decode cX12_imbalance 18 = .ok (.aload_n 0, 1) := by decide +kernel
theorem dX12_imbalance_19 : decode cX12_imbalance 19 = .ok (.aload_n 0, 1) := by decide +kernel
theorem dX12_imbalance_20 : decode cX12_imbalance 20 = .ok (.invokevirtual 319, 3) := by decide +kernel
theorem dX12_imbalance_23 : decode cX12_imbalance 23 = .ok (.invokevirtual 296, 3) := by decide +kernel
theorem dX12_imbalance_26 : decode cX12_imbalance 26 = .ok (.aload_n 0, 1) := by decide +kernel
theorem dX12_imbalance_27 : decode cX12_imbalance 27 = .ok (.getfield 26, 3) := by decide +kernel
theorem dX12_imbalance_30 : decode cX12_imbalance 30 = .ok (.iconst 2, 1) := by decide +kernel
theorem dX12_imbalance_31 : decode cX12_imbalance 31 = .ok (.iaload, 1) := by decide +kernel
theorem dX12_imbalance_32 : decode cX12_imbalance 32 = .ok (.imul, 1) := by decide +kernel
theorem dX12_imbalance_33 : decode cX12_imbalance 33 = .ok (.i2d, 1) := by decide +kernel
theorem dX12_imbalance_34 : decode cX12_imbalance 34 = .ok (.iload_n 1, 1) := by decide +kernel
theorem dX12_imbalance_35 : decode cX12_imbalance 35 = .ok (.i2d, 1) := by decide +kernel
theorem dX12_imbalance_36 : decode cX12_imbalance 36 = .ok (.ddiv, 1) := by decide +kernel
theorem dX12_imbalance_37 : decode cX12_imbalance 37 = .ok (.dreturn, 1) := by decide +kernel
set_option maxRecDepth 20000 in
theorem ggX12_membersOf_X12_groupAt : GoodIn wsX12_membersOf wsX12_groupAt := goodIn_s _ [(6, 1), (1, 1), (10, 48)] rfl (by decide +kernel)
set_option maxRecDepth 20000 in
theorem gX12_membersOf_X12_groupAt : GoodIn wsX12_membersOf (wsV RX12 322 RX12 yX12_groupAt wsX12_groupAt) := goodIn_app (goodIn_of _ (by decide +kernel)) ggX12_membersOf_X12_groupAt
set_option maxRecDepth 20000 in
theorem ggX12_membersOf_X12_truth : GoodIn wsX12_membersOf wsX12_truth := goodIn_s _ [(9, 1)] rfl (by decide +kernel)
set_option maxRecDepth 20000 in
theorem gX12_membersOf_X12_truth : GoodIn wsX12_membersOf (va_wsS RX12 93 yX12_truth wsX12_truth) := goodIn_app (goodIn_of _ (by decide +kernel)) ggX12_membersOf_X12_truth
theorem dX12_membersOf_0 : decode cX12_membersOf 0 = .ok (.iconst 0, 1) := by decide +kernel
theorem dX12_membersOf_1 : decode cX12_membersOf 1 = .ok (.istore_n 2, 1) := by decide +kernel
theorem dX12_membersOf_2 : decode cX12_membersOf 2 = .ok (.iconst 0, 1) := by decide +kernel
theorem dX12_membersOf_3 : decode cX12_membersOf 3 = .ok (.istore_n 3, 1) := by decide +kernel
theorem dX12_membersOf_4 : decode cX12_membersOf 4 = .ok (.iload_n 3, 1) := by decide +kernel
theorem dX12_membersOf_5 : decode cX12_membersOf 5 = .ok (.aload_n 0, 1) := by decide +kernel
theorem dX12_membersOf_6 : decode cX12_membersOf 6 = .ok (.getfield 26, 3) := by decide +kernel
theorem dX12_membersOf_9 : decode cX12_membersOf 9 = .ok (.iconst 0, 1) := by decide +kernel
theorem dX12_membersOf_10 : decode cX12_membersOf 10 = .ok (.iaload, 1) := by decide +kernel
theorem dX12_membersOf_11 : decode cX12_membersOf 11 = .ok (.if_icmp .ge 31, 3) := by decide +kernel
theorem dX12_membersOf_14 : decode cX12_membersOf 14 = .ok (.iload_n 2, 1) := by decide +kernel
theorem dX12_membersOf_15 : decode cX12_membersOf 15 = .ok (.aload_n 0, 1) := by decide +kernel
theorem dX12_membersOf_16 : decode cX12_membersOf 16 = .ok (.iload_n 3, 1) := by decide +kernel
theorem dX12_membersOf_17 : decode cX12_membersOf 17 = .ok (.invokevirtual 322, 3) := by decide +kernel
theorem dX12_membersOf_20 : decode cX12_membersOf 20 = .ok (.iload_n 1, 1) := by decide +kernel
theorem dX12_membersOf_21 : decode cX12_membersOf 21 = .ok (.if_icmp .ne 7, 3) := by decide +kernel
theorem dX12_membersOf_24 : decode cX12_membersOf 24 = .ok (.iconst 1, 1) := by decide +kernel
theorem dX12_membersOf_25 : decode cX12_membersOf 25 = .ok (.goto 4, 3) := by decide +kernel
theorem dX12_membersOf_28 : decode cX12_membersOf 28 = .ok (.iconst 0, 1) := by decide +kernel
theorem dX12_membersOf_29 : decode cX12_membersOf 29 = .ok (.invokestatic 93, 3) := by decide +kernel
theorem dX12_membersOf_32 : decode cX12_membersOf 32 = .ok (.iload_n 3, 1) := by decide +kernel
theorem dX12_membersOf_33 : decode cX12_membersOf 33 = .ok (.ishl, 1) := by decide +kernel
theorem dX12_membersOf_34 : decode cX12_membersOf 34 = .ok (.ior, 1) := by decide +kernel
theorem dX12_membersOf_35 : decode cX12_membersOf 35 = .ok (.istore_n 2, 1) := by decide +kernel
theorem dX12_membersOf_36 : decode cX12_membersOf 36 = .ok (.iinc 3 1, 3) := by decide +kernel
theorem dX12_membersOf_39 : decode cX12_membersOf 39 = .ok (.goto (-35), 3) := by decide +kernel
theorem dX12_membersOf_42 : decode cX12_membersOf 42 = .ok (.iload_n 2, 1) := by decide +kernel
theorem dX12_membersOf_43 : decode cX12_membersOf 43 = .ok (.ireturn, 1) := by decide +kernel
set_option maxRecDepth 20000 in
theorem ggX12_groupWeight_X12_groupAt : GoodIn wsX12_groupWeight wsX12_groupAt := goodIn_s _ [(6, 1), (1, 1), (7, 48)] rfl (by decide +kernel)
set_option maxRecDepth 20000 in
theorem gX12_groupWeight_X12_groupAt : GoodIn wsX12_groupWeight (wsV RX12 322 RX12 yX12_groupAt wsX12_groupAt) := goodIn_app (goodIn_of _ (by decide +kernel)) ggX12_groupWeight_X12_groupAt
theorem dX12_groupWeight_0 : decode cX12_groupWeight 0 = .ok (.iconst 0, 1) := by decide +kernel
theorem dX12_groupWeight_1 : decode cX12_groupWeight 1 = .ok (.istore_n 2, 1) := by decide +kernel
theorem dX12_groupWeight_2 : decode cX12_groupWeight 2 = .ok (.iconst 0, 1) := by decide +kernel
theorem dX12_groupWeight_3 : decode cX12_groupWeight 3 = .ok (.istore_n 3, 1) := by decide +kernel
theorem dX12_groupWeight_4 : decode cX12_groupWeight 4 = .ok (.iload_n 3, 1) := by decide +kernel
theorem dX12_groupWeight_5 : decode cX12_groupWeight 5 = .ok (.aload_n 0, 1) := by decide +kernel
theorem dX12_groupWeight_6 : decode cX12_groupWeight 6 = .ok (.getfield 26, 3) := by decide +kernel
theorem dX12_groupWeight_9 : decode cX12_groupWeight 9 = .ok (.iconst 0, 1) := by decide +kernel
theorem dX12_groupWeight_10 : decode cX12_groupWeight 10 = .ok (.iaload, 1) := by decide +kernel
theorem dX12_groupWeight_11 : decode cX12_groupWeight 11 = .ok (.if_icmp .ge 34, 3) := by decide +kernel
theorem dX12_groupWeight_14 : decode cX12_groupWeight 14 = .ok (.iload_n 2, 1) := by decide +kernel
theorem dX12_groupWeight_15 : decode cX12_groupWeight 15 = .ok (.aload_n 0, 1) := by decide +kernel
theorem dX12_groupWeight_16 : decode cX12_groupWeight 16 = .ok (.iload_n 3, 1) := by decide +kernel
theorem dX12_groupWeight_17 : decode cX12_groupWeight 17 = .ok (.invokevirtual 322, 3) := by decide +kernel
theorem dX12_groupWeight_20 : decode cX12_groupWeight 20 = .ok (.iload_n 1, 1) := by decide +kernel
theorem dX12_groupWeight_21 : decode cX12_groupWeight 21 = .ok (.if_icmp .ne 15, 3) := by decide +kernel
theorem dX12_groupWeight_24 : decode cX12_groupWeight 24 = .ok (.aload_n 0, 1) := by decide +kernel
theorem dX12_groupWeight_25 : decode cX12_groupWeight 25 = .ok (.getfield 26, 3) := by decide +kernel
theorem dX12_groupWeight_28 : decode cX12_groupWeight 28 = .ok (.bipush 7, 2) := by decide +kernel
theorem dX12_groupWeight_30 : decode cX12_groupWeight 30 = .ok (.iload_n 3, 1) := by decide +kernel
theorem dX12_groupWeight_31 : decode cX12_groupWeight 31 = .ok (.iadd, 1) := by decide +kernel
theorem dX12_groupWeight_32 : decode cX12_groupWeight 32 = .ok (.iaload, 1) := by decide +kernel
theorem dX12_groupWeight_33 : decode cX12_groupWeight 33 = .ok (.goto 4, 3) := by decide +kernel
theorem dX12_groupWeight_36 : decode cX12_groupWeight 36 = .ok (.iconst 0, 1) := by decide +kernel
theorem dX12_groupWeight_37 : decode cX12_groupWeight 37 = .ok (.iadd, 1) := by decide +kernel
theorem dX12_groupWeight_38 : decode cX12_groupWeight 38 = .ok (.istore_n 2, 1) := by decide +kernel
theorem dX12_groupWeight_39 : decode cX12_groupWeight 39 = .ok (.iinc 3 1, 3) := by decide +kernel
theorem dX12_groupWeight_42 : decode cX12_groupWeight 42 = .ok (.goto (-38), 3) := by decide +kernel
theorem dX12_groupWeight_45 : decode cX12_groupWeight 45 = .ok (.iload_n 2, 1) := by decide +kernel
theorem dX12_groupWeight_46 : decode cX12_groupWeight 46 = .ok (.ireturn, 1) := by decide +kernel
set_option maxRecDepth 20000 in
theorem ggX12_groupPart_X12_groupAt : GoodIn wsX12_groupPart wsX12_groupAt := goodIn_s _ [(6, 1), (1, 1), (7, 48)] rfl (by decide +kernel)
set_option maxRecDepth 20000 in
theorem gX12_groupPart_X12_groupAt : GoodIn wsX12_groupPart (wsV RX12 322 RX12 yX12_groupAt wsX12_groupAt) := goodIn_app (goodIn_of _ (by decide +kernel)) ggX12_groupPart_X12_groupAt
theorem dX12_groupPart_0 : decode cX12_groupPart 0 = .ok (.iconst 0, 1) := by decide +kernel
theorem dX12_groupPart_1 : decode cX12_groupPart 1 = .ok (.istore_n 2, 1) := by decide +kernel
theorem dX12_groupPart_2 : decode cX12_groupPart 2 = .ok (.aload_n 0, 1) := by decide +kernel
theorem dX12_groupPart_3 : decode cX12_groupPart 3 = .ok (.iload_n 2, 1) := by decide +kernel
theorem dX12_groupPart_4 : decode cX12_groupPart 4 = .ok (.invokevirtual 322, 3) := by decide +kernel
theorem dX12_groupPart_7 : decode cX12_groupPart 7 = .ok (.iload_n 1, 1) := by decide +kernel
theorem dX12_groupPart_8 : decode cX12_groupPart 8 = .ok (.if_icmp .eq 9, 3) := by decide +kernel
theorem dX12_groupPart_11 : decode cX12_groupPart 11 = .ok (.iinc 2 1, 3) := by decide +kernel
theorem dX12_groupPart_14 : decode cX12_groupPart 14 = .ok (.goto (-12), 3) := by decide +kernel
theorem dX12_groupPart_17 : decode cX12_groupPart 17 = .ok (.aload_n 0, 1) := by decide +kernel
theorem dX12_groupPart_18 : decode cX12_groupPart 18 = .ok (.getfield 26, 3) := by decide +kernel
theorem dX12_groupPart_21 : decode cX12_groupPart 21 = .ok (.bipush 21, 2) := by decide +kernel
theorem dX12_groupPart_23 : decode cX12_groupPart 23 = .ok (.iload_n 2, 1) := by decide +kernel
theorem dX12_groupPart_24 : decode cX12_groupPart 24 = .ok (.iadd, 1) := by decide +kernel
theorem dX12_groupPart_25 : decode cX12_groupPart 25 = .ok (.iaload, 1) := by decide +kernel
theorem dX12_groupPart_26 : decode cX12_groupPart 26 = .ok (.ireturn, 1) := by decide +kernel
set_option maxRecDepth 20000 in
theorem ggX12_joined_X12_groupAt : GoodIn wsX12_joined wsX12_groupAt := goodIn_s _ [(6, 1), (1, 1), (7, 48)] rfl (by decide +kernel)
set_option maxRecDepth 20000 in
theorem gX12_joined_X12_groupAt : GoodIn wsX12_joined (wsV RX12 322 RX12 yX12_groupAt wsX12_groupAt) := goodIn_app (goodIn_of _ (by decide +kernel)) ggX12_joined_X12_groupAt
theorem dX12_joined_0 : decode cX12_joined 0 = .ok (.iconst 0, 1) := by decide +kernel
theorem dX12_joined_1 : decode cX12_joined 1 = .ok (.istore_n 3, 1) := by decide +kernel
theorem dX12_joined_2 : decode cX12_joined 2 = .ok (.iconst 0, 1) := by decide +kernel
theorem dX12_joined_3 : decode cX12_joined 3 = .ok (.istore 4, 2) := by decide +kernel
theorem dX12_joined_5 : decode cX12_joined 5 = .ok (.iload 4, 2) := by decide +kernel
theorem dX12_joined_7 : decode cX12_joined 7 = .ok (.aload_n 0, 1) := by decide +kernel
theorem dX12_joined_8 : decode cX12_joined 8 = .ok (.getfield 26, 3) := by decide +kernel
theorem dX12_joined_11 : decode cX12_joined 11 = .ok (.iconst 1, 1) := by decide +kernel
theorem dX12_joined_12 : decode cX12_joined 12 = .ok (.iaload, 1) := by decide +kernel
theorem dX12_joined_13 : decode cX12_joined 13 = .ok (.if_icmp .ge 84, 3) := by decide +kernel
theorem dX12_joined_16 : decode cX12_joined 16 = .ok (.aload_n 0, 1) := by decide +kernel
theorem dX12_joined_17 : decode cX12_joined 17 = .ok (.aload_n 0, 1) := by decide +kernel
theorem dX12_joined_18 : decode cX12_joined 18 = .ok (.getfield 26, 3) := by decide +kernel
theorem dX12_joined_21 : decode cX12_joined 21 = .ok (.bipush 110, 2) := by decide +kernel
theorem dX12_joined_23 : decode cX12_joined 23 = .ok (.iload 4, 2) := by decide +kernel
theorem dX12_joined_25 : decode cX12_joined 25 = .ok (.iadd, 1) := by decide +kernel
theorem dX12_joined_26 : decode cX12_joined 26 = .ok (.iaload, 1) := by decide +kernel
theorem dX12_joined_27 : decode cX12_joined 27 = .ok (.invokevirtual 322, 3) := by decide +kernel
theorem dX12_joined_30 : decode cX12_joined 30 = .ok (.istore 5, 2) := by decide +kernel
theorem dX12_joined_32 : decode cX12_joined 32 = .ok (.aload_n 0, 1) := by decide +kernel
theorem dX12_joined_33 : decode cX12_joined 33 = .ok (.aload_n 0, 1) := by decide +kernel
theorem dX12_joined_34 : decode cX12_joined 34 = .ok (.getfield 26, 3) := by decide +kernel
theorem dX12_joined_37 : decode cX12_joined 37 = .ok (.sipush 150, 3) := by decide +kernel
theorem dX12_joined_40 : decode cX12_joined 40 = .ok (.iload 4, 2) := by decide +kernel
theorem dX12_joined_42 : decode cX12_joined 42 = .ok (.iadd, 1) := by decide +kernel
theorem dX12_joined_43 : decode cX12_joined 43 = .ok (.iaload, 1) := by decide +kernel
theorem dX12_joined_44 : decode cX12_joined 44 = .ok (.invokevirtual 322, 3) := by decide +kernel
theorem dX12_joined_47 : decode cX12_joined 47 = .ok (.istore 6, 2) := by decide +kernel
theorem dX12_joined_49 : decode cX12_joined 49 = .ok (.iload_n 3, 1) := by decide +kernel
theorem dX12_joined_50 : decode cX12_joined 50 = .ok (.iload 5, 2) := by decide +kernel
theorem dX12_joined_52 : decode cX12_joined 52 = .ok (.iload_n 1, 1) := by decide +kernel
theorem dX12_joined_53 : decode cX12_joined 53 = .ok (.if_icmp .ne 9, 3) := by decide +kernel
theorem dX12_joined_56 : decode cX12_joined 56 = .ok (.iload 6, 2) := by decide +kernel
theorem dX12_joined_58 : decode cX12_joined 58 = .ok (.iload_n 2, 1) := by decide +kernel
theorem dX12_joined_59 : decode cX12_joined 59 = .ok (.if_icmp .eq 15, 3) := by decide +kernel
theorem dX12_joined_62 : decode cX12_joined 62 = .ok (.iload 5, 2) := by decide +kernel
theorem dX12_joined_64 : decode cX12_joined 64 = .ok (.iload_n 2, 1) := by decide +kernel
theorem dX12_joined_65 : decode cX12_joined 65 = .ok (.if_icmp .ne 23, 3) := by decide +kernel
theorem dX12_joined_68 : decode cX12_joined 68 = .ok (.iload 6, 2) := by decide +kernel
theorem dX12_joined_70 : decode cX12_joined 70 = .ok (.iload_n 1, 1) := by decide +kernel
theorem dX12_joined_71 : decode cX12_joined 71 = .ok (.if_icmp .ne 17, 3) := by decide +kernel
theorem dX12_joined_74 : decode cX12_joined 74 = .ok (.aload_n 0, 1) := by decide +kernel
theorem dX12_joined_75 : decode cX12_joined 75 = .ok (.getfield 26, 3) := by decide +kernel
theorem dX12_joined_78 : decode cX12_joined 78 = .ok (.sipush 190, 3) := by decide +kernel
theorem dX12_joined_81 : decode cX12_joined 81 = .ok (.iload 4, 2) := by decide +kernel
theorem dX12_joined_83 : decode cX12_joined 83 = .ok (.iadd, 1) := by decide +kernel
theorem dX12_joined_84 : decode cX12_joined 84 = .ok (.iaload, 1) := by decide +kernel
theorem dX12_joined_85 : decode cX12_joined 85 = .ok (.goto 4, 3) := by decide +kernel
theorem dX12_joined_88 : decode cX12_joined 88 = .ok (.iconst 0, 1) := by decide +kernel
theorem dX12_joined_89 : decode cX12_joined 89 = .ok (.iadd, 1) := by decide +kernel
theorem dX12_joined_90 : decode cX12_joined 90 = .ok (.istore_n 3, 1) := by decide +kernel
theorem dX12_joined_91 : decode cX12_joined 91 = .ok (.iinc 4 1, 3) := by decide +kernel
theorem dX12_joined_94 : decode cX12_joined 94 = .ok (.goto (-89), 3) := by decide +kernel
theorem dX12_joined_97 : decode cX12_joined 97 = .ok (.iload_n 3, 1) := by decide +kernel
theorem dX12_joined_98 : decode cX12_joined 98 = .ok (.ireturn, 1) := by decide +kernel
set_option maxRecDepth 20000 in
theorem ggX12_group_X12_isGroup : GoodIn wsX12_group wsX12_isGroup := goodIn_s _ [(6, 4), (5, 1), (10, 5), (46, 48)] rfl (by decide +kernel)
set_option maxRecDepth 20000 in
theorem gX12_group_X12_isGroup : GoodIn wsX12_group (wsV RX12 325 RX12 yX12_isGroup wsX12_isGroup) := goodIn_app (goodIn_of _ (by decide +kernel)) ggX12_group_X12_isGroup
set_option maxRecDepth 20000 in
theorem ggX12_group_X12_isIn : GoodIn wsX12_group wsX12_isIn := goodIn_s _ [(14, 1)] rfl (by decide +kernel)
set_option maxRecDepth 20000 in
theorem gX12_group_X12_isIn : GoodIn wsX12_group (va_wsS RX12 108 yX12_isIn wsX12_isIn) := goodIn_app (goodIn_of _ (by decide +kernel)) ggX12_group_X12_isIn
set_option maxRecDepth 20000 in
theorem ggX12_group_X12_goesBoth : GoodIn wsX12_group wsX12_goesBoth := goodIn_s _ [(18, 2), (46, 48)] rfl (by decide +kernel)
set_option maxRecDepth 20000 in
theorem gX12_group_X12_goesBoth : GoodIn wsX12_group (wsV RX12 273 RX12 yX12_goesBoth wsX12_goesBoth) := goodIn_app (goodIn_of _ (by decide +kernel)) ggX12_group_X12_goesBoth
set_option maxRecDepth 20000 in
theorem ggX12_group_X12_membersOf : GoodIn wsX12_group wsX12_membersOf := goodIn_s _ [(23, 1), (11, 1), (24, 3), (5, 1), (27, 4), (46, 48)] rfl (by decide +kernel)
set_option maxRecDepth 20000 in
theorem gX12_group_X12_membersOf : GoodIn wsX12_group (wsV RX12 328 RX12 yX12_membersOf wsX12_membersOf) := goodIn_app (goodIn_of _ (by decide +kernel)) ggX12_group_X12_membersOf
set_option maxRecDepth 20000 in
theorem ggX12_group_X12_groupWeight : GoodIn wsX12_group wsX12_groupWeight := goodIn_s _ [(34, 1), (11, 1), (24, 3), (5, 1), (27, 1), (46, 48)] rfl (by decide +kernel)
set_option maxRecDepth 20000 in
theorem gX12_group_X12_groupWeight : GoodIn wsX12_group (wsV RX12 331 RX12 yX12_groupWeight wsX12_groupWeight) := goodIn_app (goodIn_of _ (by decide +kernel)) ggX12_group_X12_groupWeight
set_option maxRecDepth 20000 in
theorem ggX12_group_X12_groupPart : GoodIn wsX12_group wsX12_groupPart := goodIn_s _ [(38, 1), (11, 1), (24, 3), (5, 1), (27, 1), (46, 48)] rfl (by decide +kernel)
set_option maxRecDepth 20000 in
theorem gX12_group_X12_groupPart : GoodIn wsX12_group (wsV RX12 334 RX12 yX12_groupPart wsX12_groupPart) := goodIn_app (goodIn_of _ (by decide +kernel)) ggX12_group_X12_groupPart
set_option maxRecDepth 20000 in
theorem ggX12_group_X12_outOf : GoodIn wsX12_group wsX12_outOf := goodIn_s _ [(42, 1), (11, 1), (43, 2), (5, 1), (45, 49)] rfl (by decide +kernel)
set_option maxRecDepth 20000 in
theorem gX12_group_X12_outOf : GoodIn wsX12_group (wsV RX12 289 RX12 yX12_outOf wsX12_outOf) := goodIn_app (goodIn_of _ (by decide +kernel)) ggX12_group_X12_outOf
theorem dX12_group_0 : decode cX12_group 0 = .ok (.aload_n 0, 1) := by decide +kernel
theorem dX12_group_1 : decode cX12_group 1 = .ok (.aload_n 0, 1) := by decide +kernel
theorem dX12_group_2 : decode cX12_group 2 = .ok (.iload_n 1, 1) := by decide +kernel
theorem dX12_group_3 : decode cX12_group 3 = .ok (.invokevirtual 325, 3) := by decide +kernel
theorem dX12_group_6 : decode cX12_group 6 = .ok (.iload_n 2, 1) := by decide +kernel
theorem dX12_group_7 : decode cX12_group 7 = .ok (.i2l, 1) := by decide +kernel
theorem dX12_group_8 : decode cX12_group 8 = .ok (.lconst 0, 1) := by decide +kernel
theorem dX12_group_9 : decode cX12_group 9 = .ok (.ldc2_w 271, 3) := by decide +kernel
theorem dX12_group_12 : decode cX12_group 12 = .ok (.invokestatic 108, 3) := by decide +kernel
theorem dX12_group_15 : decode cX12_group 15 = .ok (.invokevirtual 273, 3) := by decide +kernel
theorem dX12_group_18 : decode cX12_group 18 = .ok (.ifCond .ne 5, 3) := by decide +kernel
theorem dX12_group_21 : decode cX12_group 21 = .ok (.iconst 0, 1) := by decide +kernel
theorem dX12_group_22 : decode cX12_group 22 = .ok (.ireturn, 1) := by decide +kernel
theorem dX12_group_23 : decode cX12_group 23 = .ok (.iload_n 2, 1) := by decide +kernel
theorem dX12_group_24 : decode cX12_group 24 = .ok (.tableswitch 46 0 2 #[28, 34, 40], 28) := by decide +kernel
theorem dX12_group_52 : decode cX12_group 52 = .ok (.aload_n 0, 1) := by decide +kernel
theorem dX12_group_53 : decode cX12_group 53 = .ok (.iload_n 1, 1) := by decide +kernel
theorem dX12_group_54 : decode cX12_group 54 = .ok (.invokevirtual 328, 3) := by decide +kernel
theorem dX12_group_57 : decode cX12_group 57 = .ok (.ireturn, 1) := by decide +kernel
theorem dX12_group_58 : decode cX12_group 58 = .ok (.aload_n 0, 1) := by decide +kernel
theorem dX12_group_59 : decode cX12_group 59 = .ok (.iload_n 1, 1) := by decide +kernel
theorem dX12_group_60 : decode cX12_group 60 = .ok (.invokevirtual 331, 3) := by decide +kernel
theorem dX12_group_63 : decode cX12_group 63 = .ok (.ireturn, 1) := by decide +kernel
theorem dX12_group_64 : decode cX12_group 64 = .ok (.aload_n 0, 1) := by decide +kernel
theorem dX12_group_65 : decode cX12_group 65 = .ok (.iload_n 1, 1) := by decide +kernel
theorem dX12_group_66 : decode cX12_group 66 = .ok (.invokevirtual 334, 3) := by decide +kernel
theorem dX12_group_69 : decode cX12_group 69 = .ok (.ireturn, 1) := by decide +kernel
theorem dX12_group_70 : decode cX12_group 70 = .ok (.aload_n 0, 1) := by decide +kernel
theorem dX12_group_71 : decode cX12_group 71 = .ok (.aload_n 0, 1) := by decide +kernel
theorem dX12_group_72 : decode cX12_group 72 = .ok (.iload_n 1, 1) := by decide +kernel
theorem dX12_group_73 : decode cX12_group 73 = .ok (.invokevirtual 328, 3) := by decide +kernel
theorem dX12_group_76 : decode cX12_group 76 = .ok (.invokevirtual 289, 3) := by decide +kernel
theorem dX12_group_79 : decode cX12_group 79 = .ok (.ireturn, 1) := by decide +kernel
set_option maxRecDepth 20000 in
theorem ggX12_groupOf_X12_isVertex : GoodIn wsX12_groupOf wsX12_isVertex := goodIn_s _ [(5, 4), (4, 1), (9, 1), (22, 48)] rfl (by decide +kernel)
set_option maxRecDepth 20000 in
theorem gX12_groupOf_X12_isVertex : GoodIn wsX12_groupOf (wsV RX12 265 RX12 yX12_isVertex wsX12_isVertex) := goodIn_app (goodIn_of _ (by decide +kernel)) ggX12_groupOf_X12_isVertex
set_option maxRecDepth 20000 in
theorem ggX12_groupOf_X12_goes : GoodIn wsX12_groupOf wsX12_goes := goodIn_s _ [(13, 4), (4, 1), (17, 1), (22, 48)] rfl (by decide +kernel)
set_option maxRecDepth 20000 in
theorem gX12_groupOf_X12_goes : GoodIn wsX12_groupOf (wsV RX12 100 RX12 yX12_goes wsX12_goes) := goodIn_app (goodIn_of _ (by decide +kernel)) ggX12_groupOf_X12_goes
set_option maxRecDepth 20000 in
theorem ggX12_groupOf_X12_groupAt : GoodIn wsX12_groupOf wsX12_groupAt := goodIn_s _ [(21, 1), (6, 1), (22, 48)] rfl (by decide +kernel)
set_option maxRecDepth 20000 in
theorem gX12_groupOf_X12_groupAt : GoodIn wsX12_groupOf (wsV RX12 322 RX12 yX12_groupAt wsX12_groupAt) := goodIn_app (goodIn_of _ (by decide +kernel)) ggX12_groupOf_X12_groupAt
theorem dX12_groupOf_0 : decode cX12_groupOf 0 = .ok (.aload_n 0, 1) := by decide +kernel
theorem dX12_groupOf_1 : decode cX12_groupOf 1 = .ok (.aload_n 0, 1) := by decide +kernel
theorem dX12_groupOf_2 : decode cX12_groupOf 2 = .ok (.iload_n 1, 1) := by decide +kernel
theorem dX12_groupOf_3 : decode cX12_groupOf 3 = .ok (.invokevirtual 265, 3) := by decide +kernel
theorem dX12_groupOf_6 : decode cX12_groupOf 6 = .ok (.invokevirtual 100, 3) := by decide +kernel
theorem dX12_groupOf_9 : decode cX12_groupOf 9 = .ok (.ifCond .eq 11, 3) := by decide +kernel
theorem dX12_groupOf_12 : decode cX12_groupOf 12 = .ok (.aload_n 0, 1) := by decide +kernel
theorem dX12_groupOf_13 : decode cX12_groupOf 13 = .ok (.iload_n 1, 1) := by decide +kernel
theorem dX12_groupOf_14 : decode cX12_groupOf 14 = .ok (.invokevirtual 322, 3) := by decide +kernel
theorem dX12_groupOf_17 : decode cX12_groupOf 17 = .ok (.goto 4, 3) := by decide +kernel
theorem dX12_groupOf_20 : decode cX12_groupOf 20 = .ok (.iconst 0, 1) := by decide +kernel
theorem dX12_groupOf_21 : decode cX12_groupOf 21 = .ok (.ireturn, 1) := by decide +kernel
set_option maxRecDepth 20000 in
theorem ggX12_mateBehind_X12_groups : GoodIn wsX12_mateBehind wsX12_groups := goodIn_s _ [(6, 2), (32, 48)] rfl (by decide +kernel)
set_option maxRecDepth 20000 in
theorem gX12_mateBehind_X12_groups : GoodIn wsX12_mateBehind (wsV RX12 177 RX12 yX12_groups wsX12_groups) := goodIn_app (goodIn_of _ (by decide +kernel)) ggX12_mateBehind_X12_groups
set_option maxRecDepth 20000 in
theorem ggX12_mateBehind_X12_joined : GoodIn wsX12_mateBehind wsX12_joined := goodIn_s _ [(11, 1), (7, 1), (12, 3), (5, 1), (15, 1), (32, 48)] rfl (by decide +kernel)
set_option maxRecDepth 20000 in
theorem gX12_mateBehind_X12_joined : GoodIn wsX12_mateBehind (wsV RX12 337 RX12 yX12_joined wsX12_joined) := goodIn_app (goodIn_of _ (by decide +kernel)) ggX12_mateBehind_X12_joined
set_option maxRecDepth 20000 in
theorem ggX12_mateBehind_X12_groupPart : GoodIn wsX12_mateBehind wsX12_groupPart := goodIn_s _ [(19, 1), (7, 1), (12, 3), (5, 1), (15, 1), (32, 48)] rfl (by decide +kernel)
set_option maxRecDepth 20000 in
theorem gX12_mateBehind_X12_groupPart : GoodIn wsX12_mateBehind (wsV RX12 334 RX12 yX12_groupPart wsX12_groupPart) := goodIn_app (goodIn_of _ (by decide +kernel)) ggX12_mateBehind_X12_groupPart
set_option maxRecDepth 20000 in
theorem ggX12_mateBehind_X12_groupWeight : GoodIn wsX12_mateBehind wsX12_groupWeight := goodIn_s _ [(23, 1), (7, 1), (12, 3), (5, 1), (15, 1), (32, 48)] rfl (by decide +kernel)
set_option maxRecDepth 20000 in
theorem gX12_mateBehind_X12_groupWeight : GoodIn wsX12_mateBehind (wsV RX12 331 RX12 yX12_groupWeight wsX12_groupWeight) := goodIn_app (goodIn_of _ (by decide +kernel)) ggX12_mateBehind_X12_groupWeight
set_option maxRecDepth 20000 in
theorem ggX12_mateBehind_X12_limit : GoodIn wsX12_mateBehind wsX12_limit := goodIn_s _ [(27, 1), (7, 1), (28, 3), (5, 1), (31, 49)] rfl (by decide +kernel)
set_option maxRecDepth 20000 in
theorem gX12_mateBehind_X12_limit : GoodIn wsX12_mateBehind (wsV RX12 256 RX12 yX12_limit wsX12_limit) := goodIn_app (goodIn_of _ (by decide +kernel)) ggX12_mateBehind_X12_limit
theorem dX12_mateBehind_0 : decode cX12_mateBehind 0 = .ok (.iconst (-1), 1) := by decide +kernel
theorem dX12_mateBehind_1 : decode cX12_mateBehind 1 = .ok (.istore_n 2, 1) := by decide +kernel
theorem dX12_mateBehind_2 : decode cX12_mateBehind 2 = .ok (.iconst 0, 1) := by decide +kernel
theorem dX12_mateBehind_3 : decode cX12_mateBehind 3 = .ok (.istore_n 3, 1) := by decide +kernel
theorem dX12_mateBehind_4 : decode cX12_mateBehind 4 = .ok (.iload_n 1, 1) := by decide +kernel
theorem dX12_mateBehind_5 : decode cX12_mateBehind 5 = .ok (.iconst 1, 1) := by decide +kernel
theorem dX12_mateBehind_6 : decode cX12_mateBehind 6 = .ok (.iadd, 1) := by decide +kernel
theorem dX12_mateBehind_7 : decode cX12_mateBehind 7 = .ok (.istore 4, 2) := by decide +kernel
theorem dX12_mateBehind_9 : decode cX12_mateBehind 9 = .ok (.iload 4, 2) := by decide +kernel
theorem dX12_mateBehind_11 : decode cX12_mateBehind 11 = .ok (.aload_n 0, 1) := by decide +kernel
theorem dX12_mateBehind_12 : decode cX12_mateBehind 12 = .ok (.invokevirtual 177, 3) := by decide +kernel
theorem dX12_mateBehind_15 : decode cX12_mateBehind 15 = .ok (.if_icmp .ge 77, 3) := by decide +kernel
theorem dX12_mateBehind_18 : decode cX12_mateBehind 18 = .ok (.aload_n 0, 1) := by decide +kernel
theorem dX12_mateBehind_19 : decode cX12_mateBehind 19 = .ok (.iload_n 1, 1) := by decide +kernel
theorem dX12_mateBehind_20 : decode cX12_mateBehind 20 = .ok (.iload 4, 2) := by decide +kernel
theorem dX12_mateBehind_22 : decode cX12_mateBehind 22 = .ok (.invokevirtual 337, 3) := by decide +kernel
theorem dX12_mateBehind_25 : decode cX12_mateBehind 25 = .ok (.istore 5, 2) := by decide +kernel
theorem dX12_mateBehind_27 : decode cX12_mateBehind 27 = .ok (.aload_n 0, 1) := by decide +kernel
theorem dX12_mateBehind_28 : decode cX12_mateBehind 28 = .ok (.getfield 51, 3) := by decide +kernel
theorem dX12_mateBehind_31 : decode cX12_mateBehind 31 = .ok (.iload 4, 2) := by decide +kernel
theorem dX12_mateBehind_33 : decode cX12_mateBehind 33 = .ok (.iaload, 1) := by decide +kernel
theorem dX12_mateBehind_34 : decode cX12_mateBehind 34 = .ok (.iconst (-1), 1) := by decide +kernel
theorem dX12_mateBehind_35 : decode cX12_mateBehind 35 = .ok (.if_icmp .ne 51, 3) := by decide +kernel
theorem dX12_mateBehind_38 : decode cX12_mateBehind 38 = .ok (.iload 5, 2) := by decide +kernel
theorem dX12_mateBehind_40 : decode cX12_mateBehind 40 = .ok (.iload_n 3, 1) := by decide +kernel
theorem dX12_mateBehind_41 : decode cX12_mateBehind 41 = .ok (.if_icmp .le 45, 3) := by decide +kernel
