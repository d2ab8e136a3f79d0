theorem dX9_init_0 : decode cX9_init 0 = .ok (.aload_n 0, 1) := by decide +kernel
theorem dX9_init_1 : decode cX9_init 1 = .ok (.invokespecial 3, 3) := by decide +kernel
theorem dX9_init_4 : decode cX9_init 4 = .ok (.return_, 1) := by decide +kernel
set_option maxRecDepth 20000 in
theorem ggX9_read_X2_clear : GoodIn wsX9_read wsX2_clear := goodIn_s _ [(7, 8), (204, 12)] rfl (by decide +kernel)
set_option maxRecDepth 20000 in
theorem gX9_read_X2_clear : GoodIn wsX9_read (wsV RX9 9 RX2 yX2_clear wsX2_clear) := goodIn_app (goodIn_of _ (by decide +kernel)) ggX9_read_X2_clear
set_option maxRecDepth 20000 in
theorem ggX9_read_X10_advance : GoodIn wsX9_read wsX10_advance := goodIn_s _ [(19, 11), (18, 1), (30, 23), (192, 12)] rfl (by decide +kernel)
set_option maxRecDepth 20000 in
theorem gX9_read_X10_advance : GoodIn wsX9_read (wsV RX9 20 RX10 yX10_advance wsX10_advance) := goodIn_app (goodIn_of _ (by decide +kernel)) ggX9_read_X10_advance
set_option maxRecDepth 20000 in
theorem ggX9_read_X9_readStatement : GoodIn wsX9_read wsX9_readStatement := goodIn_s _ [(57, 4), (18, 1), (61, 1), (24, 1), (38, 1), (62, 49), (39, 3), (111, 3), (56, 1), (114, 9), (23, 1), (123, 8), (16, 2), (19, 4), (25, 13), (42, 11), (131, 4), (6, 1), (135, 1), (8, 1), (136, 14), (13, 1), (150, 11), (9, 1), (161, 11), (14, 1), (172, 9), (1, 1), (181, 10), (192, 12), (216, 4), (204, 12), (191, 1)] rfl (by decide +kernel)
set_option maxRecDepth 20000 in
theorem gX9_read_X9_readStatement : GoodIn wsX9_read (wsV RX9 28 RX9 yX9_readStatement wsX9_readStatement) := goodIn_app (goodIn_of _ (by decide +kernel)) ggX9_read_X9_readStatement
set_option maxRecDepth 20000 in
theorem ggX9_read_X10_takes : GoodIn wsX9_read wsX10_takes := goodIn_s _ [(129, 1), (24, 1), (130, 1), (16, 8), (25, 28), (131, 1), (119, 7), (192, 12)] rfl (by decide +kernel)
set_option maxRecDepth 20000 in
theorem gX9_read_X10_takes : GoodIn wsX9_read (wsV RX9 32 RX10 yX10_takes wsX10_takes) := goodIn_app (goodIn_of _ (by decide +kernel)) ggX9_read_X10_takes
theorem dX9_read_0 : decode cX9_read 0 = .ok (.aload_n 2, 1) := by decide +kernel
theorem dX9_read_1 : decode cX9_read 1 = .ok (.invokevirtual 9, 3) := by decide +kernel
theorem dX9_read_4 : decode cX9_read 4 = .ok (.aload_n 0, 1) := by decide +kernel
theorem dX9_read_5 : decode cX9_read 5 = .ok (.iconst 0, 1) := by decide +kernel
theorem dX9_read_6 : decode cX9_read 6 = .ok (.putfield 14, 3) := by decide +kernel
theorem dX9_read_9 : decode cX9_read 9 = .ok (.iconst 0, 1) := by decide +kernel
theorem dX9_read_10 : decode cX9_read 10 = .ok (.istore_n 3, 1) := by decide +kernel
theorem dX9_read_11 : decode cX9_read 11 = .ok (.iload_n 3, 1) := by decide +kernel
theorem dX9_read_12 : decode cX9_read 12 = .ok (.sipush 800, 3) := by decide +kernel
theorem dX9_read_15 : decode cX9_read 15 = .ok (.if_icmp .gt 41, 3) := by decide +kernel
theorem dX9_read_18 : decode cX9_read 18 = .ok (.aload_n 1, 1) := by decide +kernel
theorem dX9_read_19 : decode cX9_read 19 = .ok (.invokevirtual 20, 3) := by decide +kernel
theorem dX9_read_22 : decode cX9_read 22 = .ok (.aload_n 1, 1) := by decide +kernel
theorem dX9_read_23 : decode cX9_read 23 = .ok (.getfield 25, 3) := by decide +kernel
theorem dX9_read_26 : decode cX9_read 26 = .ok (.ifCond .ne 5, 3) := by decide +kernel
theorem dX9_read_29 : decode cX9_read 29 = .ok (.iconst 1, 1) := by decide +kernel
theorem dX9_read_30 : decode cX9_read 30 = .ok (.ireturn, 1) := by decide +kernel
theorem dX9_read_31 : decode cX9_read 31 = .ok (.aload_n 0, 1) := by decide +kernel
theorem dX9_read_32 : decode cX9_read 32 = .ok (.aload_n 1, 1) := by decide +kernel
theorem dX9_read_33 : decode cX9_read 33 = .ok (.aload_n 2, 1) := by decide +kernel
theorem dX9_read_34 : decode cX9_read 34 = .ok (.invokevirtual 28, 3) := by decide +kernel
theorem dX9_read_37 : decode cX9_read 37 = .ok (.ifCond .eq 11, 3) := by decide +kernel
theorem dX9_read_40 : decode cX9_read 40 = .ok (.aload_n 1, 1) := by decide +kernel
theorem dX9_read_41 : decode cX9_read 41 = .ok (.iconst 3, 1) := by decide +kernel
theorem dX9_read_42 : decode cX9_read 42 = .ok (.invokevirtual 32, 3) := by decide +kernel
theorem dX9_read_45 : decode cX9_read 45 = .ok (.ifCond .ne 5, 3) := by decide +kernel
theorem dX9_read_48 : decode cX9_read 48 = .ok (.iconst 0, 1) := by decide +kernel
theorem dX9_read_49 : decode cX9_read 49 = .ok (.ireturn, 1) := by decide +kernel
theorem dX9_read_50 : decode cX9_read 50 = .ok (.iinc 3 1, 3) := by decide +kernel
theorem dX9_read_53 : decode cX9_read 53 = .ok (.goto (-42), 3) := by decide +kernel
theorem dX9_read_56 : decode cX9_read 56 = .ok (.iconst 0, 1) := by decide +kernel
theorem dX9_read_57 : decode cX9_read 57 = .ok (.ireturn, 1) := by decide +kernel
set_option maxRecDepth 20000 in
theorem ggX9_readStatement_X10_isWord : GoodIn wsX9_readStatement wsX10_isWord := goodIn_s _ [(5, 54), (4, 1), (59, 1), (178, 16)] rfl (by decide +kernel)
set_option maxRecDepth 20000 in
theorem gX9_readStatement_X10_isWord : GoodIn wsX9_readStatement (wsV RX9 38 RX10 yX10_isWord wsX10_isWord) := goodIn_app (goodIn_of _ (by decide +kernel)) ggX9_readStatement_X10_isWord
set_option maxRecDepth 20000 in
theorem ggX9_readStatement_X9_readVertex : GoodIn wsX9_readStatement wsX9_readVertex := goodIn_s _ [(64, 7), (4, 1), (71, 10), (6, 1), (81, 20), (7, 1), (57, 3), (101, 35), (194, 12), (178, 12)] rfl (by decide +kernel)
set_option maxRecDepth 20000 in
theorem gX9_readStatement_X9_readVertex : GoodIn wsX9_readStatement (wsV RX9 42 RX9 yX9_readVertex wsX9_readVertex) := goodIn_app (goodIn_of _ (by decide +kernel)) ggX9_readStatement_X9_readVertex
set_option maxRecDepth 20000 in
theorem ggX9_readStatement_X9_readEdge : GoodIn wsX9_readStatement wsX9_readEdge := goodIn_s _ [(139, 2), (66, 5), (4, 1), (71, 10), (6, 1), (81, 20), (7, 1), (57, 3), (101, 23), (141, 11), (124, 4), (152, 6), (134, 2), (194, 12), (178, 12)] rfl (by decide +kernel)
set_option maxRecDepth 20000 in
theorem gX9_readStatement_X9_readEdge : GoodIn wsX9_readStatement (wsV RX9 47 RX9 yX9_readEdge wsX9_readEdge) := goodIn_app (goodIn_of _ (by decide +kernel)) ggX9_readStatement_X9_readEdge
set_option maxRecDepth 20000 in
theorem ggX9_readStatement_X9_readParts : GoodIn wsX9_readStatement wsX9_readParts := goodIn_s _ [(161, 1), (67, 1), (162, 4), (63, 1), (166, 2), (68, 3), (4, 1), (71, 6), (124, 4), (6, 1), (108, 1), (81, 20), (7, 1), (57, 3), (101, 7), (109, 4), (178, 12), (194, 13)] rfl (by decide +kernel)
set_option maxRecDepth 20000 in
theorem gX9_readStatement_X9_readParts : GoodIn wsX9_readStatement (wsV RX9 52 RX9 yX9_readParts wsX9_readParts) := goodIn_app (goodIn_of _ (by decide +kernel)) ggX9_readStatement_X9_readParts
set_option maxRecDepth 20000 in
theorem ggX9_readStatement_X9_readSlack : GoodIn wsX9_readStatement wsX9_readSlack := goodIn_s _ [(171, 1), (67, 1), (172, 1), (163, 3), (63, 1), (166, 2), (68, 3), (4, 1), (71, 6), (124, 4), (6, 1), (108, 1), (81, 20), (7, 1), (57, 3), (101, 7), (109, 4), (178, 12), (194, 13)] rfl (by decide +kernel)
set_option maxRecDepth 20000 in
theorem gX9_readStatement_X9_readSlack : GoodIn wsX9_readStatement (wsV RX9 57 RX9 yX9_readSlack wsX9_readSlack) := goodIn_app (goodIn_of _ (by decide +kernel)) ggX9_readStatement_X9_readSlack
set_option maxRecDepth 20000 in
theorem ggX9_readStatement_X9_readCredit : GoodIn wsX9_readStatement wsX9_readCredit := goodIn_s _ [(176, 1), (67, 1), (177, 1), (163, 3), (63, 1), (166, 2), (68, 3), (4, 1), (71, 6), (124, 4), (6, 1), (108, 1), (81, 20), (7, 1), (57, 3), (101, 7), (109, 4), (178, 12), (194, 13)] rfl (by decide +kernel)
set_option maxRecDepth 20000 in
theorem gX9_readStatement_X9_readCredit : GoodIn wsX9_readStatement (wsV RX9 62 RX9 yX9_readCredit wsX9_readCredit) := goodIn_app (goodIn_of _ (by decide +kernel)) ggX9_readStatement_X9_readCredit
set_option maxRecDepth 20000 in
theorem ggX9_readStatement_X10_fail : GoodIn wsX9_readStatement wsX10_fail := goodIn_s _ [(71, 6), (178, 12)] rfl (by decide +kernel)
set_option maxRecDepth 20000 in
theorem gX9_readStatement_X10_fail : GoodIn wsX9_readStatement (wsV RX9 65 RX10 yX10_fail wsX10_fail) := goodIn_app (goodIn_of _ (by decide +kernel)) ggX9_readStatement_X10_fail
theorem dX9_readStatement_0 : decode cX9_readStatement 0 = .ok (.aload_n 1, 1) := by decide +kernel
theorem dX9_readStatement_1 : decode cX9_readStatement 1 = .ok (.ldc 36, 2) := by decide +kernel
theorem dX9_readStatement_3 : decode cX9_readStatement 3 = .ok (.invokevirtual 38, 3) := by decide +kernel
theorem dX9_readStatement_6 : decode cX9_readStatement 6 = .ok (.ifCond .eq 10, 3) := by decide +kernel
theorem dX9_readStatement_9 : decode cX9_readStatement 9 = .ok (.aload_n 0, 1) := by decide +kernel
theorem dX9_readStatement_10 : decode cX9_readStatement 10 = .ok (.aload_n 1, 1) := by decide +kernel
theorem dX9_readStatement_11 : decode cX9_readStatement 11 = .ok (.aload_n 2, 1) := by decide +kernel
theorem dX9_readStatement_12 : decode cX9_readStatement 12 = .ok (.invokevirtual 42, 3) := by decide +kernel
theorem dX9_readStatement_15 : decode cX9_readStatement 15 = .ok (.ireturn, 1) := by decide +kernel
theorem dX9_readStatement_16 : decode cX9_readStatement 16 = .ok (.aload_n 1, 1) := by decide +kernel
theorem dX9_readStatement_17 : decode cX9_readStatement 17 = .ok (.ldc 45, 2) := by decide +kernel
theorem dX9_readStatement_19 : decode cX9_readStatement 19 = .ok (.invokevirtual 38, 3) := by decide +kernel
theorem dX9_readStatement_22 : decode cX9_readStatement 22 = .ok (.ifCond .eq 10, 3) := by decide +kernel
theorem dX9_readStatement_25 : decode cX9_readStatement 25 = .ok (.aload_n 0, 1) := by decide +kernel
theorem dX9_readStatement_26 : decode cX9_readStatement 26 = .ok (.aload_n 1, 1) := by decide +kernel
theorem dX9_readStatement_27 : decode cX9_readStatement 27 = .ok (.aload_n 2, 1) := by decide +kernel
theorem dX9_readStatement_28 : decode cX9_readStatement 28 = .ok (.invokevirtual 47, 3) := by decide +kernel
theorem dX9_readStatement_31 : decode cX9_readStatement 31 = .ok (.ireturn, 1) := by decide +kernel
theorem dX9_readStatement_32 : decode cX9_readStatement 32 = .ok (.aload_n 1, 1) := by decide +kernel
theorem dX9_readStatement_33 : decode cX9_readStatement 33 = .ok (.ldc 50, 2) := by decide +kernel
theorem dX9_readStatement_35 : decode cX9_readStatement 35 = .ok (.invokevirtual 38, 3) := by decide +kernel
theorem dX9_readStatement_38 : decode cX9_readStatement 38 = .ok (.ifCond .eq 10, 3) := by decide +kernel
theorem dX9_readStatement_41 : decode cX9_readStatement 41 = .ok (.aload_n 0, 1) := by decide +kernel
theorem dX9_readStatement_42 : decode cX9_readStatement 42 = .ok (.aload_n 1, 1) := by decide +kernel
theorem dX9_readStatement_43 : decode cX9_readStatement 43 = .ok (.aload_n 2, 1) := by decide +kernel
theorem dX9_readStatement_44 : decode cX9_readStatement 44 = .ok (.invokevirtual 52, 3) := by decide +kernel
theorem dX9_readStatement_47 : decode cX9_readStatement 47 = .ok (.ireturn, 1) := by decide +kernel
theorem dX9_readStatement_48 : decode cX9_readStatement 48 = .ok (.aload_n 1, 1) := by decide +kernel
theorem dX9_readStatement_49 : decode cX9_readStatement 49 = .ok (.ldc 55, 2) := by decide +kernel
theorem dX9_readStatement_51 : decode cX9_readStatement 51 = .ok (.invokevirtual 38, 3) := by decide +kernel
theorem dX9_readStatement_54 : decode cX9_readStatement 54 = .ok (.ifCond .eq 10, 3) := by decide +kernel
theorem dX9_readStatement_57 : decode cX9_readStatement 57 = .ok (.aload_n 0, 1) := by decide +kernel
theorem dX9_readStatement_58 : decode cX9_readStatement 58 = .ok (.aload_n 1, 1) := by decide +kernel
theorem dX9_readStatement_59 : decode cX9_readStatement 59 = .ok (.aload_n 2, 1) := by decide +kernel
theorem dX9_readStatement_60 : decode cX9_readStatement 60 = .ok (.invokevirtual 57, 3) := by decide +kernel
theorem dX9_readStatement_63 : decode cX9_readStatement 63 = .ok (.ireturn, 1) := by decide +kernel
theorem dX9_readStatement_64 : decode cX9_readStatement 64 = .ok (.aload_n 1, 1) := by decide +kernel
theorem dX9_readStatement_65 : decode cX9_readStatement 65 = .ok (.ldc 60, 2) := by decide +kernel
theorem dX9_readStatement_67 : decode cX9_readStatement 67 = .ok (.invokevirtual 38, 3) := by decide +kernel
theorem dX9_readStatement_70 : decode cX9_readStatement 70 = .ok (.ifCond .eq 10, 3) := by decide +kernel
theorem dX9_readStatement_73 : decode cX9_readStatement 73 = .ok (.aload_n 0, 1) := by decide +kernel
theorem dX9_readStatement_74 : decode cX9_readStatement 74 = .ok (.aload_n 1, 1) := by decide +kernel
theorem dX9_readStatement_75 : decode cX9_readStatement 75 = .ok (.aload_n 2, 1) := by decide +kernel
theorem dX9_readStatement_76 : decode cX9_readStatement 76 = .ok (.invokevirtual 62, 3) := by decide +kernel
theorem dX9_readStatement_79 : decode cX9_readStatement 79 = .ok (.ireturn, 1) := by decide +kernel
theorem dX9_readStatement_80 : decode cX9_readStatement 80 = .ok (.aload_n 1, 1) := by decide +kernel
theorem dX9_readStatement_81 : decode cX9_readStatement 81 = .ok (.iconst 1, 1) := by decide +kernel
theorem dX9_readStatement_82 : decode cX9_readStatement 82 = .ok (.invokevirtual 65, 3) := by decide +kernel
theorem dX9_readStatement_85 : decode cX9_readStatement 85 = .ok (.ireturn, 1) := by decide +kernel
set_option maxRecDepth 20000 in
theorem ggX9_readVertex_X10_fail : GoodIn wsX9_readVertex wsX10_fail := goodIn_s _ [(8, 6), (90, 12)] rfl (by decide +kernel)
set_option maxRecDepth 20000 in
theorem gX9_readVertex_X10_fail : GoodIn wsX9_readVertex (wsV RX9 65 RX10 yX10_fail wsX10_fail) := goodIn_app (goodIn_of _ (by decide +kernel)) ggX9_readVertex_X10_fail
set_option maxRecDepth 20000 in
theorem ggX9_readVertex_X10_takes : GoodIn wsX9_readVertex wsX10_takes := goodIn_s _ [(17, 5), (7, 1), (22, 4), (10, 1), (26, 29), (5, 2), (8, 2), (11, 3), (90, 12)] rfl (by decide +kernel)
set_option maxRecDepth 20000 in
theorem gX9_readVertex_X10_takes : GoodIn wsX9_readVertex (wsV RX9 32 RX10 yX10_takes wsX10_takes) := goodIn_app (goodIn_of _ (by decide +kernel)) ggX9_readVertex_X10_takes
set_option maxRecDepth 20000 in
theorem ggX9_readVertex_X2_vertexNamed : GoodIn wsX9_readVertex wsX2_vertexNamed := goodIn_s _ [(59, 5), (58, 1), (64, 2), (78, 12)] rfl (by decide +kernel)
set_option maxRecDepth 20000 in
theorem gX9_readVertex_X2_vertexNamed : GoodIn wsX9_readVertex (wsV RX9 75 RX2 yX2_vertexNamed wsX2_vertexNamed) := goodIn_app (goodIn_of _ (by decide +kernel)) ggX9_readVertex_X2_vertexNamed
set_option maxRecDepth 20000 in
theorem ggX9_readVertex_X10_takesNumber : GoodIn wsX9_readVertex wsX10_takesNumber := goodIn_s _ [(69, 1), (18, 1), (50, 1), (19, 3), (7, 1), (22, 4), (10, 1), (26, 24), (51, 4), (5, 2), (8, 2), (11, 3), (90, 12)] rfl (by decide +kernel)
set_option maxRecDepth 20000 in
theorem gX9_readVertex_X10_takesNumber : GoodIn wsX9_readVertex (wsV RX9 79 RX10 yX10_takesNumber wsX10_takesNumber) := goodIn_app (goodIn_of _ (by decide +kernel)) ggX9_readVertex_X10_takesNumber
set_option maxRecDepth 20000 in
theorem ggX9_readVertex_X2_addVertex : GoodIn wsX9_readVertex wsX2_addVertex := goodIn_s _ [(73, 1), (60, 1), (65, 1), (74, 3), (27, 1), (77, 13)] rfl (by decide +kernel)
set_option maxRecDepth 20000 in
theorem gX9_readVertex_X2_addVertex : GoodIn wsX9_readVertex (wsV RX9 86 RX2 yX2_addVertex wsX2_addVertex) := goodIn_app (goodIn_of _ (by decide +kernel)) ggX9_readVertex_X2_addVertex
theorem dX9_readVertex_0 : decode cX9_readVertex 0 = .ok (.aload_n 2, 1) := by decide +kernel
theorem dX9_readVertex_1 : decode cX9_readVertex 1 = .ok (.getfield 68, 3) := by decide +kernel
theorem dX9_readVertex_4 : decode cX9_readVertex 4 = .ok (.bipush 14, 2) := by decide +kernel
theorem dX9_readVertex_6 : decode cX9_readVertex 6 = .ok (.if_icmp .lt 10, 3) := by decide +kernel
theorem dX9_readVertex_9 : decode cX9_readVertex 9 = .ok (.aload_n 1, 1) := by decide +kernel
theorem dX9_readVertex_10 : decode cX9_readVertex 10 = .ok (.bipush 6, 2) := by decide +kernel
theorem dX9_readVertex_12 : decode cX9_readVertex 12 = .ok (.invokevirtual 65, 3) := by decide +kernel
theorem dX9_readVertex_15 : decode cX9_readVertex 15 = .ok (.ireturn, 1) := by decide +kernel
theorem dX9_readVertex_16 : decode cX9_readVertex 16 = .ok (.aload_n 1, 1) := by decide +kernel
theorem dX9_readVertex_17 : decode cX9_readVertex 17 = .ok (.iconst 1, 1) := by decide +kernel
theorem dX9_readVertex_18 : decode cX9_readVertex 18 = .ok (.invokevirtual 32, 3) := by decide +kernel
theorem dX9_readVertex_21 : decode cX9_readVertex 21 = .ok (.ifCond .ne 5, 3) := by decide +kernel
theorem dX9_readVertex_24 : decode cX9_readVertex 24 = .ok (.iconst 0, 1) := by decide +kernel
theorem dX9_readVertex_25 : decode cX9_readVertex 25 = .ok (.ireturn, 1) := by decide +kernel
theorem dX9_readVertex_26 : decode cX9_readVertex 26 = .ok (.aload_n 1, 1) := by decide +kernel
theorem dX9_readVertex_27 : decode cX9_readVertex 27 = .ok (.getfield 71, 3) := by decide +kernel
theorem dX9_readVertex_30 : decode cX9_readVertex 30 = .ok (.lstore_n 3, 1) := by decide +kernel
theorem dX9_readVertex_31 : decode cX9_readVertex 31 = .ok (.aload_n 2, 1) := by decide +kernel
theorem dX9_readVertex_32 : decode cX9_readVertex 32 = .ok (.lload_n 3, 1) := by decide +kernel
theorem dX9_readVertex_33 : decode cX9_readVertex 33 = .ok (.invokevirtual 75, 3) := by decide +kernel
theorem dX9_readVertex_36 : decode cX9_readVertex 36 = .ok (.iconst (-1), 1) := by decide +kernel
theorem dX9_readVertex_37 : decode cX9_readVertex 37 = .ok (.if_icmp .eq 9, 3) := by decide +kernel
theorem dX9_readVertex_40 : decode cX9_readVertex 40 = .ok (.aload_n 1, 1) := by decide +kernel
theorem dX9_readVertex_41 : decode cX9_readVertex 41 = .ok (.iconst 3, 1) := by decide +kernel
theorem dX9_readVertex_42 : decode cX9_readVertex 42 = .ok (.invokevirtual 65, 3) := by decide +kernel
theorem dX9_readVertex_45 : decode cX9_readVertex 45 = .ok (.ireturn, 1) := by decide +kernel
theorem dX9_readVertex_46 : decode cX9_readVertex 46 = .ok (.aload_n 1, 1) := by decide +kernel
theorem dX9_readVertex_47 : decode cX9_readVertex 47 = .ok (.iconst 1, 1) := by decide +kernel
theorem dX9_readVertex_48 : decode cX9_readVertex 48 = .ok (.bipush 99, 2) := by decide +kernel
theorem dX9_readVertex_50 : decode cX9_readVertex 50 = .ok (.invokevirtual 79, 3) := by decide +kernel
theorem dX9_readVertex_53 : decode cX9_readVertex 53 = .ok (.ifCond .ne 5, 3) := by decide +kernel
theorem dX9_readVertex_56 : decode cX9_readVertex 56 = .ok (.iconst 0, 1) := by decide +kernel
theorem dX9_readVertex_57 : decode cX9_readVertex 57 = .ok (.ireturn, 1) := by decide +kernel
theorem dX9_readVertex_58 : decode cX9_readVertex 58 = .ok (.aload_n 2, 1) := by decide +kernel
theorem dX9_readVertex_59 : decode cX9_readVertex 59 = .ok (.lload_n 3, 1) := by decide +kernel
theorem dX9_readVertex_60 : decode cX9_readVertex 60 = .ok (.aload_n 1, 1) := by decide +kernel
theorem dX9_readVertex_61 : decode cX9_readVertex 61 = .ok (.getfield 83, 3) := by decide +kernel
theorem dX9_readVertex_64 : decode cX9_readVertex 64 = .ok (.invokevirtual 86, 3) := by decide +kernel
theorem dX9_readVertex_67 : decode cX9_readVertex 67 = .ok (.iconst 1, 1) := by decide +kernel
theorem dX9_readVertex_68 : decode cX9_readVertex 68 = .ok (.ireturn, 1) := by decide +kernel
set_option maxRecDepth 20000 in
theorem ggX9_readEdge_X10_fail : GoodIn wsX9_readEdge wsX10_fail := goodIn_s _ [(8, 6), (101, 12)] rfl (by decide +kernel)
set_option maxRecDepth 20000 in
theorem gX9_readEdge_X10_fail : GoodIn wsX9_readEdge (wsV RX9 65 RX10 yX10_fail wsX10_fail) := goodIn_app (goodIn_of _ (by decide +kernel)) ggX9_readEdge_X10_fail
set_option maxRecDepth 20000 in
theorem ggX9_readEdge_X10_takes : GoodIn wsX9_readEdge wsX10_takes := goodIn_s _ [(17, 5), (7, 1), (22, 4), (10, 1), (26, 29), (5, 2), (8, 2), (11, 3), (101, 12)] rfl (by decide +kernel)
set_option maxRecDepth 20000 in
theorem gX9_readEdge_X10_takes : GoodIn wsX9_readEdge (wsV RX9 32 RX10 yX10_takes wsX10_takes) := goodIn_app (goodIn_of _ (by decide +kernel)) ggX9_readEdge_X10_takes
set_option maxRecDepth 20000 in
theorem ggX9_readEdge_X2_vertexNamed : GoodIn wsX9_readEdge wsX2_vertexNamed := goodIn_s _ [(59, 5), (58, 1), (64, 2), (89, 12)] rfl (by decide +kernel)
set_option maxRecDepth 20000 in
theorem gX9_readEdge_X2_vertexNamed : GoodIn wsX9_readEdge (wsV RX9 75 RX2 yX2_vertexNamed wsX2_vertexNamed) := goodIn_app (goodIn_of _ (by decide +kernel)) ggX9_readEdge_X2_vertexNamed
set_option maxRecDepth 20000 in
theorem ggX9_readEdge_X2_edgeOf : GoodIn wsX9_readEdge wsX2_edgeOf := goodIn_s _ [(69, 5), (58, 1), (74, 3), (26, 3), (89, 12)] rfl (by decide +kernel)
set_option maxRecDepth 20000 in
theorem gX9_readEdge_X2_edgeOf : GoodIn wsX9_readEdge (wsV RX9 93 RX2 yX2_edgeOf wsX2_edgeOf) := goodIn_app (goodIn_of _ (by decide +kernel)) ggX9_readEdge_X2_edgeOf
set_option maxRecDepth 20000 in
theorem ggX9_readEdge_X10_takesNumber : GoodIn wsX9_readEdge wsX10_takesNumber := goodIn_s _ [(80, 1), (18, 1), (50, 1), (19, 3), (7, 1), (22, 4), (10, 1), (26, 24), (51, 4), (5, 2), (8, 2), (11, 3), (101, 12)] rfl (by decide +kernel)
set_option maxRecDepth 20000 in
theorem gX9_readEdge_X10_takesNumber : GoodIn wsX9_readEdge (wsV RX9 79 RX10 yX10_takesNumber wsX10_takesNumber) := goodIn_app (goodIn_of _ (by decide +kernel)) ggX9_readEdge_X10_takesNumber
set_option maxRecDepth 20000 in
theorem ggX9_readEdge_X2_addEdge : GoodIn wsX9_readEdge wsX2_addEdge := goodIn_s _ [(84, 1), (75, 1), (70, 1), (76, 1), (85, 3), (27, 1), (88, 13)] rfl (by decide +kernel)
set_option maxRecDepth 20000 in
theorem gX9_readEdge_X2_addEdge : GoodIn wsX9_readEdge (wsV RX9 97 RX2 yX2_addEdge wsX2_addEdge) := goodIn_app (goodIn_of _ (by decide +kernel)) ggX9_readEdge_X2_addEdge
theorem dX9_readEdge_0 : decode cX9_readEdge 0 = .ok (.aload_n 2, 1) := by decide +kernel
theorem dX9_readEdge_1 : decode cX9_readEdge 1 = .ok (.getfield 90, 3) := by decide +kernel
theorem dX9_readEdge_4 : decode cX9_readEdge 4 = .ok (.bipush 40, 2) := by decide +kernel
theorem dX9_readEdge_6 : decode cX9_readEdge 6 = .ok (.if_icmp .lt 10, 3) := by decide +kernel
theorem dX9_readEdge_9 : decode cX9_readEdge 9 = .ok (.aload_n 1, 1) := by decide +kernel
theorem dX9_readEdge_10 : decode cX9_readEdge 10 = .ok (.bipush 6, 2) := by decide +kernel
theorem dX9_readEdge_12 : decode cX9_readEdge 12 = .ok (.invokevirtual 65, 3) := by decide +kernel
theorem dX9_readEdge_15 : decode cX9_readEdge 15 = .ok (.ireturn, 1) := by decide +kernel
theorem dX9_readEdge_16 : decode cX9_readEdge 16 = .ok (.aload_n 1, 1) := by decide +kernel
theorem dX9_readEdge_17 : decode cX9_readEdge 17 = .ok (.iconst 1, 1) := by decide +kernel
theorem dX9_readEdge_18 : decode cX9_readEdge 18 = .ok (.invokevirtual 32, 3) := by decide +kernel
theorem dX9_readEdge_21 : decode cX9_readEdge 21 = .ok (.ifCond .ne 5, 3) := by decide +kernel
theorem dX9_readEdge_24 : decode cX9_readEdge 24 = .ok (.iconst 0, 1) := by decide +kernel
theorem dX9_readEdge_25 : decode cX9_readEdge 25 = .ok (.ireturn, 1) := by decide +kernel
theorem dX9_readEdge_26 : decode cX9_readEdge 26 = .ok (.aload_n 2, 1) := by decide +kernel
theorem dX9_readEdge_27 : decode cX9_readEdge 27 = .ok (.aload_n 1, 1) := by decide +kernel
theorem dX9_readEdge_28 : decode cX9_readEdge 28 = .ok (.getfield 71, 3) := by decide +kernel
theorem dX9_readEdge_31 : decode cX9_readEdge 31 = .ok (.invokevirtual 75, 3) := by decide +kernel
theorem dX9_readEdge_34 : decode cX9_readEdge 34 = .ok (.istore_n 3, 1) := by decide +kernel
theorem dX9_readEdge_35 : decode cX9_readEdge 35 = .ok (.iload_n 3, 1) := by decide +kernel
theorem dX9_readEdge_36 : decode cX9_readEdge 36 = .ok (.iconst (-1), 1) := by decide +kernel
theorem dX9_readEdge_37 : decode cX9_readEdge 37 = .ok (.if_icmp .ne 9, 3) := by decide +kernel
theorem dX9_readEdge_40 : decode cX9_readEdge 40 = .ok (.aload_n 1, 1) := by decide +kernel
theorem dX9_readEdge_41 : decode cX9_readEdge 41 = .ok (.iconst 3, 1) := by decide +kernel
theorem dX9_readEdge_42 : decode cX9_readEdge 42 = .ok (.invokevirtual 65, 3) := by decide +kernel
theorem dX9_readEdge_45 : decode cX9_readEdge 45 = .ok (.ireturn, 1) := by decide +kernel
theorem dX9_readEdge_46 : decode cX9_readEdge 46 = .ok (.aload_n 1, 1) := by decide +kernel
theorem dX9_readEdge_47 : decode cX9_readEdge 47 = .ok (.iconst 1, 1) := by decide +kernel
theorem dX9_readEdge_48 : decode cX9_readEdge 48 = .ok (.invokevirtual 32, 3) := by decide +kernel
theorem dX9_readEdge_51 : decode cX9_readEdge 51 = .ok (.ifCond .ne 5, 3) := by decide +kernel
theorem dX9_readEdge_54 : decode cX9_readEdge 54 = .ok (.iconst 0, 1) := by decide +kernel
theorem dX9_readEdge_55 : decode cX9_readEdge 55 = .ok (.ireturn, 1) := by decide +kernel
theorem dX9_readEdge_56 : decode cX9_readEdge 56 = .ok (.aload_n 2, 1) := by decide +kernel
theorem dX9_readEdge_57 : decode cX9_readEdge 57 = .ok (.aload_n 1, 1) := by decide +kernel
theorem dX9_readEdge_58 : decode cX9_readEdge 58 = .ok (.getfield 71, 3) := by decide +kernel
theorem dX9_readEdge_61 : decode cX9_readEdge 61 = .ok (.invokevirtual 75, 3) := by decide +kernel
theorem dX9_readEdge_64 : decode cX9_readEdge 64 = .ok (.istore 4, 2) := by decide +kernel
theorem dX9_readEdge_66 : decode cX9_readEdge 66 = .ok (.iload 4, 2) := by decide +kernel
theorem dX9_readEdge_68 : decode cX9_readEdge 68 = .ok (.iconst (-1), 1) := by decide +kernel
theorem dX9_readEdge_69 : decode cX9_readEdge 69 = .ok (.if_icmp .eq 9, 3) := by decide +kernel
theorem dX9_readEdge_72 : decode cX9_readEdge 72 = .ok (.iload 4, 2) := by decide +kernel
theorem dX9_readEdge_74 : decode cX9_readEdge 74 = .ok (.iload_n 3, 1) := by decide +kernel
theorem dX9_readEdge_75 : decode cX9_readEdge 75 = .ok (.if_icmp .ne 9, 3) := by decide +kernel
theorem dX9_readEdge_78 : decode cX9_readEdge 78 = .ok (.aload_n 1, 1) := by decide +kernel
theorem dX9_readEdge_79 : decode cX9_readEdge 79 = .ok (.iconst 3, 1) := by decide +kernel
theorem dX9_readEdge_80 : decode cX9_readEdge 80 = .ok (.invokevirtual 65, 3) := by decide +kernel
theorem dX9_readEdge_83 : decode cX9_readEdge 83 = .ok (.ireturn, 1) := by decide +kernel
theorem dX9_readEdge_84 : decode cX9_readEdge 84 = .ok (.aload_n 2, 1) := by decide +kernel
theorem dX9_readEdge_85 : decode cX9_readEdge 85 = .ok (.iload_n 3, 1) := by decide +kernel
theorem dX9_readEdge_86 : decode cX9_readEdge 86 = .ok (.iload 4, 2) := by decide +kernel
theorem dX9_readEdge_88 : decode cX9_readEdge 88 = .ok (.invokevirtual 93, 3) := by decide +kernel
theorem dX9_readEdge_91 : decode cX9_readEdge 91 = .ok (.iconst (-1), 1) := by decide +kernel
theorem dX9_readEdge_92 : decode cX9_readEdge 92 = .ok (.if_icmp .eq 9, 3) := by decide +kernel
theorem dX9_readEdge_95 : decode cX9_readEdge 95 = .ok (.aload_n 1, 1) := by decide +kernel
theorem dX9_readEdge_96 : decode cX9_readEdge 96 = .ok (.iconst 4, 1) := by decide +kernel
theorem dX9_readEdge_97 : decode cX9_readEdge 97 = .ok (.invokevirtual 65, 3) := by decide +kernel
theorem dX9_readEdge_100 : decode cX9_readEdge 100 = .ok (.ireturn, 1) := by decide +kernel
theorem dX9_readEdge_101 : decode cX9_readEdge 101 = .ok (.aload_n 1, 1) := by decide +kernel
theorem dX9_readEdge_102 : decode cX9_readEdge 102 = .ok (.iconst 1, 1) := by decide +kernel
theorem dX9_readEdge_103 : decode cX9_readEdge 103 = .ok (.bipush 99, 2) := by decide +kernel
theorem dX9_readEdge_105 : decode cX9_readEdge 105 = .ok (.invokevirtual 79, 3) := by decide +kernel
theorem dX9_readEdge_108 : decode cX9_readEdge 108 = .ok (.ifCond .ne 5, 3) := by decide +kernel
theorem dX9_readEdge_111 : decode cX9_readEdge 111 = .ok (.iconst 0, 1) := by decide +kernel
theorem dX9_readEdge_112 : decode cX9_readEdge 112 = .ok (.ireturn, 1) := by decide +kernel
theorem dX9_readEdge_113 : decode cX9_readEdge 113 = .ok (.aload_n 2, 1) := by decide +kernel
theorem dX9_readEdge_114 : decode cX9_readEdge 114 = .ok (.iload_n 3, 1) := by decide +kernel
theorem dX9_readEdge_115 : decode cX9_readEdge 115 = .ok (.iload 4, 2) := by decide +kernel
theorem dX9_readEdge_117 : decode cX9_readEdge 117 = .ok (.aload_n 1, 1) := by decide +kernel
theorem dX9_readEdge_118 : decode cX9_readEdge 118 = .ok (.getfield 83, 3) := by decide +kernel
theorem dX9_readEdge_121 : decode cX9_readEdge 121 = .ok (.invokevirtual 97, 3) := by decide +kernel
theorem dX9_readEdge_124 : decode cX9_readEdge 124 = .ok (.iconst 1, 1) := by decide +kernel
theorem dX9_readEdge_125 : decode cX9_readEdge 125 = .ok (.ireturn, 1) := by decide +kernel
set_option maxRecDepth 20000 in
theorem ggX9_readParts_X9_takesOnce : GoodIn wsX9_readParts wsX9_takesOnce := goodIn_s _ [(7, 12), (84, 1), (60, 12)] rfl (by decide +kernel)
set_option maxRecDepth 20000 in
theorem gX9_readParts_X9_takesOnce : GoodIn wsX9_readParts (wsV RX9 101 RX9 yX9_takesOnce wsX9_takesOnce) := goodIn_app (goodIn_of _ (by decide +kernel)) ggX9_readParts_X9_takesOnce
set_option maxRecDepth 20000 in
theorem ggX9_readParts_X10_takesNumber : GoodIn wsX9_readParts wsX10_takesNumber := goodIn_s _ [(22, 6), (12, 1), (28, 4), (15, 1), (32, 28), (10, 2), (13, 2), (16, 3), (60, 12)] rfl (by decide +kernel)
set_option maxRecDepth 20000 in
theorem gX9_readParts_X10_takesNumber : GoodIn wsX9_readParts (wsV RX9 79 RX10 yX10_takesNumber wsX10_takesNumber) := goodIn_app (goodIn_of _ (by decide +kernel)) ggX9_readParts_X10_takesNumber
theorem dX9_readParts_0 : decode cX9_readParts 0 = .ok (.aload_n 0, 1) := by decide +kernel
theorem dX9_readParts_1 : decode cX9_readParts 1 = .ok (.aload_n 1, 1) := by decide +kernel
theorem dX9_readParts_2 : decode cX9_readParts 2 = .ok (.iconst 1, 1) := by decide +kernel
theorem dX9_readParts_3 : decode cX9_readParts 3 = .ok (.invokevirtual 101, 3) := by decide +kernel
theorem dX9_readParts_6 : decode cX9_readParts 6 = .ok (.ifCond .eq 12, 3) := by decide +kernel
theorem dX9_readParts_9 : decode cX9_readParts 9 = .ok (.aload_n 1, 1) := by decide +kernel
theorem dX9_readParts_10 : decode cX9_readParts 10 = .ok (.iconst 2, 1) := by decide +kernel
theorem dX9_readParts_11 : decode cX9_readParts 11 = .ok (.iconst 4, 1) := by decide +kernel
theorem dX9_readParts_12 : decode cX9_readParts 12 = .ok (.invokevirtual 79, 3) := by decide +kernel
theorem dX9_readParts_15 : decode cX9_readParts 15 = .ok (.ifCond .ne 5, 3) := by decide +kernel
theorem dX9_readParts_18 : decode cX9_readParts 18 = .ok (.iconst 0, 1) := by decide +kernel
theorem dX9_readParts_19 : decode cX9_readParts 19 = .ok (.ireturn, 1) := by decide +kernel
theorem dX9_readParts_20 : decode cX9_readParts 20 = .ok (.aload_n 2, 1) := by decide +kernel
theorem dX9_readParts_21 : decode cX9_readParts 21 = .ok (.aload_n 1, 1) := by decide +kernel
theorem dX9_readParts_22 : decode cX9_readParts 22 = .ok (.getfield 83, 3) := by decide +kernel
theorem dX9_readParts_25 : decode cX9_readParts 25 = .ok (.putfield 105, 3) := by decide +kernel
theorem dX9_readParts_28 : decode cX9_readParts 28 = .ok (.iconst 1, 1) := by decide +kernel
theorem dX9_readParts_29 : decode cX9_readParts 29 = .ok (.ireturn, 1) := by decide +kernel
set_option maxRecDepth 20000 in
theorem ggX9_readSlack_X9_takesOnce : GoodIn wsX9_readSlack wsX9_takesOnce := goodIn_s _ [(7, 12), (84, 1), (60, 12)] rfl (by decide +kernel)
set_option maxRecDepth 20000 in
theorem gX9_readSlack_X9_takesOnce : GoodIn wsX9_readSlack (wsV RX9 101 RX9 yX9_takesOnce wsX9_takesOnce) := goodIn_app (goodIn_of _ (by decide +kernel)) ggX9_readSlack_X9_takesOnce
set_option maxRecDepth 20000 in
theorem ggX9_readSlack_X10_takesNumber : GoodIn wsX9_readSlack wsX10_takesNumber := goodIn_s _ [(22, 6), (12, 1), (28, 4), (15, 1), (32, 28), (10, 2), (13, 2), (16, 3), (60, 12)] rfl (by decide +kernel)
set_option maxRecDepth 20000 in
theorem gX9_readSlack_X10_takesNumber : GoodIn wsX9_readSlack (wsV RX9 79 RX10 yX10_takesNumber wsX10_takesNumber) := goodIn_app (goodIn_of _ (by decide +kernel)) ggX9_readSlack_X10_takesNumber
theorem dX9_readSlack_0 : decode cX9_readSlack 0 = .ok (.aload_n 0, 1) := by decide +kernel
theorem dX9_readSlack_1 : decode cX9_readSlack 1 = .ok (.aload_n 1, 1) := by decide +kernel
theorem dX9_readSlack_2 : decode cX9_readSlack 2 = .ok (.iconst 2, 1) := by decide +kernel
theorem dX9_readSlack_3 : decode cX9_readSlack 3 = .ok (.invokevirtual 101, 3) := by decide +kernel
theorem dX9_readSlack_6 : decode cX9_readSlack 6 = .ok (.ifCond .eq 13, 3) := by decide +kernel
theorem dX9_readSlack_9 : decode cX9_readSlack 9 = .ok (.aload_n 1, 1) := by decide +kernel
theorem dX9_readSlack_10 : decode cX9_readSlack 10 = .ok (.iconst 0, 1) := by decide +kernel
theorem dX9_readSlack_11 : decode cX9_readSlack 11 = .ok (.bipush 99, 2) := by decide +kernel
theorem dX9_readSlack_13 : decode cX9_readSlack 13 = .ok (.invokevirtual 79, 3) := by decide +kernel
theorem dX9_readSlack_16 : decode cX9_readSlack 16 = .ok (.ifCond .ne 5, 3) := by decide +kernel
theorem dX9_readSlack_19 : decode cX9_readSlack 19 = .ok (.iconst 0, 1) := by decide +kernel
theorem dX9_readSlack_20 : decode cX9_readSlack 20 = .ok (.ireturn, 1) := by decide +kernel
theorem dX9_readSlack_21 : decode cX9_readSlack 21 = .ok (.aload_n 2, 1) := by decide +kernel
theorem dX9_readSlack_22 : decode cX9_readSlack 22 = .ok (.aload_n 1, 1) := by decide +kernel
theorem dX9_readSlack_23 : decode cX9_readSlack 23 = .ok (.getfield 83, 3) := by decide +kernel
theorem dX9_readSlack_26 : decode cX9_readSlack 26 = .ok (.putfield 107, 3) := by decide +kernel
theorem dX9_readSlack_29 : decode cX9_readSlack 29 = .ok (.iconst 1, 1) := by decide +kernel
theorem dX9_readSlack_30 : decode cX9_readSlack 30 = .ok (.ireturn, 1) := by decide +kernel
set_option maxRecDepth 20000 in
theorem ggX9_readCredit_X9_takesOnce : GoodIn wsX9_readCredit wsX9_takesOnce := goodIn_s _ [(7, 12), (84, 1), (60, 12)] rfl (by decide +kernel)
set_option maxRecDepth 20000 in
theorem gX9_readCredit_X9_takesOnce : GoodIn wsX9_readCredit (wsV RX9 101 RX9 yX9_takesOnce wsX9_takesOnce) := goodIn_app (goodIn_of _ (by decide +kernel)) ggX9_readCredit_X9_takesOnce
set_option maxRecDepth 20000 in
theorem ggX9_readCredit_X10_takesNumber : GoodIn wsX9_readCredit wsX10_takesNumber := goodIn_s _ [(22, 6), (12, 1), (28, 4), (15, 1), (32, 28), (10, 2), (13, 2), (16, 3), (60, 12)] rfl (by decide +kernel)
set_option maxRecDepth 20000 in
theorem gX9_readCredit_X10_takesNumber : GoodIn wsX9_readCredit (wsV RX9 79 RX10 yX10_takesNumber wsX10_takesNumber) := goodIn_app (goodIn_of _ (by decide +kernel)) ggX9_readCredit_X10_takesNumber
theorem dX9_readCredit_0 : decode cX9_readCredit 0 = .ok (.aload_n 0, 1) := by decide +kernel
theorem dX9_readCredit_1 : decode cX9_readCredit 1 = .ok (.aload_n 1, 1) := by decide +kernel
theorem dX9_readCredit_2 : decode cX9_readCredit 2 = .ok (.iconst 4, 1) := by decide +kernel
theorem dX9_readCredit_3 : decode cX9_readCredit 3 = .ok (.invokevirtual 101, 3) := by decide +kernel
theorem dX9_readCredit_6 : decode cX9_readCredit 6 = .ok (.ifCond .eq 13, 3) := by decide +kernel
theorem dX9_readCredit_9 : decode cX9_readCredit 9 = .ok (.aload_n 1, 1) := by decide +kernel
theorem dX9_readCredit_10 : decode cX9_readCredit 10 = .ok (.iconst 0, 1) := by decide +kernel
theorem dX9_readCredit_11 : decode cX9_readCredit 11 = .ok (.bipush 99, 2) := by decide +kernel
theorem dX9_readCredit_13 : decode cX9_readCredit 13 = .ok (.invokevirtual 79, 3) := by decide +kernel
theorem dX9_readCredit_16 : decode cX9_readCredit 16 = .ok (.ifCond .ne 5, 3) := by decide +kernel
theorem dX9_readCredit_19 : decode cX9_readCredit 19 = .ok (.iconst 0, 1) := by decide +kernel
theorem dX9_readCredit_20 : decode cX9_readCredit 20 = .ok (.ireturn, 1) := by decide +kernel
theorem dX9_readCredit_21 : decode cX9_readCredit 21 = .ok (.aload_n 2, 1) := by decide +kernel
theorem dX9_readCredit_22 : decode cX9_readCredit 22 = .ok (.aload_n 1, 1) := by decide +kernel
theorem dX9_readCredit_23 : decode cX9_readCredit 23 = .ok (.getfield 83, 3) := by decide +kernel
theorem dX9_readCredit_26 : decode cX9_readCredit 26 = .ok (.putfield 109, 3) := by decide +kernel
theorem dX9_readCredit_29 : decode cX9_readCredit 29 = .ok (.iconst 1, 1) := by decide +kernel
theorem dX9_readCredit_30 : decode cX9_readCredit 30 = .ok (.ireturn, 1) := by decide +kernel
set_option maxRecDepth 20000 in
theorem ggX9_takesOnce_X10_fail : GoodIn wsX9_takesOnce wsX10_fail := goodIn_s _ [(6, 6), (13, 12)] rfl (by decide +kernel)
set_option maxRecDepth 20000 in
theorem gX9_takesOnce_X10_fail : GoodIn wsX9_takesOnce (wsV RX9 65 RX10 yX10_fail wsX10_fail) := goodIn_app (goodIn_of _ (by decide +kernel)) ggX9_takesOnce_X10_fail
theorem dX9_takesOnce_0 : decode cX9_takesOnce 0 = .ok (.aload_n 0, 1) := by decide +kernel
theorem dX9_takesOnce_1 : decode cX9_takesOnce 1 = .ok (.getfield 14, 3) := by decide +kernel
theorem dX9_takesOnce_4 : decode cX9_takesOnce 4 = .ok (.iload_n 2, 1) := by decide +kernel
theorem dX9_takesOnce_5 : decode cX9_takesOnce 5 = .ok (.iand, 1) := by decide +kernel
theorem dX9_takesOnce_6 : decode cX9_takesOnce 6 = .ok (.ifCond .eq 9, 3) := by decide +kernel
theorem dX9_takesOnce_9 : decode cX9_takesOnce 9 = .ok (.aload_n 1, 1) := by decide +kernel
theorem dX9_takesOnce_10 : decode cX9_takesOnce 10 = .ok (.iconst 4, 1) := by decide +kernel
theorem dX9_takesOnce_11 : decode cX9_takesOnce 11 = .ok (.invokevirtual 65, 3) := by decide +kernel
theorem dX9_takesOnce_14 : decode cX9_takesOnce 14 = .ok (.ireturn, 1) := by decide +kernel
theorem dX9_takesOnce_15 : decode cX9_takesOnce 15 = .ok (.aload_n 0, 1) := by decide +kernel
theorem dX9_takesOnce_16 : decode cX9_takesOnce 16 = .ok (.dup, 1) := by decide +kernel
theorem dX9_takesOnce_17 : decode cX9_takesOnce 17 = .ok (.getfield 14, 3) := by decide +kernel
theorem dX9_takesOnce_20 : decode cX9_takesOnce 20 = .ok (.iload_n 2, 1) := by decide +kernel
theorem dX9_takesOnce_21 : decode cX9_takesOnce 21 = .ok (.ior, 1) := by decide +kernel
theorem dX9_takesOnce_22 : decode cX9_takesOnce 22 = .ok (.putfield 14, 3) := by decide +kernel
theorem dX9_takesOnce_25 : decode cX9_takesOnce 25 = .ok (.iconst 1, 1) := by decide +kernel
theorem dX9_takesOnce_26 : decode cX9_takesOnce 26 = .ok (.ireturn, 1) := by decide +kernel
