set_option maxRecDepth 20000 in
theorem ggX12_init_Jx4a65c_init_da8c8 : GoodIn wsX12_init wsJx4a65c_init_da8c8 := goodIn_s _ [(20, 13), (2, 2), (46, 3)] rfl (by decide +kernel)
set_option maxRecDepth 20000 in
theorem gX12_init_Jx4a65c_init_da8c8 : GoodIn wsX12_init (wsJx4a65c_init_da8c8) := ggX12_init_Jx4a65c_init_da8c8
theorem dX12_init_0 : decode cX12_init 0 = .ok (.aload_n 0, 1) := by decide +kernel
theorem dX12_init_1 : decode cX12_init 1 = .ok (.invokespecial 1, 3) := by decide +kernel
theorem dX12_init_4 : decode cX12_init 4 = .ok (.aload_n 0, 1) := by decide +kernel
theorem dX12_init_5 : decode cX12_init 5 = .ok (.iconst 2, 1) := by decide +kernel
theorem dX12_init_6 : decode cX12_init 6 = .ok (.putfield 7, 3) := by decide +kernel
theorem dX12_init_9 : decode cX12_init 9 = .ok (.aload_n 0, 1) := by decide +kernel
theorem dX12_init_10 : decode cX12_init 10 = .ok (.bipush 14, 2) := by decide +kernel
theorem dX12_init_12 : decode cX12_init 12 = .ok (.newarray .int, 2) := by decide +kernel
theorem dX12_init_14 : decode cX12_init 14 = .ok (.putfield 13, 3) := by decide +kernel
theorem dX12_init_17 : decode cX12_init 17 = .ok (.aload_n 0, 1) := by decide +kernel
theorem dX12_init_18 : decode cX12_init 18 = .ok (.bipush 14, 2) := by decide +kernel
theorem dX12_init_20 : decode cX12_init 20 = .ok (.newarray .int, 2) := by decide +kernel
theorem dX12_init_22 : decode cX12_init 22 = .ok (.putfield 17, 3) := by decide +kernel
theorem dX12_init_25 : decode cX12_init 25 = .ok (.aload_n 0, 1) := by decide +kernel
theorem dX12_init_26 : decode cX12_init 26 = .ok (.bipush 40, 2) := by decide +kernel
theorem dX12_init_28 : decode cX12_init 28 = .ok (.newarray .int, 2) := by decide +kernel
theorem dX12_init_30 : decode cX12_init 30 = .ok (.putfield 20, 3) := by decide +kernel
theorem dX12_init_33 : decode cX12_init 33 = .ok (.aload_n 0, 1) := by decide +kernel
theorem dX12_init_34 : decode cX12_init 34 = .ok (.bipush 40, 2) := by decide +kernel
theorem dX12_init_36 : decode cX12_init 36 = .ok (.newarray .int, 2) := by decide +kernel
theorem dX12_init_38 : decode cX12_init 38 = .ok (.putfield 23, 3) := by decide +kernel
theorem dX12_init_41 : decode cX12_init 41 = .ok (.aload_n 0, 1) := by decide +kernel
theorem dX12_init_42 : decode cX12_init 42 = .ok (.bipush 14, 2) := by decide +kernel
theorem dX12_init_44 : decode cX12_init 44 = .ok (.bipush 14, 2) := by decide +kernel
theorem dX12_init_46 : decode cX12_init 46 = .ok (.multianewarray 26 2, 4) := by decide +kernel
theorem dX12_init_50 : decode cX12_init 50 = .ok (.putfield 28, 3) := by decide +kernel
theorem dX12_init_53 : decode cX12_init 53 = .ok (.aload_n 0, 1) := by decide +kernel
theorem dX12_init_54 : decode cX12_init 54 = .ok (.new 31, 3) := by decide +kernel
theorem dX12_init_57 : decode cX12_init 57 = .ok (.dup, 1) := by decide +kernel
theorem dX12_init_58 : decode cX12_init 58 = .ok (.invokespecial 33, 3) := by decide +kernel
theorem dX12_init_61 : decode cX12_init 61 = .ok (.putfield 34, 3) := by decide +kernel
theorem dX12_init_64 : decode cX12_init 64 = .ok (.aload_n 0, 1) := by decide +kernel
theorem dX12_init_65 : decode cX12_init 65 = .ok (.new 31, 3) := by decide +kernel
theorem dX12_init_68 : decode cX12_init 68 = .ok (.dup, 1) := by decide +kernel
theorem dX12_init_69 : decode cX12_init 69 = .ok (.invokespecial 33, 3) := by decide +kernel
theorem dX12_init_72 : decode cX12_init 72 = .ok (.putfield 38, 3) := by decide +kernel
theorem dX12_init_75 : decode cX12_init 75 = .ok (.aload_n 0, 1) := by decide +kernel
theorem dX12_init_76 : decode cX12_init 76 = .ok (.ldc 41, 2) := by decide +kernel
theorem dX12_init_78 : decode cX12_init 78 = .ok (.putfield 43, 3) := by decide +kernel
theorem dX12_init_81 : decode cX12_init 81 = .ok (.return_, 1) := by decide +kernel
set_option maxRecDepth 20000 in
theorem ggX12_name_J4_init_da8c8 : GoodIn wsX12_name wsJ4_init_da8c8 := goodIn_s _ [(6, 20), (233, 4)] rfl (by decide +kernel)
set_option maxRecDepth 20000 in
theorem gX12_name_J4_init_da8c8 : GoodIn wsX12_name (wsJ4_init_da8c8) := ggX12_name_J4_init_da8c8
set_option maxRecDepth 20000 in
theorem ggX12_name_J4_append_15ec4 : GoodIn wsX12_name wsJ4_append_15ec4 := goodIn_s _ [(29, 5), (9, 1), (34, 7), (16, 1), (41, 5), (17, 1), (46, 28), (15, 1), (74, 12), (14, 1), (86, 2), (20, 1), (88, 49), (18, 2), (21, 5), (137, 22), (233, 8)] rfl (by decide +kernel)
set_option maxRecDepth 20000 in
theorem gX12_name_J4_append_15ec4 : GoodIn wsX12_name (wsV RX12 52 RJ4 yJ4_append_15ec4 wsJ4_append_15ec4) := goodIn_app (goodIn_of _ (by decide +kernel)) ggX12_name_J4_append_15ec4
set_option maxRecDepth 20000 in
theorem ggX12_name_J4_append_cf468 : GoodIn wsX12_name wsJ4_append_cf468 := goodIn_s _ [(162, 3), (32, 1), (165, 1), (9, 1), (166, 1), (35, 1), (16, 1), (41, 5), (17, 1), (46, 28), (15, 1), (74, 12), (14, 1), (167, 2), (139, 1), (169, 1), (132, 5), (18, 8), (137, 2), (140, 7), (93, 3), (147, 2), (98, 1), (149, 1), (100, 1), (150, 2), (103, 1), (152, 1), (105, 3), (89, 1), (108, 2), (170, 12), (233, 4)] rfl (by decide +kernel)
set_option maxRecDepth 20000 in
theorem gX12_name_J4_append_cf468 : GoodIn wsX12_name (wsV RX12 56 RJ4 yJ4_append_cf468 wsJ4_append_cf468) := goodIn_app (goodIn_of _ (by decide +kernel)) ggX12_name_J4_append_cf468
set_option maxRecDepth 20000 in
theorem ggX12_name_J4_toString_0e30d : GoodIn wsX12_name wsJ4_toString_0e30d := goodIn_s _ [(185, 3), (98, 1), (188, 7), (12, 2), (120, 1), (114, 1), (119, 1), (195, 5), (9, 1), (200, 1), (16, 1), (201, 5), (3, 1), (206, 2), (32, 1), (208, 2), (35, 1), (210, 1), (82, 4), (14, 1), (17, 1), (211, 2), (66, 1), (213, 1), (68, 6), (214, 3), (15, 1), (74, 2), (58, 1), (76, 5), (217, 5), (20, 1), (222, 4), (144, 3), (93, 3), (147, 3), (100, 1), (150, 2), (103, 1), (152, 1), (226, 3), (89, 1), (108, 2), (22, 4), (229, 4), (237, 4), (233, 4)] rfl (by decide +kernel)
set_option maxRecDepth 20000 in
theorem gX12_name_J4_toString_0e30d : GoodIn wsX12_name (wsV RX12 59 RJ4 yJ4_toString_0e30d wsJ4_toString_0e30d) := goodIn_app (goodIn_of _ (by decide +kernel)) ggX12_name_J4_toString_0e30d
theorem dX12_name_0 : decode cX12_name 0 = .ok (.new 47, 3) := by decide +kernel
theorem dX12_name_3 : decode cX12_name 3 = .ok (.dup, 1) := by decide +kernel
theorem dX12_name_4 : decode cX12_name 4 = .ok (.invokespecial 49, 3) := by decide +kernel
theorem dX12_name_7 : decode cX12_name 7 = .ok (.ldc 50, 2) := by decide +kernel
theorem dX12_name_9 : decode cX12_name 9 = .ok (.invokevirtual 52, 3) := by decide +kernel
theorem dX12_name_12 : decode cX12_name 12 = .ok (.bipush 97, 2) := by decide +kernel
theorem dX12_name_14 : decode cX12_name 14 = .ok (.iload_n 0, 1) := by decide +kernel
theorem dX12_name_15 : decode cX12_name 15 = .ok (.iadd, 1) := by decide +kernel
theorem dX12_name_16 : decode cX12_name 16 = .ok (.i2c, 1) := by decide +kernel
theorem dX12_name_17 : decode cX12_name 17 = .ok (.invokevirtual 56, 3) := by decide +kernel
theorem dX12_name_20 : decode cX12_name 20 = .ok (.invokevirtual 59, 3) := by decide +kernel
theorem dX12_name_23 : decode cX12_name 23 = .ok (.areturn, 1) := by decide +kernel
set_option maxRecDepth 20000 in
theorem ggX12_grown_X12_init : GoodIn wsX12_grown wsX12_init := goodIn_s _ [(21, 4), (7, 1), (16, 1), (11, 1), (25, 1), (14, 2), (26, 1), (12, 1), (27, 3), (17, 1), (30, 1), (18, 1), (31, 15), (344, 13), (361, 3)] rfl (by decide +kernel)
set_option maxRecDepth 20000 in
theorem gX12_grown_X12_init : GoodIn wsX12_grown (wsX12_init) := ggX12_grown_X12_init
set_option maxRecDepth 20000 in
theorem ggX12_grown_J4_init_da8c8 : GoodIn wsX12_grown wsJ4_init_da8c8 := goodIn_s _ [(48, 6), (23, 2), (54, 12), (357, 4)] rfl (by decide +kernel)
set_option maxRecDepth 20000 in
theorem gX12_grown_J4_init_da8c8 : GoodIn wsX12_grown (wsJ4_init_da8c8) := ggX12_grown_J4_init_da8c8
set_option maxRecDepth 20000 in
theorem ggX12_grown_L_pick : GoodIn wsX12_grown wsL_pick := goodIn_s _ [(68, 4), (67, 1), (72, 3)] rfl (by decide +kernel)
set_option maxRecDepth 20000 in
theorem gX12_grown_L_pick_n64 : GoodIn wsX12_grown (wsL_pick) := ggX12_grown_L_pick
set_option maxRecDepth 20000 in
theorem ggX12_grown_J4_append_15ec4 : GoodIn wsX12_grown wsJ4_append_15ec4 := goodIn_s _ [(78, 5), (51, 1), (83, 7), (56, 1), (90, 5), (57, 1), (95, 28), (55, 1), (123, 12), (54, 1), (135, 2), (60, 1), (137, 49), (58, 2), (61, 5), (186, 22), (357, 4), (364, 4)] rfl (by decide +kernel)
set_option maxRecDepth 20000 in
theorem gX12_grown_J4_append_15ec4 : GoodIn wsX12_grown (wsV RX12 52 RJ4 yJ4_append_15ec4 wsJ4_append_15ec4) := goodIn_app (goodIn_of _ (by decide +kernel)) ggX12_grown_J4_append_15ec4
set_option maxRecDepth 20000 in
theorem ggX12_grown_J4_append_bf812 : GoodIn wsX12_grown wsJ4_append_bf812 := goodIn_s _ [(211, 3), (81, 1), (214, 1), (51, 1), (215, 1), (84, 1), (56, 1), (216, 4), (90, 5), (57, 1), (95, 28), (55, 1), (123, 12), (54, 1), (220, 7), (60, 1), (227, 1), (138, 16), (228, 5), (154, 5), (357, 4)] rfl (by decide +kernel)
set_option maxRecDepth 20000 in
theorem gX12_grown_J4_append_bf812 : GoodIn wsX12_grown (wsV RX12 72 RJ4 yJ4_append_bf812 wsJ4_append_bf812) := goodIn_app (goodIn_of _ (by decide +kernel)) ggX12_grown_J4_append_bf812
set_option maxRecDepth 20000 in
theorem ggX12_grown_X12_name : GoodIn wsX12_grown wsX12_name := goodIn_s _ [(235, 1), (4, 3), (46, 8), (23, 2), (54, 12), (75, 133), (236, 74), (357, 4), (364, 4)] rfl (by decide +kernel)
set_option maxRecDepth 20000 in
theorem gX12_grown_X12_name : GoodIn wsX12_grown (va_wsS RX12 92 yX12_name wsX12_name) := goodIn_app (goodIn_of _ (by decide +kernel)) ggX12_grown_X12_name
set_option maxRecDepth 20000 in
theorem ggX12_grown_Jx4a65c_add_9ea2d : GoodIn wsX12_grown wsJx4a65c_add_9ea2d := goodIn_s _ [(313, 3), (35, 1), (316, 4), (29, 1), (320, 9), (34, 1), (329, 1), (106, 3), (330, 2), (102, 4), (109, 4), (332, 2), (115, 1), (334, 10), (123, 7), (361, 3)] rfl (by decide +kernel)
set_option maxRecDepth 20000 in
theorem gX12_grown_Jx4a65c_add_9ea2d_f105Jx4a65c : GoodIn wsX12_grown (va_wsF RX12 105 RJx4a65c ⟨"java/util/List", "add", "(Ljava/lang/Object;)Z"⟩ yJx4a65c_add_9ea2d wsJx4a65c_add_9ea2d) := goodIn_app (goodIn_of _ (by decide +kernel)) ggX12_grown_Jx4a65c_add_9ea2d
set_option maxRecDepth 20000 in
theorem ggX12_grown_J4_toString_0e30d : GoodIn wsX12_grown wsJ4_toString_0e30d := goodIn_s _ [(262, 3), (147, 1), (265, 7), (23, 2), (169, 1), (163, 1), (168, 1), (272, 5), (51, 1), (277, 1), (56, 1), (278, 5), (6, 1), (283, 2), (81, 1), (285, 2), (84, 1), (287, 1), (131, 4), (54, 1), (57, 1), (288, 2), (115, 1), (290, 1), (117, 6), (291, 3), (55, 1), (123, 2), (107, 1), (125, 5), (294, 5), (60, 1), (299, 4), (193, 3), (142, 3), (196, 3), (149, 1), (199, 2), (152, 1), (201, 1), (303, 3), (138, 1), (157, 2), (62, 4), (306, 4), (364, 4), (357, 4)] rfl (by decide +kernel)
set_option maxRecDepth 20000 in
theorem gX12_grown_J4_toString_0e30d : GoodIn wsX12_grown (wsV RX12 59 RJ4 yJ4_toString_0e30d wsJ4_toString_0e30d) := goodIn_app (goodIn_of _ (by decide +kernel)) ggX12_grown_J4_toString_0e30d
theorem dX12_grown_0 : decode cX12_grown 0 = .ok (.new 8, 3) := by decide +kernel
theorem dX12_grown_3 : decode cX12_grown 3 = .ok (.dup, 1) := by decide +kernel
theorem dX12_grown_4 : decode cX12_grown 4 = .ok (.invokespecial 63, 3) := by decide +kernel
theorem dX12_grown_7 : decode cX12_grown 7 = .ok (.astore_n 1, 1) := by decide +kernel
theorem dX12_grown_8 : decode cX12_grown 8 = .ok (.new 47, 3) := by decide +kernel
theorem dX12_grown_11 : decode cX12_grown 11 = .ok (.dup, 1) := by decide +kernel
theorem dX12_grown_12 : decode cX12_grown 12 = .ok (.invokespecial 49, 3) := by decide +kernel
theorem dX12_grown_15 : decode cX12_grown 15 = .ok (.astore_n 2, 1) := by decide +kernel
theorem dX12_grown_16 : decode cX12_grown 16 = .ok (.aload_n 0, 1) := by decide +kernel
theorem dX12_grown_17 : decode cX12_grown 17 = .ok (.iconst 1, 1) := by decide +kernel
theorem dX12_grown_18 : decode cX12_grown 18 = .ok (.iconst 2, 1) := by decide +kernel
theorem dX12_grown_19 : decode cX12_grown 19 = .ok (.invokestatic 64, 3) := by decide +kernel
theorem dX12_grown_22 : decode cX12_grown 22 = .ok (.ifCond .ne 31, 3) := by decide +kernel
theorem dX12_grown_25 : decode cX12_grown 25 = .ok (.aload_n 2, 1) := by decide +kernel
theorem dX12_grown_26 : decode cX12_grown 26 = .ok (.ldc 70, 2) := by decide +kernel
theorem dX12_grown_28 : decode cX12_grown 28 = .ok (.invokevirtual 52, 3) := by decide +kernel
theorem dX12_grown_31 : decode cX12_grown 31 = .ok (.aload_n 1, 1) := by decide +kernel
theorem dX12_grown_32 : decode cX12_grown 32 = .ok (.iconst 2, 1) := by decide +kernel
theorem dX12_grown_33 : decode cX12_grown 33 = .ok (.aload_n 0, 1) := by decide +kernel
theorem dX12_grown_34 : decode cX12_grown 34 = .ok (.iconst 2, 1) := by decide +kernel
theorem dX12_grown_35 : decode cX12_grown 35 = .ok (.iconst 3, 1) := by decide +kernel
theorem dX12_grown_36 : decode cX12_grown 36 = .ok (.invokestatic 64, 3) := by decide +kernel
theorem dX12_grown_39 : decode cX12_grown 39 = .ok (.iadd, 1) := by decide +kernel
theorem dX12_grown_40 : decode cX12_grown 40 = .ok (.dup_x1, 1) := by decide +kernel
theorem dX12_grown_41 : decode cX12_grown 41 = .ok (.putfield 7, 3) := by decide +kernel
theorem dX12_grown_44 : decode cX12_grown 44 = .ok (.invokevirtual 72, 3) := by decide +kernel
theorem dX12_grown_47 : decode cX12_grown 47 = .ok (.ldc 75, 2) := by decide +kernel
theorem dX12_grown_49 : decode cX12_grown 49 = .ok (.invokevirtual 52, 3) := by decide +kernel
theorem dX12_grown_52 : decode cX12_grown 52 = .ok (.pop, 1) := by decide +kernel
theorem dX12_grown_53 : decode cX12_grown 53 = .ok (.aload_n 0, 1) := by decide +kernel
theorem dX12_grown_54 : decode cX12_grown 54 = .ok (.iconst 3, 1) := by decide +kernel
theorem dX12_grown_55 : decode cX12_grown 55 = .ok (.iconst 2, 1) := by decide +kernel
theorem dX12_grown_56 : decode cX12_grown 56 = .ok (.invokestatic 64, 3) := by decide +kernel
theorem dX12_grown_59 : decode cX12_grown 59 = .ok (.ifCond .ne 30, 3) := by decide +kernel
theorem dX12_grown_62 : decode cX12_grown 62 = .ok (.aload_n 2, 1) := by decide +kernel
theorem dX12_grown_63 : decode cX12_grown 63 = .ok (.ldc 77, 2) := by decide +kernel
theorem dX12_grown_65 : decode cX12_grown 65 = .ok (.invokevirtual 52, 3) := by decide +kernel
theorem dX12_grown_68 : decode cX12_grown 68 = .ok (.aload_n 1, 1) := by decide +kernel
theorem dX12_grown_69 : decode cX12_grown 69 = .ok (.aload_n 0, 1) := by decide +kernel
theorem dX12_grown_70 : decode cX12_grown 70 = .ok (.iconst 4, 1) := by decide +kernel
theorem dX12_grown_71 : decode cX12_grown 71 = .ok (.bipush 9, 2) := by decide +kernel
theorem dX12_grown_73 : decode cX12_grown 73 = .ok (.invokestatic 64, 3) := by decide +kernel
theorem dX12_grown_76 : decode cX12_grown 76 = .ok (.dup_x1, 1) := by decide +kernel
theorem dX12_grown_77 : decode cX12_grown 77 = .ok (.putfield 79, 3) := by decide +kernel
theorem dX12_grown_80 : decode cX12_grown 80 = .ok (.invokevirtual 72, 3) := by decide +kernel
theorem dX12_grown_83 : decode cX12_grown 83 = .ok (.ldc 75, 2) := by decide +kernel
theorem dX12_grown_85 : decode cX12_grown 85 = .ok (.invokevirtual 52, 3) := by decide +kernel
theorem dX12_grown_88 : decode cX12_grown 88 = .ok (.pop, 1) := by decide +kernel
theorem dX12_grown_89 : decode cX12_grown 89 = .ok (.aload_n 0, 1) := by decide +kernel
theorem dX12_grown_90 : decode cX12_grown 90 = .ok (.iconst 5, 1) := by decide +kernel
theorem dX12_grown_91 : decode cX12_grown 91 = .ok (.iconst 2, 1) := by decide +kernel
theorem dX12_grown_92 : decode cX12_grown 92 = .ok (.invokestatic 64, 3) := by decide +kernel
theorem dX12_grown_95 : decode cX12_grown 95 = .ok (.ifCond .ne 31, 3) := by decide +kernel
theorem dX12_grown_98 : decode cX12_grown 98 = .ok (.aload_n 2, 1) := by decide +kernel
theorem dX12_grown_99 : decode cX12_grown 99 = .ok (.ldc 82, 2) := by decide +kernel
theorem dX12_grown_101 : decode cX12_grown 101 = .ok (.invokevirtual 52, 3) := by decide +kernel
theorem dX12_grown_104 : decode cX12_grown 104 = .ok (.aload_n 1, 1) := by decide +kernel
theorem dX12_grown_105 : decode cX12_grown 105 = .ok (.aload_n 0, 1) := by decide +kernel
theorem dX12_grown_106 : decode cX12_grown 106 = .ok (.bipush 6, 2) := by decide +kernel
theorem dX12_grown_108 : decode cX12_grown 108 = .ok (.bipush 30, 2) := by decide +kernel
theorem dX12_grown_110 : decode cX12_grown 110 = .ok (.invokestatic 64, 3) := by decide +kernel
theorem dX12_grown_113 : decode cX12_grown 113 = .ok (.dup_x1, 1) := by decide +kernel
theorem dX12_grown_114 : decode cX12_grown 114 = .ok (.putfield 84, 3) := by decide +kernel
theorem dX12_grown_117 : decode cX12_grown 117 = .ok (.invokevirtual 72, 3) := by decide +kernel
theorem dX12_grown_120 : decode cX12_grown 120 = .ok (.ldc 75, 2) := by decide +kernel
theorem dX12_grown_122 : decode cX12_grown 122 = .ok (.invokevirtual 52, 3) := by decide +kernel
theorem dX12_grown_125 : decode cX12_grown 125 = .ok (.pop, 1) := by decide +kernel
theorem dX12_grown_126 : decode cX12_grown 126 = .ok (.aload_n 1, 1) := by decide +kernel
theorem dX12_grown_127 : decode cX12_grown 127 = .ok (.iconst 2, 1) := by decide +kernel
theorem dX12_grown_128 : decode cX12_grown 128 = .ok (.aload_n 0, 1) := by decide +kernel
theorem dX12_grown_129 : decode cX12_grown 129 = .ok (.bipush 7, 2) := by decide +kernel
theorem dX12_grown_131 : decode cX12_grown 131 = .ok (.bipush 9, 2) := by decide +kernel
theorem dX12_grown_133 : decode cX12_grown 133 = .ok (.invokestatic 64, 3) := by decide +kernel
theorem dX12_grown_136 : decode cX12_grown 136 = .ok (.iadd, 1) := by decide +kernel
theorem dX12_grown_137 : decode cX12_grown 137 = .ok (.putfield 87, 3) := by decide +kernel
theorem dX12_grown_140 : decode cX12_grown 140 = .ok (.iconst 0, 1) := by decide +kernel
theorem dX12_grown_141 : decode cX12_grown 141 = .ok (.istore_n 3, 1) := by decide +kernel
theorem dX12_grown_142 : decode cX12_grown 142 = .ok (.iload_n 3, 1) := by decide +kernel
theorem dX12_grown_143 : decode cX12_grown 143 = .ok (.aload_n 1, 1) := by decide +kernel
theorem dX12_grown_144 : decode cX12_grown 144 = .ok (.getfield 87, 3) := by decide +kernel
theorem dX12_grown_147 : decode cX12_grown 147 = .ok (.if_icmp .ge 86, 3) := by decide +kernel
theorem dX12_grown_150 : decode cX12_grown 150 = .ok (.aload_n 2, 1) := by decide +kernel
theorem dX12_grown_151 : decode cX12_grown 151 = .ok (.ldc 90, 2) := by decide +kernel
theorem dX12_grown_153 : decode cX12_grown 153 = .ok (.invokevirtual 52, 3) := by decide +kernel
theorem dX12_grown_156 : decode cX12_grown 156 = .ok (.iload_n 3, 1) := by decide +kernel
theorem dX12_grown_157 : decode cX12_grown 157 = .ok (.invokestatic 92, 3) := by decide +kernel
theorem dX12_grown_160 : decode cX12_grown 160 = .ok (.invokevirtual 52, 3) := by decide +kernel
theorem dX12_grown_163 : decode cX12_grown 163 = .ok (.ldc 96, 2) := by decide +kernel
theorem dX12_grown_165 : decode cX12_grown 165 = .ok (.invokevirtual 52, 3) := by decide +kernel
theorem dX12_grown_168 : decode cX12_grown 168 = .ok (.aload_n 1, 1) := by decide +kernel
theorem dX12_grown_169 : decode cX12_grown 169 = .ok (.getfield 13, 3) := by decide +kernel
theorem dX12_grown_172 : decode cX12_grown 172 = .ok (.iload_n 3, 1) := by decide +kernel
theorem dX12_grown_173 : decode cX12_grown 173 = .ok (.iconst 1, 1) := by decide +kernel
theorem dX12_grown_174 : decode cX12_grown 174 = .ok (.aload_n 0, 1) := by decide +kernel
theorem dX12_grown_175 : decode cX12_grown 175 = .ok (.bipush 20, 2) := by decide +kernel
theorem dX12_grown_177 : decode cX12_grown 177 = .ok (.iload_n 3, 1) := by decide +kernel
theorem dX12_grown_178 : decode cX12_grown 178 = .ok (.iadd, 1) := by decide +kernel
theorem dX12_grown_179 : decode cX12_grown 179 = .ok (.aload_n 0, 1) := by decide +kernel
theorem dX12_grown_180 : decode cX12_grown 180 = .ok (.bipush 8, 2) := by decide +kernel
theorem dX12_grown_182 : decode cX12_grown 182 = .ok (.iconst 2, 1) := by decide +kernel
theorem dX12_grown_183 : decode cX12_grown 183 = .ok (.invokestatic 64, 3) := by decide +kernel
theorem dX12_grown_186 : decode cX12_grown 186 = .ok (.ifCond .ne 7, 3) := by decide +kernel
theorem dX12_grown_189 : decode cX12_grown 189 = .ok (.iconst 3, 1) := by decide +kernel
theorem dX12_grown_190 : decode cX12_grown 190 = .ok (.goto 5, 3) := by decide +kernel
theorem dX12_grown_193 : decode cX12_grown 193 = .ok (.bipush 12, 2) := by decide +kernel
theorem dX12_grown_195 : decode cX12_grown 195 = .ok (.invokestatic 64, 3) := by decide +kernel
theorem dX12_grown_198 : decode cX12_grown 198 = .ok (.iadd, 1) := by decide +kernel
theorem dX12_grown_199 : decode cX12_grown 199 = .ok (.dup_x2, 1) := by decide +kernel
theorem dX12_grown_200 : decode cX12_grown 200 = .ok (.iastore, 1) := by decide +kernel
theorem dX12_grown_201 : decode cX12_grown 201 = .ok (.invokevirtual 72, 3) := by decide +kernel
theorem dX12_grown_204 : decode cX12_grown 204 = .ok (.aload_n 0, 1) := by decide +kernel
theorem dX12_grown_205 : decode cX12_grown 205 = .ok (.bipush 40, 2) := by decide +kernel
theorem dX12_grown_207 : decode cX12_grown 207 = .ok (.iload_n 3, 1) := by decide +kernel
theorem dX12_grown_208 : decode cX12_grown 208 = .ok (.iadd, 1) := by decide +kernel
theorem dX12_grown_209 : decode cX12_grown 209 = .ok (.iconst 3, 1) := by decide +kernel
theorem dX12_grown_210 : decode cX12_grown 210 = .ok (.invokestatic 64, 3) := by decide +kernel
theorem dX12_grown_213 : decode cX12_grown 213 = .ok (.ifCond .ne 8, 3) := by decide +kernel
theorem dX12_grown_216 : decode cX12_grown 216 = .ok (.ldc 98, 2) := by decide +kernel
theorem dX12_grown_218 : decode cX12_grown 218 = .ok (.goto 5, 3) := by decide +kernel
theorem dX12_grown_221 : decode cX12_grown 221 = .ok (.ldc 75, 2) := by decide +kernel
theorem dX12_grown_223 : decode cX12_grown 223 = .ok (.invokevirtual 52, 3) := by decide +kernel
theorem dX12_grown_226 : decode cX12_grown 226 = .ok (.pop, 1) := by decide +kernel
theorem dX12_grown_227 : decode cX12_grown 227 = .ok (.iinc 3 1, 3) := by decide +kernel
theorem dX12_grown_230 : decode cX12_grown 230 = .ok (.goto (-88), 3) := by decide +kernel
theorem dX12_grown_233 : decode cX12_grown 233 = .ok (.iconst 0, 1) := by decide +kernel
theorem dX12_grown_234 : decode cX12_grown 234 = .ok (.istore_n 3, 1) := by decide +kernel
theorem dX12_grown_235 : decode cX12_grown 235 = .ok (.iload_n 3, 1) := by decide +kernel
theorem dX12_grown_236 : decode cX12_grown 236 = .ok (.iconst 3, 1) := by decide +kernel
theorem dX12_grown_237 : decode cX12_grown 237 = .ok (.aload_n 1, 1) := by decide +kernel
theorem dX12_grown_238 : decode cX12_grown 238 = .ok (.getfield 87, 3) := by decide +kernel
theorem dX12_grown_241 : decode cX12_grown 241 = .ok (.imul, 1) := by decide +kernel
theorem dX12_grown_242 : decode cX12_grown 242 = .ok (.if_icmp .ge 183, 3) := by decide +kernel
theorem dX12_grown_245 : decode cX12_grown 245 = .ok (.aload_n 0, 1) := by decide +kernel
theorem dX12_grown_246 : decode cX12_grown 246 = .ok (.bipush 60, 2) := by decide +kernel
theorem dX12_grown_248 : decode cX12_grown 248 = .ok (.iload_n 3, 1) := by decide +kernel
theorem dX12_grown_249 : decode cX12_grown 249 = .ok (.iadd, 1) := by decide +kernel
theorem dX12_grown_250 : decode cX12_grown 250 = .ok (.aload_n 1, 1) := by decide +kernel
theorem dX12_grown_251 : decode cX12_grown 251 = .ok (.getfield 87, 3) := by decide +kernel
theorem dX12_grown_254 : decode cX12_grown 254 = .ok (.invokestatic 64, 3) := by decide +kernel
theorem dX12_grown_257 : decode cX12_grown 257 = .ok (.istore 4, 2) := by decide +kernel
theorem dX12_grown_259 : decode cX12_grown 259 = .ok (.aload_n 0, 1) := by decide +kernel
theorem dX12_grown_260 : decode cX12_grown 260 = .ok (.bipush 110, 2) := by decide +kernel
theorem dX12_grown_262 : decode cX12_grown 262 = .ok (.iload_n 3, 1) := by decide +kernel
theorem dX12_grown_263 : decode cX12_grown 263 = .ok (.iadd, 1) := by decide +kernel
theorem dX12_grown_264 : decode cX12_grown 264 = .ok (.aload_n 1, 1) := by decide +kernel
theorem dX12_grown_265 : decode cX12_grown 265 = .ok (.getfield 87, 3) := by decide +kernel
theorem dX12_grown_268 : decode cX12_grown 268 = .ok (.invokestatic 64, 3) := by decide +kernel
theorem dX12_grown_271 : decode cX12_grown 271 = .ok (.istore 5, 2) := by decide +kernel
theorem dX12_grown_273 : decode cX12_grown 273 = .ok (.iload 4, 2) := by decide +kernel
theorem dX12_grown_275 : decode cX12_grown 275 = .ok (.iload 5, 2) := by decide +kernel
theorem dX12_grown_277 : decode cX12_grown 277 = .ok (.if_icmp .eq 142, 3) := by decide +kernel
theorem dX12_grown_280 : decode cX12_grown 280 = .ok (.aload_n 1, 1) := by decide +kernel
theorem dX12_grown_281 : decode cX12_grown 281 = .ok (.getfield 28, 3) := by decide +kernel
theorem dX12_grown_284 : decode cX12_grown 284 = .ok (.iload 4, 2) := by decide +kernel
theorem dX12_grown_286 : decode cX12_grown 286 = .ok (.aaload, 1) := by decide +kernel
theorem dX12_grown_287 : decode cX12_grown 287 = .ok (.iload 5, 2) := by decide +kernel
theorem dX12_grown_289 : decode cX12_grown 289 = .ok (.iaload, 1) := by decide +kernel
theorem dX12_grown_290 : decode cX12_grown 290 = .ok (.ifCond .gt 129, 3) := by decide +kernel
theorem dX12_grown_293 : decode cX12_grown 293 = .ok (.aload_n 1, 1) := by decide +kernel
theorem dX12_grown_294 : decode cX12_grown 294 = .ok (.getfield 100, 3) := by decide +kernel
theorem dX12_grown_297 : decode cX12_grown 297 = .ok (.bipush 30, 2) := by decide +kernel
theorem dX12_grown_299 : decode cX12_grown 299 = .ok (.if_icmp .ne 6, 3) := by decide +kernel
theorem dX12_grown_302 : decode cX12_grown 302 = .ok (.goto 117, 3) := by decide +kernel
theorem dX12_grown_305 : decode cX12_grown 305 = .ok (.iconst 1, 1) := by decide +kernel
theorem dX12_grown_306 : decode cX12_grown 306 = .ok (.aload_n 0, 1) := by decide +kernel
theorem dX12_grown_307 : decode cX12_grown 307 = .ok (.sipush 160, 3) := by decide +kernel
theorem dX12_grown_310 : decode cX12_grown 310 = .ok (.iload_n 3, 1) := by decide +kernel
theorem dX12_grown_311 : decode cX12_grown 311 = .ok (.iadd, 1) := by decide +kernel
theorem dX12_grown_312 : decode cX12_grown 312 = .ok (.bipush 9, 2) := by decide +kernel
theorem dX12_grown_314 : decode cX12_grown 314 = .ok (.invokestatic 64, 3) := by decide +kernel
theorem dX12_grown_317 : decode cX12_grown 317 = .ok (.iadd, 1) := by decide +kernel
theorem dX12_grown_318 : decode cX12_grown 318 = .ok (.istore 6, 2) := by decide +kernel
theorem dX12_grown_320 : decode cX12_grown 320 = .ok (.aload_n 1, 1) := by decide +kernel
theorem dX12_grown_321 : decode cX12_grown 321 = .ok (.getfield 28, 3) := by decide +kernel
theorem dX12_grown_324 : decode cX12_grown 324 = .ok (.iload 4, 2) := by decide +kernel
theorem dX12_grown_326 : decode cX12_grown 326 = .ok (.aaload, 1) := by decide +kernel
theorem dX12_grown_327 : decode cX12_grown 327 = .ok (.iload 5, 2) := by decide +kernel
theorem dX12_grown_329 : decode cX12_grown 329 = .ok (.iload 6, 2) := by decide +kernel
theorem dX12_grown_331 : decode cX12_grown 331 = .ok (.iastore, 1) := by decide +kernel
theorem dX12_grown_332 : decode cX12_grown 332 = .ok (.aload_n 1, 1) := by decide +kernel
theorem dX12_grown_333 : decode cX12_grown 333 = .ok (.getfield 28, 3) := by decide +kernel
theorem dX12_grown_336 : decode cX12_grown 336 = .ok (.iload 5, 2) := by decide +kernel
theorem dX12_grown_338 : decode cX12_grown 338 = .ok (.aaload, 1) := by decide +kernel
theorem dX12_grown_339 : decode cX12_grown 339 = .ok (.iload 4, 2) := by decide +kernel
theorem dX12_grown_341 : decode cX12_grown 341 = .ok (.iload 6, 2) := by decide +kernel
theorem dX12_grown_343 : decode cX12_grown 343 = .ok (.iastore, 1) := by decide +kernel
theorem dX12_grown_344 : decode cX12_grown 344 = .ok (.aload_n 1, 1) := by decide +kernel
theorem dX12_grown_345 : decode cX12_grown 345 = .ok (.getfield 20, 3) := by decide +kernel
theorem dX12_grown_348 : decode cX12_grown 348 = .ok (.aload_n 1, 1) := by decide +kernel
theorem dX12_grown_349 : decode cX12_grown 349 = .ok (.getfield 100, 3) := by decide +kernel
theorem dX12_grown_352 : decode cX12_grown 352 = .ok (.iload 4, 2) := by decide +kernel
theorem dX12_grown_354 : decode cX12_grown 354 = .ok (.iastore, 1) := by decide +kernel
theorem dX12_grown_355 : decode cX12_grown 355 = .ok (.aload_n 1, 1) := by decide +kernel
theorem dX12_grown_356 : decode cX12_grown 356 = .ok (.getfield 23, 3) := by decide +kernel
theorem dX12_grown_359 : decode cX12_grown 359 = .ok (.aload_n 1, 1) := by decide +kernel
theorem dX12_grown_360 : decode cX12_grown 360 = .ok (.getfield 100, 3) := by decide +kernel
theorem dX12_grown_363 : decode cX12_grown 363 = .ok (.iload 5, 2) := by decide +kernel
theorem dX12_grown_365 : decode cX12_grown 365 = .ok (.iastore, 1) := by decide +kernel
theorem dX12_grown_366 : decode cX12_grown 366 = .ok (.aload_n 1, 1) := by decide +kernel
theorem dX12_grown_367 : decode cX12_grown 367 = .ok (.dup, 1) := by decide +kernel
theorem dX12_grown_368 : decode cX12_grown 368 = .ok (.getfield 100, 3) := by decide +kernel
theorem dX12_grown_371 : decode cX12_grown 371 = .ok (.iconst 1, 1) := by decide +kernel
theorem dX12_grown_372 : decode cX12_grown 372 = .ok (.iadd, 1) := by decide +kernel
theorem dX12_grown_373 : decode cX12_grown 373 = .ok (.putfield 100, 3) := by decide +kernel
theorem dX12_grown_376 : decode cX12_grown 376 = .ok (.aload_n 2, 1) := by decide +kernel
theorem dX12_grown_377 : decode cX12_grown 377 = .ok (.ldc 103, 2) := by decide +kernel
theorem dX12_grown_379 : decode cX12_grown 379 = .ok (.invokevirtual 52, 3) := by decide +kernel
theorem dX12_grown_382 : decode cX12_grown 382 = .ok (.iload 4, 2) := by decide +kernel
theorem dX12_grown_384 : decode cX12_grown 384 = .ok (.invokestatic 92, 3) := by decide +kernel
theorem dX12_grown_387 : decode cX12_grown 387 = .ok (.invokevirtual 52, 3) := by decide +kernel
theorem dX12_grown_390 : decode cX12_grown 390 = .ok (.ldc 96, 2) := by decide +kernel
theorem dX12_grown_392 : decode cX12_grown 392 = .ok (.invokevirtual 52, 3) := by decide +kernel
theorem dX12_grown_395 : decode cX12_grown 395 = .ok (.iload 5, 2) := by decide +kernel
theorem dX12_grown_397 : decode cX12_grown 397 = .ok (.invokestatic 92, 3) := by decide +kernel
theorem dX12_grown_400 : decode cX12_grown 400 = .ok (.invokevirtual 52, 3) := by decide +kernel
theorem dX12_grown_403 : decode cX12_grown 403 = .ok (.ldc 96, 2) := by decide +kernel
theorem dX12_grown_405 : decode cX12_grown 405 = .ok (.invokevirtual 52, 3) := by decide +kernel
theorem dX12_grown_408 : decode cX12_grown 408 = .ok (.iload 6, 2) := by decide +kernel
theorem dX12_grown_410 : decode cX12_grown 410 = .ok (.invokevirtual 72, 3) := by decide +kernel
theorem dX12_grown_413 : decode cX12_grown 413 = .ok (.ldc 75, 2) := by decide +kernel
theorem dX12_grown_415 : decode cX12_grown 415 = .ok (.invokevirtual 52, 3) := by decide +kernel
theorem dX12_grown_418 : decode cX12_grown 418 = .ok (.pop, 1) := by decide +kernel
theorem dX12_grown_419 : decode cX12_grown 419 = .ok (.iinc 3 1, 3) := by decide +kernel
theorem dX12_grown_422 : decode cX12_grown 422 = .ok (.goto (-187), 3) := by decide +kernel
theorem dX12_grown_425 : decode cX12_grown 425 = .ok (.aload_n 1, 1) := by decide +kernel
theorem dX12_grown_426 : decode cX12_grown 426 = .ok (.getfield 87, 3) := by decide +kernel
theorem dX12_grown_429 : decode cX12_grown 429 = .ok (.newarray .int, 2) := by decide +kernel
theorem dX12_grown_431 : decode cX12_grown 431 = .ok (.astore_n 3, 1) := by decide +kernel
theorem dX12_grown_432 : decode cX12_grown 432 = .ok (.iconst 0, 1) := by decide +kernel
theorem dX12_grown_433 : decode cX12_grown 433 = .ok (.istore 4, 2) := by decide +kernel
theorem dX12_grown_435 : decode cX12_grown 435 = .ok (.iload 4, 2) := by decide +kernel
theorem dX12_grown_437 : decode cX12_grown 437 = .ok (.aload_n 1, 1) := by decide +kernel
theorem dX12_grown_438 : decode cX12_grown 438 = .ok (.getfield 87, 3) := by decide +kernel
theorem dX12_grown_441 : decode cX12_grown 441 = .ok (.if_icmp .ge 17, 3) := by decide +kernel
theorem dX12_grown_444 : decode cX12_grown 444 = .ok (.aload_n 3, 1) := by decide +kernel
theorem dX12_grown_445 : decode cX12_grown 445 = .ok (.iload 4, 2) := by decide +kernel
theorem dX12_grown_447 : decode cX12_grown 447 = .ok (.iconst 1, 1) := by decide +kernel
theorem dX12_grown_448 : decode cX12_grown 448 = .ok (.iload 4, 2) := by decide +kernel
theorem dX12_grown_450 : decode cX12_grown 450 = .ok (.ishl, 1) := by decide +kernel
theorem dX12_grown_451 : decode cX12_grown 451 = .ok (.iastore, 1) := by decide +kernel
theorem dX12_grown_452 : decode cX12_grown 452 = .ok (.iinc 4 1, 3) := by decide +kernel
theorem dX12_grown_455 : decode cX12_grown 455 = .ok (.goto (-20), 3) := by decide +kernel
theorem dX12_grown_458 : decode cX12_grown 458 = .ok (.aload_n 1, 1) := by decide +kernel
theorem dX12_grown_459 : decode cX12_grown 459 = .ok (.getfield 34, 3) := by decide +kernel
theorem dX12_grown_462 : decode cX12_grown 462 = .ok (.aload_n 3, 1) := by decide +kernel
theorem dX12_grown_463 : decode cX12_grown 463 = .ok (.invokeinterface 105 2, 5) := by decide +kernel
theorem dX12_grown_468 : decode cX12_grown 468 = .ok (.pop, 1) := by decide +kernel
theorem dX12_grown_469 : decode cX12_grown 469 = .ok (.aload_n 1, 1) := by decide +kernel
theorem dX12_grown_470 : decode cX12_grown 470 = .ok (.aload_n 2, 1) := by decide +kernel
theorem dX12_grown_471 : decode cX12_grown 471 = .ok (.invokevirtual 59, 3) := by decide +kernel
theorem dX12_grown_474 : decode cX12_grown 474 = .ok (.putfield 43, 3) := by decide +kernel
theorem dX12_grown_477 : decode cX12_grown 477 = .ok (.aload_n 1, 1) := by decide +kernel
theorem dX12_grown_478 : decode cX12_grown 478 = .ok (.areturn, 1) := by decide +kernel
set_option maxRecDepth 20000 in
theorem ggX12_sets_Jx4a65c_size_8abf5 : GoodIn wsX12_sets wsJx4a65c_size_8abf5 := goodIn_s _ [(7, 2), (39, 3)] rfl (by decide +kernel)
set_option maxRecDepth 20000 in
theorem gX12_sets_Jx4a65c_size_8abf5_f121Jx4a65c : GoodIn wsX12_sets (va_wsF RX12 121 RJx4a65c ⟨"java/util/List", "size", "()I"⟩ yJx4a65c_size_8abf5 wsJx4a65c_size_8abf5) := goodIn_app (goodIn_of _ (by decide +kernel)) ggX12_sets_Jx4a65c_size_8abf5
set_option maxRecDepth 20000 in
theorem ggX12_sets_Jx4a65c_get_915e3 : GoodIn wsX12_sets wsJx4a65c_get_915e3 := goodIn_s _ [(12, 1), (8, 1), (13, 11), (6, 1), (24, 2), (39, 3)] rfl (by decide +kernel)
set_option maxRecDepth 20000 in
theorem gX12_sets_Jx4a65c_get_915e3_f125Jx4a65c : GoodIn wsX12_sets (va_wsF RX12 125 RJx4a65c ⟨"java/util/List", "get", "(I)Ljava/lang/Object;"⟩ yJx4a65c_get_915e3 wsJx4a65c_get_915e3) := goodIn_app (goodIn_of _ (by decide +kernel)) ggX12_sets_Jx4a65c_get_915e3
theorem dX12_sets_0 : decode cX12_sets 0 = .ok (.aload_n 0, 1) := by decide +kernel
theorem dX12_sets_1 : decode cX12_sets 1 = .ok (.getfield 34, 3) := by decide +kernel
theorem dX12_sets_4 : decode cX12_sets 4 = .ok (.aload_n 0, 1) := by decide +kernel
theorem dX12_sets_5 : decode cX12_sets 5 = .ok (.getfield 34, 3) := by decide +kernel
theorem dX12_sets_8 : decode cX12_sets 8 = .ok (.invokeinterface 121 1, 5) := by decide +kernel
theorem dX12_sets_13 : decode cX12_sets 13 = .ok (.iconst 1, 1) := by decide +kernel
theorem dX12_sets_14 : decode cX12_sets 14 = .ok (.isub, 1) := by decide +kernel
theorem dX12_sets_15 : decode cX12_sets 15 = .ok (.invokeinterface 125 2, 5) := by decide +kernel
theorem dX12_sets_20 : decode cX12_sets 20 = .ok (.checkcast 129, 3) := by decide +kernel
theorem dX12_sets_23 : decode cX12_sets 23 = .ok (.areturn, 1) := by decide +kernel
set_option maxRecDepth 20000 in
theorem ggX12_groups_X12_sets : GoodIn wsX12_groups wsX12_sets := goodIn_s _ [(5, 42)] rfl (by decide +kernel)
set_option maxRecDepth 20000 in
theorem gX12_groups_X12_sets : GoodIn wsX12_groups (wsV RX12 130 RX12 yX12_sets wsX12_sets) := goodIn_app (goodIn_of _ (by decide +kernel)) ggX12_groups_X12_sets
theorem dX12_groups_0 : decode cX12_groups 0 = .ok (.aload_n 0, 1) := by decide +kernel
theorem dX12_groups_1 : decode cX12_groups 1 = .ok (.invokevirtual 130, 3) := by decide +kernel
theorem dX12_groups_4 : decode cX12_groups 4 = .ok (.arraylength, 1) := by decide +kernel
theorem dX12_groups_5 : decode cX12_groups 5 = .ok (.ireturn, 1) := by decide +kernel
set_option maxRecDepth 20000 in
theorem ggX12_groupOf_X12_sets : GoodIn wsX12_groupOf wsX12_sets := goodIn_s _ [(5, 42)] rfl (by decide +kernel)
set_option maxRecDepth 20000 in
theorem gX12_groupOf_X12_sets : GoodIn wsX12_groupOf (wsV RX12 130 RX12 yX12_sets wsX12_sets) := goodIn_app (goodIn_of _ (by decide +kernel)) ggX12_groupOf_X12_sets
theorem dX12_groupOf_0 : decode cX12_groupOf 0 = .ok (.iconst 0, 1) := by decide +kernel
theorem dX12_groupOf_1 : decode cX12_groupOf 1 = .ok (.istore_n 2, 1) := by decide +kernel
theorem dX12_groupOf_2 : decode cX12_groupOf 2 = .ok (.aload_n 0, 1) := by decide +kernel
theorem dX12_groupOf_3 : decode cX12_groupOf 3 = .ok (.invokevirtual 130, 3) := by decide +kernel
theorem dX12_groupOf_6 : decode cX12_groupOf 6 = .ok (.iload_n 2, 1) := by decide +kernel
theorem dX12_groupOf_7 : decode cX12_groupOf 7 = .ok (.iaload, 1) := by decide +kernel
theorem dX12_groupOf_8 : decode cX12_groupOf 8 = .ok (.iload_n 1, 1) := by decide +kernel
theorem dX12_groupOf_9 : decode cX12_groupOf 9 = .ok (.ishr, 1) := by decide +kernel
theorem dX12_groupOf_10 : decode cX12_groupOf 10 = .ok (.iconst 1, 1) := by decide +kernel
theorem dX12_groupOf_11 : decode cX12_groupOf 11 = .ok (.iand, 1) := by decide +kernel
theorem dX12_groupOf_12 : decode cX12_groupOf 12 = .ok (.ifCond .ne 9, 3) := by decide +kernel
theorem dX12_groupOf_15 : decode cX12_groupOf 15 = .ok (.iinc 2 1, 3) := by decide +kernel
theorem dX12_groupOf_18 : decode cX12_groupOf 18 = .ok (.goto (-16), 3) := by decide +kernel
theorem dX12_groupOf_21 : decode cX12_groupOf 21 = .ok (.iload_n 2, 1) := by decide +kernel
theorem dX12_groupOf_22 : decode cX12_groupOf 22 = .ok (.ireturn, 1) := by decide +kernel
theorem dX12_weightOf_0 : decode cX12_weightOf 0 = .ok (.iconst 0, 1) := by decide +kernel
theorem dX12_weightOf_1 : decode cX12_weightOf 1 = .ok (.istore_n 2, 1) := by decide +kernel
theorem dX12_weightOf_2 : decode cX12_weightOf 2 = .ok (.iconst 0, 1) := by decide +kernel
theorem dX12_weightOf_3 : decode cX12_weightOf 3 = .ok (.istore_n 3, 1) := by decide +kernel
theorem dX12_weightOf_4 : decode cX12_weightOf 4 = .ok (.iload_n 3, 1) := by decide +kernel
theorem dX12_weightOf_5 : decode cX12_weightOf 5 = .ok (.aload_n 0, 1) := by decide +kernel
theorem dX12_weightOf_6 : decode cX12_weightOf 6 = .ok (.getfield 87, 3) := by decide +kernel
theorem dX12_weightOf_9 : decode cX12_weightOf 9 = .ok (.if_icmp .ge 24, 3) := by decide +kernel
theorem dX12_weightOf_12 : decode cX12_weightOf 12 = .ok (.iload_n 2, 1) := by decide +kernel
theorem dX12_weightOf_13 : decode cX12_weightOf 13 = .ok (.iload_n 1, 1) := by decide +kernel
theorem dX12_weightOf_14 : decode cX12_weightOf 14 = .ok (.iload_n 3, 1) := by decide +kernel
theorem dX12_weightOf_15 : decode cX12_weightOf 15 = .ok (.ishr, 1) := by decide +kernel
theorem dX12_weightOf_16 : decode cX12_weightOf 16 = .ok (.iconst 1, 1) := by decide +kernel
theorem dX12_weightOf_17 : decode cX12_weightOf 17 = .ok (.iand, 1) := by decide +kernel
theorem dX12_weightOf_18 : decode cX12_weightOf 18 = .ok (.aload_n 0, 1) := by decide +kernel
theorem dX12_weightOf_19 : decode cX12_weightOf 19 = .ok (.getfield 13, 3) := by decide +kernel
theorem dX12_weightOf_22 : decode cX12_weightOf 22 = .ok (.iload_n 3, 1) := by decide +kernel
theorem dX12_weightOf_23 : decode cX12_weightOf 23 = .ok (.iaload, 1) := by decide +kernel
theorem dX12_weightOf_24 : decode cX12_weightOf 24 = .ok (.imul, 1) := by decide +kernel
theorem dX12_weightOf_25 : decode cX12_weightOf 25 = .ok (.iadd, 1) := by decide +kernel
theorem dX12_weightOf_26 : decode cX12_weightOf 26 = .ok (.istore_n 2, 1) := by decide +kernel
theorem dX12_weightOf_27 : decode cX12_weightOf 27 = .ok (.iinc 3 1, 3) := by decide +kernel
theorem dX12_weightOf_30 : decode cX12_weightOf 30 = .ok (.goto (-26), 3) := by decide +kernel
theorem dX12_weightOf_33 : decode cX12_weightOf 33 = .ok (.iload_n 2, 1) := by decide +kernel
theorem dX12_weightOf_34 : decode cX12_weightOf 34 = .ok (.ireturn, 1) := by decide +kernel
theorem dX12_all_0 : decode cX12_all 0 = .ok (.iconst 1, 1) := by decide +kernel
theorem dX12_all_1 : decode cX12_all 1 = .ok (.aload_n 0, 1) := by decide +kernel
theorem dX12_all_2 : decode cX12_all 2 = .ok (.getfield 87, 3) := by decide +kernel
theorem dX12_all_5 : decode cX12_all 5 = .ok (.ishl, 1) := by decide +kernel
theorem dX12_all_6 : decode cX12_all 6 = .ok (.iconst 1, 1) := by decide +kernel
theorem dX12_all_7 : decode cX12_all 7 = .ok (.isub, 1) := by decide +kernel
theorem dX12_all_8 : decode cX12_all 8 = .ok (.ireturn, 1) := by decide +kernel
theorem dX12_inPart_0 : decode cX12_inPart 0 = .ok (.iconst 0, 1) := by decide +kernel
theorem dX12_inPart_1 : decode cX12_inPart 1 = .ok (.istore_n 2, 1) := by decide +kernel
theorem dX12_inPart_2 : decode cX12_inPart 2 = .ok (.iconst 0, 1) := by decide +kernel
theorem dX12_inPart_3 : decode cX12_inPart 3 = .ok (.istore_n 3, 1) := by decide +kernel
theorem dX12_inPart_4 : decode cX12_inPart 4 = .ok (.iload_n 3, 1) := by decide +kernel
theorem dX12_inPart_5 : decode cX12_inPart 5 = .ok (.aload_n 0, 1) := by decide +kernel
theorem dX12_inPart_6 : decode cX12_inPart 6 = .ok (.getfield 87, 3) := by decide +kernel
theorem dX12_inPart_9 : decode cX12_inPart 9 = .ok (.if_icmp .ge 29, 3) := by decide +kernel
theorem dX12_inPart_12 : decode cX12_inPart 12 = .ok (.iload_n 2, 1) := by decide +kernel
theorem dX12_inPart_13 : decode cX12_inPart 13 = .ok (.aload_n 0, 1) := by decide +kernel
theorem dX12_inPart_14 : decode cX12_inPart 14 = .ok (.getfield 17, 3) := by decide +kernel
theorem dX12_inPart_17 : decode cX12_inPart 17 = .ok (.iload_n 3, 1) := by decide +kernel
theorem dX12_inPart_18 : decode cX12_inPart 18 = .ok (.iaload, 1) := by decide +kernel
theorem dX12_inPart_19 : decode cX12_inPart 19 = .ok (.iload_n 1, 1) := by decide +kernel
theorem dX12_inPart_20 : decode cX12_inPart 20 = .ok (.if_icmp .ne 9, 3) := by decide +kernel
theorem dX12_inPart_23 : decode cX12_inPart 23 = .ok (.iconst 1, 1) := by decide +kernel
theorem dX12_inPart_24 : decode cX12_inPart 24 = .ok (.iload_n 3, 1) := by decide +kernel
theorem dX12_inPart_25 : decode cX12_inPart 25 = .ok (.ishl, 1) := by decide +kernel
theorem dX12_inPart_26 : decode cX12_inPart 26 = .ok (.goto 4, 3) := by decide +kernel
theorem dX12_inPart_29 : decode cX12_inPart 29 = .ok (.iconst 0, 1) := by decide +kernel
theorem dX12_inPart_30 : decode cX12_inPart 30 = .ok (.ior, 1) := by decide +kernel
theorem dX12_inPart_31 : decode cX12_inPart 31 = .ok (.istore_n 2, 1) := by decide +kernel
theorem dX12_inPart_32 : decode cX12_inPart 32 = .ok (.iinc 3 1, 3) := by decide +kernel
theorem dX12_inPart_35 : decode cX12_inPart 35 = .ok (.goto (-31), 3) := by decide +kernel
theorem dX12_inPart_38 : decode cX12_inPart 38 = .ok (.iload_n 2, 1) := by decide +kernel
theorem dX12_inPart_39 : decode cX12_inPart 39 = .ok (.ireturn, 1) := by decide +kernel
theorem dX12_links_0 : decode cX12_links 0 = .ok (.iconst 0, 1) := by decide +kernel
theorem dX12_links_1 : decode cX12_links 1 = .ok (.istore_n 3, 1) := by decide +kernel
theorem dX12_links_2 : decode cX12_links 2 = .ok (.iconst 0, 1) := by decide +kernel
theorem dX12_links_3 : decode cX12_links 3 = .ok (.istore 4, 2) := by decide +kernel
theorem dX12_links_5 : decode cX12_links 5 = .ok (.iload 4, 2) := by decide +kernel
theorem dX12_links_7 : decode cX12_links 7 = .ok (.aload_n 0, 1) := by decide +kernel
theorem dX12_links_8 : decode cX12_links 8 = .ok (.getfield 87, 3) := by decide +kernel
theorem dX12_links_11 : decode cX12_links 11 = .ok (.if_icmp .ge 57, 3) := by decide +kernel
theorem dX12_links_14 : decode cX12_links 14 = .ok (.iconst 0, 1) := by decide +kernel
theorem dX12_links_15 : decode cX12_links 15 = .ok (.istore 5, 2) := by decide +kernel
theorem dX12_links_17 : decode cX12_links 17 = .ok (.iload 5, 2) := by decide +kernel
theorem dX12_links_19 : decode cX12_links 19 = .ok (.aload_n 0, 1) := by decide +kernel
theorem dX12_links_20 : decode cX12_links 20 = .ok (.getfield 87, 3) := by decide +kernel
theorem dX12_links_23 : decode cX12_links 23 = .ok (.if_icmp .ge 39, 3) := by decide +kernel
theorem dX12_links_26 : decode cX12_links 26 = .ok (.iload_n 1, 1) := by decide +kernel
theorem dX12_links_27 : decode cX12_links 27 = .ok (.iload 4, 2) := by decide +kernel
theorem dX12_links_29 : decode cX12_links 29 = .ok (.ishr, 1) := by decide +kernel
theorem dX12_links_30 : decode cX12_links 30 = .ok (.iconst 1, 1) := by decide +kernel
theorem dX12_links_31 : decode cX12_links 31 = .ok (.iand, 1) := by decide +kernel
theorem dX12_links_32 : decode cX12_links 32 = .ok (.iconst 1, 1) := by decide +kernel
theorem dX12_links_33 : decode cX12_links 33 = .ok (.if_icmp .ne 29, 3) := by decide +kernel
theorem dX12_links_36 : decode cX12_links 36 = .ok (.iload_n 3, 1) := by decide +kernel
theorem dX12_links_37 : decode cX12_links 37 = .ok (.iload_n 2, 1) := by decide +kernel
theorem dX12_links_38 : decode cX12_links 38 = .ok (.iload 5, 2) := by decide +kernel
theorem dX12_links_40 : decode cX12_links 40 = .ok (.ishr, 1) := by decide +kernel
theorem dX12_links_41 : decode cX12_links 41 = .ok (.iconst 1, 1) := by decide +kernel
theorem dX12_links_42 : decode cX12_links 42 = .ok (.iand, 1) := by decide +kernel
theorem dX12_links_43 : decode cX12_links 43 = .ok (.aload_n 0, 1) := by decide +kernel
theorem dX12_links_44 : decode cX12_links 44 = .ok (.getfield 28, 3) := by decide +kernel
theorem dX12_links_47 : decode cX12_links 47 = .ok (.iload 4, 2) := by decide +kernel
theorem dX12_links_49 : decode cX12_links 49 = .ok (.aaload, 1) := by decide +kernel
theorem dX12_links_50 : decode cX12_links 50 = .ok (.iload 5, 2) := by decide +kernel
theorem dX12_links_52 : decode cX12_links 52 = .ok (.iaload, 1) := by decide +kernel
theorem dX12_links_53 : decode cX12_links 53 = .ok (.imul, 1) := by decide +kernel
theorem dX12_links_54 : decode cX12_links 54 = .ok (.iadd, 1) := by decide +kernel
theorem dX12_links_55 : decode cX12_links 55 = .ok (.istore_n 3, 1) := by decide +kernel
theorem dX12_links_56 : decode cX12_links 56 = .ok (.iinc 5 1, 3) := by decide +kernel
theorem dX12_links_59 : decode cX12_links 59 = .ok (.goto (-42), 3) := by decide +kernel
theorem dX12_links_62 : decode cX12_links 62 = .ok (.iinc 4 1, 3) := by decide +kernel
theorem dX12_links_65 : decode cX12_links 65 = .ok (.goto (-60), 3) := by decide +kernel
theorem dX12_links_68 : decode cX12_links 68 = .ok (.iload_n 3, 1) := by decide +kernel
theorem dX12_links_69 : decode cX12_links 69 = .ok (.ireturn, 1) := by decide +kernel
set_option maxRecDepth 20000 in
theorem ggX12_limit_X12_all : GoodIn wsX12_limit wsX12_all := goodIn_s _ [(7, 2), (14, 13)] rfl (by decide +kernel)
set_option maxRecDepth 20000 in
theorem gX12_limit_X12_all : GoodIn wsX12_limit (wsV RX12 134 RX12 yX12_all wsX12_all) := goodIn_app (goodIn_of _ (by decide +kernel)) ggX12_limit_X12_all
set_option maxRecDepth 20000 in
theorem ggX12_limit_X12_weightOf : GoodIn wsX12_limit wsX12_weightOf := goodIn_s _ [(12, 1), (8, 1), (13, 14)] rfl (by decide +kernel)
set_option maxRecDepth 20000 in
theorem gX12_limit_X12_weightOf : GoodIn wsX12_limit (wsV RX12 137 RX12 yX12_weightOf wsX12_weightOf) := goodIn_app (goodIn_of _ (by decide +kernel)) ggX12_limit_X12_weightOf
theorem dX12_limit_0 : decode cX12_limit 0 = .ok (.iconst 0, 1) := by decide +kernel
theorem dX12_limit_1 : decode cX12_limit 1 = .ok (.istore_n 1, 1) := by decide +kernel
theorem dX12_limit_2 : decode cX12_limit 2 = .ok (.aload_n 0, 1) := by decide +kernel
theorem dX12_limit_3 : decode cX12_limit 3 = .ok (.getfield 7, 3) := by decide +kernel
theorem dX12_limit_6 : decode cX12_limit 6 = .ok (.iload_n 1, 1) := by decide +kernel
theorem dX12_limit_7 : decode cX12_limit 7 = .ok (.imul, 1) := by decide +kernel
theorem dX12_limit_8 : decode cX12_limit 8 = .ok (.aload_n 0, 1) := by decide +kernel
theorem dX12_limit_9 : decode cX12_limit 9 = .ok (.aload_n 0, 1) := by decide +kernel
theorem dX12_limit_10 : decode cX12_limit 10 = .ok (.invokevirtual 134, 3) := by decide +kernel
theorem dX12_limit_13 : decode cX12_limit 13 = .ok (.invokevirtual 137, 3) := by decide +kernel
theorem dX12_limit_16 : decode cX12_limit 16 = .ok (.if_icmp .ge 9, 3) := by decide +kernel
theorem dX12_limit_19 : decode cX12_limit 19 = .ok (.iinc 1 1, 3) := by decide +kernel
theorem dX12_limit_22 : decode cX12_limit 22 = .ok (.goto (-20), 3) := by decide +kernel
theorem dX12_limit_25 : decode cX12_limit 25 = .ok (.iload_n 1, 1) := by decide +kernel
theorem dX12_limit_26 : decode cX12_limit 26 = .ok (.aload_n 0, 1) := by decide +kernel
theorem dX12_limit_27 : decode cX12_limit 27 = .ok (.getfield 79, 3) := by decide +kernel
theorem dX12_limit_30 : decode cX12_limit 30 = .ok (.iadd, 1) := by decide +kernel
theorem dX12_limit_31 : decode cX12_limit 31 = .ok (.ireturn, 1) := by decide +kernel
set_option maxRecDepth 20000 in
theorem ggX12_debts_X12_inPart : GoodIn wsX12_debts wsX12_inPart := goodIn_s _ [(10, 3), (27, 13)] rfl (by decide +kernel)
set_option maxRecDepth 20000 in
theorem gX12_debts_X12_inPart : GoodIn wsX12_debts (wsV RX12 141 RX12 yX12_inPart wsX12_inPart) := goodIn_app (goodIn_of _ (by decide +kernel)) ggX12_debts_X12_inPart
set_option maxRecDepth 20000 in
theorem ggX12_debts_X12_weightOf : GoodIn wsX12_debts wsX12_weightOf := goodIn_s _ [(16, 1), (11, 1), (17, 1), (27, 13)] rfl (by decide +kernel)
set_option maxRecDepth 20000 in
theorem gX12_debts_X12_weightOf : GoodIn wsX12_debts (wsV RX12 137 RX12 yX12_weightOf wsX12_weightOf) := goodIn_app (goodIn_of _ (by decide +kernel)) ggX12_debts_X12_weightOf
set_option maxRecDepth 20000 in
theorem ggX12_debts_X12_limit : GoodIn wsX12_debts wsX12_limit := goodIn_s _ [(21, 1), (1, 1), (22, 4), (9, 1), (26, 1), (11, 1), (13, 5), (27, 13)] rfl (by decide +kernel)
set_option maxRecDepth 20000 in
theorem gX12_debts_X12_limit : GoodIn wsX12_debts (wsV RX12 144 RX12 yX12_limit wsX12_limit) := goodIn_app (goodIn_of _ (by decide +kernel)) ggX12_debts_X12_limit
theorem dX12_debts_0 : decode cX12_debts 0 = .ok (.iconst 0, 1) := by decide +kernel
theorem dX12_debts_1 : decode cX12_debts 1 = .ok (.istore_n 1, 1) := by decide +kernel
theorem dX12_debts_2 : decode cX12_debts 2 = .ok (.iconst 0, 1) := by decide +kernel
theorem dX12_debts_3 : decode cX12_debts 3 = .ok (.istore_n 2, 1) := by decide +kernel
theorem dX12_debts_4 : decode cX12_debts 4 = .ok (.iload_n 2, 1) := by decide +kernel
theorem dX12_debts_5 : decode cX12_debts 5 = .ok (.aload_n 0, 1) := by decide +kernel
theorem dX12_debts_6 : decode cX12_debts 6 = .ok (.getfield 7, 3) := by decide +kernel
theorem dX12_debts_9 : decode cX12_debts 9 = .ok (.if_icmp .ge 30, 3) := by decide +kernel
theorem dX12_debts_12 : decode cX12_debts 12 = .ok (.iload_n 1, 1) := by decide +kernel
theorem dX12_debts_13 : decode cX12_debts 13 = .ok (.iconst 0, 1) := by decide +kernel
theorem dX12_debts_14 : decode cX12_debts 14 = .ok (.aload_n 0, 1) := by decide +kernel
theorem dX12_debts_15 : decode cX12_debts 15 = .ok (.aload_n 0, 1) := by decide +kernel
theorem dX12_debts_16 : decode cX12_debts 16 = .ok (.iload_n 2, 1) := by decide +kernel
theorem dX12_debts_17 : decode cX12_debts 17 = .ok (.invokevirtual 141, 3) := by decide +kernel
theorem dX12_debts_20 : decode cX12_debts 20 = .ok (.invokevirtual 137, 3) := by decide +kernel
theorem dX12_debts_23 : decode cX12_debts 23 = .ok (.aload_n 0, 1) := by decide +kernel
theorem dX12_debts_24 : decode cX12_debts 24 = .ok (.invokevirtual 144, 3) := by decide +kernel
theorem dX12_debts_27 : decode cX12_debts 27 = .ok (.isub, 1) := by decide +kernel
theorem dX12_debts_28 : decode cX12_debts 28 = .ok (.invokestatic 147, 3) := by decide +kernel
theorem dX12_debts_31 : decode cX12_debts 31 = .ok (.iadd, 1) := by decide +kernel
theorem dX12_debts_32 : decode cX12_debts 32 = .ok (.istore_n 1, 1) := by decide +kernel
theorem dX12_debts_33 : decode cX12_debts 33 = .ok (.iinc 2 1, 3) := by decide +kernel
theorem dX12_debts_36 : decode cX12_debts 36 = .ok (.goto (-32), 3) := by decide +kernel
theorem dX12_debts_39 : decode cX12_debts 39 = .ok (.iload_n 1, 1) := by decide +kernel
theorem dX12_debts_40 : decode cX12_debts 40 = .ok (.ireturn, 1) := by decide +kernel
theorem dX12_cut_0 : decode cX12_cut 0 = .ok (.iconst 0, 1) := by decide +kernel
theorem dX12_cut_1 : decode cX12_cut 1 = .ok (.istore_n 1, 1) := by decide +kernel
theorem dX12_cut_2 : decode cX12_cut 2 = .ok (.iconst 0, 1) := by decide +kernel
theorem dX12_cut_3 : decode cX12_cut 3 = .ok (.istore_n 2, 1) := by decide +kernel
theorem dX12_cut_4 : decode cX12_cut 4 = .ok (.iload_n 2, 1) := by decide +kernel
theorem dX12_cut_5 : decode cX12_cut 5 = .ok (.aload_n 0, 1) := by decide +kernel
theorem dX12_cut_6 : decode cX12_cut 6 = .ok (.getfield 87, 3) := by decide +kernel
theorem dX12_cut_9 : decode cX12_cut 9 = .ok (.if_icmp .ge 52, 3) := by decide +kernel
theorem dX12_cut_12 : decode cX12_cut 12 = .ok (.iconst 0, 1) := by decide +kernel
theorem dX12_cut_13 : decode cX12_cut 13 = .ok (.istore_n 3, 1) := by decide +kernel
theorem dX12_cut_14 : decode cX12_cut 14 = .ok (.iload_n 3, 1) := by decide +kernel
theorem dX12_cut_15 : decode cX12_cut 15 = .ok (.iload_n 2, 1) := by decide +kernel
theorem dX12_cut_16 : decode cX12_cut 16 = .ok (.if_icmp .ge 39, 3) := by decide +kernel
theorem dX12_cut_19 : decode cX12_cut 19 = .ok (.iload_n 1, 1) := by decide +kernel
theorem dX12_cut_20 : decode cX12_cut 20 = .ok (.aload_n 0, 1) := by decide +kernel
theorem dX12_cut_21 : decode cX12_cut 21 = .ok (.getfield 17, 3) := by decide +kernel
theorem dX12_cut_24 : decode cX12_cut 24 = .ok (.iload_n 2, 1) := by decide +kernel
theorem dX12_cut_25 : decode cX12_cut 25 = .ok (.iaload, 1) := by decide +kernel
theorem dX12_cut_26 : decode cX12_cut 26 = .ok (.aload_n 0, 1) := by decide +kernel
theorem dX12_cut_27 : decode cX12_cut 27 = .ok (.getfield 17, 3) := by decide +kernel
theorem dX12_cut_30 : decode cX12_cut 30 = .ok (.iload_n 3, 1) := by decide +kernel
theorem dX12_cut_31 : decode cX12_cut 31 = .ok (.iaload, 1) := by decide +kernel
theorem dX12_cut_32 : decode cX12_cut 32 = .ok (.if_icmp .ne 7, 3) := by decide +kernel
theorem dX12_cut_35 : decode cX12_cut 35 = .ok (.iconst 0, 1) := by decide +kernel
theorem dX12_cut_36 : decode cX12_cut 36 = .ok (.goto 11, 3) := by decide +kernel
theorem dX12_cut_39 : decode cX12_cut 39 = .ok (.aload_n 0, 1) := by decide +kernel
theorem dX12_cut_40 : decode cX12_cut 40 = .ok (.getfield 28, 3) := by decide +kernel
theorem dX12_cut_43 : decode cX12_cut 43 = .ok (.iload_n 2, 1) := by decide +kernel
theorem dX12_cut_44 : decode cX12_cut 44 = .ok (.aaload, 1) := by decide +kernel
theorem dX12_cut_45 : decode cX12_cut 45 = .ok (.iload_n 3, 1) := by decide +kernel
theorem dX12_cut_46 : decode cX12_cut 46 = .ok (.iaload, 1) := by decide +kernel
theorem dX12_cut_47 : decode cX12_cut 47 = .ok (.iadd, 1) := by decide +kernel
theorem dX12_cut_48 : decode cX12_cut 48 = .ok (.istore_n 1, 1) := by decide +kernel
theorem dX12_cut_49 : decode cX12_cut 49 = .ok (.iinc 3 1, 3) := by decide +kernel
theorem dX12_cut_52 : decode cX12_cut 52 = .ok (.goto (-38), 3) := by decide +kernel
theorem dX12_cut_55 : decode cX12_cut 55 = .ok (.iinc 2 1, 3) := by decide +kernel
theorem dX12_cut_58 : decode cX12_cut 58 = .ok (.goto (-54), 3) := by decide +kernel
theorem dX12_cut_61 : decode cX12_cut 61 = .ok (.iload_n 1, 1) := by decide +kernel
theorem dX12_cut_62 : decode cX12_cut 62 = .ok (.ireturn, 1) := by decide +kernel
set_option maxRecDepth 20000 in
theorem ggX12_partOf_X12_sets : GoodIn wsX12_partOf wsX12_sets := goodIn_s _ [(6, 26), (37, 16)] rfl (by decide +kernel)
set_option maxRecDepth 20000 in
theorem gX12_partOf_X12_sets : GoodIn wsX12_partOf (wsV RX12 130 RX12 yX12_sets wsX12_sets) := goodIn_app (goodIn_of _ (by decide +kernel)) ggX12_partOf_X12_sets
set_option maxRecDepth 20000 in
theorem ggX12_partOf_J6_numberOfTrailingZeros_0f7a4 : GoodIn wsX12_partOf wsJ6_numberOfTrailingZeros_0f7a4 := goodIn_s _ [(35, 2)] rfl (by decide +kernel)
set_option maxRecDepth 20000 in
theorem gX12_partOf_J6_numberOfTrailingZeros_0f7a4 : GoodIn wsX12_partOf (va_wsS RX12 153 yJ6_numberOfTrailingZeros_0f7a4 wsJ6_numberOfTrailingZeros_0f7a4) := goodIn_app (goodIn_of _ (by decide +kernel)) ggX12_partOf_J6_numberOfTrailingZeros_0f7a4
theorem dX12_partOf_0 : decode cX12_partOf 0 = .ok (.aload_n 0, 1) := by decide +kernel
theorem dX12_partOf_1 : decode cX12_partOf 1 = .ok (.getfield 17, 3) := by decide +kernel
theorem dX12_partOf_4 : decode cX12_partOf 4 = .ok (.aload_n 0, 1) := by decide +kernel
theorem dX12_partOf_5 : decode cX12_partOf 5 = .ok (.invokevirtual 130, 3) := by decide +kernel
theorem dX12_partOf_8 : decode cX12_partOf 8 = .ok (.iload_n 1, 1) := by decide +kernel
theorem dX12_partOf_9 : decode cX12_partOf 9 = .ok (.iaload, 1) := by decide +kernel
theorem dX12_partOf_10 : decode cX12_partOf 10 = .ok (.invokestatic 153, 3) := by decide +kernel
theorem dX12_partOf_13 : decode cX12_partOf 13 = .ok (.iaload, 1) := by decide +kernel
theorem dX12_partOf_14 : decode cX12_partOf 14 = .ok (.ireturn, 1) := by decide +kernel
set_option maxRecDepth 20000 in
theorem ggX12_debtsIf_X12_inPart : GoodIn wsX12_debtsIf wsX12_inPart := goodIn_s _ [(10, 3), (56, 13)] rfl (by decide +kernel)
set_option maxRecDepth 20000 in
theorem gX12_debtsIf_X12_inPart : GoodIn wsX12_debtsIf (wsV RX12 141 RX12 yX12_inPart wsX12_inPart) := goodIn_app (goodIn_of _ (by decide +kernel)) ggX12_debtsIf_X12_inPart
set_option maxRecDepth 20000 in
theorem ggX12_debtsIf_X12_sets : GoodIn wsX12_debtsIf wsX12_sets := goodIn_s _ [(16, 26), (56, 16)] rfl (by decide +kernel)
set_option maxRecDepth 20000 in
theorem gX12_debtsIf_X12_sets : GoodIn wsX12_debtsIf (wsV RX12 130 RX12 yX12_sets wsX12_sets) := goodIn_app (goodIn_of _ (by decide +kernel)) ggX12_debtsIf_X12_sets
set_option maxRecDepth 20000 in
theorem ggX12_debtsIf_X12_weightOf : GoodIn wsX12_debtsIf wsX12_weightOf := goodIn_s _ [(45, 1), (11, 1), (46, 1), (56, 13)] rfl (by decide +kernel)
set_option maxRecDepth 20000 in
theorem gX12_debtsIf_X12_weightOf : GoodIn wsX12_debtsIf (wsV RX12 137 RX12 yX12_weightOf wsX12_weightOf) := goodIn_app (goodIn_of _ (by decide +kernel)) ggX12_debtsIf_X12_weightOf
set_option maxRecDepth 20000 in
theorem ggX12_debtsIf_X12_limit : GoodIn wsX12_debtsIf wsX12_limit := goodIn_s _ [(50, 1), (1, 1), (51, 4), (9, 1), (55, 1), (11, 1), (42, 5), (56, 13)] rfl (by decide +kernel)
set_option maxRecDepth 20000 in
theorem gX12_debtsIf_X12_limit : GoodIn wsX12_debtsIf (wsV RX12 144 RX12 yX12_limit wsX12_limit) := goodIn_app (goodIn_of _ (by decide +kernel)) ggX12_debtsIf_X12_limit
theorem dX12_debtsIf_0 : decode cX12_debtsIf 0 = .ok (.iconst 0, 1) := by decide +kernel
theorem dX12_debtsIf_1 : decode cX12_debtsIf 1 = .ok (.istore_n 3, 1) := by decide +kernel
theorem dX12_debtsIf_2 : decode cX12_debtsIf 2 = .ok (.iconst 0, 1) := by decide +kernel
theorem dX12_debtsIf_3 : decode cX12_debtsIf 3 = .ok (.istore 4, 2) := by decide +kernel
theorem dX12_debtsIf_5 : decode cX12_debtsIf 5 = .ok (.iload 4, 2) := by decide +kernel
theorem dX12_debtsIf_7 : decode cX12_debtsIf 7 = .ok (.aload_n 0, 1) := by decide +kernel
theorem dX12_debtsIf_8 : decode cX12_debtsIf 8 = .ok (.getfield 7, 3) := by decide +kernel
theorem dX12_debtsIf_11 : decode cX12_debtsIf 11 = .ok (.if_icmp .ge 62, 3) := by decide +kernel
theorem dX12_debtsIf_14 : decode cX12_debtsIf 14 = .ok (.iload_n 3, 1) := by decide +kernel
theorem dX12_debtsIf_15 : decode cX12_debtsIf 15 = .ok (.iconst 0, 1) := by decide +kernel
theorem dX12_debtsIf_16 : decode cX12_debtsIf 16 = .ok (.aload_n 0, 1) := by decide +kernel
theorem dX12_debtsIf_17 : decode cX12_debtsIf 17 = .ok (.iload 4, 2) := by decide +kernel
theorem dX12_debtsIf_19 : decode cX12_debtsIf 19 = .ok (.iload_n 2, 1) := by decide +kernel
theorem dX12_debtsIf_20 : decode cX12_debtsIf 20 = .ok (.if_icmp .ne 19, 3) := by decide +kernel
theorem dX12_debtsIf_23 : decode cX12_debtsIf 23 = .ok (.aload_n 0, 1) := by decide +kernel
theorem dX12_debtsIf_24 : decode cX12_debtsIf 24 = .ok (.iload 4, 2) := by decide +kernel
theorem dX12_debtsIf_26 : decode cX12_debtsIf 26 = .ok (.invokevirtual 141, 3) := by decide +kernel
theorem dX12_debtsIf_29 : decode cX12_debtsIf 29 = .ok (.aload_n 0, 1) := by decide +kernel
theorem dX12_debtsIf_30 : decode cX12_debtsIf 30 = .ok (.invokevirtual 130, 3) := by decide +kernel
theorem dX12_debtsIf_33 : decode cX12_debtsIf 33 = .ok (.iload_n 1, 1) := by decide +kernel
theorem dX12_debtsIf_34 : decode cX12_debtsIf 34 = .ok (.iaload, 1) := by decide +kernel
theorem dX12_debtsIf_35 : decode cX12_debtsIf 35 = .ok (.ior, 1) := by decide +kernel
theorem dX12_debtsIf_36 : decode cX12_debtsIf 36 = .ok (.goto 18, 3) := by decide +kernel
theorem dX12_debtsIf_39 : decode cX12_debtsIf 39 = .ok (.aload_n 0, 1) := by decide +kernel
theorem dX12_debtsIf_40 : decode cX12_debtsIf 40 = .ok (.iload 4, 2) := by decide +kernel
theorem dX12_debtsIf_42 : decode cX12_debtsIf 42 = .ok (.invokevirtual 141, 3) := by decide +kernel
theorem dX12_debtsIf_45 : decode cX12_debtsIf 45 = .ok (.aload_n 0, 1) := by decide +kernel
theorem dX12_debtsIf_46 : decode cX12_debtsIf 46 = .ok (.invokevirtual 130, 3) := by decide +kernel
theorem dX12_debtsIf_49 : decode cX12_debtsIf 49 = .ok (.iload_n 1, 1) := by decide +kernel
theorem dX12_debtsIf_50 : decode cX12_debtsIf 50 = .ok (.iaload, 1) := by decide +kernel
theorem dX12_debtsIf_51 : decode cX12_debtsIf 51 = .ok (.iconst (-1), 1) := by decide +kernel
theorem dX12_debtsIf_52 : decode cX12_debtsIf 52 = .ok (.ixor, 1) := by decide +kernel
theorem dX12_debtsIf_53 : decode cX12_debtsIf 53 = .ok (.iand, 1) := by decide +kernel
theorem dX12_debtsIf_54 : decode cX12_debtsIf 54 = .ok (.invokevirtual 137, 3) := by decide +kernel
theorem dX12_debtsIf_57 : decode cX12_debtsIf 57 = .ok (.aload_n 0, 1) := by decide +kernel
theorem dX12_debtsIf_58 : decode cX12_debtsIf 58 = .ok (.invokevirtual 144, 3) := by decide +kernel
theorem dX12_debtsIf_61 : decode cX12_debtsIf 61 = .ok (.isub, 1) := by decide +kernel
theorem dX12_debtsIf_62 : decode cX12_debtsIf 62 = .ok (.invokestatic 147, 3) := by decide +kernel
theorem dX12_debtsIf_65 : decode cX12_debtsIf 65 = .ok (.iadd, 1) := by decide +kernel
theorem dX12_debtsIf_66 : decode cX12_debtsIf 66 = .ok (.istore_n 3, 1) := by decide +kernel
theorem dX12_debtsIf_67 : decode cX12_debtsIf 67 = .ok (.iinc 4 1, 3) := by decide +kernel
theorem dX12_debtsIf_70 : decode cX12_debtsIf 70 = .ok (.goto (-65), 3) := by decide +kernel
theorem dX12_debtsIf_73 : decode cX12_debtsIf 73 = .ok (.iload_n 3, 1) := by decide +kernel
theorem dX12_debtsIf_74 : decode cX12_debtsIf 74 = .ok (.ireturn, 1) := by decide +kernel
set_option maxRecDepth 20000 in
theorem ggX12_gain_X12_partOf : GoodIn wsX12_gain wsX12_partOf := goodIn_s _ [(5, 5), (4, 1), (10, 31), (51, 16)] rfl (by decide +kernel)
set_option maxRecDepth 20000 in
theorem gX12_gain_X12_partOf : GoodIn wsX12_gain (wsV RX12 158 RX12 yX12_partOf wsX12_partOf) := goodIn_app (goodIn_of _ (by decide +kernel)) ggX12_gain_X12_partOf
set_option maxRecDepth 20000 in
theorem ggX12_gain_X12_sets : GoodIn wsX12_gain wsX12_sets := goodIn_s _ [(10, 26), (51, 16)] rfl (by decide +kernel)
set_option maxRecDepth 20000 in
theorem gX12_gain_X12_sets : GoodIn wsX12_gain (wsV RX12 130 RX12 yX12_sets wsX12_sets) := goodIn_app (goodIn_of _ (by decide +kernel)) ggX12_gain_X12_sets
set_option maxRecDepth 20000 in
theorem ggX12_gain_X12_inPart : GoodIn wsX12_gain wsX12_inPart := goodIn_s _ [(44, 2), (6, 1), (51, 13)] rfl (by decide +kernel)
set_option maxRecDepth 20000 in
theorem gX12_gain_X12_inPart : GoodIn wsX12_gain (wsV RX12 141 RX12 yX12_inPart wsX12_inPart) := goodIn_app (goodIn_of _ (by decide +kernel)) ggX12_gain_X12_inPart
set_option maxRecDepth 20000 in
theorem ggX12_gain_X12_links : GoodIn wsX12_gain wsX12_links := goodIn_s _ [(49, 1), (45, 1), (50, 14)] rfl (by decide +kernel)
set_option maxRecDepth 20000 in
theorem gX12_gain_X12_links : GoodIn wsX12_gain (wsV RX12 161 RX12 yX12_links wsX12_links) := goodIn_app (goodIn_of _ (by decide +kernel)) ggX12_gain_X12_links
theorem dX12_gain_0 : decode cX12_gain 0 = .ok (.aload_n 0, 1) := by decide +kernel
theorem dX12_gain_1 : decode cX12_gain 1 = .ok (.iload_n 1, 1) := by decide +kernel
theorem dX12_gain_2 : decode cX12_gain 2 = .ok (.invokevirtual 158, 3) := by decide +kernel
theorem dX12_gain_5 : decode cX12_gain 5 = .ok (.iload_n 2, 1) := by decide +kernel
theorem dX12_gain_6 : decode cX12_gain 6 = .ok (.if_icmp .ne 7, 3) := by decide +kernel
theorem dX12_gain_9 : decode cX12_gain 9 = .ok (.iconst 0, 1) := by decide +kernel
theorem dX12_gain_10 : decode cX12_gain 10 = .ok (.goto 47, 3) := by decide +kernel
theorem dX12_gain_13 : decode cX12_gain 13 = .ok (.aload_n 0, 1) := by decide +kernel
theorem dX12_gain_14 : decode cX12_gain 14 = .ok (.aload_n 0, 1) := by decide +kernel
theorem dX12_gain_15 : decode cX12_gain 15 = .ok (.invokevirtual 130, 3) := by decide +kernel
theorem dX12_gain_18 : decode cX12_gain 18 = .ok (.iload_n 1, 1) := by decide +kernel
theorem dX12_gain_19 : decode cX12_gain 19 = .ok (.iaload, 1) := by decide +kernel
theorem dX12_gain_20 : decode cX12_gain 20 = .ok (.aload_n 0, 1) := by decide +kernel
theorem dX12_gain_21 : decode cX12_gain 21 = .ok (.iload_n 2, 1) := by decide +kernel
theorem dX12_gain_22 : decode cX12_gain 22 = .ok (.invokevirtual 141, 3) := by decide +kernel
theorem dX12_gain_25 : decode cX12_gain 25 = .ok (.invokevirtual 161, 3) := by decide +kernel
theorem dX12_gain_28 : decode cX12_gain 28 = .ok (.aload_n 0, 1) := by decide +kernel
theorem dX12_gain_29 : decode cX12_gain 29 = .ok (.aload_n 0, 1) := by decide +kernel
theorem dX12_gain_30 : decode cX12_gain 30 = .ok (.invokevirtual 130, 3) := by decide +kernel
theorem dX12_gain_33 : decode cX12_gain 33 = .ok (.iload_n 1, 1) := by decide +kernel
theorem dX12_gain_34 : decode cX12_gain 34 = .ok (.iaload, 1) := by decide +kernel
theorem dX12_gain_35 : decode cX12_gain 35 = .ok (.aload_n 0, 1) := by decide +kernel
theorem dX12_gain_36 : decode cX12_gain 36 = .ok (.aload_n 0, 1) := by decide +kernel
theorem dX12_gain_37 : decode cX12_gain 37 = .ok (.iload_n 1, 1) := by decide +kernel
theorem dX12_gain_38 : decode cX12_gain 38 = .ok (.invokevirtual 158, 3) := by decide +kernel
theorem dX12_gain_41 : decode cX12_gain 41 = .ok (.invokevirtual 141, 3) := by decide +kernel
theorem dX12_gain_44 : decode cX12_gain 44 = .ok (.aload_n 0, 1) := by decide +kernel
theorem dX12_gain_45 : decode cX12_gain 45 = .ok (.invokevirtual 130, 3) := by decide +kernel
theorem dX12_gain_48 : decode cX12_gain 48 = .ok (.iload_n 1, 1) := by decide +kernel
theorem dX12_gain_49 : decode cX12_gain 49 = .ok (.iaload, 1) := by decide +kernel
theorem dX12_gain_50 : decode cX12_gain 50 = .ok (.iconst (-1), 1) := by decide +kernel
theorem dX12_gain_51 : decode cX12_gain 51 = .ok (.ixor, 1) := by decide +kernel
theorem dX12_gain_52 : decode cX12_gain 52 = .ok (.iand, 1) := by decide +kernel
theorem dX12_gain_53 : decode cX12_gain 53 = .ok (.invokevirtual 161, 3) := by decide +kernel
theorem dX12_gain_56 : decode cX12_gain 56 = .ok (.isub, 1) := by decide +kernel
theorem dX12_gain_57 : decode cX12_gain 57 = .ok (.ireturn, 1) := by decide +kernel
set_option maxRecDepth 20000 in
theorem ggX12_why_X12_partOf : GoodIn wsX12_why wsX12_partOf := goodIn_s _ [(6, 5), (5, 1), (11, 31), (74, 16)] rfl (by decide +kernel)
set_option maxRecDepth 20000 in
theorem gX12_why_X12_partOf : GoodIn wsX12_why (wsV RX12 158 RX12 yX12_partOf wsX12_partOf) := goodIn_app (goodIn_of _ (by decide +kernel)) ggX12_why_X12_partOf
set_option maxRecDepth 20000 in
theorem ggX12_why_X12_debtsIf : GoodIn wsX12_why wsX12_debtsIf := goodIn_s _ [(45, 9), (5, 1), (54, 2), (7, 30), (56, 14), (74, 16)] rfl (by decide +kernel)
set_option maxRecDepth 20000 in
theorem gX12_why_X12_debtsIf : GoodIn wsX12_why (wsV RX12 164 RX12 yX12_debtsIf wsX12_debtsIf) := goodIn_app (goodIn_of _ (by decide +kernel)) ggX12_why_X12_debtsIf
set_option maxRecDepth 20000 in
theorem ggX12_why_X12_debts : GoodIn wsX12_why wsX12_debts := goodIn_s _ [(73, 1), (46, 8), (5, 1), (54, 2), (7, 1), (56, 14), (74, 13)] rfl (by decide +kernel)
set_option maxRecDepth 20000 in
theorem gX12_why_X12_debts : GoodIn wsX12_why (wsV RX12 167 RX12 yX12_debts wsX12_debts) := goodIn_app (goodIn_of _ (by decide +kernel)) ggX12_why_X12_debts
theorem dX12_why_0 : decode cX12_why 0 = .ok (.aload_n 0, 1) := by decide +kernel
theorem dX12_why_1 : decode cX12_why 1 = .ok (.iload_n 1, 1) := by decide +kernel
theorem dX12_why_2 : decode cX12_why 2 = .ok (.invokevirtual 158, 3) := by decide +kernel
theorem dX12_why_5 : decode cX12_why 5 = .ok (.iload_n 2, 1) := by decide +kernel
theorem dX12_why_6 : decode cX12_why 6 = .ok (.if_icmp .ne 5, 3) := by decide +kernel
theorem dX12_why_9 : decode cX12_why 9 = .ok (.iconst 1, 1) := by decide +kernel
theorem dX12_why_10 : decode cX12_why 10 = .ok (.ireturn, 1) := by decide +kernel
theorem dX12_why_11 : decode cX12_why 11 = .ok (.aload_n 0, 1) := by decide +kernel
theorem dX12_why_12 : decode cX12_why 12 = .ok (.iload_n 1, 1) := by decide +kernel
theorem dX12_why_13 : decode cX12_why 13 = .ok (.iload_n 2, 1) := by decide +kernel
theorem dX12_why_14 : decode cX12_why 14 = .ok (.invokevirtual 164, 3) := by decide +kernel
theorem dX12_why_17 : decode cX12_why 17 = .ok (.istore_n 3, 1) := by decide +kernel
theorem dX12_why_18 : decode cX12_why 18 = .ok (.iload_n 3, 1) := by decide +kernel
theorem dX12_why_19 : decode cX12_why 19 = .ok (.aload_n 0, 1) := by decide +kernel
theorem dX12_why_20 : decode cX12_why 20 = .ok (.getfield 84, 3) := by decide +kernel
theorem dX12_why_23 : decode cX12_why 23 = .ok (.if_icmp .le 15, 3) := by decide +kernel
theorem dX12_why_26 : decode cX12_why 26 = .ok (.iload_n 3, 1) := by decide +kernel
theorem dX12_why_27 : decode cX12_why 27 = .ok (.aload_n 0, 1) := by decide +kernel
theorem dX12_why_28 : decode cX12_why 28 = .ok (.invokevirtual 167, 3) := by decide +kernel
theorem dX12_why_31 : decode cX12_why 31 = .ok (.if_icmp .le 7, 3) := by decide +kernel
theorem dX12_why_34 : decode cX12_why 34 = .ok (.iconst 2, 1) := by decide +kernel
theorem dX12_why_35 : decode cX12_why 35 = .ok (.goto 4, 3) := by decide +kernel
theorem dX12_why_38 : decode cX12_why 38 = .ok (.iconst 0, 1) := by decide +kernel
theorem dX12_why_39 : decode cX12_why 39 = .ok (.ireturn, 1) := by decide +kernel
set_option maxRecDepth 20000 in
theorem ggX12_mates_X12_groups : GoodIn wsX12_mates wsX12_groups := goodIn_s _ [(6, 4), (5, 1), (10, 26), (67, 16)] rfl (by decide +kernel)
set_option maxRecDepth 20000 in
theorem gX12_mates_X12_groups : GoodIn wsX12_mates (wsV RX12 170 RX12 yX12_groups wsX12_groups) := goodIn_app (goodIn_of _ (by decide +kernel)) ggX12_mates_X12_groups
