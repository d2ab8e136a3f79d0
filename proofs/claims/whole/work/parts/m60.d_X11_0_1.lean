theorem dX11_perform_94 : decode cX11_perform 94 = .ok (.aload_n 0, 1) := by decide +kernel
theorem dX11_perform_95 : decode cX11_perform 95 = .ok (.getfield 53, 3) := by decide +kernel
theorem dX11_perform_98 : decode cX11_perform 98 = .ok (.iload_n 2, 1) := by decide +kernel
theorem dX11_perform_99 : decode cX11_perform 99 = .ok (.invokevirtual 232, 3) := by decide +kernel
theorem dX11_perform_102 : decode cX11_perform 102 = .ok (.pop, 1) := by decide +kernel
theorem dX11_perform_103 : decode cX11_perform 103 = .ok (.goto 36, 3) := by decide +kernel
theorem dX11_perform_106 : decode cX11_perform 106 = .ok (.aload_n 0, 1) := by decide +kernel
theorem dX11_perform_107 : decode cX11_perform 107 = .ok (.invokevirtual 236, 3) := by decide +kernel
theorem dX11_perform_110 : decode cX11_perform 110 = .ok (.aload_n 0, 1) := by decide +kernel
theorem dX11_perform_111 : decode cX11_perform 111 = .ok (.invokevirtual 239, 3) := by decide +kernel
theorem dX11_perform_114 : decode cX11_perform 114 = .ok (.pop, 1) := by decide +kernel
theorem dX11_perform_115 : decode cX11_perform 115 = .ok (.goto 24, 3) := by decide +kernel
theorem dX11_perform_118 : decode cX11_perform 118 = .ok (.aload_n 0, 1) := by decide +kernel
theorem dX11_perform_119 : decode cX11_perform 119 = .ok (.iload_n 2, 1) := by decide +kernel
theorem dX11_perform_120 : decode cX11_perform 120 = .ok (.iload_n 3, 1) := by decide +kernel
theorem dX11_perform_121 : decode cX11_perform 121 = .ok (.invokevirtual 242, 3) := by decide +kernel
theorem dX11_perform_124 : decode cX11_perform 124 = .ok (.pop, 1) := by decide +kernel
theorem dX11_perform_125 : decode cX11_perform 125 = .ok (.goto 14, 3) := by decide +kernel
theorem dX11_perform_128 : decode cX11_perform 128 = .ok (.aload_n 0, 1) := by decide +kernel
theorem dX11_perform_129 : decode cX11_perform 129 = .ok (.getfield 53, 3) := by decide +kernel
theorem dX11_perform_132 : decode cX11_perform 132 = .ok (.iload_n 2, 1) := by decide +kernel
theorem dX11_perform_133 : decode cX11_perform 133 = .ok (.putfield 245, 3) := by decide +kernel
theorem dX11_perform_136 : decode cX11_perform 136 = .ok (.goto 3, 3) := by decide +kernel
theorem dX11_perform_139 : decode cX11_perform 139 = .ok (.return_, 1) := by decide +kernel
theorem dX11_error_0 : decode cX11_error 0 = .ok (.iload_n 1, 1) := by decide +kernel
theorem dX11_error_1 : decode cX11_error 1 = .ok (.tableswitch 51 0 2 #[27, 35, 43], 27) := by decide +kernel
theorem dX11_error_28 : decode cX11_error 28 = .ok (.aload_n 0, 1) := by decide +kernel
theorem dX11_error_29 : decode cX11_error 29 = .ok (.getfield 12, 3) := by decide +kernel
theorem dX11_error_32 : decode cX11_error 32 = .ok (.getfield 248, 3) := by decide +kernel
theorem dX11_error_35 : decode cX11_error 35 = .ok (.ireturn, 1) := by decide +kernel
theorem dX11_error_36 : decode cX11_error 36 = .ok (.aload_n 0, 1) := by decide +kernel
theorem dX11_error_37 : decode cX11_error 37 = .ok (.getfield 12, 3) := by decide +kernel
theorem dX11_error_40 : decode cX11_error 40 = .ok (.getfield 251, 3) := by decide +kernel
theorem dX11_error_43 : decode cX11_error 43 = .ok (.ireturn, 1) := by decide +kernel
theorem dX11_error_44 : decode cX11_error 44 = .ok (.aload_n 0, 1) := by decide +kernel
theorem dX11_error_45 : decode cX11_error 45 = .ok (.getfield 12, 3) := by decide +kernel
theorem dX11_error_48 : decode cX11_error 48 = .ok (.getfield 254, 3) := by decide +kernel
theorem dX11_error_51 : decode cX11_error 51 = .ok (.ireturn, 1) := by decide +kernel
theorem dX11_error_52 : decode cX11_error 52 = .ok (.new 117, 3) := by decide +kernel
theorem dX11_error_55 : decode cX11_error 55 = .ok (.dup, 1) := by decide +kernel
theorem dX11_error_56 : decode cX11_error 56 = .ok (.ldc_w 257, 3) := by decide +kernel
theorem dX11_error_59 : decode cX11_error 59 = .ok (.invokespecial 121, 3) := by decide +kernel
theorem dX11_error_62 : decode cX11_error 62 = .ok (.athrow, 1) := by decide +kernel
set_option maxRecDepth 20000 in
theorem ggX11_setting_X2_limit : GoodIn wsX11_setting wsX2_limit := goodIn_s _ [(19, 4), (78, 12)] rfl (by decide +kernel)
set_option maxRecDepth 20000 in
theorem gX11_setting_X2_limit : GoodIn wsX11_setting (wsV RX11 268 RX2 yX2_limit wsX2_limit) := goodIn_app (goodIn_of _ (by decide +kernel)) ggX11_setting_X2_limit
set_option maxRecDepth 20000 in
theorem ggX11_setting_X8_groupCount : GoodIn wsX11_setting wsX8_groupCount := goodIn_s _ [(27, 6), (90, 7)] rfl (by decide +kernel)
set_option maxRecDepth 20000 in
theorem gX11_setting_X8_groupCount : GoodIn wsX11_setting (wsV RX11 277 RX8 yX8_groupCount wsX8_groupCount) := goodIn_app (goodIn_of _ (by decide +kernel)) ggX11_setting_X8_groupCount
set_option maxRecDepth 20000 in
theorem ggX11_setting_X2_largestPiece : GoodIn wsX11_setting wsX2_largestPiece := goodIn_s _ [(36, 9), (18, 1), (45, 8), (30, 3), (53, 7), (78, 12)] rfl (by decide +kernel)
set_option maxRecDepth 20000 in
theorem gX11_setting_X2_largestPiece : GoodIn wsX11_setting (wsV RX11 283 RX2 yX2_largestPiece wsX2_largestPiece) := goodIn_app (goodIn_of _ (by decide +kernel)) ggX11_setting_X2_largestPiece
theorem dX11_setting_0 : decode cX11_setting 0 = .ok (.iload_n 1, 1) := by decide +kernel
theorem dX11_setting_1 : decode cX11_setting 1 = .ok (.tableswitch 159 0 11 #[63, 71, 79, 87, 95, 103, 111, 119, 127, 135, 143, 151], 63) := by decide +kernel
theorem dX11_setting_64 : decode cX11_setting 64 = .ok (.aload_n 0, 1) := by decide +kernel
theorem dX11_setting_65 : decode cX11_setting 65 = .ok (.getfield 40, 3) := by decide +kernel
theorem dX11_setting_68 : decode cX11_setting 68 = .ok (.getfield 141, 3) := by decide +kernel
theorem dX11_setting_71 : decode cX11_setting 71 = .ok (.ireturn, 1) := by decide +kernel
theorem dX11_setting_72 : decode cX11_setting 72 = .ok (.aload_n 0, 1) := by decide +kernel
theorem dX11_setting_73 : decode cX11_setting 73 = .ok (.getfield 40, 3) := by decide +kernel
theorem dX11_setting_76 : decode cX11_setting 76 = .ok (.getfield 259, 3) := by decide +kernel
theorem dX11_setting_79 : decode cX11_setting 79 = .ok (.ireturn, 1) := by decide +kernel
theorem dX11_setting_80 : decode cX11_setting 80 = .ok (.aload_n 0, 1) := by decide +kernel
theorem dX11_setting_81 : decode cX11_setting 81 = .ok (.getfield 40, 3) := by decide +kernel
theorem dX11_setting_84 : decode cX11_setting 84 = .ok (.getfield 262, 3) := by decide +kernel
theorem dX11_setting_87 : decode cX11_setting 87 = .ok (.ireturn, 1) := by decide +kernel
theorem dX11_setting_88 : decode cX11_setting 88 = .ok (.aload_n 0, 1) := by decide +kernel
theorem dX11_setting_89 : decode cX11_setting 89 = .ok (.getfield 40, 3) := by decide +kernel
theorem dX11_setting_92 : decode cX11_setting 92 = .ok (.getfield 265, 3) := by decide +kernel
theorem dX11_setting_95 : decode cX11_setting 95 = .ok (.ireturn, 1) := by decide +kernel
theorem dX11_setting_96 : decode cX11_setting 96 = .ok (.aload_n 0, 1) := by decide +kernel
theorem dX11_setting_97 : decode cX11_setting 97 = .ok (.getfield 53, 3) := by decide +kernel
theorem dX11_setting_100 : decode cX11_setting 100 = .ok (.getfield 245, 3) := by decide +kernel
theorem dX11_setting_103 : decode cX11_setting 103 = .ok (.ireturn, 1) := by decide +kernel
theorem dX11_setting_104 : decode cX11_setting 104 = .ok (.aload_n 0, 1) := by decide +kernel
theorem dX11_setting_105 : decode cX11_setting 105 = .ok (.getfield 40, 3) := by decide +kernel
theorem dX11_setting_108 : decode cX11_setting 108 = .ok (.invokevirtual 268, 3) := by decide +kernel
theorem dX11_setting_111 : decode cX11_setting 111 = .ok (.ireturn, 1) := by decide +kernel
theorem dX11_setting_112 : decode cX11_setting 112 = .ok (.aload_n 0, 1) := by decide +kernel
theorem dX11_setting_113 : decode cX11_setting 113 = .ok (.getfield 40, 3) := by decide +kernel
theorem dX11_setting_116 : decode cX11_setting 116 = .ok (.getfield 271, 3) := by decide +kernel
theorem dX11_setting_119 : decode cX11_setting 119 = .ok (.ireturn, 1) := by decide +kernel
theorem dX11_setting_120 : decode cX11_setting 120 = .ok (.aload_n 0, 1) := by decide +kernel
theorem dX11_setting_121 : decode cX11_setting 121 = .ok (.getfield 40, 3) := by decide +kernel
theorem dX11_setting_124 : decode cX11_setting 124 = .ok (.getfield 274, 3) := by decide +kernel
theorem dX11_setting_127 : decode cX11_setting 127 = .ok (.ireturn, 1) := by decide +kernel
theorem dX11_setting_128 : decode cX11_setting 128 = .ok (.aload_n 0, 1) := by decide +kernel
theorem dX11_setting_129 : decode cX11_setting 129 = .ok (.getfield 53, 3) := by decide +kernel
theorem dX11_setting_132 : decode cX11_setting 132 = .ok (.getfield 192, 3) := by decide +kernel
theorem dX11_setting_135 : decode cX11_setting 135 = .ok (.ireturn, 1) := by decide +kernel
theorem dX11_setting_136 : decode cX11_setting 136 = .ok (.aload_n 0, 1) := by decide +kernel
theorem dX11_setting_137 : decode cX11_setting 137 = .ok (.getfield 53, 3) := by decide +kernel
theorem dX11_setting_140 : decode cX11_setting 140 = .ok (.invokevirtual 277, 3) := by decide +kernel
theorem dX11_setting_143 : decode cX11_setting 143 = .ok (.ireturn, 1) := by decide +kernel
theorem dX11_setting_144 : decode cX11_setting 144 = .ok (.aload_n 0, 1) := by decide +kernel
theorem dX11_setting_145 : decode cX11_setting 145 = .ok (.getfield 66, 3) := by decide +kernel
theorem dX11_setting_148 : decode cX11_setting 148 = .ok (.getfield 280, 3) := by decide +kernel
theorem dX11_setting_151 : decode cX11_setting 151 = .ok (.ireturn, 1) := by decide +kernel
theorem dX11_setting_152 : decode cX11_setting 152 = .ok (.aload_n 0, 1) := by decide +kernel
theorem dX11_setting_153 : decode cX11_setting 153 = .ok (.getfield 40, 3) := by decide +kernel
theorem dX11_setting_156 : decode cX11_setting 156 = .ok (.invokevirtual 283, 3) := by decide +kernel
theorem dX11_setting_159 : decode cX11_setting 159 = .ok (.ireturn, 1) := by decide +kernel
theorem dX11_setting_160 : decode cX11_setting 160 = .ok (.new 117, 3) := by decide +kernel
theorem dX11_setting_163 : decode cX11_setting 163 = .ok (.dup, 1) := by decide +kernel
theorem dX11_setting_164 : decode cX11_setting 164 = .ok (.ldc_w 286, 3) := by decide +kernel
theorem dX11_setting_167 : decode cX11_setting 167 = .ok (.invokespecial 121, 3) := by decide +kernel
theorem dX11_setting_170 : decode cX11_setting 170 = .ok (.athrow, 1) := by decide +kernel
theorem dX11_hasVertex_0 : decode cX11_hasVertex 0 = .ok (.iload_n 1, 1) := by decide +kernel
theorem dX11_hasVertex_1 : decode cX11_hasVertex 1 = .ok (.ifCond .lt 18, 3) := by decide +kernel
theorem dX11_hasVertex_4 : decode cX11_hasVertex 4 = .ok (.iload_n 1, 1) := by decide +kernel
theorem dX11_hasVertex_5 : decode cX11_hasVertex 5 = .ok (.aload_n 0, 1) := by decide +kernel
theorem dX11_hasVertex_6 : decode cX11_hasVertex 6 = .ok (.getfield 40, 3) := by decide +kernel
theorem dX11_hasVertex_9 : decode cX11_hasVertex 9 = .ok (.getfield 141, 3) := by decide +kernel
theorem dX11_hasVertex_12 : decode cX11_hasVertex 12 = .ok (.if_icmp .ge 7, 3) := by decide +kernel
theorem dX11_hasVertex_15 : decode cX11_hasVertex 15 = .ok (.iconst 1, 1) := by decide +kernel
theorem dX11_hasVertex_16 : decode cX11_hasVertex 16 = .ok (.goto 4, 3) := by decide +kernel
theorem dX11_hasVertex_19 : decode cX11_hasVertex 19 = .ok (.iconst 0, 1) := by decide +kernel
theorem dX11_hasVertex_20 : decode cX11_hasVertex 20 = .ok (.ireturn, 1) := by decide +kernel
theorem dX11_hasPart_0 : decode cX11_hasPart 0 = .ok (.iload_n 1, 1) := by decide +kernel
theorem dX11_hasPart_1 : decode cX11_hasPart 1 = .ok (.ifCond .lt 18, 3) := by decide +kernel
theorem dX11_hasPart_4 : decode cX11_hasPart 4 = .ok (.iload_n 1, 1) := by decide +kernel
theorem dX11_hasPart_5 : decode cX11_hasPart 5 = .ok (.aload_n 0, 1) := by decide +kernel
theorem dX11_hasPart_6 : decode cX11_hasPart 6 = .ok (.getfield 40, 3) := by decide +kernel
theorem dX11_hasPart_9 : decode cX11_hasPart 9 = .ok (.getfield 262, 3) := by decide +kernel
theorem dX11_hasPart_12 : decode cX11_hasPart 12 = .ok (.if_icmp .ge 7, 3) := by decide +kernel
theorem dX11_hasPart_15 : decode cX11_hasPart 15 = .ok (.iconst 1, 1) := by decide +kernel
theorem dX11_hasPart_16 : decode cX11_hasPart 16 = .ok (.goto 4, 3) := by decide +kernel
theorem dX11_hasPart_19 : decode cX11_hasPart 19 = .ok (.iconst 0, 1) := by decide +kernel
theorem dX11_hasPart_20 : decode cX11_hasPart 20 = .ok (.ireturn, 1) := by decide +kernel
set_option maxRecDepth 20000 in
theorem ggX11_hasGroup_X8_groupCount : GoodIn wsX11_hasGroup wsX8_groupCount := goodIn_s _ [(6, 6), (30, 7)] rfl (by decide +kernel)
set_option maxRecDepth 20000 in
theorem gX11_hasGroup_X8_groupCount : GoodIn wsX11_hasGroup (wsV RX11 277 RX8 yX8_groupCount wsX8_groupCount) := goodIn_app (goodIn_of _ (by decide +kernel)) ggX11_hasGroup_X8_groupCount
theorem dX11_hasGroup_0 : decode cX11_hasGroup 0 = .ok (.iload_n 1, 1) := by decide +kernel
theorem dX11_hasGroup_1 : decode cX11_hasGroup 1 = .ok (.ifCond .lt 18, 3) := by decide +kernel
theorem dX11_hasGroup_4 : decode cX11_hasGroup 4 = .ok (.iload_n 1, 1) := by decide +kernel
theorem dX11_hasGroup_5 : decode cX11_hasGroup 5 = .ok (.aload_n 0, 1) := by decide +kernel
theorem dX11_hasGroup_6 : decode cX11_hasGroup 6 = .ok (.getfield 53, 3) := by decide +kernel
theorem dX11_hasGroup_9 : decode cX11_hasGroup 9 = .ok (.invokevirtual 277, 3) := by decide +kernel
theorem dX11_hasGroup_12 : decode cX11_hasGroup 12 = .ok (.if_icmp .ge 7, 3) := by decide +kernel
theorem dX11_hasGroup_15 : decode cX11_hasGroup 15 = .ok (.iconst 1, 1) := by decide +kernel
theorem dX11_hasGroup_16 : decode cX11_hasGroup 16 = .ok (.goto 4, 3) := by decide +kernel
theorem dX11_hasGroup_19 : decode cX11_hasGroup 19 = .ok (.iconst 0, 1) := by decide +kernel
theorem dX11_hasGroup_20 : decode cX11_hasGroup 20 = .ok (.ireturn, 1) := by decide +kernel
set_option maxRecDepth 20000 in
theorem ggX11_requireVertex_X11_hasVertex : GoodIn wsX11_requireVertex wsX11_hasVertex := goodIn_s _ [(7, 33)] rfl (by decide +kernel)
set_option maxRecDepth 20000 in
theorem gX11_requireVertex_X11_hasVertex : GoodIn wsX11_requireVertex (wsV RX11 216 RX11 yX11_hasVertex wsX11_hasVertex) := goodIn_app (goodIn_of _ (by decide +kernel)) ggX11_requireVertex_X11_hasVertex
theorem dX11_requireVertex_0 : decode cX11_requireVertex 0 = .ok (.aload_n 0, 1) := by decide +kernel
theorem dX11_requireVertex_1 : decode cX11_requireVertex 1 = .ok (.iload_n 1, 1) := by decide +kernel
theorem dX11_requireVertex_2 : decode cX11_requireVertex 2 = .ok (.invokevirtual 216, 3) := by decide +kernel
theorem dX11_requireVertex_5 : decode cX11_requireVertex 5 = .ok (.ifCond .ne 14, 3) := by decide +kernel
theorem dX11_requireVertex_8 : decode cX11_requireVertex 8 = .ok (.new 288, 3) := by decide +kernel
theorem dX11_requireVertex_11 : decode cX11_requireVertex 11 = .ok (.dup, 1) := by decide +kernel
theorem dX11_requireVertex_12 : decode cX11_requireVertex 12 = .ok (.ldc_w 290, 3) := by decide +kernel
theorem dX11_requireVertex_15 : decode cX11_requireVertex 15 = .ok (.invokespecial 292, 3) := by decide +kernel
theorem dX11_requireVertex_18 : decode cX11_requireVertex 18 = .ok (.athrow, 1) := by decide +kernel
theorem dX11_requireVertex_19 : decode cX11_requireVertex 19 = .ok (.return_, 1) := by decide +kernel
set_option maxRecDepth 20000 in
theorem ggX11_requirePart_X11_hasPart : GoodIn wsX11_requirePart wsX11_hasPart := goodIn_s _ [(7, 33)] rfl (by decide +kernel)
set_option maxRecDepth 20000 in
theorem gX11_requirePart_X11_hasPart : GoodIn wsX11_requirePart (wsV RX11 199 RX11 yX11_hasPart wsX11_hasPart) := goodIn_app (goodIn_of _ (by decide +kernel)) ggX11_requirePart_X11_hasPart
theorem dX11_requirePart_0 : decode cX11_requirePart 0 = .ok (.aload_n 0, 1) := by decide +kernel
theorem dX11_requirePart_1 : decode cX11_requirePart 1 = .ok (.iload_n 1, 1) := by decide +kernel
theorem dX11_requirePart_2 : decode cX11_requirePart 2 = .ok (.invokevirtual 199, 3) := by decide +kernel
theorem dX11_requirePart_5 : decode cX11_requirePart 5 = .ok (.ifCond .ne 14, 3) := by decide +kernel
theorem dX11_requirePart_8 : decode cX11_requirePart 8 = .ok (.new 288, 3) := by decide +kernel
theorem dX11_requirePart_11 : decode cX11_requirePart 11 = .ok (.dup, 1) := by decide +kernel
theorem dX11_requirePart_12 : decode cX11_requirePart 12 = .ok (.ldc_w 293, 3) := by decide +kernel
theorem dX11_requirePart_15 : decode cX11_requirePart 15 = .ok (.invokespecial 292, 3) := by decide +kernel
theorem dX11_requirePart_18 : decode cX11_requirePart 18 = .ok (.athrow, 1) := by decide +kernel
theorem dX11_requirePart_19 : decode cX11_requirePart 19 = .ok (.return_, 1) := by decide +kernel
set_option maxRecDepth 20000 in
theorem ggX11_requireGroup_X11_hasGroup : GoodIn wsX11_requireGroup wsX11_hasGroup := goodIn_s _ [(7, 10), (6, 1), (17, 26)] rfl (by decide +kernel)
set_option maxRecDepth 20000 in
theorem gX11_requireGroup_X11_hasGroup : GoodIn wsX11_requireGroup (wsV RX11 195 RX11 yX11_hasGroup wsX11_hasGroup) := goodIn_app (goodIn_of _ (by decide +kernel)) ggX11_requireGroup_X11_hasGroup
theorem dX11_requireGroup_0 : decode cX11_requireGroup 0 = .ok (.aload_n 0, 1) := by decide +kernel
theorem dX11_requireGroup_1 : decode cX11_requireGroup 1 = .ok (.iload_n 1, 1) := by decide +kernel
theorem dX11_requireGroup_2 : decode cX11_requireGroup 2 = .ok (.invokevirtual 195, 3) := by decide +kernel
theorem dX11_requireGroup_5 : decode cX11_requireGroup 5 = .ok (.ifCond .ne 14, 3) := by decide +kernel
theorem dX11_requireGroup_8 : decode cX11_requireGroup 8 = .ok (.new 288, 3) := by decide +kernel
theorem dX11_requireGroup_11 : decode cX11_requireGroup 11 = .ok (.dup, 1) := by decide +kernel
theorem dX11_requireGroup_12 : decode cX11_requireGroup 12 = .ok (.ldc_w 295, 3) := by decide +kernel
theorem dX11_requireGroup_15 : decode cX11_requireGroup 15 = .ok (.invokespecial 292, 3) := by decide +kernel
theorem dX11_requireGroup_18 : decode cX11_requireGroup 18 = .ok (.athrow, 1) := by decide +kernel
theorem dX11_requireGroup_19 : decode cX11_requireGroup 19 = .ok (.return_, 1) := by decide +kernel
set_option maxRecDepth 20000 in
theorem ggX11_weight_X11_requireVertex : GoodIn wsX11_weight wsX11_requireVertex := goodIn_ca (goodIn_s _ [(7, 6), (6, 1), (13, 1), (1, 1), (14, 1), (18, 30)] rfl (by decide +kernel)) (goodIn_sub (fun _ h => List.mem_cons_of_mem _ (List.mem_append_right _ h)) (by decide +kernel))
set_option maxRecDepth 20000 in
theorem gX11_weight_X11_requireVertex : GoodIn wsX11_weight (wsV RX11 297 RX11 yX11_requireVertex wsX11_requireVertex) := goodIn_app (goodIn_of _ (by decide +kernel)) ggX11_weight_X11_requireVertex
set_option maxRecDepth 20000 in
theorem ggX11_weight_X11_at : GoodIn wsX11_weight wsX11_at := goodIn_s _ [(17, 1)] rfl (by decide +kernel)
set_option maxRecDepth 20000 in
theorem gX11_weight_X11_at : GoodIn wsX11_weight (va_wsS RX11 164 yX11_at wsX11_at) := goodIn_app (goodIn_of _ (by decide +kernel)) ggX11_weight_X11_at
theorem dX11_weight_0 : decode cX11_weight 0 = .ok (.aload_n 0, 1) := by decide +kernel
theorem dX11_weight_1 : decode cX11_weight 1 = .ok (.iload_n 1, 1) := by decide +kernel
theorem dX11_weight_2 : decode cX11_weight 2 = .ok (.invokevirtual 297, 3) := by decide +kernel
theorem dX11_weight_5 : decode cX11_weight 5 = .ok (.aload_n 0, 1) := by decide +kernel
theorem dX11_weight_6 : decode cX11_weight 6 = .ok (.getfield 40, 3) := by decide +kernel
theorem dX11_weight_9 : decode cX11_weight 9 = .ok (.getfield 300, 3) := by decide +kernel
theorem dX11_weight_12 : decode cX11_weight 12 = .ok (.iload_n 1, 1) := by decide +kernel
theorem dX11_weight_13 : decode cX11_weight 13 = .ok (.invokestatic 164, 3) := by decide +kernel
theorem dX11_weight_16 : decode cX11_weight 16 = .ok (.ireturn, 1) := by decide +kernel
set_option maxRecDepth 20000 in
theorem ggX11_edge_X11_at : GoodIn wsX11_edge wsX11_at := goodIn_s _ [(13, 1)] rfl (by decide +kernel)
set_option maxRecDepth 20000 in
theorem gX11_edge_X11_at : GoodIn wsX11_edge (va_wsS RX11 164 yX11_at wsX11_at) := goodIn_app (goodIn_of _ (by decide +kernel)) ggX11_edge_X11_at
set_option maxRecDepth 20000 in
theorem ggX11_edge_X11_isCut : GoodIn wsX11_edge wsX11_isCut := goodIn_s _ [(17, 3), (5, 1), (7, 2), (10, 4), (20, 18), (50, 7), (38, 12)] rfl (by decide +kernel)
set_option maxRecDepth 20000 in
theorem gX11_edge_X11_isCut : GoodIn wsX11_edge (wsV RX11 310 RX11 yX11_isCut wsX11_isCut) := goodIn_app (goodIn_of _ (by decide +kernel)) ggX11_edge_X11_isCut
theorem dX11_edge_0 : decode cX11_edge 0 = .ok (.iload_n 1, 1) := by decide +kernel
theorem dX11_edge_1 : decode cX11_edge 1 = .ok (.ifCond .lt 14, 3) := by decide +kernel
theorem dX11_edge_4 : decode cX11_edge 4 = .ok (.iload_n 1, 1) := by decide +kernel
theorem dX11_edge_5 : decode cX11_edge 5 = .ok (.aload_n 0, 1) := by decide +kernel
theorem dX11_edge_6 : decode cX11_edge 6 = .ok (.getfield 40, 3) := by decide +kernel
theorem dX11_edge_9 : decode cX11_edge 9 = .ok (.getfield 259, 3) := by decide +kernel
theorem dX11_edge_12 : decode cX11_edge 12 = .ok (.if_icmp .lt 14, 3) := by decide +kernel
theorem dX11_edge_15 : decode cX11_edge 15 = .ok (.new 288, 3) := by decide +kernel
theorem dX11_edge_18 : decode cX11_edge 18 = .ok (.dup, 1) := by decide +kernel
theorem dX11_edge_19 : decode cX11_edge 19 = .ok (.ldc_w 303, 3) := by decide +kernel
theorem dX11_edge_22 : decode cX11_edge 22 = .ok (.invokespecial 292, 3) := by decide +kernel
theorem dX11_edge_25 : decode cX11_edge 25 = .ok (.athrow, 1) := by decide +kernel
theorem dX11_edge_26 : decode cX11_edge 26 = .ok (.iload_n 2, 1) := by decide +kernel
theorem dX11_edge_27 : decode cX11_edge 27 = .ok (.tableswitch 79 0 3 #[29, 41, 53, 65], 29) := by decide +kernel
theorem dX11_edge_56 : decode cX11_edge 56 = .ok (.aload_n 0, 1) := by decide +kernel
theorem dX11_edge_57 : decode cX11_edge 57 = .ok (.getfield 40, 3) := by decide +kernel
theorem dX11_edge_60 : decode cX11_edge 60 = .ok (.getfield 305, 3) := by decide +kernel
theorem dX11_edge_63 : decode cX11_edge 63 = .ok (.iload_n 1, 1) := by decide +kernel
theorem dX11_edge_64 : decode cX11_edge 64 = .ok (.invokestatic 164, 3) := by decide +kernel
theorem dX11_edge_67 : decode cX11_edge 67 = .ok (.ireturn, 1) := by decide +kernel
theorem dX11_edge_68 : decode cX11_edge 68 = .ok (.aload_n 0, 1) := by decide +kernel
theorem dX11_edge_69 : decode cX11_edge 69 = .ok (.getfield 40, 3) := by decide +kernel
theorem dX11_edge_72 : decode cX11_edge 72 = .ok (.getfield 306, 3) := by decide +kernel
theorem dX11_edge_75 : decode cX11_edge 75 = .ok (.iload_n 1, 1) := by decide +kernel
theorem dX11_edge_76 : decode cX11_edge 76 = .ok (.invokestatic 164, 3) := by decide +kernel
theorem dX11_edge_79 : decode cX11_edge 79 = .ok (.ireturn, 1) := by decide +kernel
theorem dX11_edge_80 : decode cX11_edge 80 = .ok (.aload_n 0, 1) := by decide +kernel
theorem dX11_edge_81 : decode cX11_edge 81 = .ok (.getfield 40, 3) := by decide +kernel
theorem dX11_edge_84 : decode cX11_edge 84 = .ok (.getfield 307, 3) := by decide +kernel
theorem dX11_edge_87 : decode cX11_edge 87 = .ok (.iload_n 1, 1) := by decide +kernel
theorem dX11_edge_88 : decode cX11_edge 88 = .ok (.invokestatic 164, 3) := by decide +kernel
theorem dX11_edge_91 : decode cX11_edge 91 = .ok (.ireturn, 1) := by decide +kernel
theorem dX11_edge_92 : decode cX11_edge 92 = .ok (.aload_n 0, 1) := by decide +kernel
theorem dX11_edge_93 : decode cX11_edge 93 = .ok (.iload_n 1, 1) := by decide +kernel
theorem dX11_edge_94 : decode cX11_edge 94 = .ok (.invokevirtual 310, 3) := by decide +kernel
theorem dX11_edge_97 : decode cX11_edge 97 = .ok (.ifCond .eq 7, 3) := by decide +kernel
theorem dX11_edge_100 : decode cX11_edge 100 = .ok (.iconst 1, 1) := by decide +kernel
theorem dX11_edge_101 : decode cX11_edge 101 = .ok (.goto 4, 3) := by decide +kernel
theorem dX11_edge_104 : decode cX11_edge 104 = .ok (.iconst 0, 1) := by decide +kernel
theorem dX11_edge_105 : decode cX11_edge 105 = .ok (.ireturn, 1) := by decide +kernel
theorem dX11_edge_106 : decode cX11_edge 106 = .ok (.new 117, 3) := by decide +kernel
theorem dX11_edge_109 : decode cX11_edge 109 = .ok (.dup, 1) := by decide +kernel
theorem dX11_edge_110 : decode cX11_edge 110 = .ok (.ldc_w 313, 3) := by decide +kernel
theorem dX11_edge_113 : decode cX11_edge 113 = .ok (.invokespecial 121, 3) := by decide +kernel
theorem dX11_edge_116 : decode cX11_edge 116 = .ok (.athrow, 1) := by decide +kernel
set_option maxRecDepth 20000 in
theorem ggX11_isCut_X11_at : GoodIn wsX11_isCut wsX11_at := goodIn_s _ [(9, 1)] rfl (by decide +kernel)
set_option maxRecDepth 20000 in
theorem gX11_isCut_X11_at : GoodIn wsX11_isCut (va_wsS RX11 164 yX11_at wsX11_at) := goodIn_app (goodIn_of _ (by decide +kernel)) ggX11_isCut_X11_at
theorem dX11_isCut_0 : decode cX11_isCut 0 = .ok (.aload_n 0, 1) := by decide +kernel
theorem dX11_isCut_1 : decode cX11_isCut 1 = .ok (.getfield 53, 3) := by decide +kernel
theorem dX11_isCut_4 : decode cX11_isCut 4 = .ok (.getfield 315, 3) := by decide +kernel
theorem dX11_isCut_7 : decode cX11_isCut 7 = .ok (.aload_n 0, 1) := by decide +kernel
theorem dX11_isCut_8 : decode cX11_isCut 8 = .ok (.getfield 40, 3) := by decide +kernel
theorem dX11_isCut_11 : decode cX11_isCut 11 = .ok (.getfield 305, 3) := by decide +kernel
theorem dX11_isCut_14 : decode cX11_isCut 14 = .ok (.iload_n 1, 1) := by decide +kernel
theorem dX11_isCut_15 : decode cX11_isCut 15 = .ok (.invokestatic 164, 3) := by decide +kernel
theorem dX11_isCut_18 : decode cX11_isCut 18 = .ok (.invokestatic 164, 3) := by decide +kernel
theorem dX11_isCut_21 : decode cX11_isCut 21 = .ok (.aload_n 0, 1) := by decide +kernel
theorem dX11_isCut_22 : decode cX11_isCut 22 = .ok (.getfield 53, 3) := by decide +kernel
theorem dX11_isCut_25 : decode cX11_isCut 25 = .ok (.getfield 315, 3) := by decide +kernel
theorem dX11_isCut_28 : decode cX11_isCut 28 = .ok (.aload_n 0, 1) := by decide +kernel
theorem dX11_isCut_29 : decode cX11_isCut 29 = .ok (.getfield 40, 3) := by decide +kernel
theorem dX11_isCut_32 : decode cX11_isCut 32 = .ok (.getfield 306, 3) := by decide +kernel
theorem dX11_isCut_35 : decode cX11_isCut 35 = .ok (.iload_n 1, 1) := by decide +kernel
theorem dX11_isCut_36 : decode cX11_isCut 36 = .ok (.invokestatic 164, 3) := by decide +kernel
theorem dX11_isCut_39 : decode cX11_isCut 39 = .ok (.invokestatic 164, 3) := by decide +kernel
theorem dX11_isCut_42 : decode cX11_isCut 42 = .ok (.if_icmp .eq 7, 3) := by decide +kernel
theorem dX11_isCut_45 : decode cX11_isCut 45 = .ok (.iconst 1, 1) := by decide +kernel
theorem dX11_isCut_46 : decode cX11_isCut 46 = .ok (.goto 4, 3) := by decide +kernel
theorem dX11_isCut_49 : decode cX11_isCut 49 = .ok (.iconst 0, 1) := by decide +kernel
theorem dX11_isCut_50 : decode cX11_isCut 50 = .ok (.ireturn, 1) := by decide +kernel
set_option maxRecDepth 20000 in
theorem ggX11_between_X11_requireVertex : GoodIn wsX11_between wsX11_requireVertex := goodIn_ca (goodIn_s _ [(7, 6), (6, 1), (13, 1), (1, 1), (14, 1), (30, 30)] rfl (by decide +kernel)) (goodIn_sub (fun _ h => List.mem_cons_of_mem _ (List.mem_append_right _ h)) (by decide +kernel))
set_option maxRecDepth 20000 in
theorem gX11_between_X11_requireVertex : GoodIn wsX11_between (wsV RX11 297 RX11 yX11_requireVertex wsX11_requireVertex) := goodIn_app (goodIn_of _ (by decide +kernel)) ggX11_between_X11_requireVertex
set_option maxRecDepth 20000 in
theorem ggX11_between_X2_edgeOf : GoodIn wsX11_between wsX2_edgeOf := goodIn_s _ [(19, 5), (18, 1), (24, 4), (6, 1), (28, 1), (48, 12)] rfl (by decide +kernel)
set_option maxRecDepth 20000 in
theorem gX11_between_X2_edgeOf : GoodIn wsX11_between (wsV RX11 317 RX2 yX2_edgeOf wsX2_edgeOf) := goodIn_app (goodIn_of _ (by decide +kernel)) ggX11_between_X2_edgeOf
set_option maxRecDepth 20000 in
theorem ggX11_between_X11_at : GoodIn wsX11_between wsX11_at := goodIn_s _ [(28, 1)] rfl (by decide +kernel)
set_option maxRecDepth 20000 in
theorem gX11_between_X11_at : GoodIn wsX11_between (va_wsS RX11 164 yX11_at wsX11_at) := goodIn_app (goodIn_of _ (by decide +kernel)) ggX11_between_X11_at
theorem dX11_between_0 : decode cX11_between 0 = .ok (.aload_n 0, 1) := by decide +kernel
theorem dX11_between_1 : decode cX11_between 1 = .ok (.iload_n 1, 1) := by decide +kernel
theorem dX11_between_2 : decode cX11_between 2 = .ok (.invokevirtual 297, 3) := by decide +kernel
theorem dX11_between_5 : decode cX11_between 5 = .ok (.aload_n 0, 1) := by decide +kernel
theorem dX11_between_6 : decode cX11_between 6 = .ok (.iload_n 2, 1) := by decide +kernel
theorem dX11_between_7 : decode cX11_between 7 = .ok (.invokevirtual 297, 3) := by decide +kernel
theorem dX11_between_10 : decode cX11_between 10 = .ok (.aload_n 0, 1) := by decide +kernel
theorem dX11_between_11 : decode cX11_between 11 = .ok (.getfield 40, 3) := by decide +kernel
theorem dX11_between_14 : decode cX11_between 14 = .ok (.iload_n 1, 1) := by decide +kernel
theorem dX11_between_15 : decode cX11_between 15 = .ok (.iload_n 2, 1) := by decide +kernel
theorem dX11_between_16 : decode cX11_between 16 = .ok (.invokevirtual 317, 3) := by decide +kernel
theorem dX11_between_19 : decode cX11_between 19 = .ok (.istore_n 3, 1) := by decide +kernel
theorem dX11_between_20 : decode cX11_between 20 = .ok (.iload_n 3, 1) := by decide +kernel
theorem dX11_between_21 : decode cX11_between 21 = .ok (.iconst (-1), 1) := by decide +kernel
theorem dX11_between_22 : decode cX11_between 22 = .ok (.if_icmp .ne 7, 3) := by decide +kernel
theorem dX11_between_25 : decode cX11_between 25 = .ok (.iconst 0, 1) := by decide +kernel
theorem dX11_between_26 : decode cX11_between 26 = .ok (.goto 14, 3) := by decide +kernel
theorem dX11_between_29 : decode cX11_between 29 = .ok (.aload_n 0, 1) := by decide +kernel
theorem dX11_between_30 : decode cX11_between 30 = .ok (.getfield 40, 3) := by decide +kernel
theorem dX11_between_33 : decode cX11_between 33 = .ok (.getfield 307, 3) := by decide +kernel
theorem dX11_between_36 : decode cX11_between 36 = .ok (.iload_n 3, 1) := by decide +kernel
theorem dX11_between_37 : decode cX11_between 37 = .ok (.invokestatic 164, 3) := by decide +kernel
theorem dX11_between_40 : decode cX11_between 40 = .ok (.ireturn, 1) := by decide +kernel
set_option maxRecDepth 20000 in
theorem ggX11_flow_X11_requireVertex : GoodIn wsX11_flow wsX11_requireVertex := goodIn_ca (goodIn_s _ [(8, 6), (7, 1), (14, 1), (2, 1), (15, 1), (61, 18), (85, 12)] rfl (by decide +kernel)) (goodIn_sub (fun _ h => List.mem_cons_of_mem _ (List.mem_append_right _ h)) (by decide +kernel))
set_option maxRecDepth 20000 in
theorem gX11_flow_X11_requireVertex : GoodIn wsX11_flow (wsV RX11 297 RX11 yX11_requireVertex wsX11_requireVertex) := goodIn_app (goodIn_of _ (by decide +kernel)) ggX11_flow_X11_requireVertex
set_option maxRecDepth 20000 in
theorem ggX11_flow_X1_run : GoodIn wsX11_flow wsX1_run := goodIn_s _ [(20, 6), (19, 1), (26, 13), (7, 1), (39, 22), (79, 18)] rfl (by decide +kernel)
set_option maxRecDepth 20000 in
theorem gX11_flow_X1_run : GoodIn wsX11_flow (wsV RX11 320 RX1 yX1_run wsX1_run) := goodIn_app (goodIn_of _ (by decide +kernel)) ggX11_flow_X1_run
theorem dX11_flow_0 : decode cX11_flow 0 = .ok (.aload_n 0, 1) := by decide +kernel
theorem dX11_flow_1 : decode cX11_flow 1 = .ok (.iload_n 1, 1) := by decide +kernel
theorem dX11_flow_2 : decode cX11_flow 2 = .ok (.invokevirtual 297, 3) := by decide +kernel
theorem dX11_flow_5 : decode cX11_flow 5 = .ok (.aload_n 0, 1) := by decide +kernel
theorem dX11_flow_6 : decode cX11_flow 6 = .ok (.iload_n 2, 1) := by decide +kernel
theorem dX11_flow_7 : decode cX11_flow 7 = .ok (.invokevirtual 297, 3) := by decide +kernel
theorem dX11_flow_10 : decode cX11_flow 10 = .ok (.iload_n 1, 1) := by decide +kernel
theorem dX11_flow_11 : decode cX11_flow 11 = .ok (.iload_n 2, 1) := by decide +kernel
theorem dX11_flow_12 : decode cX11_flow 12 = .ok (.if_icmp .ne 5, 3) := by decide +kernel
theorem dX11_flow_15 : decode cX11_flow 15 = .ok (.iconst 0, 1) := by decide +kernel
theorem dX11_flow_16 : decode cX11_flow 16 = .ok (.ireturn, 1) := by decide +kernel
theorem dX11_flow_17 : decode cX11_flow 17 = .ok (.aload_n 0, 1) := by decide +kernel
theorem dX11_flow_18 : decode cX11_flow 18 = .ok (.getfield 94, 3) := by decide +kernel
theorem dX11_flow_21 : decode cX11_flow 21 = .ok (.aload_n 0, 1) := by decide +kernel
theorem dX11_flow_22 : decode cX11_flow 22 = .ok (.getfield 40, 3) := by decide +kernel
theorem dX11_flow_25 : decode cX11_flow 25 = .ok (.iload_n 1, 1) := by decide +kernel
theorem dX11_flow_26 : decode cX11_flow 26 = .ok (.iload_n 2, 1) := by decide +kernel
theorem dX11_flow_27 : decode cX11_flow 27 = .ok (.invokevirtual 320, 3) := by decide +kernel
theorem dX11_flow_30 : decode cX11_flow 30 = .ok (.aload_n 0, 1) := by decide +kernel
theorem dX11_flow_31 : decode cX11_flow 31 = .ok (.getfield 94, 3) := by decide +kernel
theorem dX11_flow_34 : decode cX11_flow 34 = .ok (.getfield 324, 3) := by decide +kernel
theorem dX11_flow_37 : decode cX11_flow 37 = .ok (.ireturn, 1) := by decide +kernel
set_option maxRecDepth 20000 in
theorem ggX11_side_X11_requireVertex : GoodIn wsX11_side wsX11_requireVertex := goodIn_ca (goodIn_s _ [(8, 6), (7, 1), (14, 1), (2, 1), (15, 1), (61, 18), (85, 12)] rfl (by decide +kernel)) (goodIn_sub (fun _ h => List.mem_cons_of_mem _ (List.mem_append_right _ h)) (by decide +kernel))
set_option maxRecDepth 20000 in
theorem gX11_side_X11_requireVertex : GoodIn wsX11_side (wsV RX11 297 RX11 yX11_requireVertex wsX11_requireVertex) := goodIn_app (goodIn_of _ (by decide +kernel)) ggX11_side_X11_requireVertex
set_option maxRecDepth 20000 in
theorem ggX11_side_X1_run : GoodIn wsX11_side wsX1_run := goodIn_s _ [(20, 6), (19, 1), (26, 13), (7, 1), (39, 22), (79, 18)] rfl (by decide +kernel)
set_option maxRecDepth 20000 in
theorem gX11_side_X1_run : GoodIn wsX11_side (wsV RX11 320 RX1 yX1_run wsX1_run) := goodIn_app (goodIn_of _ (by decide +kernel)) ggX11_side_X1_run
theorem dX11_side_0 : decode cX11_side 0 = .ok (.aload_n 0, 1) := by decide +kernel
theorem dX11_side_1 : decode cX11_side 1 = .ok (.iload_n 1, 1) := by decide +kernel
theorem dX11_side_2 : decode cX11_side 2 = .ok (.invokevirtual 297, 3) := by decide +kernel
theorem dX11_side_5 : decode cX11_side 5 = .ok (.aload_n 0, 1) := by decide +kernel
theorem dX11_side_6 : decode cX11_side 6 = .ok (.iload_n 2, 1) := by decide +kernel
theorem dX11_side_7 : decode cX11_side 7 = .ok (.invokevirtual 297, 3) := by decide +kernel
theorem dX11_side_10 : decode cX11_side 10 = .ok (.iload_n 1, 1) := by decide +kernel
theorem dX11_side_11 : decode cX11_side 11 = .ok (.iload_n 2, 1) := by decide +kernel
theorem dX11_side_12 : decode cX11_side 12 = .ok (.if_icmp .ne 5, 3) := by decide +kernel
theorem dX11_side_15 : decode cX11_side 15 = .ok (.iconst 0, 1) := by decide +kernel
theorem dX11_side_16 : decode cX11_side 16 = .ok (.ireturn, 1) := by decide +kernel
theorem dX11_side_17 : decode cX11_side 17 = .ok (.aload_n 0, 1) := by decide +kernel
theorem dX11_side_18 : decode cX11_side 18 = .ok (.getfield 94, 3) := by decide +kernel
theorem dX11_side_21 : decode cX11_side 21 = .ok (.aload_n 0, 1) := by decide +kernel
theorem dX11_side_22 : decode cX11_side 22 = .ok (.getfield 40, 3) := by decide +kernel
theorem dX11_side_25 : decode cX11_side 25 = .ok (.iload_n 1, 1) := by decide +kernel
theorem dX11_side_26 : decode cX11_side 26 = .ok (.iload_n 2, 1) := by decide +kernel
theorem dX11_side_27 : decode cX11_side 27 = .ok (.invokevirtual 320, 3) := by decide +kernel
theorem dX11_side_30 : decode cX11_side 30 = .ok (.aload_n 0, 1) := by decide +kernel
theorem dX11_side_31 : decode cX11_side 31 = .ok (.getfield 94, 3) := by decide +kernel
theorem dX11_side_34 : decode cX11_side 34 = .ok (.getfield 327, 3) := by decide +kernel
theorem dX11_side_37 : decode cX11_side 37 = .ok (.ireturn, 1) := by decide +kernel
set_option maxRecDepth 20000 in
theorem ggX11_leastFlow_X1_run : GoodIn wsX11_leastFlow wsX1_run := goodIn_s _ [(9, 6), (8, 1), (15, 36), (81, 6), (69, 12)] rfl (by decide +kernel)
set_option maxRecDepth 20000 in
theorem gX11_leastFlow_X1_run : GoodIn wsX11_leastFlow (wsV RX11 320 RX1 yX1_run wsX1_run) := goodIn_app (goodIn_of _ (by decide +kernel)) ggX11_leastFlow_X1_run
theorem dX11_leastFlow_0 : decode cX11_leastFlow 0 = .ok (.iconst (-1), 1) := by decide +kernel
theorem dX11_leastFlow_1 : decode cX11_leastFlow 1 = .ok (.istore_n 1, 1) := by decide +kernel
theorem dX11_leastFlow_2 : decode cX11_leastFlow 2 = .ok (.iconst 1, 1) := by decide +kernel
theorem dX11_leastFlow_3 : decode cX11_leastFlow 3 = .ok (.istore_n 2, 1) := by decide +kernel
theorem dX11_leastFlow_4 : decode cX11_leastFlow 4 = .ok (.iload_n 2, 1) := by decide +kernel
theorem dX11_leastFlow_5 : decode cX11_leastFlow 5 = .ok (.aload_n 0, 1) := by decide +kernel
theorem dX11_leastFlow_6 : decode cX11_leastFlow 6 = .ok (.getfield 40, 3) := by decide +kernel
theorem dX11_leastFlow_9 : decode cX11_leastFlow 9 = .ok (.getfield 141, 3) := by decide +kernel
theorem dX11_leastFlow_12 : decode cX11_leastFlow 12 = .ok (.if_icmp .ge 46, 3) := by decide +kernel
theorem dX11_leastFlow_15 : decode cX11_leastFlow 15 = .ok (.aload_n 0, 1) := by decide +kernel
theorem dX11_leastFlow_16 : decode cX11_leastFlow 16 = .ok (.getfield 94, 3) := by decide +kernel
theorem dX11_leastFlow_19 : decode cX11_leastFlow 19 = .ok (.aload_n 0, 1) := by decide +kernel
theorem dX11_leastFlow_20 : decode cX11_leastFlow 20 = .ok (.getfield 40, 3) := by decide +kernel
theorem dX11_leastFlow_23 : decode cX11_leastFlow 23 = .ok (.iconst 0, 1) := by decide +kernel
theorem dX11_leastFlow_24 : decode cX11_leastFlow 24 = .ok (.iload_n 2, 1) := by decide +kernel
theorem dX11_leastFlow_25 : decode cX11_leastFlow 25 = .ok (.invokevirtual 320, 3) := by decide +kernel
theorem dX11_leastFlow_28 : decode cX11_leastFlow 28 = .ok (.iload_n 1, 1) := by decide +kernel
theorem dX11_leastFlow_29 : decode cX11_leastFlow 29 = .ok (.iconst (-1), 1) := by decide +kernel
theorem dX11_leastFlow_30 : decode cX11_leastFlow 30 = .ok (.if_icmp .eq 14, 3) := by decide +kernel
theorem dX11_leastFlow_33 : decode cX11_leastFlow 33 = .ok (.aload_n 0, 1) := by decide +kernel
theorem dX11_leastFlow_34 : decode cX11_leastFlow 34 = .ok (.getfield 94, 3) := by decide +kernel
theorem dX11_leastFlow_37 : decode cX11_leastFlow 37 = .ok (.getfield 324, 3) := by decide +kernel
theorem dX11_leastFlow_40 : decode cX11_leastFlow 40 = .ok (.iload_n 1, 1) := by decide +kernel
theorem dX11_leastFlow_41 : decode cX11_leastFlow 41 = .ok (.if_icmp .ge 11, 3) := by decide +kernel
theorem dX11_leastFlow_44 : decode cX11_leastFlow 44 = .ok (.aload_n 0, 1) := by decide +kernel
theorem dX11_leastFlow_45 : decode cX11_leastFlow 45 = .ok (.getfield 94, 3) := by decide +kernel
theorem dX11_leastFlow_48 : decode cX11_leastFlow 48 = .ok (.getfield 324, 3) := by decide +kernel
theorem dX11_leastFlow_51 : decode cX11_leastFlow 51 = .ok (.istore_n 1, 1) := by decide +kernel
theorem dX11_leastFlow_52 : decode cX11_leastFlow 52 = .ok (.iinc 2 1, 3) := by decide +kernel
theorem dX11_leastFlow_55 : decode cX11_leastFlow 55 = .ok (.goto (-51), 3) := by decide +kernel
theorem dX11_leastFlow_58 : decode cX11_leastFlow 58 = .ok (.iload_n 1, 1) := by decide +kernel
theorem dX11_leastFlow_59 : decode cX11_leastFlow 59 = .ok (.ireturn, 1) := by decide +kernel
set_option maxRecDepth 20000 in
theorem ggX11_partOf_X11_requireVertex : GoodIn wsX11_partOf wsX11_requireVertex := goodIn_ca (goodIn_s _ [(7, 6), (6, 1), (13, 3), (19, 18), (44, 12)] rfl (by decide +kernel)) (goodIn_sub (fun _ h => List.mem_cons_of_mem _ (List.mem_append_right _ h)) (by decide +kernel))
set_option maxRecDepth 20000 in
theorem gX11_partOf_X11_requireVertex : GoodIn wsX11_partOf (wsV RX11 297 RX11 yX11_requireVertex wsX11_requireVertex) := goodIn_app (goodIn_of _ (by decide +kernel)) ggX11_partOf_X11_requireVertex
set_option maxRecDepth 20000 in
theorem ggX11_partOf_X11_at : GoodIn wsX11_partOf wsX11_at := goodIn_s _ [(18, 1)] rfl (by decide +kernel)
set_option maxRecDepth 20000 in
theorem gX11_partOf_X11_at : GoodIn wsX11_partOf (va_wsS RX11 164 yX11_at wsX11_at) := goodIn_app (goodIn_of _ (by decide +kernel)) ggX11_partOf_X11_at
theorem dX11_partOf_0 : decode cX11_partOf 0 = .ok (.aload_n 0, 1) := by decide +kernel
theorem dX11_partOf_1 : decode cX11_partOf 1 = .ok (.iload_n 1, 1) := by decide +kernel
theorem dX11_partOf_2 : decode cX11_partOf 2 = .ok (.invokevirtual 297, 3) := by decide +kernel
theorem dX11_partOf_5 : decode cX11_partOf 5 = .ok (.aload_n 0, 1) := by decide +kernel
theorem dX11_partOf_6 : decode cX11_partOf 6 = .ok (.getfield 53, 3) := by decide +kernel
theorem dX11_partOf_9 : decode cX11_partOf 9 = .ok (.getfield 315, 3) := by decide +kernel
theorem dX11_partOf_12 : decode cX11_partOf 12 = .ok (.iload_n 1, 1) := by decide +kernel
theorem dX11_partOf_13 : decode cX11_partOf 13 = .ok (.invokestatic 164, 3) := by decide +kernel
theorem dX11_partOf_16 : decode cX11_partOf 16 = .ok (.ireturn, 1) := by decide +kernel
set_option maxRecDepth 20000 in
theorem ggX11_part_X11_requirePart : GoodIn wsX11_part wsX11_requirePart := goodIn_ca (goodIn_s _ [(12, 6), (11, 1), (18, 1), (4, 1), (19, 1), (122, 18), (152, 12)] rfl (by decide +kernel)) (goodIn_sub (fun _ h => List.mem_cons_of_mem _ (List.mem_append_right _ h)) (by decide +kernel))
set_option maxRecDepth 20000 in
theorem gX11_part_X11_requirePart : GoodIn wsX11_part (wsV RX11 330 RX11 yX11_requirePart wsX11_requirePart) := goodIn_app (goodIn_of _ (by decide +kernel)) ggX11_part_X11_requirePart
set_option maxRecDepth 20000 in
theorem ggX11_part_X4_take : GoodIn wsX11_part wsX4_take := goodIn_s _ [(24, 17), (11, 1), (41, 12), (23, 1), (53, 35), (140, 31)] rfl (by decide +kernel)
set_option maxRecDepth 20000 in
theorem gX11_part_X4_take : GoodIn wsX11_part (wsV RX11 333 RX4 yX4_take wsX4_take) := goodIn_app (goodIn_of _ (by decide +kernel)) ggX11_part_X4_take
set_option maxRecDepth 20000 in
theorem ggX11_part_X11_at : GoodIn wsX11_part wsX11_at := goodIn_s _ [(41, 1)] rfl (by decide +kernel)
set_option maxRecDepth 20000 in
theorem gX11_part_X11_at : GoodIn wsX11_part (va_wsS RX11 164 yX11_at wsX11_at) := goodIn_app (goodIn_of _ (by decide +kernel)) ggX11_part_X11_at
set_option maxRecDepth 20000 in
theorem ggX11_part_X4_debtAt : GoodIn wsX11_part wsX4_debtAt := goodIn_s _ [(87, 1), (28, 1), (140, 12)] rfl (by decide +kernel)
set_option maxRecDepth 20000 in
theorem gX11_part_X4_debtAt : GoodIn wsX11_part (wsV RX11 340 RX4 yX4_debtAt wsX4_debtAt) := goodIn_app (goodIn_of _ (by decide +kernel)) ggX11_part_X4_debtAt
set_option maxRecDepth 20000 in
theorem ggX11_part_X2_pieces : GoodIn wsX11_part wsX2_pieces := goodIn_s _ [(93, 3), (11, 1), (96, 4), (45, 1), (100, 8), (40, 2), (152, 12)] rfl (by decide +kernel)
set_option maxRecDepth 20000 in
theorem gX11_part_X2_pieces : GoodIn wsX11_part (wsV RX11 346 RX2 yX2_pieces wsX2_pieces) := goodIn_app (goodIn_of _ (by decide +kernel)) ggX11_part_X2_pieces
set_option maxRecDepth 20000 in
theorem ggX11_part_X11_cutAround : GoodIn wsX11_part wsX11_cutAround := goodIn_s _ [(111, 1), (3, 1), (7, 1), (4, 1), (112, 2), (88, 1), (40, 1), (11, 1), (41, 1), (114, 4), (5, 1), (118, 4), (103, 2), (45, 1), (105, 3), (122, 49)] rfl (by decide +kernel)
set_option maxRecDepth 20000 in
theorem gX11_part_X11_cutAround : GoodIn wsX11_part (wsV RX11 349 RX11 yX11_cutAround wsX11_cutAround) := goodIn_app (goodIn_of _ (by decide +kernel)) ggX11_part_X11_cutAround
theorem dX11_part_0 : decode cX11_part 0 = .ok (.aload_n 0, 1) := by decide +kernel
theorem dX11_part_1 : decode cX11_part 1 = .ok (.iload_n 1, 1) := by decide +kernel
theorem dX11_part_2 : decode cX11_part 2 = .ok (.invokevirtual 330, 3) := by decide +kernel
theorem dX11_part_5 : decode cX11_part 5 = .ok (.aload_n 0, 1) := by decide +kernel
theorem dX11_part_6 : decode cX11_part 6 = .ok (.getfield 73, 3) := by decide +kernel
theorem dX11_part_9 : decode cX11_part 9 = .ok (.aload_n 0, 1) := by decide +kernel
theorem dX11_part_10 : decode cX11_part 10 = .ok (.getfield 40, 3) := by decide +kernel
theorem dX11_part_13 : decode cX11_part 13 = .ok (.aload_n 0, 1) := by decide +kernel
theorem dX11_part_14 : decode cX11_part 14 = .ok (.getfield 53, 3) := by decide +kernel
theorem dX11_part_17 : decode cX11_part 17 = .ok (.invokevirtual 333, 3) := by decide +kernel
theorem dX11_part_20 : decode cX11_part 20 = .ok (.iload_n 2, 1) := by decide +kernel
theorem dX11_part_21 : decode cX11_part 21 = .ok (.tableswitch 103 0 4 #[35, 47, 66, 78, 97], 35) := by decide +kernel
theorem dX11_part_56 : decode cX11_part 56 = .ok (.aload_n 0, 1) := by decide +kernel
theorem dX11_part_57 : decode cX11_part 57 = .ok (.getfield 73, 3) := by decide +kernel
theorem dX11_part_60 : decode cX11_part 60 = .ok (.getfield 337, 3) := by decide +kernel
theorem dX11_part_63 : decode cX11_part 63 = .ok (.iload_n 1, 1) := by decide +kernel
theorem dX11_part_64 : decode cX11_part 64 = .ok (.invokestatic 164, 3) := by decide +kernel
theorem dX11_part_67 : decode cX11_part 67 = .ok (.ireturn, 1) := by decide +kernel
theorem dX11_part_68 : decode cX11_part 68 = .ok (.aload_n 0, 1) := by decide +kernel
theorem dX11_part_69 : decode cX11_part 69 = .ok (.getfield 73, 3) := by decide +kernel
theorem dX11_part_72 : decode cX11_part 72 = .ok (.aload_n 0, 1) := by decide +kernel
theorem dX11_part_73 : decode cX11_part 73 = .ok (.getfield 73, 3) := by decide +kernel
