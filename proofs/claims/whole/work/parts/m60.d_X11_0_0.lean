set_option maxRecDepth 20000 in
theorem ggX11_init_X10_init : GoodIn wsX11_init wsX10_init := goodIn_s _ [(55, 2), (2, 2), (52, 1), (57, 3), (124, 12)] rfl (by decide +kernel)
set_option maxRecDepth 20000 in
theorem gX11_init_X10_init_n11 : GoodIn wsX11_init (wsX10_init) := ggX11_init_X10_init
set_option maxRecDepth 20000 in
theorem ggX11_init_X9_init : GoodIn wsX11_init wsX9_init := goodIn_s _ [(61, 2), (2, 2)] rfl (by decide +kernel)
set_option maxRecDepth 20000 in
theorem gX11_init_X9_init_n18 : GoodIn wsX11_init (wsX9_init) := ggX11_init_X9_init
set_option maxRecDepth 20000 in
theorem ggX11_init_X7_init : GoodIn wsX11_init wsX7_init := goodIn_s _ [(64, 2), (2, 2), (52, 1), (66, 1), (155, 1)] rfl (by decide +kernel)
set_option maxRecDepth 20000 in
theorem gX11_init_X7_init_n25 : GoodIn wsX11_init (wsX7_init) := ggX11_init_X7_init
set_option maxRecDepth 20000 in
theorem ggX11_init_X6_init : GoodIn wsX11_init wsX6_init := goodIn_s _ [(68, 2), (2, 2), (52, 1), (70, 4), (156, 6)] rfl (by decide +kernel)
set_option maxRecDepth 20000 in
theorem gX11_init_X6_init_n32 : GoodIn wsX11_init (wsX6_init) := ggX11_init_X6_init
set_option maxRecDepth 20000 in
theorem ggX11_init_X2_init : GoodIn wsX11_init wsX2_init := goodIn_s _ [(75, 2), (2, 2), (77, 3), (52, 1), (80, 4), (162, 12)] rfl (by decide +kernel)
set_option maxRecDepth 20000 in
theorem gX11_init_X2_init_n39 : GoodIn wsX11_init (wsX2_init) := ggX11_init_X2_init
set_option maxRecDepth 20000 in
theorem ggX11_init_X8_init : GoodIn wsX11_init wsX8_init := goodIn_s _ [(85, 2), (2, 2), (52, 1), (87, 4), (174, 7)] rfl (by decide +kernel)
set_option maxRecDepth 20000 in
theorem gX11_init_X8_init_n52 : GoodIn wsX11_init (wsX8_init) := ggX11_init_X8_init
set_option maxRecDepth 20000 in
theorem ggX11_init_X3_init : GoodIn wsX11_init wsX3_init := goodIn_s _ [(93, 2), (2, 2), (95, 2), (27, 2), (84, 3), (52, 1), (87, 4), (181, 3), (174, 7)] rfl (by decide +kernel)
set_option maxRecDepth 20000 in
theorem gX11_init_X3_init : GoodIn wsX11_init (wsX3_init) := ggX11_init_X3_init
set_option maxRecDepth 20000 in
theorem ggX11_init_X4_init : GoodIn wsX11_init wsX4_init := goodIn_s _ [(98, 2), (2, 2), (52, 1), (100, 6), (184, 12)] rfl (by decide +kernel)
set_option maxRecDepth 20000 in
theorem gX11_init_X4_init_n72 : GoodIn wsX11_init (wsX4_init) := ggX11_init_X4_init
set_option maxRecDepth 20000 in
theorem ggX11_init_X5_init : GoodIn wsX11_init wsX5_init := goodIn_s _ [(107, 2), (2, 2), (52, 1), (109, 3), (196, 5)] rfl (by decide +kernel)
set_option maxRecDepth 20000 in
theorem gX11_init_X5_init_n79 : GoodIn wsX11_init (wsX5_init) := ggX11_init_X5_init
set_option maxRecDepth 20000 in
theorem ggX11_init_X0_init : GoodIn wsX11_init wsX0_init := goodIn_s _ [(113, 2), (2, 2), (52, 1), (115, 3), (201, 5)] rfl (by decide +kernel)
set_option maxRecDepth 20000 in
theorem gX11_init_X0_init_n86 : GoodIn wsX11_init (wsX0_init) := ggX11_init_X0_init
set_option maxRecDepth 20000 in
theorem ggX11_init_X1_init : GoodIn wsX11_init wsX1_init := goodIn_s _ [(119, 2), (2, 2), (52, 1), (121, 3), (206, 6)] rfl (by decide +kernel)
set_option maxRecDepth 20000 in
theorem gX11_init_X1_init_n93 : GoodIn wsX11_init (wsX1_init) := ggX11_init_X1_init
theorem dX11_init_0 : decode cX11_init 0 = .ok (.aload_n 0, 1) := by decide +kernel
theorem dX11_init_1 : decode cX11_init 1 = .ok (.invokespecial 3, 3) := by decide +kernel
theorem dX11_init_4 : decode cX11_init 4 = .ok (.aload_n 0, 1) := by decide +kernel
theorem dX11_init_5 : decode cX11_init 5 = .ok (.new 9, 3) := by decide +kernel
theorem dX11_init_8 : decode cX11_init 8 = .ok (.dup, 1) := by decide +kernel
theorem dX11_init_9 : decode cX11_init 9 = .ok (.invokespecial 11, 3) := by decide +kernel
theorem dX11_init_12 : decode cX11_init 12 = .ok (.putfield 12, 3) := by decide +kernel
theorem dX11_init_15 : decode cX11_init 15 = .ok (.aload_n 0, 1) := by decide +kernel
theorem dX11_init_16 : decode cX11_init 16 = .ok (.new 16, 3) := by decide +kernel
theorem dX11_init_19 : decode cX11_init 19 = .ok (.dup, 1) := by decide +kernel
theorem dX11_init_20 : decode cX11_init 20 = .ok (.invokespecial 18, 3) := by decide +kernel
theorem dX11_init_23 : decode cX11_init 23 = .ok (.putfield 19, 3) := by decide +kernel
theorem dX11_init_26 : decode cX11_init 26 = .ok (.aload_n 0, 1) := by decide +kernel
theorem dX11_init_27 : decode cX11_init 27 = .ok (.new 23, 3) := by decide +kernel
theorem dX11_init_30 : decode cX11_init 30 = .ok (.dup, 1) := by decide +kernel
theorem dX11_init_31 : decode cX11_init 31 = .ok (.invokespecial 25, 3) := by decide +kernel
theorem dX11_init_34 : decode cX11_init 34 = .ok (.putfield 26, 3) := by decide +kernel
theorem dX11_init_37 : decode cX11_init 37 = .ok (.aload_n 0, 1) := by decide +kernel
theorem dX11_init_38 : decode cX11_init 38 = .ok (.new 30, 3) := by decide +kernel
theorem dX11_init_41 : decode cX11_init 41 = .ok (.dup, 1) := by decide +kernel
theorem dX11_init_42 : decode cX11_init 42 = .ok (.invokespecial 32, 3) := by decide +kernel
theorem dX11_init_45 : decode cX11_init 45 = .ok (.putfield 33, 3) := by decide +kernel
theorem dX11_init_48 : decode cX11_init 48 = .ok (.aload_n 0, 1) := by decide +kernel
theorem dX11_init_49 : decode cX11_init 49 = .ok (.new 37, 3) := by decide +kernel
theorem dX11_init_52 : decode cX11_init 52 = .ok (.dup, 1) := by decide +kernel
theorem dX11_init_53 : decode cX11_init 53 = .ok (.invokespecial 39, 3) := by decide +kernel
theorem dX11_init_56 : decode cX11_init 56 = .ok (.putfield 40, 3) := by decide +kernel
theorem dX11_init_59 : decode cX11_init 59 = .ok (.aload_n 0, 1) := by decide +kernel
theorem dX11_init_60 : decode cX11_init 60 = .ok (.new 37, 3) := by decide +kernel
theorem dX11_init_63 : decode cX11_init 63 = .ok (.dup, 1) := by decide +kernel
theorem dX11_init_64 : decode cX11_init 64 = .ok (.invokespecial 39, 3) := by decide +kernel
theorem dX11_init_67 : decode cX11_init 67 = .ok (.putfield 44, 3) := by decide +kernel
theorem dX11_init_70 : decode cX11_init 70 = .ok (.aload_n 0, 1) := by decide +kernel
theorem dX11_init_71 : decode cX11_init 71 = .ok (.new 37, 3) := by decide +kernel
theorem dX11_init_74 : decode cX11_init 74 = .ok (.dup, 1) := by decide +kernel
theorem dX11_init_75 : decode cX11_init 75 = .ok (.invokespecial 39, 3) := by decide +kernel
theorem dX11_init_78 : decode cX11_init 78 = .ok (.putfield 47, 3) := by decide +kernel
theorem dX11_init_81 : decode cX11_init 81 = .ok (.aload_n 0, 1) := by decide +kernel
theorem dX11_init_82 : decode cX11_init 82 = .ok (.new 50, 3) := by decide +kernel
theorem dX11_init_85 : decode cX11_init 85 = .ok (.dup, 1) := by decide +kernel
theorem dX11_init_86 : decode cX11_init 86 = .ok (.invokespecial 52, 3) := by decide +kernel
theorem dX11_init_89 : decode cX11_init 89 = .ok (.putfield 53, 3) := by decide +kernel
theorem dX11_init_92 : decode cX11_init 92 = .ok (.aload_n 0, 1) := by decide +kernel
theorem dX11_init_93 : decode cX11_init 93 = .ok (.new 50, 3) := by decide +kernel
theorem dX11_init_96 : decode cX11_init 96 = .ok (.dup, 1) := by decide +kernel
theorem dX11_init_97 : decode cX11_init 97 = .ok (.invokespecial 52, 3) := by decide +kernel
theorem dX11_init_100 : decode cX11_init 100 = .ok (.putfield 57, 3) := by decide +kernel
theorem dX11_init_103 : decode cX11_init 103 = .ok (.aload_n 0, 1) := by decide +kernel
theorem dX11_init_104 : decode cX11_init 104 = .ok (.new 50, 3) := by decide +kernel
theorem dX11_init_107 : decode cX11_init 107 = .ok (.dup, 1) := by decide +kernel
theorem dX11_init_108 : decode cX11_init 108 = .ok (.invokespecial 52, 3) := by decide +kernel
theorem dX11_init_111 : decode cX11_init 111 = .ok (.putfield 60, 3) := by decide +kernel
theorem dX11_init_114 : decode cX11_init 114 = .ok (.aload_n 0, 1) := by decide +kernel
theorem dX11_init_115 : decode cX11_init 115 = .ok (.new 63, 3) := by decide +kernel
theorem dX11_init_118 : decode cX11_init 118 = .ok (.dup, 1) := by decide +kernel
theorem dX11_init_119 : decode cX11_init 119 = .ok (.invokespecial 65, 3) := by decide +kernel
theorem dX11_init_122 : decode cX11_init 122 = .ok (.putfield 66, 3) := by decide +kernel
theorem dX11_init_125 : decode cX11_init 125 = .ok (.aload_n 0, 1) := by decide +kernel
theorem dX11_init_126 : decode cX11_init 126 = .ok (.new 70, 3) := by decide +kernel
theorem dX11_init_129 : decode cX11_init 129 = .ok (.dup, 1) := by decide +kernel
theorem dX11_init_130 : decode cX11_init 130 = .ok (.invokespecial 72, 3) := by decide +kernel
theorem dX11_init_133 : decode cX11_init 133 = .ok (.putfield 73, 3) := by decide +kernel
theorem dX11_init_136 : decode cX11_init 136 = .ok (.aload_n 0, 1) := by decide +kernel
theorem dX11_init_137 : decode cX11_init 137 = .ok (.new 77, 3) := by decide +kernel
theorem dX11_init_140 : decode cX11_init 140 = .ok (.dup, 1) := by decide +kernel
theorem dX11_init_141 : decode cX11_init 141 = .ok (.invokespecial 79, 3) := by decide +kernel
theorem dX11_init_144 : decode cX11_init 144 = .ok (.putfield 80, 3) := by decide +kernel
theorem dX11_init_147 : decode cX11_init 147 = .ok (.aload_n 0, 1) := by decide +kernel
theorem dX11_init_148 : decode cX11_init 148 = .ok (.new 84, 3) := by decide +kernel
theorem dX11_init_151 : decode cX11_init 151 = .ok (.dup, 1) := by decide +kernel
theorem dX11_init_152 : decode cX11_init 152 = .ok (.invokespecial 86, 3) := by decide +kernel
theorem dX11_init_155 : decode cX11_init 155 = .ok (.putfield 87, 3) := by decide +kernel
theorem dX11_init_158 : decode cX11_init 158 = .ok (.aload_n 0, 1) := by decide +kernel
theorem dX11_init_159 : decode cX11_init 159 = .ok (.new 91, 3) := by decide +kernel
theorem dX11_init_162 : decode cX11_init 162 = .ok (.dup, 1) := by decide +kernel
theorem dX11_init_163 : decode cX11_init 163 = .ok (.invokespecial 93, 3) := by decide +kernel
theorem dX11_init_166 : decode cX11_init 166 = .ok (.putfield 94, 3) := by decide +kernel
theorem dX11_init_169 : decode cX11_init 169 = .ok (.aload_n 0, 1) := by decide +kernel
theorem dX11_init_170 : decode cX11_init 170 = .ok (.sipush 152, 3) := by decide +kernel
theorem dX11_init_173 : decode cX11_init 173 = .ok (.newarray .int, 2) := by decide +kernel
theorem dX11_init_175 : decode cX11_init 175 = .ok (.putfield 98, 3) := by decide +kernel
theorem dX11_init_178 : decode cX11_init 178 = .ok (.return_, 1) := by decide +kernel
set_option maxRecDepth 20000 in
theorem ggX11_feed_X10_append : GoodIn wsX11_feed wsX10_append := goodIn_s _ [(9, 6), (33, 12)] rfl (by decide +kernel)
set_option maxRecDepth 20000 in
theorem gX11_feed_X10_append : GoodIn wsX11_feed (wsV RX11 113 RX10 yX10_append wsX10_append) := goodIn_app (goodIn_of _ (by decide +kernel)) ggX11_feed_X10_append
theorem dX11_feed_0 : decode cX11_feed 0 = .ok (.aload_n 0, 1) := by decide +kernel
theorem dX11_feed_1 : decode cX11_feed 1 = .ok (.getfield 12, 3) := by decide +kernel
theorem dX11_feed_4 : decode cX11_feed 4 = .ok (.getfield 102, 3) := by decide +kernel
theorem dX11_feed_7 : decode cX11_feed 7 = .ok (.sipush 780, 3) := by decide +kernel
theorem dX11_feed_10 : decode cX11_feed 10 = .ok (.if_icmp .le 13, 3) := by decide +kernel
theorem dX11_feed_13 : decode cX11_feed 13 = .ok (.new 106, 3) := by decide +kernel
theorem dX11_feed_16 : decode cX11_feed 16 = .ok (.dup, 1) := by decide +kernel
theorem dX11_feed_17 : decode cX11_feed 17 = .ok (.ldc 108, 2) := by decide +kernel
theorem dX11_feed_19 : decode cX11_feed 19 = .ok (.invokespecial 110, 3) := by decide +kernel
theorem dX11_feed_22 : decode cX11_feed 22 = .ok (.athrow, 1) := by decide +kernel
theorem dX11_feed_23 : decode cX11_feed 23 = .ok (.aload_n 0, 1) := by decide +kernel
theorem dX11_feed_24 : decode cX11_feed 24 = .ok (.getfield 12, 3) := by decide +kernel
theorem dX11_feed_27 : decode cX11_feed 27 = .ok (.iload_n 1, 1) := by decide +kernel
theorem dX11_feed_28 : decode cX11_feed 28 = .ok (.invokevirtual 113, 3) := by decide +kernel
theorem dX11_feed_31 : decode cX11_feed 31 = .ok (.aload_n 0, 1) := by decide +kernel
theorem dX11_feed_32 : decode cX11_feed 32 = .ok (.getfield 12, 3) := by decide +kernel
theorem dX11_feed_35 : decode cX11_feed 35 = .ok (.iload_n 2, 1) := by decide +kernel
theorem dX11_feed_36 : decode cX11_feed 36 = .ok (.invokevirtual 113, 3) := by decide +kernel
theorem dX11_feed_39 : decode cX11_feed 39 = .ok (.aload_n 0, 1) := by decide +kernel
theorem dX11_feed_40 : decode cX11_feed 40 = .ok (.getfield 12, 3) := by decide +kernel
theorem dX11_feed_43 : decode cX11_feed 43 = .ok (.iload_n 3, 1) := by decide +kernel
theorem dX11_feed_44 : decode cX11_feed 44 = .ok (.invokevirtual 113, 3) := by decide +kernel
theorem dX11_feed_47 : decode cX11_feed 47 = .ok (.aload_n 0, 1) := by decide +kernel
theorem dX11_feed_48 : decode cX11_feed 48 = .ok (.getfield 12, 3) := by decide +kernel
theorem dX11_feed_51 : decode cX11_feed 51 = .ok (.iload 4, 2) := by decide +kernel
theorem dX11_feed_53 : decode cX11_feed 53 = .ok (.invokevirtual 113, 3) := by decide +kernel
theorem dX11_feed_56 : decode cX11_feed 56 = .ok (.aload_n 0, 1) := by decide +kernel
theorem dX11_feed_57 : decode cX11_feed 57 = .ok (.getfield 12, 3) := by decide +kernel
theorem dX11_feed_60 : decode cX11_feed 60 = .ok (.iload 5, 2) := by decide +kernel
theorem dX11_feed_62 : decode cX11_feed 62 = .ok (.invokevirtual 113, 3) := by decide +kernel
theorem dX11_feed_65 : decode cX11_feed 65 = .ok (.aload_n 0, 1) := by decide +kernel
theorem dX11_feed_66 : decode cX11_feed 66 = .ok (.getfield 12, 3) := by decide +kernel
theorem dX11_feed_69 : decode cX11_feed 69 = .ok (.getfield 102, 3) := by decide +kernel
theorem dX11_feed_72 : decode cX11_feed 72 = .ok (.ireturn, 1) := by decide +kernel
theorem dX11_truncate_0 : decode cX11_truncate 0 = .ok (.iload_n 1, 1) := by decide +kernel
theorem dX11_truncate_1 : decode cX11_truncate 1 = .ok (.ifCond .lt 14, 3) := by decide +kernel
theorem dX11_truncate_4 : decode cX11_truncate 4 = .ok (.iload_n 1, 1) := by decide +kernel
theorem dX11_truncate_5 : decode cX11_truncate 5 = .ok (.aload_n 0, 1) := by decide +kernel
theorem dX11_truncate_6 : decode cX11_truncate 6 = .ok (.getfield 12, 3) := by decide +kernel
theorem dX11_truncate_9 : decode cX11_truncate 9 = .ok (.getfield 102, 3) := by decide +kernel
theorem dX11_truncate_12 : decode cX11_truncate 12 = .ok (.if_icmp .le 13, 3) := by decide +kernel
theorem dX11_truncate_15 : decode cX11_truncate 15 = .ok (.new 117, 3) := by decide +kernel
theorem dX11_truncate_18 : decode cX11_truncate 18 = .ok (.dup, 1) := by decide +kernel
theorem dX11_truncate_19 : decode cX11_truncate 19 = .ok (.ldc 119, 2) := by decide +kernel
theorem dX11_truncate_21 : decode cX11_truncate 21 = .ok (.invokespecial 121, 3) := by decide +kernel
theorem dX11_truncate_24 : decode cX11_truncate 24 = .ok (.athrow, 1) := by decide +kernel
theorem dX11_truncate_25 : decode cX11_truncate 25 = .ok (.aload_n 0, 1) := by decide +kernel
theorem dX11_truncate_26 : decode cX11_truncate 26 = .ok (.getfield 12, 3) := by decide +kernel
theorem dX11_truncate_29 : decode cX11_truncate 29 = .ok (.iload_n 1, 1) := by decide +kernel
theorem dX11_truncate_30 : decode cX11_truncate 30 = .ok (.putfield 102, 3) := by decide +kernel
theorem dX11_truncate_33 : decode cX11_truncate 33 = .ok (.iload_n 1, 1) := by decide +kernel
theorem dX11_truncate_34 : decode cX11_truncate 34 = .ok (.ireturn, 1) := by decide +kernel
set_option maxRecDepth 20000 in
theorem ggX11_readText_X10_begin : GoodIn wsX11_readText wsX10_begin := goodIn_s _ [(14, 10), (277, 12)] rfl (by decide +kernel)
set_option maxRecDepth 20000 in
theorem gX11_readText_X10_begin : GoodIn wsX11_readText (wsV RX11 122 RX10 yX10_begin wsX10_begin) := goodIn_app (goodIn_of _ (by decide +kernel)) ggX11_readText_X10_begin
set_option maxRecDepth 20000 in
theorem ggX11_readText_X2_copyFrom : GoodIn wsX11_readText wsX2_copyFrom := goodIn_s _ [(212, 1), (36, 7), (158, 1), (213, 4), (167, 1), (183, 2), (189, 1), (217, 1), (49, 1), (218, 6), (265, 12)] rfl (by decide +kernel)
set_option maxRecDepth 20000 in
theorem gX11_readText_X2_copyFrom : GoodIn wsX11_readText (wsV RX11 131 RX2 yX2_copyFrom wsX2_copyFrom) := goodIn_app (goodIn_of _ (by decide +kernel)) ggX11_readText_X2_copyFrom
set_option maxRecDepth 20000 in
theorem ggX11_readText_X8_start : GoodIn wsX11_readText wsX8_start := goodIn_s _ [(228, 13), (168, 1), (49, 1), (169, 1), (290, 7), (265, 12)] rfl (by decide +kernel)
set_option maxRecDepth 20000 in
theorem gX11_readText_X8_start : GoodIn wsX11_readText (wsV RX11 135 RX8 yX8_start wsX8_start) := goodIn_app (goodIn_of _ (by decide +kernel)) ggX11_readText_X8_start
set_option maxRecDepth 20000 in
theorem ggX11_readText_X3_forget : GoodIn wsX11_readText wsX3_forget := goodIn_s _ [(245, 2), (297, 3)] rfl (by decide +kernel)
set_option maxRecDepth 20000 in
theorem gX11_readText_X3_forget : GoodIn wsX11_readText (wsV RX11 138 RX3 yX3_forget wsX3_forget) := goodIn_app (goodIn_of _ (by decide +kernel)) ggX11_readText_X3_forget
theorem dX11_readText_0 : decode cX11_readText 0 = .ok (.aload_n 0, 1) := by decide +kernel
theorem dX11_readText_1 : decode cX11_readText 1 = .ok (.getfield 12, 3) := by decide +kernel
theorem dX11_readText_4 : decode cX11_readText 4 = .ok (.invokevirtual 122, 3) := by decide +kernel
theorem dX11_readText_7 : decode cX11_readText 7 = .ok (.aload_n 0, 1) := by decide +kernel
theorem dX11_readText_8 : decode cX11_readText 8 = .ok (.getfield 19, 3) := by decide +kernel
theorem dX11_readText_11 : decode cX11_readText 11 = .ok (.aload_n 0, 1) := by decide +kernel
theorem dX11_readText_12 : decode cX11_readText 12 = .ok (.getfield 12, 3) := by decide +kernel
theorem dX11_readText_15 : decode cX11_readText 15 = .ok (.aload_n 0, 1) := by decide +kernel
theorem dX11_readText_16 : decode cX11_readText 16 = .ok (.getfield 44, 3) := by decide +kernel
theorem dX11_readText_19 : decode cX11_readText 19 = .ok (.invokevirtual 125, 3) := by decide +kernel
theorem dX11_readText_22 : decode cX11_readText 22 = .ok (.ifCond .ne 13, 3) := by decide +kernel
theorem dX11_readText_25 : decode cX11_readText 25 = .ok (.new 117, 3) := by decide +kernel
theorem dX11_readText_28 : decode cX11_readText 28 = .ok (.dup, 1) := by decide +kernel
theorem dX11_readText_29 : decode cX11_readText 29 = .ok (.ldc 129, 2) := by decide +kernel
theorem dX11_readText_31 : decode cX11_readText 31 = .ok (.invokespecial 121, 3) := by decide +kernel
theorem dX11_readText_34 : decode cX11_readText 34 = .ok (.athrow, 1) := by decide +kernel
theorem dX11_readText_35 : decode cX11_readText 35 = .ok (.aload_n 0, 1) := by decide +kernel
theorem dX11_readText_36 : decode cX11_readText 36 = .ok (.getfield 40, 3) := by decide +kernel
theorem dX11_readText_39 : decode cX11_readText 39 = .ok (.aload_n 0, 1) := by decide +kernel
theorem dX11_readText_40 : decode cX11_readText 40 = .ok (.getfield 44, 3) := by decide +kernel
theorem dX11_readText_43 : decode cX11_readText 43 = .ok (.invokevirtual 131, 3) := by decide +kernel
theorem dX11_readText_46 : decode cX11_readText 46 = .ok (.aload_n 0, 1) := by decide +kernel
theorem dX11_readText_47 : decode cX11_readText 47 = .ok (.getfield 53, 3) := by decide +kernel
theorem dX11_readText_50 : decode cX11_readText 50 = .ok (.aload_n 0, 1) := by decide +kernel
theorem dX11_readText_51 : decode cX11_readText 51 = .ok (.getfield 40, 3) := by decide +kernel
theorem dX11_readText_54 : decode cX11_readText 54 = .ok (.invokevirtual 135, 3) := by decide +kernel
theorem dX11_readText_57 : decode cX11_readText 57 = .ok (.aload_n 0, 1) := by decide +kernel
theorem dX11_readText_58 : decode cX11_readText 58 = .ok (.getfield 66, 3) := by decide +kernel
theorem dX11_readText_61 : decode cX11_readText 61 = .ok (.invokevirtual 138, 3) := by decide +kernel
theorem dX11_readText_64 : decode cX11_readText 64 = .ok (.aload_n 0, 1) := by decide +kernel
theorem dX11_readText_65 : decode cX11_readText 65 = .ok (.getfield 40, 3) := by decide +kernel
theorem dX11_readText_68 : decode cX11_readText 68 = .ok (.getfield 141, 3) := by decide +kernel
theorem dX11_readText_71 : decode cX11_readText 71 = .ok (.ireturn, 1) := by decide +kernel
set_option maxRecDepth 20000 in
theorem ggX11_runScript_X10_begin : GoodIn wsX11_runScript wsX10_begin := goodIn_s _ [(13, 10), (586, 12)] rfl (by decide +kernel)
set_option maxRecDepth 20000 in
theorem gX11_runScript_X10_begin : GoodIn wsX11_runScript (wsV RX11 122 RX10 yX10_begin wsX10_begin) := goodIn_app (goodIn_of _ (by decide +kernel)) ggX11_runScript_X10_begin
set_option maxRecDepth 20000 in
theorem ggX11_runScript_X3_keep : GoodIn wsX11_runScript wsX3_keep := goodIn_s _ [(206, 10), (205, 1), (216, 15), (43, 1), (231, 6), (617, 10)] rfl (by decide +kernel)
set_option maxRecDepth 20000 in
theorem gX11_runScript_X3_keep : GoodIn wsX11_runScript (wsV RX11 149 RX3 yX3_keep wsX3_keep) := goodIn_app (goodIn_of _ (by decide +kernel)) ggX11_runScript_X3_keep
theorem dX11_runScript_0 : decode cX11_runScript 0 = .ok (.aload_n 0, 1) := by decide +kernel
theorem dX11_runScript_1 : decode cX11_runScript 1 = .ok (.getfield 12, 3) := by decide +kernel
theorem dX11_runScript_4 : decode cX11_runScript 4 = .ok (.invokevirtual 122, 3) := by decide +kernel
theorem dX11_runScript_7 : decode cX11_runScript 7 = .ok (.aload_n 0, 1) := by decide +kernel
theorem dX11_runScript_8 : decode cX11_runScript 8 = .ok (.getfield 26, 3) := by decide +kernel
theorem dX11_runScript_11 : decode cX11_runScript 11 = .ok (.aload_n 0, 1) := by decide +kernel
theorem dX11_runScript_12 : decode cX11_runScript 12 = .ok (.getfield 12, 3) := by decide +kernel
theorem dX11_runScript_15 : decode cX11_runScript 15 = .ok (.aload_n 0, 1) := by decide +kernel
theorem dX11_runScript_16 : decode cX11_runScript 16 = .ok (.getfield 33, 3) := by decide +kernel
theorem dX11_runScript_19 : decode cX11_runScript 19 = .ok (.aload_n 0, 1) := by decide +kernel
theorem dX11_runScript_20 : decode cX11_runScript 20 = .ok (.getfield 40, 3) := by decide +kernel
theorem dX11_runScript_23 : decode cX11_runScript 23 = .ok (.invokevirtual 144, 3) := by decide +kernel
theorem dX11_runScript_26 : decode cX11_runScript 26 = .ok (.ifCond .ne 13, 3) := by decide +kernel
theorem dX11_runScript_29 : decode cX11_runScript 29 = .ok (.new 117, 3) := by decide +kernel
theorem dX11_runScript_32 : decode cX11_runScript 32 = .ok (.dup, 1) := by decide +kernel
theorem dX11_runScript_33 : decode cX11_runScript 33 = .ok (.ldc 147, 2) := by decide +kernel
theorem dX11_runScript_35 : decode cX11_runScript 35 = .ok (.invokespecial 121, 3) := by decide +kernel
theorem dX11_runScript_38 : decode cX11_runScript 38 = .ok (.athrow, 1) := by decide +kernel
theorem dX11_runScript_39 : decode cX11_runScript 39 = .ok (.aload_n 0, 1) := by decide +kernel
theorem dX11_runScript_40 : decode cX11_runScript 40 = .ok (.getfield 66, 3) := by decide +kernel
theorem dX11_runScript_43 : decode cX11_runScript 43 = .ok (.aload_n 0, 1) := by decide +kernel
theorem dX11_runScript_44 : decode cX11_runScript 44 = .ok (.getfield 53, 3) := by decide +kernel
theorem dX11_runScript_47 : decode cX11_runScript 47 = .ok (.invokevirtual 149, 3) := by decide +kernel
theorem dX11_runScript_50 : decode cX11_runScript 50 = .ok (.aload_n 0, 1) := by decide +kernel
theorem dX11_runScript_51 : decode cX11_runScript 51 = .ok (.invokevirtual 153, 3) := by decide +kernel
theorem dX11_runScript_54 : decode cX11_runScript 54 = .ok (.ireturn, 1) := by decide +kernel
set_option maxRecDepth 20000 in
theorem ggX11_runCommands_X11_at : GoodIn wsX11_runCommands wsX11_at := goodIn_s _ [(10, 1)] rfl (by decide +kernel)
set_option maxRecDepth 20000 in
theorem gX11_runCommands_X11_at : GoodIn wsX11_runCommands (va_wsS RX11 164 yX11_at wsX11_at) := goodIn_app (goodIn_of _ (by decide +kernel)) ggX11_runCommands_X11_at
set_option maxRecDepth 20000 in
theorem ggX11_runCommands_X6_beginRepeat : GoodIn wsX11_runCommands wsX6_beginRepeat := goodIn_s _ [(15, 3), (8, 3), (18, 2), (374, 6)] rfl (by decide +kernel)
set_option maxRecDepth 20000 in
theorem gX11_runCommands_X6_beginRepeat : GoodIn wsX11_runCommands (wsV RX11 168 RX6 yX6_beginRepeat wsX6_beginRepeat) := goodIn_app (goodIn_of _ (by decide +kernel)) ggX11_runCommands_X6_beginRepeat
set_option maxRecDepth 20000 in
theorem ggX11_runCommands_X6_behindClose : GoodIn wsX11_runCommands wsX6_behindClose := goodIn_s _ [(23, 1), (17, 1), (16, 1), (8, 3), (24, 2), (374, 6)] rfl (by decide +kernel)
set_option maxRecDepth 20000 in
theorem gX11_runCommands_X6_behindClose : GoodIn wsX11_runCommands (wsV RX11 171 RX6 yX6_behindClose wsX6_behindClose) := goodIn_app (goodIn_of _ (by decide +kernel)) ggX11_runCommands_X6_behindClose
theorem dX11_runCommands_0 : decode cX11_runCommands 0 = .ok (.iconst 0, 1) := by decide +kernel
theorem dX11_runCommands_1 : decode cX11_runCommands 1 = .ok (.istore_n 1, 1) := by decide +kernel
theorem dX11_runCommands_2 : decode cX11_runCommands 2 = .ok (.iconst 0, 1) := by decide +kernel
theorem dX11_runCommands_3 : decode cX11_runCommands 3 = .ok (.istore_n 2, 1) := by decide +kernel
theorem dX11_runCommands_4 : decode cX11_runCommands 4 = .ok (.iconst 0, 1) := by decide +kernel
theorem dX11_runCommands_5 : decode cX11_runCommands 5 = .ok (.istore_n 3, 1) := by decide +kernel
theorem dX11_runCommands_6 : decode cX11_runCommands 6 = .ok (.iload_n 3, 1) := by decide +kernel
theorem dX11_runCommands_7 : decode cX11_runCommands 7 = .ok (.ldc 157, 2) := by decide +kernel
theorem dX11_runCommands_9 : decode cX11_runCommands 9 = .ok (.if_icmp .ge 136, 3) := by decide +kernel
theorem dX11_runCommands_12 : decode cX11_runCommands 12 = .ok (.iload_n 2, 1) := by decide +kernel
theorem dX11_runCommands_13 : decode cX11_runCommands 13 = .ok (.aload_n 0, 1) := by decide +kernel
theorem dX11_runCommands_14 : decode cX11_runCommands 14 = .ok (.getfield 33, 3) := by decide +kernel
theorem dX11_runCommands_17 : decode cX11_runCommands 17 = .ok (.getfield 158, 3) := by decide +kernel
theorem dX11_runCommands_20 : decode cX11_runCommands 20 = .ok (.if_icmp .ge 125, 3) := by decide +kernel
theorem dX11_runCommands_23 : decode cX11_runCommands 23 = .ok (.iload_n 1, 1) := by decide +kernel
theorem dX11_runCommands_24 : decode cX11_runCommands 24 = .ok (.bipush 40, 2) := by decide +kernel
theorem dX11_runCommands_26 : decode cX11_runCommands 26 = .ok (.if_icmp .ge 119, 3) := by decide +kernel
theorem dX11_runCommands_29 : decode cX11_runCommands 29 = .ok (.aload_n 0, 1) := by decide +kernel
theorem dX11_runCommands_30 : decode cX11_runCommands 30 = .ok (.getfield 33, 3) := by decide +kernel
theorem dX11_runCommands_33 : decode cX11_runCommands 33 = .ok (.getfield 161, 3) := by decide +kernel
theorem dX11_runCommands_36 : decode cX11_runCommands 36 = .ok (.iload_n 2, 1) := by decide +kernel
theorem dX11_runCommands_37 : decode cX11_runCommands 37 = .ok (.invokestatic 164, 3) := by decide +kernel
theorem dX11_runCommands_40 : decode cX11_runCommands 40 = .ok (.istore 4, 2) := by decide +kernel
theorem dX11_runCommands_42 : decode cX11_runCommands 42 = .ok (.iload 4, 2) := by decide +kernel
theorem dX11_runCommands_44 : decode cX11_runCommands 44 = .ok (.bipush 8, 2) := by decide +kernel
theorem dX11_runCommands_46 : decode cX11_runCommands 46 = .ok (.if_icmp .ne 17, 3) := by decide +kernel
theorem dX11_runCommands_49 : decode cX11_runCommands 49 = .ok (.aload_n 0, 1) := by decide +kernel
theorem dX11_runCommands_50 : decode cX11_runCommands 50 = .ok (.getfield 33, 3) := by decide +kernel
theorem dX11_runCommands_53 : decode cX11_runCommands 53 = .ok (.iload_n 2, 1) := by decide +kernel
theorem dX11_runCommands_54 : decode cX11_runCommands 54 = .ok (.invokevirtual 168, 3) := by decide +kernel
theorem dX11_runCommands_57 : decode cX11_runCommands 57 = .ok (.iinc 2 1, 3) := by decide +kernel
theorem dX11_runCommands_60 : decode cX11_runCommands 60 = .ok (.goto 79, 3) := by decide +kernel
theorem dX11_runCommands_63 : decode cX11_runCommands 63 = .ok (.iload 4, 2) := by decide +kernel
theorem dX11_runCommands_65 : decode cX11_runCommands 65 = .ok (.bipush 9, 2) := by decide +kernel
theorem dX11_runCommands_67 : decode cX11_runCommands 67 = .ok (.if_icmp .ne 15, 3) := by decide +kernel
theorem dX11_runCommands_70 : decode cX11_runCommands 70 = .ok (.aload_n 0, 1) := by decide +kernel
theorem dX11_runCommands_71 : decode cX11_runCommands 71 = .ok (.getfield 33, 3) := by decide +kernel
theorem dX11_runCommands_74 : decode cX11_runCommands 74 = .ok (.iload_n 2, 1) := by decide +kernel
theorem dX11_runCommands_75 : decode cX11_runCommands 75 = .ok (.invokevirtual 171, 3) := by decide +kernel
theorem dX11_runCommands_78 : decode cX11_runCommands 78 = .ok (.istore_n 2, 1) := by decide +kernel
theorem dX11_runCommands_79 : decode cX11_runCommands 79 = .ok (.goto 60, 3) := by decide +kernel
theorem dX11_runCommands_82 : decode cX11_runCommands 82 = .ok (.aload_n 0, 1) := by decide +kernel
theorem dX11_runCommands_83 : decode cX11_runCommands 83 = .ok (.getfield 33, 3) := by decide +kernel
theorem dX11_runCommands_86 : decode cX11_runCommands 86 = .ok (.getfield 175, 3) := by decide +kernel
theorem dX11_runCommands_89 : decode cX11_runCommands 89 = .ok (.iload_n 2, 1) := by decide +kernel
theorem dX11_runCommands_90 : decode cX11_runCommands 90 = .ok (.invokestatic 164, 3) := by decide +kernel
theorem dX11_runCommands_93 : decode cX11_runCommands 93 = .ok (.istore 5, 2) := by decide +kernel
theorem dX11_runCommands_95 : decode cX11_runCommands 95 = .ok (.aload_n 0, 1) := by decide +kernel
theorem dX11_runCommands_96 : decode cX11_runCommands 96 = .ok (.getfield 33, 3) := by decide +kernel
theorem dX11_runCommands_99 : decode cX11_runCommands 99 = .ok (.getfield 178, 3) := by decide +kernel
theorem dX11_runCommands_102 : decode cX11_runCommands 102 = .ok (.iload_n 2, 1) := by decide +kernel
theorem dX11_runCommands_103 : decode cX11_runCommands 103 = .ok (.invokestatic 164, 3) := by decide +kernel
theorem dX11_runCommands_106 : decode cX11_runCommands 106 = .ok (.istore 6, 2) := by decide +kernel
theorem dX11_runCommands_108 : decode cX11_runCommands 108 = .ok (.aload_n 0, 1) := by decide +kernel
theorem dX11_runCommands_109 : decode cX11_runCommands 109 = .ok (.iload 4, 2) := by decide +kernel
theorem dX11_runCommands_111 : decode cX11_runCommands 111 = .ok (.iload 5, 2) := by decide +kernel
theorem dX11_runCommands_113 : decode cX11_runCommands 113 = .ok (.iload 6, 2) := by decide +kernel
theorem dX11_runCommands_115 : decode cX11_runCommands 115 = .ok (.invokevirtual 181, 3) := by decide +kernel
theorem dX11_runCommands_118 : decode cX11_runCommands 118 = .ok (.ifCond .ne 5, 3) := by decide +kernel
theorem dX11_runCommands_121 : decode cX11_runCommands 121 = .ok (.iload_n 1, 1) := by decide +kernel
theorem dX11_runCommands_122 : decode cX11_runCommands 122 = .ok (.ireturn, 1) := by decide +kernel
theorem dX11_runCommands_123 : decode cX11_runCommands 123 = .ok (.aload_n 0, 1) := by decide +kernel
theorem dX11_runCommands_124 : decode cX11_runCommands 124 = .ok (.iload 4, 2) := by decide +kernel
theorem dX11_runCommands_126 : decode cX11_runCommands 126 = .ok (.iload 5, 2) := by decide +kernel
theorem dX11_runCommands_128 : decode cX11_runCommands 128 = .ok (.iload 6, 2) := by decide +kernel
theorem dX11_runCommands_130 : decode cX11_runCommands 130 = .ok (.invokevirtual 185, 3) := by decide +kernel
theorem dX11_runCommands_133 : decode cX11_runCommands 133 = .ok (.iinc 1 1, 3) := by decide +kernel
theorem dX11_runCommands_136 : decode cX11_runCommands 136 = .ok (.iinc 2 1, 3) := by decide +kernel
theorem dX11_runCommands_139 : decode cX11_runCommands 139 = .ok (.iinc 3 1, 3) := by decide +kernel
theorem dX11_runCommands_142 : decode cX11_runCommands 142 = .ok (.goto (-136), 3) := by decide +kernel
theorem dX11_runCommands_145 : decode cX11_runCommands 145 = .ok (.iload_n 1, 1) := by decide +kernel
theorem dX11_runCommands_146 : decode cX11_runCommands 146 = .ok (.ireturn, 1) := by decide +kernel
set_option maxRecDepth 20000 in
theorem ggX11_canPerform_X11_hasGroup : GoodIn wsX11_canPerform wsX11_hasGroup := goodIn_s _ [(114, 1), (1, 1), (115, 1), (30, 7), (6, 1), (37, 1), (184, 25)] rfl (by decide +kernel)
set_option maxRecDepth 20000 in
theorem gX11_canPerform_X11_hasGroup : GoodIn wsX11_canPerform (wsV RX11 195 RX11 yX11_hasGroup wsX11_hasGroup) := goodIn_app (goodIn_of _ (by decide +kernel)) ggX11_canPerform_X11_hasGroup
set_option maxRecDepth 20000 in
theorem ggX11_canPerform_X11_hasPart : GoodIn wsX11_canPerform wsX11_hasPart := goodIn_s _ [(119, 1), (15, 1), (120, 1), (184, 18), (226, 12)] rfl (by decide +kernel)
set_option maxRecDepth 20000 in
theorem gX11_canPerform_X11_hasPart : GoodIn wsX11_canPerform (wsV RX11 199 RX11 yX11_hasPart wsX11_hasPart) := goodIn_app (goodIn_of _ (by decide +kernel)) ggX11_canPerform_X11_hasPart
set_option maxRecDepth 20000 in
theorem ggX11_canPerform_X11_nextStep : GoodIn wsX11_canPerform wsX11_nextStep := goodIn_s _ [(150, 1), (14, 2), (1, 1), (16, 21), (6, 1), (37, 47), (151, 12), (139, 8), (184, 18), (214, 24), (202, 7)] rfl (by decide +kernel)
set_option maxRecDepth 20000 in
theorem gX11_canPerform_X11_nextStep : GoodIn wsX11_canPerform (wsV RX11 206 RX11 yX11_nextStep wsX11_nextStep) := goodIn_app (goodIn_of _ (by decide +kernel)) ggX11_canPerform_X11_nextStep
set_option maxRecDepth 20000 in
theorem ggX11_canPerform_X11_isStepCount : GoodIn wsX11_canPerform wsX11_isStepCount := goodIn_s _ [(166, 1)] rfl (by decide +kernel)
set_option maxRecDepth 20000 in
theorem gX11_canPerform_X11_isStepCount : GoodIn wsX11_canPerform (wsV RX11 209 RX11 yX11_isStepCount wsX11_isStepCount) := goodIn_app (goodIn_of _ (by decide +kernel)) ggX11_canPerform_X11_isStepCount
set_option maxRecDepth 20000 in
theorem ggX11_canPerform_X11_hasFewGroups : GoodIn wsX11_canPerform wsX11_hasFewGroups := goodIn_s _ [(170, 1), (1, 1), (115, 1), (30, 7), (6, 1), (37, 1), (184, 25)] rfl (by decide +kernel)
set_option maxRecDepth 20000 in
theorem gX11_canPerform_X11_hasFewGroups : GoodIn wsX11_canPerform (wsV RX11 212 RX11 yX11_hasFewGroups wsX11_hasFewGroups) := goodIn_app (goodIn_of _ (by decide +kernel)) ggX11_canPerform_X11_hasFewGroups
set_option maxRecDepth 20000 in
theorem ggX11_canPerform_X11_hasVertex : GoodIn wsX11_canPerform wsX11_hasVertex := goodIn_s _ [(174, 1), (15, 1), (175, 1), (184, 18), (226, 12)] rfl (by decide +kernel)
set_option maxRecDepth 20000 in
theorem gX11_canPerform_X11_hasVertex : GoodIn wsX11_canPerform (wsV RX11 216 RX11 yX11_hasVertex wsX11_hasVertex) := goodIn_app (goodIn_of _ (by decide +kernel)) ggX11_canPerform_X11_hasVertex
set_option maxRecDepth 20000 in
theorem ggX11_canPerform_X11_canTakeApart : GoodIn wsX11_canPerform wsX11_canTakeApart := goodIn_s _ [(179, 1), (15, 1), (120, 1), (1, 2), (184, 18), (226, 12), (202, 7)] rfl (by decide +kernel)
set_option maxRecDepth 20000 in
theorem gX11_canPerform_X11_canTakeApart : GoodIn wsX11_canPerform (wsV RX11 219 RX11 yX11_canTakeApart wsX11_canTakeApart) := goodIn_app (goodIn_of _ (by decide +kernel)) ggX11_canPerform_X11_canTakeApart
set_option maxRecDepth 20000 in
theorem ggX11_canPerform_X11_isAllowance : GoodIn wsX11_canPerform wsX11_isAllowance := goodIn_s _ [(183, 1)] rfl (by decide +kernel)
set_option maxRecDepth 20000 in
theorem gX11_canPerform_X11_isAllowance : GoodIn wsX11_canPerform (wsV RX11 222 RX11 yX11_isAllowance wsX11_isAllowance) := goodIn_app (goodIn_of _ (by decide +kernel)) ggX11_canPerform_X11_isAllowance
theorem dX11_canPerform_0 : decode cX11_canPerform 0 = .ok (.iload_n 1, 1) := by decide +kernel
theorem dX11_canPerform_1 : decode cX11_canPerform 1 = .ok (.tableswitch 172 0 7 #[47, 60, 76, 107, 121, 127, 132, 166], 47) := by decide +kernel
theorem dX11_canPerform_48 : decode cX11_canPerform 48 = .ok (.aload_n 0, 1) := by decide +kernel
theorem dX11_canPerform_49 : decode cX11_canPerform 49 = .ok (.invokevirtual 189, 3) := by decide +kernel
theorem dX11_canPerform_52 : decode cX11_canPerform 52 = .ok (.ifCond .ne 7, 3) := by decide +kernel
theorem dX11_canPerform_55 : decode cX11_canPerform 55 = .ok (.iconst 1, 1) := by decide +kernel
theorem dX11_canPerform_56 : decode cX11_canPerform 56 = .ok (.goto 4, 3) := by decide +kernel
theorem dX11_canPerform_59 : decode cX11_canPerform 59 = .ok (.iconst 0, 1) := by decide +kernel
theorem dX11_canPerform_60 : decode cX11_canPerform 60 = .ok (.ireturn, 1) := by decide +kernel
theorem dX11_canPerform_61 : decode cX11_canPerform 61 = .ok (.aload_n 0, 1) := by decide +kernel
theorem dX11_canPerform_62 : decode cX11_canPerform 62 = .ok (.getfield 53, 3) := by decide +kernel
theorem dX11_canPerform_65 : decode cX11_canPerform 65 = .ok (.getfield 192, 3) := by decide +kernel
theorem dX11_canPerform_68 : decode cX11_canPerform 68 = .ok (.ifCond .le 7, 3) := by decide +kernel
theorem dX11_canPerform_71 : decode cX11_canPerform 71 = .ok (.iconst 1, 1) := by decide +kernel
theorem dX11_canPerform_72 : decode cX11_canPerform 72 = .ok (.goto 4, 3) := by decide +kernel
theorem dX11_canPerform_75 : decode cX11_canPerform 75 = .ok (.iconst 0, 1) := by decide +kernel
theorem dX11_canPerform_76 : decode cX11_canPerform 76 = .ok (.ireturn, 1) := by decide +kernel
theorem dX11_canPerform_77 : decode cX11_canPerform 77 = .ok (.aload_n 0, 1) := by decide +kernel
theorem dX11_canPerform_78 : decode cX11_canPerform 78 = .ok (.iload_n 2, 1) := by decide +kernel
theorem dX11_canPerform_79 : decode cX11_canPerform 79 = .ok (.invokevirtual 195, 3) := by decide +kernel
theorem dX11_canPerform_82 : decode cX11_canPerform 82 = .ok (.ifCond .eq 24, 3) := by decide +kernel
theorem dX11_canPerform_85 : decode cX11_canPerform 85 = .ok (.aload_n 0, 1) := by decide +kernel
theorem dX11_canPerform_86 : decode cX11_canPerform 86 = .ok (.iload_n 3, 1) := by decide +kernel
theorem dX11_canPerform_87 : decode cX11_canPerform 87 = .ok (.invokevirtual 199, 3) := by decide +kernel
theorem dX11_canPerform_90 : decode cX11_canPerform 90 = .ok (.ifCond .eq 16, 3) := by decide +kernel
theorem dX11_canPerform_93 : decode cX11_canPerform 93 = .ok (.aload_n 0, 1) := by decide +kernel
theorem dX11_canPerform_94 : decode cX11_canPerform 94 = .ok (.iload_n 2, 1) := by decide +kernel
theorem dX11_canPerform_95 : decode cX11_canPerform 95 = .ok (.iload_n 3, 1) := by decide +kernel
theorem dX11_canPerform_96 : decode cX11_canPerform 96 = .ok (.invokevirtual 202, 3) := by decide +kernel
theorem dX11_canPerform_99 : decode cX11_canPerform 99 = .ok (.ifCond .ne 7, 3) := by decide +kernel
theorem dX11_canPerform_102 : decode cX11_canPerform 102 = .ok (.iconst 1, 1) := by decide +kernel
theorem dX11_canPerform_103 : decode cX11_canPerform 103 = .ok (.goto 4, 3) := by decide +kernel
theorem dX11_canPerform_106 : decode cX11_canPerform 106 = .ok (.iconst 0, 1) := by decide +kernel
theorem dX11_canPerform_107 : decode cX11_canPerform 107 = .ok (.ireturn, 1) := by decide +kernel
theorem dX11_canPerform_108 : decode cX11_canPerform 108 = .ok (.aload_n 0, 1) := by decide +kernel
theorem dX11_canPerform_109 : decode cX11_canPerform 109 = .ok (.invokevirtual 206, 3) := by decide +kernel
theorem dX11_canPerform_112 : decode cX11_canPerform 112 = .ok (.iconst (-1), 1) := by decide +kernel
theorem dX11_canPerform_113 : decode cX11_canPerform 113 = .ok (.if_icmp .eq 7, 3) := by decide +kernel
theorem dX11_canPerform_116 : decode cX11_canPerform 116 = .ok (.iconst 1, 1) := by decide +kernel
theorem dX11_canPerform_117 : decode cX11_canPerform 117 = .ok (.goto 4, 3) := by decide +kernel
theorem dX11_canPerform_120 : decode cX11_canPerform 120 = .ok (.iconst 0, 1) := by decide +kernel
theorem dX11_canPerform_121 : decode cX11_canPerform 121 = .ok (.ireturn, 1) := by decide +kernel
theorem dX11_canPerform_122 : decode cX11_canPerform 122 = .ok (.aload_n 0, 1) := by decide +kernel
theorem dX11_canPerform_123 : decode cX11_canPerform 123 = .ok (.iload_n 2, 1) := by decide +kernel
theorem dX11_canPerform_124 : decode cX11_canPerform 124 = .ok (.invokevirtual 209, 3) := by decide +kernel
theorem dX11_canPerform_127 : decode cX11_canPerform 127 = .ok (.ireturn, 1) := by decide +kernel
theorem dX11_canPerform_128 : decode cX11_canPerform 128 = .ok (.aload_n 0, 1) := by decide +kernel
theorem dX11_canPerform_129 : decode cX11_canPerform 129 = .ok (.invokevirtual 212, 3) := by decide +kernel
theorem dX11_canPerform_132 : decode cX11_canPerform 132 = .ok (.ireturn, 1) := by decide +kernel
theorem dX11_canPerform_133 : decode cX11_canPerform 133 = .ok (.aload_n 0, 1) := by decide +kernel
theorem dX11_canPerform_134 : decode cX11_canPerform 134 = .ok (.iload_n 2, 1) := by decide +kernel
theorem dX11_canPerform_135 : decode cX11_canPerform 135 = .ok (.invokevirtual 216, 3) := by decide +kernel
theorem dX11_canPerform_138 : decode cX11_canPerform 138 = .ok (.ifCond .eq 27, 3) := by decide +kernel
theorem dX11_canPerform_141 : decode cX11_canPerform 141 = .ok (.aload_n 0, 1) := by decide +kernel
theorem dX11_canPerform_142 : decode cX11_canPerform 142 = .ok (.iload_n 3, 1) := by decide +kernel
theorem dX11_canPerform_143 : decode cX11_canPerform 143 = .ok (.invokevirtual 216, 3) := by decide +kernel
theorem dX11_canPerform_146 : decode cX11_canPerform 146 = .ok (.ifCond .eq 19, 3) := by decide +kernel
theorem dX11_canPerform_149 : decode cX11_canPerform 149 = .ok (.iload_n 2, 1) := by decide +kernel
theorem dX11_canPerform_150 : decode cX11_canPerform 150 = .ok (.iload_n 3, 1) := by decide +kernel
theorem dX11_canPerform_151 : decode cX11_canPerform 151 = .ok (.if_icmp .eq 14, 3) := by decide +kernel
theorem dX11_canPerform_154 : decode cX11_canPerform 154 = .ok (.aload_n 0, 1) := by decide +kernel
theorem dX11_canPerform_155 : decode cX11_canPerform 155 = .ok (.invokevirtual 219, 3) := by decide +kernel
theorem dX11_canPerform_158 : decode cX11_canPerform 158 = .ok (.ifCond .eq 7, 3) := by decide +kernel
theorem dX11_canPerform_161 : decode cX11_canPerform 161 = .ok (.iconst 1, 1) := by decide +kernel
theorem dX11_canPerform_162 : decode cX11_canPerform 162 = .ok (.goto 4, 3) := by decide +kernel
theorem dX11_canPerform_165 : decode cX11_canPerform 165 = .ok (.iconst 0, 1) := by decide +kernel
theorem dX11_canPerform_166 : decode cX11_canPerform 166 = .ok (.ireturn, 1) := by decide +kernel
theorem dX11_canPerform_167 : decode cX11_canPerform 167 = .ok (.aload_n 0, 1) := by decide +kernel
theorem dX11_canPerform_168 : decode cX11_canPerform 168 = .ok (.iload_n 2, 1) := by decide +kernel
theorem dX11_canPerform_169 : decode cX11_canPerform 169 = .ok (.invokevirtual 222, 3) := by decide +kernel
theorem dX11_canPerform_172 : decode cX11_canPerform 172 = .ok (.ireturn, 1) := by decide +kernel
theorem dX11_canPerform_173 : decode cX11_canPerform 173 = .ok (.iconst 0, 1) := by decide +kernel
theorem dX11_canPerform_174 : decode cX11_canPerform 174 = .ok (.ireturn, 1) := by decide +kernel
theorem dX11_perform_0 : decode cX11_perform 0 = .ok (.iload_n 1, 1) := by decide +kernel
theorem dX11_perform_1 : decode cX11_perform 1 = .ok (.tableswitch 138 0 7 #[47, 54, 70, 79, 92, 105, 117, 127], 47) := by decide +kernel
theorem dX11_perform_48 : decode cX11_perform 48 = .ok (.aload_n 0, 1) := by decide +kernel
theorem dX11_perform_49 : decode cX11_perform 49 = .ok (.invokevirtual 225, 3) := by decide +kernel
theorem dX11_perform_52 : decode cX11_perform 52 = .ok (.goto 87, 3) := by decide +kernel
theorem dX11_perform_55 : decode cX11_perform 55 = .ok (.aload_n 0, 1) := by decide +kernel
theorem dX11_perform_56 : decode cX11_perform 56 = .ok (.getfield 53, 3) := by decide +kernel
theorem dX11_perform_59 : decode cX11_perform 59 = .ok (.dup, 1) := by decide +kernel
theorem dX11_perform_60 : decode cX11_perform 60 = .ok (.getfield 192, 3) := by decide +kernel
theorem dX11_perform_63 : decode cX11_perform 63 = .ok (.iconst 1, 1) := by decide +kernel
theorem dX11_perform_64 : decode cX11_perform 64 = .ok (.isub, 1) := by decide +kernel
theorem dX11_perform_65 : decode cX11_perform 65 = .ok (.putfield 192, 3) := by decide +kernel
theorem dX11_perform_68 : decode cX11_perform 68 = .ok (.goto 71, 3) := by decide +kernel
theorem dX11_perform_71 : decode cX11_perform 71 = .ok (.aload_n 0, 1) := by decide +kernel
theorem dX11_perform_72 : decode cX11_perform 72 = .ok (.iload_n 2, 1) := by decide +kernel
theorem dX11_perform_73 : decode cX11_perform 73 = .ok (.iload_n 3, 1) := by decide +kernel
theorem dX11_perform_74 : decode cX11_perform 74 = .ok (.invokevirtual 228, 3) := by decide +kernel
theorem dX11_perform_77 : decode cX11_perform 77 = .ok (.goto 62, 3) := by decide +kernel
theorem dX11_perform_80 : decode cX11_perform 80 = .ok (.aload_n 0, 1) := by decide +kernel
theorem dX11_perform_81 : decode cX11_perform 81 = .ok (.aload_n 0, 1) := by decide +kernel
theorem dX11_perform_82 : decode cX11_perform 82 = .ok (.getfield 53, 3) := by decide +kernel
theorem dX11_perform_85 : decode cX11_perform 85 = .ok (.iconst 1, 1) := by decide +kernel
theorem dX11_perform_86 : decode cX11_perform 86 = .ok (.invokevirtual 232, 3) := by decide +kernel
theorem dX11_perform_89 : decode cX11_perform 89 = .ok (.pop, 1) := by decide +kernel
theorem dX11_perform_90 : decode cX11_perform 90 = .ok (.goto 49, 3) := by decide +kernel
theorem dX11_perform_93 : decode cX11_perform 93 = .ok (.aload_n 0, 1) := by decide +kernel
