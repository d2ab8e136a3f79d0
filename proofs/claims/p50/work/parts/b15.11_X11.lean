set_option maxRecDepth 20000 in
theorem ggX11_init_X10_init : GoodIn wsX11_init wsX10_init := goodIn_s _ [(55, 2), (2, 2), (52, 1), (57, 3), (124, 12)] rfl (by decide +kernel)
set_option maxRecDepth 20000 in
theorem gX11_init_X10_init_n11 : GoodIn wsX11_init (wsX10_init) := ggX11_init_X10_init
set_option maxRecDepth 20000 in
theorem ggX11_init_X9_init : GoodIn wsX11_init wsX9_init := goodIn_s _ [(61, 2), (2, 2)] rfl (by decide +kernel)
set_option maxRecDepth 20000 in
theorem gX11_init_X9_init_n18 : GoodIn wsX11_init (wsX9_init) := ggX11_init_X9_init
set_option maxRecDepth 20000 in
theorem ggX11_init_X7_init : GoodIn wsX11_init wsX7_init := goodIn_s _ [(64, 2), (2, 2), (52, 1), (66, 1), (155, 1)] rfl (by decide +kernel)
set_option maxRecDepth 20000 in
theorem gX11_init_X7_init_n25 : GoodIn wsX11_init (wsX7_init) := ggX11_init_X7_init
set_option maxRecDepth 20000 in
theorem ggX11_init_X6_init : GoodIn wsX11_init wsX6_init := goodIn_s _ [(68, 2), (2, 2), (52, 1), (70, 4), (156, 6)] rfl (by decide +kernel)
set_option maxRecDepth 20000 in
theorem gX11_init_X6_init_n32 : GoodIn wsX11_init (wsX6_init) := ggX11_init_X6_init
set_option maxRecDepth 20000 in
theorem ggX11_init_X2_init : GoodIn wsX11_init wsX2_init := goodIn_s _ [(75, 2), (2, 2), (77, 3), (52, 1), (80, 4), (162, 12)] rfl (by decide +kernel)
set_option maxRecDepth 20000 in
theorem gX11_init_X2_init_n39 : GoodIn wsX11_init (wsX2_init) := ggX11_init_X2_init
set_option maxRecDepth 20000 in
theorem ggX11_init_X8_init : GoodIn wsX11_init wsX8_init := goodIn_s _ [(85, 2), (2, 2), (52, 1), (87, 4), (174, 7)] rfl (by decide +kernel)
set_option maxRecDepth 20000 in
theorem gX11_init_X8_init_n52 : GoodIn wsX11_init (wsX8_init) := ggX11_init_X8_init
set_option maxRecDepth 20000 in
theorem ggX11_init_X3_init : GoodIn wsX11_init wsX3_init := goodIn_s _ [(93, 2), (2, 2), (95, 2), (27, 2), (84, 3), (52, 1), (87, 4), (181, 3), (174, 7)] rfl (by decide +kernel)
set_option maxRecDepth 20000 in
theorem gX11_init_X3_init : GoodIn wsX11_init (wsX3_init) := ggX11_init_X3_init
set_option maxRecDepth 20000 in
theorem ggX11_init_X4_init : GoodIn wsX11_init wsX4_init := goodIn_s _ [(98, 2), (2, 2), (52, 1), (100, 6), (184, 12)] rfl (by decide +kernel)
set_option maxRecDepth 20000 in
theorem gX11_init_X4_init_n72 : GoodIn wsX11_init (wsX4_init) := ggX11_init_X4_init
set_option maxRecDepth 20000 in
theorem ggX11_init_X5_init : GoodIn wsX11_init wsX5_init := goodIn_s _ [(107, 2), (2, 2), (52, 1), (109, 3), (196, 5)] rfl (by decide +kernel)
set_option maxRecDepth 20000 in
theorem gX11_init_X5_init_n79 : GoodIn wsX11_init (wsX5_init) := ggX11_init_X5_init
set_option maxRecDepth 20000 in
theorem ggX11_init_X0_init : GoodIn wsX11_init wsX0_init := goodIn_s _ [(113, 2), (2, 2), (52, 1), (115, 3), (201, 5)] rfl (by decide +kernel)
set_option maxRecDepth 20000 in
theorem gX11_init_X0_init_n86 : GoodIn wsX11_init (wsX0_init) := ggX11_init_X0_init
set_option maxRecDepth 20000 in
theorem ggX11_init_X1_init : GoodIn wsX11_init wsX1_init := goodIn_s _ [(119, 2), (2, 2), (52, 1), (121, 3), (206, 6)] rfl (by decide +kernel)
set_option maxRecDepth 20000 in
theorem gX11_init_X1_init_n93 : GoodIn wsX11_init (wsX1_init) := ggX11_init_X1_init
theorem dX11_init_0 : decode cX11_init 0 = .ok (.aload_n 0, 1) := by decide +kernel
theorem dX11_init_1 : decode cX11_init 1 = .ok (.invokespecial 3, 3) := by decide +kernel
theorem dX11_init_4 : decode cX11_init 4 = .ok (.aload_n 0, 1) := by decide +kernel
theorem dX11_init_5 : decode cX11_init 5 = .ok (.new 9, 3) := by decide +kernel
theorem dX11_init_8 : decode cX11_init 8 = .ok (.dup, 1) := by decide +kernel
theorem dX11_init_9 : decode cX11_init 9 = .ok (.invokespecial 11, 3) := by decide +kernel
theorem dX11_init_12 : decode cX11_init 12 = .ok (.putfield 12, 3) := by decide +kernel
theorem dX11_init_15 : decode cX11_init 15 = .ok (.aload_n 0, 1) := by decide +kernel
theorem dX11_init_16 : decode cX11_init 16 = .ok (.new 16, 3) := by decide +kernel
theorem dX11_init_19 : decode cX11_init 19 = .ok (.dup, 1) := by decide +kernel
theorem dX11_init_20 : decode cX11_init 20 = .ok (.invokespecial 18, 3) := by decide +kernel
theorem dX11_init_23 : decode cX11_init 23 = .ok (.putfield 19, 3) := by decide +kernel
theorem dX11_init_26 : decode cX11_init 26 = .ok (.aload_n 0, 1) := by decide +kernel
theorem dX11_init_27 : decode cX11_init 27 = .ok (.new 23, 3) := by decide +kernel
theorem dX11_init_30 : decode cX11_init 30 = .ok (.dup, 1) := by decide +kernel
theorem dX11_init_31 : decode cX11_init 31 = .ok (.invokespecial 25, 3) := by decide +kernel
theorem dX11_init_34 : decode cX11_init 34 = .ok (.putfield 26, 3) := by decide +kernel
theorem dX11_init_37 : decode cX11_init 37 = .ok (.aload_n 0, 1) := by decide +kernel
theorem dX11_init_38 : decode cX11_init 38 = .ok (.new 30, 3) := by decide +kernel
theorem dX11_init_41 : decode cX11_init 41 = .ok (.dup, 1) := by decide +kernel
theorem dX11_init_42 : decode cX11_init 42 = .ok (.invokespecial 32, 3) := by decide +kernel
theorem dX11_init_45 : decode cX11_init 45 = .ok (.putfield 33, 3) := by decide +kernel
theorem dX11_init_48 : decode cX11_init 48 = .ok (.aload_n 0, 1) := by decide +kernel
theorem dX11_init_49 : decode cX11_init 49 = .ok (.new 37, 3) := by decide +kernel
theorem dX11_init_52 : decode cX11_init 52 = .ok (.dup, 1) := by decide +kernel
theorem dX11_init_53 : decode cX11_init 53 = .ok (.invokespecial 39, 3) := by decide +kernel
theorem dX11_init_56 : decode cX11_init 56 = .ok (.putfield 40, 3) := by decide +kernel
theorem dX11_init_59 : decode cX11_init 59 = .ok (.aload_n 0, 1) := by decide +kernel
theorem dX11_init_60 : decode cX11_init 60 = .ok (.new 37, 3) := by decide +kernel
theorem dX11_init_63 : decode cX11_init 63 = .ok (.dup, 1) := by decide +kernel
theorem dX11_init_64 : decode cX11_init 64 = .ok (.invokespecial 39, 3) := by decide +kernel
theorem dX11_init_67 : decode cX11_init 67 = .ok (.putfield 44, 3) := by decide +kernel
theorem dX11_init_70 : decode cX11_init 70 = .ok (.aload_n 0, 1) := by decide +kernel
theorem dX11_init_71 : decode cX11_init 71 = .ok (.new 37, 3) := by decide +kernel
theorem dX11_init_74 : decode cX11_init 74 = .ok (.dup, 1) := by decide +kernel
theorem dX11_init_75 : decode cX11_init 75 = .ok (.invokespecial 39, 3) := by decide +kernel
theorem dX11_init_78 : decode cX11_init 78 = .ok (.putfield 47, 3) := by decide +kernel
theorem dX11_init_81 : decode cX11_init 81 = .ok (.aload_n 0, 1) := by decide +kernel
theorem dX11_init_82 : decode cX11_init 82 = .ok (.new 50, 3) := by decide +kernel
theorem dX11_init_85 : decode cX11_init 85 = .ok (.dup, 1) := by decide +kernel
theorem dX11_init_86 : decode cX11_init 86 = .ok (.invokespecial 52, 3) := by decide +kernel
theorem dX11_init_89 : decode cX11_init 89 = .ok (.putfield 53, 3) := by decide +kernel
theorem dX11_init_92 : decode cX11_init 92 = .ok (.aload_n 0, 1) := by decide +kernel
theorem dX11_init_93 : decode cX11_init 93 = .ok (.new 50, 3) := by decide +kernel
theorem dX11_init_96 : decode cX11_init 96 = .ok (.dup, 1) := by decide +kernel
theorem dX11_init_97 : decode cX11_init 97 = .ok (.invokespecial 52, 3) := by decide +kernel
theorem dX11_init_100 : decode cX11_init 100 = .ok (.putfield 57, 3) := by decide +kernel
theorem dX11_init_103 : decode cX11_init 103 = .ok (.aload_n 0, 1) := by decide +kernel
theorem dX11_init_104 : decode cX11_init 104 = .ok (.new 50, 3) := by decide +kernel
theorem dX11_init_107 : decode cX11_init 107 = .ok (.dup, 1) := by decide +kernel
theorem dX11_init_108 : decode cX11_init 108 = .ok (.invokespecial 52, 3) := by decide +kernel
theorem dX11_init_111 : decode cX11_init 111 = .ok (.putfield 60, 3) := by decide +kernel
theorem dX11_init_114 : decode cX11_init 114 = .ok (.aload_n 0, 1) := by decide +kernel
theorem dX11_init_115 : decode cX11_init 115 = .ok (.new 63, 3) := by decide +kernel
theorem dX11_init_118 : decode cX11_init 118 = .ok (.dup, 1) := by decide +kernel
theorem dX11_init_119 : decode cX11_init 119 = .ok (.invokespecial 65, 3) := by decide +kernel
theorem dX11_init_122 : decode cX11_init 122 = .ok (.putfield 66, 3) := by decide +kernel
theorem dX11_init_125 : decode cX11_init 125 = .ok (.aload_n 0, 1) := by decide +kernel
theorem dX11_init_126 : decode cX11_init 126 = .ok (.new 70, 3) := by decide +kernel
theorem dX11_init_129 : decode cX11_init 129 = .ok (.dup, 1) := by decide +kernel
theorem dX11_init_130 : decode cX11_init 130 = .ok (.invokespecial 72, 3) := by decide +kernel
theorem dX11_init_133 : decode cX11_init 133 = .ok (.putfield 73, 3) := by decide +kernel
theorem dX11_init_136 : decode cX11_init 136 = .ok (.aload_n 0, 1) := by decide +kernel
theorem dX11_init_137 : decode cX11_init 137 = .ok (.new 77, 3) := by decide +kernel
theorem dX11_init_140 : decode cX11_init 140 = .ok (.dup, 1) := by decide +kernel
theorem dX11_init_141 : decode cX11_init 141 = .ok (.invokespecial 79, 3) := by decide +kernel
theorem dX11_init_144 : decode cX11_init 144 = .ok (.putfield 80, 3) := by decide +kernel
theorem dX11_init_147 : decode cX11_init 147 = .ok (.aload_n 0, 1) := by decide +kernel
theorem dX11_init_148 : decode cX11_init 148 = .ok (.new 84, 3) := by decide +kernel
theorem dX11_init_151 : decode cX11_init 151 = .ok (.dup, 1) := by decide +kernel
theorem dX11_init_152 : decode cX11_init 152 = .ok (.invokespecial 86, 3) := by decide +kernel
theorem dX11_init_155 : decode cX11_init 155 = .ok (.putfield 87, 3) := by decide +kernel
theorem dX11_init_158 : decode cX11_init 158 = .ok (.aload_n 0, 1) := by decide +kernel
theorem dX11_init_159 : decode cX11_init 159 = .ok (.new 91, 3) := by decide +kernel
theorem dX11_init_162 : decode cX11_init 162 = .ok (.dup, 1) := by decide +kernel
theorem dX11_init_163 : decode cX11_init 163 = .ok (.invokespecial 93, 3) := by decide +kernel
theorem dX11_init_166 : decode cX11_init 166 = .ok (.putfield 94, 3) := by decide +kernel
theorem dX11_init_169 : decode cX11_init 169 = .ok (.aload_n 0, 1) := by decide +kernel
theorem dX11_init_170 : decode cX11_init 170 = .ok (.sipush 152, 3) := by decide +kernel
theorem dX11_init_173 : decode cX11_init 173 = .ok (.newarray .int, 2) := by decide +kernel
theorem dX11_init_175 : decode cX11_init 175 = .ok (.putfield 98, 3) := by decide +kernel
theorem dX11_init_178 : decode cX11_init 178 = .ok (.return_, 1) := by decide +kernel
set_option maxRecDepth 20000 in
theorem ggX11_feed_X10_append : GoodIn wsX11_feed wsX10_append := goodIn_s _ [(9, 6), (33, 12)] rfl (by decide +kernel)
set_option maxRecDepth 20000 in
theorem gX11_feed_X10_append : GoodIn wsX11_feed (wsV RX11 113 RX10 yX10_append wsX10_append) := goodIn_app (goodIn_of _ (by decide +kernel)) ggX11_feed_X10_append
theorem dX11_feed_0 : decode cX11_feed 0 = .ok (.aload_n 0, 1) := by decide +kernel
theorem dX11_feed_1 : decode cX11_feed 1 = .ok (.getfield 12, 3) := by decide +kernel
theorem dX11_feed_4 : decode cX11_feed 4 = .ok (.getfield 102, 3) := by decide +kernel
theorem dX11_feed_7 : decode cX11_feed 7 = .ok (.sipush 780, 3) := by decide +kernel
theorem dX11_feed_10 : decode cX11_feed 10 = .ok (.if_icmp .le 13, 3) := by decide +kernel
theorem dX11_feed_13 : decode cX11_feed 13 = .ok (.new 106, 3) := by decide +kernel
theorem dX11_feed_16 : decode cX11_feed 16 = .ok (.dup, 1) := by decide +kernel
theorem dX11_feed_17 : decode cX11_feed 17 = .ok (.ldc 108, 2) := by decide +kernel
theorem dX11_feed_19 : decode cX11_feed 19 = .ok (.invokespecial 110, 3) := by decide +kernel
theorem dX11_feed_22 : decode cX11_feed 22 = .ok (.athrow, 1) := by decide +kernel
theorem dX11_feed_23 : decode cX11_feed 23 = .ok (.aload_n 0, 1) := by decide +kernel
theorem dX11_feed_24 : decode cX11_feed 24 = .ok (.getfield 12, 3) := by decide +kernel
theorem dX11_feed_27 : decode cX11_feed 27 = .ok (.iload_n 1, 1) := by decide +kernel
theorem dX11_feed_28 : decode cX11_feed 28 = .ok (.invokevirtual 113, 3) := by decide +kernel
theorem dX11_feed_31 : decode cX11_feed 31 = .ok (.aload_n 0, 1) := by decide +kernel
theorem dX11_feed_32 : decode cX11_feed 32 = .ok (.getfield 12, 3) := by decide +kernel
theorem dX11_feed_35 : decode cX11_feed 35 = .ok (.iload_n 2, 1) := by decide +kernel
theorem dX11_feed_36 : decode cX11_feed 36 = .ok (.invokevirtual 113, 3) := by decide +kernel
theorem dX11_feed_39 : decode cX11_feed 39 = .ok (.aload_n 0, 1) := by decide +kernel
theorem dX11_feed_40 : decode cX11_feed 40 = .ok (.getfield 12, 3) := by decide +kernel
theorem dX11_feed_43 : decode cX11_feed 43 = .ok (.iload_n 3, 1) := by decide +kernel
theorem dX11_feed_44 : decode cX11_feed 44 = .ok (.invokevirtual 113, 3) := by decide +kernel
theorem dX11_feed_47 : decode cX11_feed 47 = .ok (.aload_n 0, 1) := by decide +kernel
theorem dX11_feed_48 : decode cX11_feed 48 = .ok (.getfield 12, 3) := by decide +kernel
theorem dX11_feed_51 : decode cX11_feed 51 = .ok (.iload 4, 2) := by decide +kernel
theorem dX11_feed_53 : decode cX11_feed 53 = .ok (.invokevirtual 113, 3) := by decide +kernel
theorem dX11_feed_56 : decode cX11_feed 56 = .ok (.aload_n 0, 1) := by decide +kernel
theorem dX11_feed_57 : decode cX11_feed 57 = .ok (.getfield 12, 3) := by decide +kernel
theorem dX11_feed_60 : decode cX11_feed 60 = .ok (.iload 5, 2) := by decide +kernel
theorem dX11_feed_62 : decode cX11_feed 62 = .ok (.invokevirtual 113, 3) := by decide +kernel
theorem dX11_feed_65 : decode cX11_feed 65 = .ok (.aload_n 0, 1) := by decide +kernel
theorem dX11_feed_66 : decode cX11_feed 66 = .ok (.getfield 12, 3) := by decide +kernel
theorem dX11_feed_69 : decode cX11_feed 69 = .ok (.getfield 102, 3) := by decide +kernel
theorem dX11_feed_72 : decode cX11_feed 72 = .ok (.ireturn, 1) := by decide +kernel
theorem dX11_truncate_0 : decode cX11_truncate 0 = .ok (.iload_n 1, 1) := by decide +kernel
theorem dX11_truncate_1 : decode cX11_truncate 1 = .ok (.ifCond .lt 14, 3) := by decide +kernel
theorem dX11_truncate_4 : decode cX11_truncate 4 = .ok (.iload_n 1, 1) := by decide +kernel
theorem dX11_truncate_5 : decode cX11_truncate 5 = .ok (.aload_n 0, 1) := by decide +kernel
theorem dX11_truncate_6 : decode cX11_truncate 6 = .ok (.getfield 12, 3) := by decide +kernel
theorem dX11_truncate_9 : decode cX11_truncate 9 = .ok (.getfield 102, 3) := by decide +kernel
theorem dX11_truncate_12 : decode cX11_truncate 12 = .ok (.if_icmp .le 13, 3) := by decide +kernel
theorem dX11_truncate_15 : decode cX11_truncate 15 = .ok (.new 117, 3) := by decide +kernel
theorem dX11_truncate_18 : decode cX11_truncate 18 = .ok (.dup, 1) := by decide +kernel
theorem dX11_truncate_19 : decode cX11_truncate 19 = .ok (.ldc 119, 2) := by decide +kernel
theorem dX11_truncate_21 : decode cX11_truncate 21 = .ok (.invokespecial 121, 3) := by decide +kernel
theorem dX11_truncate_24 : decode cX11_truncate 24 = .ok (.athrow, 1) := by decide +kernel
theorem dX11_truncate_25 : decode cX11_truncate 25 = .ok (.aload_n 0, 1) := by decide +kernel
theorem dX11_truncate_26 : decode cX11_truncate 26 = .ok (.getfield 12, 3) := by decide +kernel
theorem dX11_truncate_29 : decode cX11_truncate 29 = .ok (.iload_n 1, 1) := by decide +kernel
theorem dX11_truncate_30 : decode cX11_truncate 30 = .ok (.putfield 102, 3) := by decide +kernel
theorem dX11_truncate_33 : decode cX11_truncate 33 = .ok (.iload_n 1, 1) := by decide +kernel
theorem dX11_truncate_34 : decode cX11_truncate 34 = .ok (.ireturn, 1) := by decide +kernel
set_option maxRecDepth 20000 in
theorem ggX11_readText_X10_begin : GoodIn wsX11_readText wsX10_begin := goodIn_s _ [(14, 10), (277, 12)] rfl (by decide +kernel)
set_option maxRecDepth 20000 in
theorem gX11_readText_X10_begin : GoodIn wsX11_readText (wsV RX11 122 RX10 yX10_begin wsX10_begin) := goodIn_app (goodIn_of _ (by decide +kernel)) ggX11_readText_X10_begin
set_option maxRecDepth 20000 in
theorem ggX11_readText_X9_read : GoodIn wsX11_readText wsX9_read := goodIn_s _ [(28, 18), (13, 1), (46, 1), (18, 1), (16, 1), (47, 1), (17, 1), (19, 1), (48, 31), (27, 1), (79, 65), (21, 2), (20, 1), (23, 1), (144, 65), (289, 1), (277, 12), (265, 12), (290, 4)] rfl (by decide +kernel)
set_option maxRecDepth 20000 in
theorem gX11_readText_X9_read : GoodIn wsX11_readText (wsV RX11 125 RX9 yX9_read wsX9_read) := goodIn_app (goodIn_of _ (by decide +kernel)) ggX11_readText_X9_read
set_option maxRecDepth 20000 in
theorem ggX11_readText_X2_copyFrom : GoodIn wsX11_readText wsX2_copyFrom := goodIn_s _ [(212, 1), (36, 7), (158, 1), (213, 4), (167, 1), (183, 2), (189, 1), (217, 1), (49, 1), (218, 6), (265, 12)] rfl (by decide +kernel)
set_option maxRecDepth 20000 in
theorem gX11_readText_X2_copyFrom : GoodIn wsX11_readText (wsV RX11 131 RX2 yX2_copyFrom wsX2_copyFrom) := goodIn_app (goodIn_of _ (by decide +kernel)) ggX11_readText_X2_copyFrom
set_option maxRecDepth 20000 in
theorem ggX11_readText_X8_start : GoodIn wsX11_readText wsX8_start := goodIn_s _ [(228, 13), (168, 1), (49, 1), (169, 1), (294, 7), (265, 12)] rfl (by decide +kernel)
set_option maxRecDepth 20000 in
theorem gX11_readText_X8_start : GoodIn wsX11_readText (wsV RX11 135 RX8 yX8_start wsX8_start) := goodIn_app (goodIn_of _ (by decide +kernel)) ggX11_readText_X8_start
set_option maxRecDepth 20000 in
theorem ggX11_readText_X3_forget : GoodIn wsX11_readText wsX3_forget := goodIn_s _ [(245, 2), (301, 3)] rfl (by decide +kernel)
set_option maxRecDepth 20000 in
theorem gX11_readText_X3_forget : GoodIn wsX11_readText (wsV RX11 138 RX3 yX3_forget wsX3_forget) := goodIn_app (goodIn_of _ (by decide +kernel)) ggX11_readText_X3_forget
theorem dX11_readText_0 : decode cX11_readText 0 = .ok (.aload_n 0, 1) := by decide +kernel
theorem dX11_readText_1 : decode cX11_readText 1 = .ok (.getfield 12, 3) := by decide +kernel
theorem dX11_readText_4 : decode cX11_readText 4 = .ok (.invokevirtual 122, 3) := by decide +kernel
theorem dX11_readText_7 : decode cX11_readText 7 = .ok (.aload_n 0, 1) := by decide +kernel
theorem dX11_readText_8 : decode cX11_readText 8 = .ok (.getfield 19, 3) := by decide +kernel
theorem dX11_readText_11 : decode cX11_readText 11 = .ok (.aload_n 0, 1) := by decide +kernel
theorem dX11_readText_12 : decode cX11_readText 12 = .ok (.getfield 12, 3) := by decide +kernel
theorem dX11_readText_15 : decode cX11_readText 15 = .ok (.aload_n 0, 1) := by decide +kernel
theorem dX11_readText_16 : decode cX11_readText 16 = .ok (.getfield 44, 3) := by decide +kernel
theorem dX11_readText_19 : decode cX11_readText 19 = .ok (.invokevirtual 125, 3) := by decide +kernel
theorem dX11_readText_22 : decode cX11_readText 22 = .ok (.ifCond .ne 13, 3) := by decide +kernel
theorem dX11_readText_25 : decode cX11_readText 25 = .ok (.new 117, 3) := by decide +kernel
theorem dX11_readText_28 : decode cX11_readText 28 = .ok (.dup, 1) := by decide +kernel
theorem dX11_readText_29 : decode cX11_readText 29 = .ok (.ldc 129, 2) := by decide +kernel
theorem dX11_readText_31 : decode cX11_readText 31 = .ok (.invokespecial 121, 3) := by decide +kernel
theorem dX11_readText_34 : decode cX11_readText 34 = .ok (.athrow, 1) := by decide +kernel
theorem dX11_readText_35 : decode cX11_readText 35 = .ok (.aload_n 0, 1) := by decide +kernel
theorem dX11_readText_36 : decode cX11_readText 36 = .ok (.getfield 40, 3) := by decide +kernel
theorem dX11_readText_39 : decode cX11_readText 39 = .ok (.aload_n 0, 1) := by decide +kernel
theorem dX11_readText_40 : decode cX11_readText 40 = .ok (.getfield 44, 3) := by decide +kernel
theorem dX11_readText_43 : decode cX11_readText 43 = .ok (.invokevirtual 131, 3) := by decide +kernel
theorem dX11_readText_46 : decode cX11_readText 46 = .ok (.aload_n 0, 1) := by decide +kernel
theorem dX11_readText_47 : decode cX11_readText 47 = .ok (.getfield 53, 3) := by decide +kernel
theorem dX11_readText_50 : decode cX11_readText 50 = .ok (.aload_n 0, 1) := by decide +kernel
theorem dX11_readText_51 : decode cX11_readText 51 = .ok (.getfield 40, 3) := by decide +kernel
theorem dX11_readText_54 : decode cX11_readText 54 = .ok (.invokevirtual 135, 3) := by decide +kernel
theorem dX11_readText_57 : decode cX11_readText 57 = .ok (.aload_n 0, 1) := by decide +kernel
theorem dX11_readText_58 : decode cX11_readText 58 = .ok (.getfield 66, 3) := by decide +kernel
theorem dX11_readText_61 : decode cX11_readText 61 = .ok (.invokevirtual 138, 3) := by decide +kernel
theorem dX11_readText_64 : decode cX11_readText 64 = .ok (.aload_n 0, 1) := by decide +kernel
theorem dX11_readText_65 : decode cX11_readText 65 = .ok (.getfield 40, 3) := by decide +kernel
theorem dX11_readText_68 : decode cX11_readText 68 = .ok (.getfield 141, 3) := by decide +kernel
theorem dX11_readText_71 : decode cX11_readText 71 = .ok (.ireturn, 1) := by decide +kernel
set_option maxRecDepth 20000 in
theorem ggX11_setting_X2_limit : GoodIn wsX11_setting wsX2_limit := goodIn_s _ [(19, 4), (78, 12)] rfl (by decide +kernel)
set_option maxRecDepth 20000 in
theorem gX11_setting_X2_limit : GoodIn wsX11_setting (wsV RX11 268 RX2 yX2_limit wsX2_limit) := goodIn_app (goodIn_of _ (by decide +kernel)) ggX11_setting_X2_limit
set_option maxRecDepth 20000 in
theorem ggX11_setting_X8_groupCount : GoodIn wsX11_setting wsX8_groupCount := goodIn_s _ [(27, 6), (90, 7)] rfl (by decide +kernel)
set_option maxRecDepth 20000 in
theorem gX11_setting_X8_groupCount : GoodIn wsX11_setting (wsV RX11 277 RX8 yX8_groupCount wsX8_groupCount) := goodIn_app (goodIn_of _ (by decide +kernel)) ggX11_setting_X8_groupCount
set_option maxRecDepth 20000 in
theorem ggX11_setting_X2_largestPiece : GoodIn wsX11_setting wsX2_largestPiece := goodIn_s _ [(36, 9), (18, 1), (45, 8), (30, 3), (53, 7), (78, 12)] rfl (by decide +kernel)
set_option maxRecDepth 20000 in
theorem gX11_setting_X2_largestPiece : GoodIn wsX11_setting (wsV RX11 283 RX2 yX2_largestPiece wsX2_largestPiece) := goodIn_app (goodIn_of _ (by decide +kernel)) ggX11_setting_X2_largestPiece
theorem dX11_setting_0 : decode cX11_setting 0 = .ok (.iload_n 1, 1) := by decide +kernel
theorem dX11_setting_1 : decode cX11_setting 1 = .ok (.tableswitch 159 0 11 #[63, 71, 79, 87, 95, 103, 111, 119, 127, 135, 143, 151], 63) := by decide +kernel
theorem dX11_setting_64 : decode cX11_setting 64 = .ok (.aload_n 0, 1) := by decide +kernel
theorem dX11_setting_65 : decode cX11_setting 65 = .ok (.getfield 40, 3) := by decide +kernel
theorem dX11_setting_68 : decode cX11_setting 68 = .ok (.getfield 141, 3) := by decide +kernel
theorem dX11_setting_71 : decode cX11_setting 71 = .ok (.ireturn, 1) := by decide +kernel
theorem dX11_setting_72 : decode cX11_setting 72 = .ok (.aload_n 0, 1) := by decide +kernel
theorem dX11_setting_73 : decode cX11_setting 73 = .ok (.getfield 40, 3) := by decide +kernel
theorem dX11_setting_76 : decode cX11_setting 76 = .ok (.getfield 259, 3) := by decide +kernel
theorem dX11_setting_79 : decode cX11_setting 79 = .ok (.ireturn, 1) := by decide +kernel
theorem dX11_setting_80 : decode cX11_setting 80 = .ok (.aload_n 0, 1) := by decide +kernel
theorem dX11_setting_81 : decode cX11_setting 81 = .ok (.getfield 40, 3) := by decide +kernel
theorem dX11_setting_84 : decode cX11_setting 84 = .ok (.getfield 262, 3) := by decide +kernel
theorem dX11_setting_87 : decode cX11_setting 87 = .ok (.ireturn, 1) := by decide +kernel
theorem dX11_setting_88 : decode cX11_setting 88 = .ok (.aload_n 0, 1) := by decide +kernel
theorem dX11_setting_89 : decode cX11_setting 89 = .ok (.getfield 40, 3) := by decide +kernel
theorem dX11_setting_92 : decode cX11_setting 92 = .ok (.getfield 265, 3) := by decide +kernel
theorem dX11_setting_95 : decode cX11_setting 95 = .ok (.ireturn, 1) := by decide +kernel
theorem dX11_setting_96 : decode cX11_setting 96 = .ok (.aload_n 0, 1) := by decide +kernel
theorem dX11_setting_97 : decode cX11_setting 97 = .ok (.getfield 53, 3) := by decide +kernel
theorem dX11_setting_100 : decode cX11_setting 100 = .ok (.getfield 245, 3) := by decide +kernel
theorem dX11_setting_103 : decode cX11_setting 103 = .ok (.ireturn, 1) := by decide +kernel
theorem dX11_setting_104 : decode cX11_setting 104 = .ok (.aload_n 0, 1) := by decide +kernel
theorem dX11_setting_105 : decode cX11_setting 105 = .ok (.getfield 40, 3) := by decide +kernel
theorem dX11_setting_108 : decode cX11_setting 108 = .ok (.invokevirtual 268, 3) := by decide +kernel
theorem dX11_setting_111 : decode cX11_setting 111 = .ok (.ireturn, 1) := by decide +kernel
theorem dX11_setting_112 : decode cX11_setting 112 = .ok (.aload_n 0, 1) := by decide +kernel
theorem dX11_setting_113 : decode cX11_setting 113 = .ok (.getfield 40, 3) := by decide +kernel
theorem dX11_setting_116 : decode cX11_setting 116 = .ok (.getfield 271, 3) := by decide +kernel
theorem dX11_setting_119 : decode cX11_setting 119 = .ok (.ireturn, 1) := by decide +kernel
theorem dX11_setting_120 : decode cX11_setting 120 = .ok (.aload_n 0, 1) := by decide +kernel
theorem dX11_setting_121 : decode cX11_setting 121 = .ok (.getfield 40, 3) := by decide +kernel
theorem dX11_setting_124 : decode cX11_setting 124 = .ok (.getfield 274, 3) := by decide +kernel
theorem dX11_setting_127 : decode cX11_setting 127 = .ok (.ireturn, 1) := by decide +kernel
theorem dX11_setting_128 : decode cX11_setting 128 = .ok (.aload_n 0, 1) := by decide +kernel
theorem dX11_setting_129 : decode cX11_setting 129 = .ok (.getfield 53, 3) := by decide +kernel
theorem dX11_setting_132 : decode cX11_setting 132 = .ok (.getfield 192, 3) := by decide +kernel
theorem dX11_setting_135 : decode cX11_setting 135 = .ok (.ireturn, 1) := by decide +kernel
theorem dX11_setting_136 : decode cX11_setting 136 = .ok (.aload_n 0, 1) := by decide +kernel
theorem dX11_setting_137 : decode cX11_setting 137 = .ok (.getfield 53, 3) := by decide +kernel
theorem dX11_setting_140 : decode cX11_setting 140 = .ok (.invokevirtual 277, 3) := by decide +kernel
theorem dX11_setting_143 : decode cX11_setting 143 = .ok (.ireturn, 1) := by decide +kernel
theorem dX11_setting_144 : decode cX11_setting 144 = .ok (.aload_n 0, 1) := by decide +kernel
theorem dX11_setting_145 : decode cX11_setting 145 = .ok (.getfield 66, 3) := by decide +kernel
theorem dX11_setting_148 : decode cX11_setting 148 = .ok (.getfield 280, 3) := by decide +kernel
theorem dX11_setting_151 : decode cX11_setting 151 = .ok (.ireturn, 1) := by decide +kernel
theorem dX11_setting_152 : decode cX11_setting 152 = .ok (.aload_n 0, 1) := by decide +kernel
theorem dX11_setting_153 : decode cX11_setting 153 = .ok (.getfield 40, 3) := by decide +kernel
theorem dX11_setting_156 : decode cX11_setting 156 = .ok (.invokevirtual 283, 3) := by decide +kernel
theorem dX11_setting_159 : decode cX11_setting 159 = .ok (.ireturn, 1) := by decide +kernel
theorem dX11_setting_160 : decode cX11_setting 160 = .ok (.new 117, 3) := by decide +kernel
theorem dX11_setting_163 : decode cX11_setting 163 = .ok (.dup, 1) := by decide +kernel
theorem dX11_setting_164 : decode cX11_setting 164 = .ok (.ldc_w 286, 3) := by decide +kernel
theorem dX11_setting_167 : decode cX11_setting 167 = .ok (.invokespecial 121, 3) := by decide +kernel
theorem dX11_setting_170 : decode cX11_setting 170 = .ok (.athrow, 1) := by decide +kernel
theorem dX11_hasVertex_0 : decode cX11_hasVertex 0 = .ok (.iload_n 1, 1) := by decide +kernel
theorem dX11_hasVertex_1 : decode cX11_hasVertex 1 = .ok (.ifCond .lt 18, 3) := by decide +kernel
theorem dX11_hasVertex_4 : decode cX11_hasVertex 4 = .ok (.iload_n 1, 1) := by decide +kernel
theorem dX11_hasVertex_5 : decode cX11_hasVertex 5 = .ok (.aload_n 0, 1) := by decide +kernel
theorem dX11_hasVertex_6 : decode cX11_hasVertex 6 = .ok (.getfield 40, 3) := by decide +kernel
theorem dX11_hasVertex_9 : decode cX11_hasVertex 9 = .ok (.getfield 141, 3) := by decide +kernel
theorem dX11_hasVertex_12 : decode cX11_hasVertex 12 = .ok (.if_icmp .ge 7, 3) := by decide +kernel
theorem dX11_hasVertex_15 : decode cX11_hasVertex 15 = .ok (.iconst 1, 1) := by decide +kernel
theorem dX11_hasVertex_16 : decode cX11_hasVertex 16 = .ok (.goto 4, 3) := by decide +kernel
theorem dX11_hasVertex_19 : decode cX11_hasVertex 19 = .ok (.iconst 0, 1) := by decide +kernel
theorem dX11_hasVertex_20 : decode cX11_hasVertex 20 = .ok (.ireturn, 1) := by decide +kernel
theorem dX11_hasPart_0 : decode cX11_hasPart 0 = .ok (.iload_n 1, 1) := by decide +kernel
theorem dX11_hasPart_1 : decode cX11_hasPart 1 = .ok (.ifCond .lt 18, 3) := by decide +kernel
theorem dX11_hasPart_4 : decode cX11_hasPart 4 = .ok (.iload_n 1, 1) := by decide +kernel
theorem dX11_hasPart_5 : decode cX11_hasPart 5 = .ok (.aload_n 0, 1) := by decide +kernel
theorem dX11_hasPart_6 : decode cX11_hasPart 6 = .ok (.getfield 40, 3) := by decide +kernel
theorem dX11_hasPart_9 : decode cX11_hasPart 9 = .ok (.getfield 262, 3) := by decide +kernel
theorem dX11_hasPart_12 : decode cX11_hasPart 12 = .ok (.if_icmp .ge 7, 3) := by decide +kernel
theorem dX11_hasPart_15 : decode cX11_hasPart 15 = .ok (.iconst 1, 1) := by decide +kernel
theorem dX11_hasPart_16 : decode cX11_hasPart 16 = .ok (.goto 4, 3) := by decide +kernel
theorem dX11_hasPart_19 : decode cX11_hasPart 19 = .ok (.iconst 0, 1) := by decide +kernel
theorem dX11_hasPart_20 : decode cX11_hasPart 20 = .ok (.ireturn, 1) := by decide +kernel
set_option maxRecDepth 20000 in
theorem ggX11_hasGroup_X8_groupCount : GoodIn wsX11_hasGroup wsX8_groupCount := goodIn_s _ [(6, 6), (30, 7)] rfl (by decide +kernel)
set_option maxRecDepth 20000 in
theorem gX11_hasGroup_X8_groupCount : GoodIn wsX11_hasGroup (wsV RX11 277 RX8 yX8_groupCount wsX8_groupCount) := goodIn_app (goodIn_of _ (by decide +kernel)) ggX11_hasGroup_X8_groupCount
theorem dX11_hasGroup_0 : decode cX11_hasGroup 0 = .ok (.iload_n 1, 1) := by decide +kernel
theorem dX11_hasGroup_1 : decode cX11_hasGroup 1 = .ok (.ifCond .lt 18, 3) := by decide +kernel
theorem dX11_hasGroup_4 : decode cX11_hasGroup 4 = .ok (.iload_n 1, 1) := by decide +kernel
theorem dX11_hasGroup_5 : decode cX11_hasGroup 5 = .ok (.aload_n 0, 1) := by decide +kernel
theorem dX11_hasGroup_6 : decode cX11_hasGroup 6 = .ok (.getfield 53, 3) := by decide +kernel
theorem dX11_hasGroup_9 : decode cX11_hasGroup 9 = .ok (.invokevirtual 277, 3) := by decide +kernel
theorem dX11_hasGroup_12 : decode cX11_hasGroup 12 = .ok (.if_icmp .ge 7, 3) := by decide +kernel
theorem dX11_hasGroup_15 : decode cX11_hasGroup 15 = .ok (.iconst 1, 1) := by decide +kernel
theorem dX11_hasGroup_16 : decode cX11_hasGroup 16 = .ok (.goto 4, 3) := by decide +kernel
theorem dX11_hasGroup_19 : decode cX11_hasGroup 19 = .ok (.iconst 0, 1) := by decide +kernel
theorem dX11_hasGroup_20 : decode cX11_hasGroup 20 = .ok (.ireturn, 1) := by decide +kernel
set_option maxRecDepth 20000 in
theorem ggX11_requireVertex_X11_hasVertex : GoodIn wsX11_requireVertex wsX11_hasVertex := goodIn_s _ [(7, 33)] rfl (by decide +kernel)
set_option maxRecDepth 20000 in
theorem gX11_requireVertex_X11_hasVertex : GoodIn wsX11_requireVertex (wsV RX11 216 RX11 yX11_hasVertex wsX11_hasVertex) := goodIn_app (goodIn_of _ (by decide +kernel)) ggX11_requireVertex_X11_hasVertex
theorem dX11_requireVertex_0 : decode cX11_requireVertex 0 = .ok (.aload_n 0, 1) := by decide +kernel
theorem dX11_requireVertex_1 : decode cX11_requireVertex 1 = .ok (.iload_n 1, 1) := by decide +kernel
theorem dX11_requireVertex_2 : decode cX11_requireVertex 2 = .ok (.invokevirtual 216, 3) := by decide +kernel
theorem dX11_requireVertex_5 : decode cX11_requireVertex 5 = .ok (.ifCond .ne 14, 3) := by decide +kernel
theorem dX11_requireVertex_8 : decode cX11_requireVertex 8 = .ok (.new 288, 3) := by decide +kernel
theorem dX11_requireVertex_11 : decode cX11_requireVertex 11 = .ok (.dup, 1) := by decide +kernel
theorem dX11_requireVertex_12 : decode cX11_requireVertex 12 = .ok (.ldc_w 290, 3) := by decide +kernel
theorem dX11_requireVertex_15 : decode cX11_requireVertex 15 = .ok (.invokespecial 292, 3) := by decide +kernel
theorem dX11_requireVertex_18 : decode cX11_requireVertex 18 = .ok (.athrow, 1) := by decide +kernel
theorem dX11_requireVertex_19 : decode cX11_requireVertex 19 = .ok (.return_, 1) := by decide +kernel
set_option maxRecDepth 20000 in
theorem ggX11_requirePart_X11_hasPart : GoodIn wsX11_requirePart wsX11_hasPart := goodIn_s _ [(7, 33)] rfl (by decide +kernel)
set_option maxRecDepth 20000 in
theorem gX11_requirePart_X11_hasPart : GoodIn wsX11_requirePart (wsV RX11 199 RX11 yX11_hasPart wsX11_hasPart) := goodIn_app (goodIn_of _ (by decide +kernel)) ggX11_requirePart_X11_hasPart
theorem dX11_requirePart_0 : decode cX11_requirePart 0 = .ok (.aload_n 0, 1) := by decide +kernel
theorem dX11_requirePart_1 : decode cX11_requirePart 1 = .ok (.iload_n 1, 1) := by decide +kernel
theorem dX11_requirePart_2 : decode cX11_requirePart 2 = .ok (.invokevirtual 199, 3) := by decide +kernel
theorem dX11_requirePart_5 : decode cX11_requirePart 5 = .ok (.ifCond .ne 14, 3) := by decide +kernel
theorem dX11_requirePart_8 : decode cX11_requirePart 8 = .ok (.new 288, 3) := by decide +kernel
theorem dX11_requirePart_11 : decode cX11_requirePart 11 = .ok (.dup, 1) := by decide +kernel
theorem dX11_requirePart_12 : decode cX11_requirePart 12 = .ok (.ldc_w 293, 3) := by decide +kernel
theorem dX11_requirePart_15 : decode cX11_requirePart 15 = .ok (.invokespecial 292, 3) := by decide +kernel
theorem dX11_requirePart_18 : decode cX11_requirePart 18 = .ok (.athrow, 1) := by decide +kernel
theorem dX11_requirePart_19 : decode cX11_requirePart 19 = .ok (.return_, 1) := by decide +kernel
set_option maxRecDepth 20000 in
theorem ggX11_requireGroup_X11_hasGroup : GoodIn wsX11_requireGroup wsX11_hasGroup := goodIn_s _ [(7, 10), (6, 1), (17, 26)] rfl (by decide +kernel)
set_option maxRecDepth 20000 in
theorem gX11_requireGroup_X11_hasGroup : GoodIn wsX11_requireGroup (wsV RX11 195 RX11 yX11_hasGroup wsX11_hasGroup) := goodIn_app (goodIn_of _ (by decide +kernel)) ggX11_requireGroup_X11_hasGroup
theorem dX11_requireGroup_0 : decode cX11_requireGroup 0 = .ok (.aload_n 0, 1) := by decide +kernel
theorem dX11_requireGroup_1 : decode cX11_requireGroup 1 = .ok (.iload_n 1, 1) := by decide +kernel
theorem dX11_requireGroup_2 : decode cX11_requireGroup 2 = .ok (.invokevirtual 195, 3) := by decide +kernel
theorem dX11_requireGroup_5 : decode cX11_requireGroup 5 = .ok (.ifCond .ne 14, 3) := by decide +kernel
theorem dX11_requireGroup_8 : decode cX11_requireGroup 8 = .ok (.new 288, 3) := by decide +kernel
theorem dX11_requireGroup_11 : decode cX11_requireGroup 11 = .ok (.dup, 1) := by decide +kernel
theorem dX11_requireGroup_12 : decode cX11_requireGroup 12 = .ok (.ldc_w 295, 3) := by decide +kernel
theorem dX11_requireGroup_15 : decode cX11_requireGroup 15 = .ok (.invokespecial 292, 3) := by decide +kernel
theorem dX11_requireGroup_18 : decode cX11_requireGroup 18 = .ok (.athrow, 1) := by decide +kernel
theorem dX11_requireGroup_19 : decode cX11_requireGroup 19 = .ok (.return_, 1) := by decide +kernel
set_option maxRecDepth 20000 in
theorem ggX11_isCut_X11_at : GoodIn wsX11_isCut wsX11_at := goodIn_s _ [(9, 1)] rfl (by decide +kernel)
set_option maxRecDepth 20000 in
theorem gX11_isCut_X11_at : GoodIn wsX11_isCut (va_wsS RX11 164 yX11_at wsX11_at) := goodIn_app (goodIn_of _ (by decide +kernel)) ggX11_isCut_X11_at
theorem dX11_isCut_0 : decode cX11_isCut 0 = .ok (.aload_n 0, 1) := by decide +kernel
theorem dX11_isCut_1 : decode cX11_isCut 1 = .ok (.getfield 53, 3) := by decide +kernel
theorem dX11_isCut_4 : decode cX11_isCut 4 = .ok (.getfield 315, 3) := by decide +kernel
theorem dX11_isCut_7 : decode cX11_isCut 7 = .ok (.aload_n 0, 1) := by decide +kernel
theorem dX11_isCut_8 : decode cX11_isCut 8 = .ok (.getfield 40, 3) := by decide +kernel
theorem dX11_isCut_11 : decode cX11_isCut 11 = .ok (.getfield 305, 3) := by decide +kernel
theorem dX11_isCut_14 : decode cX11_isCut 14 = .ok (.iload_n 1, 1) := by decide +kernel
theorem dX11_isCut_15 : decode cX11_isCut 15 = .ok (.invokestatic 164, 3) := by decide +kernel
theorem dX11_isCut_18 : decode cX11_isCut 18 = .ok (.invokestatic 164, 3) := by decide +kernel
theorem dX11_isCut_21 : decode cX11_isCut 21 = .ok (.aload_n 0, 1) := by decide +kernel
theorem dX11_isCut_22 : decode cX11_isCut 22 = .ok (.getfield 53, 3) := by decide +kernel
theorem dX11_isCut_25 : decode cX11_isCut 25 = .ok (.getfield 315, 3) := by decide +kernel
theorem dX11_isCut_28 : decode cX11_isCut 28 = .ok (.aload_n 0, 1) := by decide +kernel
theorem dX11_isCut_29 : decode cX11_isCut 29 = .ok (.getfield 40, 3) := by decide +kernel
theorem dX11_isCut_32 : decode cX11_isCut 32 = .ok (.getfield 306, 3) := by decide +kernel
theorem dX11_isCut_35 : decode cX11_isCut 35 = .ok (.iload_n 1, 1) := by decide +kernel
theorem dX11_isCut_36 : decode cX11_isCut 36 = .ok (.invokestatic 164, 3) := by decide +kernel
theorem dX11_isCut_39 : decode cX11_isCut 39 = .ok (.invokestatic 164, 3) := by decide +kernel
theorem dX11_isCut_42 : decode cX11_isCut 42 = .ok (.if_icmp .eq 7, 3) := by decide +kernel
theorem dX11_isCut_45 : decode cX11_isCut 45 = .ok (.iconst 1, 1) := by decide +kernel
theorem dX11_isCut_46 : decode cX11_isCut 46 = .ok (.goto 4, 3) := by decide +kernel
theorem dX11_isCut_49 : decode cX11_isCut 49 = .ok (.iconst 0, 1) := by decide +kernel
theorem dX11_isCut_50 : decode cX11_isCut 50 = .ok (.ireturn, 1) := by decide +kernel
set_option maxRecDepth 20000 in
theorem ggX11_between_X11_requireVertex : GoodIn wsX11_between wsX11_requireVertex := goodIn_ca (goodIn_s _ [(7, 6), (6, 1), (13, 1), (1, 1), (14, 1), (30, 30)] rfl (by decide +kernel)) (goodIn_sub (fun _ h => List.mem_cons_of_mem _ (List.mem_append_right _ h)) (by decide +kernel))
set_option maxRecDepth 20000 in
theorem gX11_between_X11_requireVertex : GoodIn wsX11_between (wsV RX11 297 RX11 yX11_requireVertex wsX11_requireVertex) := goodIn_app (goodIn_of _ (by decide +kernel)) ggX11_between_X11_requireVertex
set_option maxRecDepth 20000 in
theorem ggX11_between_X2_edgeOf : GoodIn wsX11_between wsX2_edgeOf := goodIn_s _ [(19, 5), (18, 1), (24, 4), (6, 1), (28, 1), (48, 12)] rfl (by decide +kernel)
set_option maxRecDepth 20000 in
theorem gX11_between_X2_edgeOf : GoodIn wsX11_between (wsV RX11 317 RX2 yX2_edgeOf wsX2_edgeOf) := goodIn_app (goodIn_of _ (by decide +kernel)) ggX11_between_X2_edgeOf
set_option maxRecDepth 20000 in
theorem ggX11_between_X11_at : GoodIn wsX11_between wsX11_at := goodIn_s _ [(28, 1)] rfl (by decide +kernel)
set_option maxRecDepth 20000 in
theorem gX11_between_X11_at : GoodIn wsX11_between (va_wsS RX11 164 yX11_at wsX11_at) := goodIn_app (goodIn_of _ (by decide +kernel)) ggX11_between_X11_at
theorem dX11_between_0 : decode cX11_between 0 = .ok (.aload_n 0, 1) := by decide +kernel
theorem dX11_between_1 : decode cX11_between 1 = .ok (.iload_n 1, 1) := by decide +kernel
theorem dX11_between_2 : decode cX11_between 2 = .ok (.invokevirtual 297, 3) := by decide +kernel
theorem dX11_between_5 : decode cX11_between 5 = .ok (.aload_n 0, 1) := by decide +kernel
theorem dX11_between_6 : decode cX11_between 6 = .ok (.iload_n 2, 1) := by decide +kernel
theorem dX11_between_7 : decode cX11_between 7 = .ok (.invokevirtual 297, 3) := by decide +kernel
theorem dX11_between_10 : decode cX11_between 10 = .ok (.aload_n 0, 1) := by decide +kernel
theorem dX11_between_11 : decode cX11_between 11 = .ok (.getfield 40, 3) := by decide +kernel
theorem dX11_between_14 : decode cX11_between 14 = .ok (.iload_n 1, 1) := by decide +kernel
theorem dX11_between_15 : decode cX11_between 15 = .ok (.iload_n 2, 1) := by decide +kernel
theorem dX11_between_16 : decode cX11_between 16 = .ok (.invokevirtual 317, 3) := by decide +kernel
theorem dX11_between_19 : decode cX11_between 19 = .ok (.istore_n 3, 1) := by decide +kernel
theorem dX11_between_20 : decode cX11_between 20 = .ok (.iload_n 3, 1) := by decide +kernel
theorem dX11_between_21 : decode cX11_between 21 = .ok (.iconst (-1), 1) := by decide +kernel
theorem dX11_between_22 : decode cX11_between 22 = .ok (.if_icmp .ne 7, 3) := by decide +kernel
theorem dX11_between_25 : decode cX11_between 25 = .ok (.iconst 0, 1) := by decide +kernel
theorem dX11_between_26 : decode cX11_between 26 = .ok (.goto 14, 3) := by decide +kernel
theorem dX11_between_29 : decode cX11_between 29 = .ok (.aload_n 0, 1) := by decide +kernel
theorem dX11_between_30 : decode cX11_between 30 = .ok (.getfield 40, 3) := by decide +kernel
theorem dX11_between_33 : decode cX11_between 33 = .ok (.getfield 307, 3) := by decide +kernel
theorem dX11_between_36 : decode cX11_between 36 = .ok (.iload_n 3, 1) := by decide +kernel
theorem dX11_between_37 : decode cX11_between 37 = .ok (.invokestatic 164, 3) := by decide +kernel
theorem dX11_between_40 : decode cX11_between 40 = .ok (.ireturn, 1) := by decide +kernel
set_option maxRecDepth 20000 in
theorem ggX11_flow_X11_requireVertex : GoodIn wsX11_flow wsX11_requireVertex := goodIn_ca (goodIn_s _ [(8, 6), (7, 1), (14, 1), (2, 1), (15, 1), (61, 18), (85, 12)] rfl (by decide +kernel)) (goodIn_sub (fun _ h => List.mem_cons_of_mem _ (List.mem_append_right _ h)) (by decide +kernel))
set_option maxRecDepth 20000 in
theorem gX11_flow_X11_requireVertex : GoodIn wsX11_flow (wsV RX11 297 RX11 yX11_requireVertex wsX11_requireVertex) := goodIn_app (goodIn_of _ (by decide +kernel)) ggX11_flow_X11_requireVertex
set_option maxRecDepth 20000 in
theorem ggX11_flow_X1_run : GoodIn wsX11_flow wsX1_run := goodIn_s _ [(20, 6), (19, 1), (26, 13), (7, 1), (39, 22), (79, 18)] rfl (by decide +kernel)
set_option maxRecDepth 20000 in
theorem gX11_flow_X1_run : GoodIn wsX11_flow (wsV RX11 320 RX1 yX1_run wsX1_run) := goodIn_app (goodIn_of _ (by decide +kernel)) ggX11_flow_X1_run
theorem dX11_flow_0 : decode cX11_flow 0 = .ok (.aload_n 0, 1) := by decide +kernel
theorem dX11_flow_1 : decode cX11_flow 1 = .ok (.iload_n 1, 1) := by decide +kernel
theorem dX11_flow_2 : decode cX11_flow 2 = .ok (.invokevirtual 297, 3) := by decide +kernel
theorem dX11_flow_5 : decode cX11_flow 5 = .ok (.aload_n 0, 1) := by decide +kernel
theorem dX11_flow_6 : decode cX11_flow 6 = .ok (.iload_n 2, 1) := by decide +kernel
theorem dX11_flow_7 : decode cX11_flow 7 = .ok (.invokevirtual 297, 3) := by decide +kernel
theorem dX11_flow_10 : decode cX11_flow 10 = .ok (.iload_n 1, 1) := by decide +kernel
theorem dX11_flow_11 : decode cX11_flow 11 = .ok (.iload_n 2, 1) := by decide +kernel
theorem dX11_flow_12 : decode cX11_flow 12 = .ok (.if_icmp .ne 5, 3) := by decide +kernel
theorem dX11_flow_15 : decode cX11_flow 15 = .ok (.iconst 0, 1) := by decide +kernel
theorem dX11_flow_16 : decode cX11_flow 16 = .ok (.ireturn, 1) := by decide +kernel
theorem dX11_flow_17 : decode cX11_flow 17 = .ok (.aload_n 0, 1) := by decide +kernel
theorem dX11_flow_18 : decode cX11_flow 18 = .ok (.getfield 94, 3) := by decide +kernel
theorem dX11_flow_21 : decode cX11_flow 21 = .ok (.aload_n 0, 1) := by decide +kernel
theorem dX11_flow_22 : decode cX11_flow 22 = .ok (.getfield 40, 3) := by decide +kernel
theorem dX11_flow_25 : decode cX11_flow 25 = .ok (.iload_n 1, 1) := by decide +kernel
theorem dX11_flow_26 : decode cX11_flow 26 = .ok (.iload_n 2, 1) := by decide +kernel
theorem dX11_flow_27 : decode cX11_flow 27 = .ok (.invokevirtual 320, 3) := by decide +kernel
theorem dX11_flow_30 : decode cX11_flow 30 = .ok (.aload_n 0, 1) := by decide +kernel
theorem dX11_flow_31 : decode cX11_flow 31 = .ok (.getfield 94, 3) := by decide +kernel
theorem dX11_flow_34 : decode cX11_flow 34 = .ok (.getfield 324, 3) := by decide +kernel
theorem dX11_flow_37 : decode cX11_flow 37 = .ok (.ireturn, 1) := by decide +kernel
set_option maxRecDepth 20000 in
theorem ggX11_side_X11_requireVertex : GoodIn wsX11_side wsX11_requireVertex := goodIn_ca (goodIn_s _ [(8, 6), (7, 1), (14, 1), (2, 1), (15, 1), (61, 18), (85, 12)] rfl (by decide +kernel)) (goodIn_sub (fun _ h => List.mem_cons_of_mem _ (List.mem_append_right _ h)) (by decide +kernel))
set_option maxRecDepth 20000 in
theorem gX11_side_X11_requireVertex : GoodIn wsX11_side (wsV RX11 297 RX11 yX11_requireVertex wsX11_requireVertex) := goodIn_app (goodIn_of _ (by decide +kernel)) ggX11_side_X11_requireVertex
set_option maxRecDepth 20000 in
theorem ggX11_side_X1_run : GoodIn wsX11_side wsX1_run := goodIn_s _ [(20, 6), (19, 1), (26, 13), (7, 1), (39, 22), (79, 18)] rfl (by decide +kernel)
set_option maxRecDepth 20000 in
theorem gX11_side_X1_run : GoodIn wsX11_side (wsV RX11 320 RX1 yX1_run wsX1_run) := goodIn_app (goodIn_of _ (by decide +kernel)) ggX11_side_X1_run
theorem dX11_side_0 : decode cX11_side 0 = .ok (.aload_n 0, 1) := by decide +kernel
theorem dX11_side_1 : decode cX11_side 1 = .ok (.iload_n 1, 1) := by decide +kernel
theorem dX11_side_2 : decode cX11_side 2 = .ok (.invokevirtual 297, 3) := by decide +kernel
theorem dX11_side_5 : decode cX11_side 5 = .ok (.aload_n 0, 1) := by decide +kernel
theorem dX11_side_6 : decode cX11_side 6 = .ok (.iload_n 2, 1) := by decide +kernel
theorem dX11_side_7 : decode cX11_side 7 = .ok (.invokevirtual 297, 3) := by decide +kernel
theorem dX11_side_10 : decode cX11_side 10 = .ok (.iload_n 1, 1) := by decide +kernel
theorem dX11_side_11 : decode cX11_side 11 = .ok (.iload_n 2, 1) := by decide +kernel
theorem dX11_side_12 : decode cX11_side 12 = .ok (.if_icmp .ne 5, 3) := by decide +kernel
theorem dX11_side_15 : decode cX11_side 15 = .ok (.iconst 0, 1) := by decide +kernel
theorem dX11_side_16 : decode cX11_side 16 = .ok (.ireturn, 1) := by decide +kernel
theorem dX11_side_17 : decode cX11_side 17 = .ok (.aload_n 0, 1) := by decide +kernel
theorem dX11_side_18 : decode cX11_side 18 = .ok (.getfield 94, 3) := by decide +kernel
theorem dX11_side_21 : decode cX11_side 21 = .ok (.aload_n 0, 1) := by decide +kernel
theorem dX11_side_22 : decode cX11_side 22 = .ok (.getfield 40, 3) := by decide +kernel
theorem dX11_side_25 : decode cX11_side 25 = .ok (.iload_n 1, 1) := by decide +kernel
theorem dX11_side_26 : decode cX11_side 26 = .ok (.iload_n 2, 1) := by decide +kernel
theorem dX11_side_27 : decode cX11_side 27 = .ok (.invokevirtual 320, 3) := by decide +kernel
theorem dX11_side_30 : decode cX11_side 30 = .ok (.aload_n 0, 1) := by decide +kernel
theorem dX11_side_31 : decode cX11_side 31 = .ok (.getfield 94, 3) := by decide +kernel
theorem dX11_side_34 : decode cX11_side 34 = .ok (.getfield 327, 3) := by decide +kernel
theorem dX11_side_37 : decode cX11_side 37 = .ok (.ireturn, 1) := by decide +kernel
set_option maxRecDepth 20000 in
theorem ggX11_leastFlow_X1_run : GoodIn wsX11_leastFlow wsX1_run := goodIn_s _ [(9, 6), (8, 1), (15, 36), (81, 6), (69, 12)] rfl (by decide +kernel)
set_option maxRecDepth 20000 in
theorem gX11_leastFlow_X1_run : GoodIn wsX11_leastFlow (wsV RX11 320 RX1 yX1_run wsX1_run) := goodIn_app (goodIn_of _ (by decide +kernel)) ggX11_leastFlow_X1_run
theorem dX11_leastFlow_0 : decode cX11_leastFlow 0 = .ok (.iconst (-1), 1) := by decide +kernel
theorem dX11_leastFlow_1 : decode cX11_leastFlow 1 = .ok (.istore_n 1, 1) := by decide +kernel
theorem dX11_leastFlow_2 : decode cX11_leastFlow 2 = .ok (.iconst 1, 1) := by decide +kernel
theorem dX11_leastFlow_3 : decode cX11_leastFlow 3 = .ok (.istore_n 2, 1) := by decide +kernel
theorem dX11_leastFlow_4 : decode cX11_leastFlow 4 = .ok (.iload_n 2, 1) := by decide +kernel
theorem dX11_leastFlow_5 : decode cX11_leastFlow 5 = .ok (.aload_n 0, 1) := by decide +kernel
theorem dX11_leastFlow_6 : decode cX11_leastFlow 6 = .ok (.getfield 40, 3) := by decide +kernel
theorem dX11_leastFlow_9 : decode cX11_leastFlow 9 = .ok (.getfield 141, 3) := by decide +kernel
theorem dX11_leastFlow_12 : decode cX11_leastFlow 12 = .ok (.if_icmp .ge 46, 3) := by decide +kernel
theorem dX11_leastFlow_15 : decode cX11_leastFlow 15 = .ok (.aload_n 0, 1) := by decide +kernel
theorem dX11_leastFlow_16 : decode cX11_leastFlow 16 = .ok (.getfield 94, 3) := by decide +kernel
theorem dX11_leastFlow_19 : decode cX11_leastFlow 19 = .ok (.aload_n 0, 1) := by decide +kernel
theorem dX11_leastFlow_20 : decode cX11_leastFlow 20 = .ok (.getfield 40, 3) := by decide +kernel
theorem dX11_leastFlow_23 : decode cX11_leastFlow 23 = .ok (.iconst 0, 1) := by decide +kernel
theorem dX11_leastFlow_24 : decode cX11_leastFlow 24 = .ok (.iload_n 2, 1) := by decide +kernel
theorem dX11_leastFlow_25 : decode cX11_leastFlow 25 = .ok (.invokevirtual 320, 3) := by decide +kernel
theorem dX11_leastFlow_28 : decode cX11_leastFlow 28 = .ok (.iload_n 1, 1) := by decide +kernel
theorem dX11_leastFlow_29 : decode cX11_leastFlow 29 = .ok (.iconst (-1), 1) := by decide +kernel
theorem dX11_leastFlow_30 : decode cX11_leastFlow 30 = .ok (.if_icmp .eq 14, 3) := by decide +kernel
theorem dX11_leastFlow_33 : decode cX11_leastFlow 33 = .ok (.aload_n 0, 1) := by decide +kernel
theorem dX11_leastFlow_34 : decode cX11_leastFlow 34 = .ok (.getfield 94, 3) := by decide +kernel
theorem dX11_leastFlow_37 : decode cX11_leastFlow 37 = .ok (.getfield 324, 3) := by decide +kernel
theorem dX11_leastFlow_40 : decode cX11_leastFlow 40 = .ok (.iload_n 1, 1) := by decide +kernel
theorem dX11_leastFlow_41 : decode cX11_leastFlow 41 = .ok (.if_icmp .ge 11, 3) := by decide +kernel
theorem dX11_leastFlow_44 : decode cX11_leastFlow 44 = .ok (.aload_n 0, 1) := by decide +kernel
theorem dX11_leastFlow_45 : decode cX11_leastFlow 45 = .ok (.getfield 94, 3) := by decide +kernel
theorem dX11_leastFlow_48 : decode cX11_leastFlow 48 = .ok (.getfield 324, 3) := by decide +kernel
theorem dX11_leastFlow_51 : decode cX11_leastFlow 51 = .ok (.istore_n 1, 1) := by decide +kernel
theorem dX11_leastFlow_52 : decode cX11_leastFlow 52 = .ok (.iinc 2 1, 3) := by decide +kernel
theorem dX11_leastFlow_55 : decode cX11_leastFlow 55 = .ok (.goto (-51), 3) := by decide +kernel
theorem dX11_leastFlow_58 : decode cX11_leastFlow 58 = .ok (.iload_n 1, 1) := by decide +kernel
theorem dX11_leastFlow_59 : decode cX11_leastFlow 59 = .ok (.ireturn, 1) := by decide +kernel
set_option maxRecDepth 20000 in
theorem ggX11_partOf_X11_requireVertex : GoodIn wsX11_partOf wsX11_requireVertex := goodIn_ca (goodIn_s _ [(7, 6), (6, 1), (13, 3), (19, 18), (44, 12)] rfl (by decide +kernel)) (goodIn_sub (fun _ h => List.mem_cons_of_mem _ (List.mem_append_right _ h)) (by decide +kernel))
set_option maxRecDepth 20000 in
theorem gX11_partOf_X11_requireVertex : GoodIn wsX11_partOf (wsV RX11 297 RX11 yX11_requireVertex wsX11_requireVertex) := goodIn_app (goodIn_of _ (by decide +kernel)) ggX11_partOf_X11_requireVertex
set_option maxRecDepth 20000 in
theorem ggX11_partOf_X11_at : GoodIn wsX11_partOf wsX11_at := goodIn_s _ [(18, 1)] rfl (by decide +kernel)
set_option maxRecDepth 20000 in
theorem gX11_partOf_X11_at : GoodIn wsX11_partOf (va_wsS RX11 164 yX11_at wsX11_at) := goodIn_app (goodIn_of _ (by decide +kernel)) ggX11_partOf_X11_at
theorem dX11_partOf_0 : decode cX11_partOf 0 = .ok (.aload_n 0, 1) := by decide +kernel
theorem dX11_partOf_1 : decode cX11_partOf 1 = .ok (.iload_n 1, 1) := by decide +kernel
theorem dX11_partOf_2 : decode cX11_partOf 2 = .ok (.invokevirtual 297, 3) := by decide +kernel
theorem dX11_partOf_5 : decode cX11_partOf 5 = .ok (.aload_n 0, 1) := by decide +kernel
theorem dX11_partOf_6 : decode cX11_partOf 6 = .ok (.getfield 53, 3) := by decide +kernel
theorem dX11_partOf_9 : decode cX11_partOf 9 = .ok (.getfield 315, 3) := by decide +kernel
theorem dX11_partOf_12 : decode cX11_partOf 12 = .ok (.iload_n 1, 1) := by decide +kernel
theorem dX11_partOf_13 : decode cX11_partOf 13 = .ok (.invokestatic 164, 3) := by decide +kernel
theorem dX11_partOf_16 : decode cX11_partOf 16 = .ok (.ireturn, 1) := by decide +kernel
set_option maxRecDepth 20000 in
theorem ggX11_part_X11_requirePart : GoodIn wsX11_part wsX11_requirePart := goodIn_ca (goodIn_s _ [(12, 6), (11, 1), (18, 1), (4, 1), (19, 1), (122, 18), (152, 12)] rfl (by decide +kernel)) (goodIn_sub (fun _ h => List.mem_cons_of_mem _ (List.mem_append_right _ h)) (by decide +kernel))
set_option maxRecDepth 20000 in
theorem gX11_part_X11_requirePart : GoodIn wsX11_part (wsV RX11 330 RX11 yX11_requirePart wsX11_requirePart) := goodIn_app (goodIn_of _ (by decide +kernel)) ggX11_part_X11_requirePart
set_option maxRecDepth 20000 in
theorem ggX11_part_X4_take : GoodIn wsX11_part wsX4_take := goodIn_s _ [(24, 17), (11, 1), (41, 12), (23, 1), (53, 35), (140, 31)] rfl (by decide +kernel)
set_option maxRecDepth 20000 in
theorem gX11_part_X4_take : GoodIn wsX11_part (wsV RX11 333 RX4 yX4_take wsX4_take) := goodIn_app (goodIn_of _ (by decide +kernel)) ggX11_part_X4_take
set_option maxRecDepth 20000 in
theorem ggX11_part_X11_at : GoodIn wsX11_part wsX11_at := goodIn_s _ [(41, 1)] rfl (by decide +kernel)
set_option maxRecDepth 20000 in
theorem gX11_part_X11_at : GoodIn wsX11_part (va_wsS RX11 164 yX11_at wsX11_at) := goodIn_app (goodIn_of _ (by decide +kernel)) ggX11_part_X11_at
set_option maxRecDepth 20000 in
theorem ggX11_part_X4_debtAt : GoodIn wsX11_part wsX4_debtAt := goodIn_s _ [(87, 1), (28, 1), (140, 12)] rfl (by decide +kernel)
set_option maxRecDepth 20000 in
theorem gX11_part_X4_debtAt : GoodIn wsX11_part (wsV RX11 340 RX4 yX4_debtAt wsX4_debtAt) := goodIn_app (goodIn_of _ (by decide +kernel)) ggX11_part_X4_debtAt
set_option maxRecDepth 20000 in
theorem ggX11_part_X2_pieces : GoodIn wsX11_part wsX2_pieces := goodIn_s _ [(93, 3), (11, 1), (96, 4), (45, 1), (100, 8), (40, 2), (152, 12)] rfl (by decide +kernel)
set_option maxRecDepth 20000 in
theorem gX11_part_X2_pieces : GoodIn wsX11_part (wsV RX11 346 RX2 yX2_pieces wsX2_pieces) := goodIn_app (goodIn_of _ (by decide +kernel)) ggX11_part_X2_pieces
set_option maxRecDepth 20000 in
theorem ggX11_part_X11_cutAround : GoodIn wsX11_part wsX11_cutAround := goodIn_s _ [(111, 1), (3, 1), (7, 1), (4, 1), (112, 2), (88, 1), (40, 1), (11, 1), (41, 1), (114, 4), (5, 1), (118, 4), (103, 2), (45, 1), (105, 3), (122, 49)] rfl (by decide +kernel)
set_option maxRecDepth 20000 in
theorem gX11_part_X11_cutAround : GoodIn wsX11_part (wsV RX11 349 RX11 yX11_cutAround wsX11_cutAround) := goodIn_app (goodIn_of _ (by decide +kernel)) ggX11_part_X11_cutAround
theorem dX11_part_0 : decode cX11_part 0 = .ok (.aload_n 0, 1) := by decide +kernel
theorem dX11_part_1 : decode cX11_part 1 = .ok (.iload_n 1, 1) := by decide +kernel
theorem dX11_part_2 : decode cX11_part 2 = .ok (.invokevirtual 330, 3) := by decide +kernel
theorem dX11_part_5 : decode cX11_part 5 = .ok (.aload_n 0, 1) := by decide +kernel
theorem dX11_part_6 : decode cX11_part 6 = .ok (.getfield 73, 3) := by decide +kernel
theorem dX11_part_9 : decode cX11_part 9 = .ok (.aload_n 0, 1) := by decide +kernel
theorem dX11_part_10 : decode cX11_part 10 = .ok (.getfield 40, 3) := by decide +kernel
theorem dX11_part_13 : decode cX11_part 13 = .ok (.aload_n 0, 1) := by decide +kernel
theorem dX11_part_14 : decode cX11_part 14 = .ok (.getfield 53, 3) := by decide +kernel
theorem dX11_part_17 : decode cX11_part 17 = .ok (.invokevirtual 333, 3) := by decide +kernel
theorem dX11_part_20 : decode cX11_part 20 = .ok (.iload_n 2, 1) := by decide +kernel
theorem dX11_part_21 : decode cX11_part 21 = .ok (.tableswitch 103 0 4 #[35, 47, 66, 78, 97], 35) := by decide +kernel
theorem dX11_part_56 : decode cX11_part 56 = .ok (.aload_n 0, 1) := by decide +kernel
theorem dX11_part_57 : decode cX11_part 57 = .ok (.getfield 73, 3) := by decide +kernel
theorem dX11_part_60 : decode cX11_part 60 = .ok (.getfield 337, 3) := by decide +kernel
theorem dX11_part_63 : decode cX11_part 63 = .ok (.iload_n 1, 1) := by decide +kernel
theorem dX11_part_64 : decode cX11_part 64 = .ok (.invokestatic 164, 3) := by decide +kernel
theorem dX11_part_67 : decode cX11_part 67 = .ok (.ireturn, 1) := by decide +kernel
theorem dX11_part_68 : decode cX11_part 68 = .ok (.aload_n 0, 1) := by decide +kernel
theorem dX11_part_69 : decode cX11_part 69 = .ok (.getfield 73, 3) := by decide +kernel
theorem dX11_part_72 : decode cX11_part 72 = .ok (.aload_n 0, 1) := by decide +kernel
theorem dX11_part_73 : decode cX11_part 73 = .ok (.getfield 73, 3) := by decide +kernel
theorem dX11_part_76 : decode cX11_part 76 = .ok (.getfield 337, 3) := by decide +kernel
theorem dX11_part_79 : decode cX11_part 79 = .ok (.iload_n 1, 1) := by decide +kernel
theorem dX11_part_80 : decode cX11_part 80 = .ok (.invokestatic 164, 3) := by decide +kernel
theorem dX11_part_83 : decode cX11_part 83 = .ok (.invokevirtual 340, 3) := by decide +kernel
theorem dX11_part_86 : decode cX11_part 86 = .ok (.ireturn, 1) := by decide +kernel
theorem dX11_part_87 : decode cX11_part 87 = .ok (.aload_n 0, 1) := by decide +kernel
theorem dX11_part_88 : decode cX11_part 88 = .ok (.getfield 73, 3) := by decide +kernel
theorem dX11_part_91 : decode cX11_part 91 = .ok (.getfield 343, 3) := by decide +kernel
theorem dX11_part_94 : decode cX11_part 94 = .ok (.iload_n 1, 1) := by decide +kernel
theorem dX11_part_95 : decode cX11_part 95 = .ok (.invokestatic 164, 3) := by decide +kernel
theorem dX11_part_98 : decode cX11_part 98 = .ok (.ireturn, 1) := by decide +kernel
theorem dX11_part_99 : decode cX11_part 99 = .ok (.aload_n 0, 1) := by decide +kernel
theorem dX11_part_100 : decode cX11_part 100 = .ok (.getfield 40, 3) := by decide +kernel
theorem dX11_part_103 : decode cX11_part 103 = .ok (.aload_n 0, 1) := by decide +kernel
theorem dX11_part_104 : decode cX11_part 104 = .ok (.getfield 73, 3) := by decide +kernel
theorem dX11_part_107 : decode cX11_part 107 = .ok (.getfield 343, 3) := by decide +kernel
theorem dX11_part_110 : decode cX11_part 110 = .ok (.iload_n 1, 1) := by decide +kernel
theorem dX11_part_111 : decode cX11_part 111 = .ok (.invokestatic 164, 3) := by decide +kernel
theorem dX11_part_114 : decode cX11_part 114 = .ok (.invokevirtual 346, 3) := by decide +kernel
theorem dX11_part_117 : decode cX11_part 117 = .ok (.ireturn, 1) := by decide +kernel
theorem dX11_part_118 : decode cX11_part 118 = .ok (.aload_n 0, 1) := by decide +kernel
theorem dX11_part_119 : decode cX11_part 119 = .ok (.iload_n 1, 1) := by decide +kernel
theorem dX11_part_120 : decode cX11_part 120 = .ok (.invokevirtual 349, 3) := by decide +kernel
theorem dX11_part_123 : decode cX11_part 123 = .ok (.ireturn, 1) := by decide +kernel
theorem dX11_part_124 : decode cX11_part 124 = .ok (.new 117, 3) := by decide +kernel
theorem dX11_part_127 : decode cX11_part 127 = .ok (.dup, 1) := by decide +kernel
theorem dX11_part_128 : decode cX11_part 128 = .ok (.ldc_w 352, 3) := by decide +kernel
theorem dX11_part_131 : decode cX11_part 131 = .ok (.invokespecial 121, 3) := by decide +kernel
theorem dX11_part_134 : decode cX11_part 134 = .ok (.athrow, 1) := by decide +kernel
set_option maxRecDepth 20000 in
theorem ggX11_cutAround_X11_at : GoodIn wsX11_cutAround wsX11_at := goodIn_s _ [(9, 1)] rfl (by decide +kernel)
set_option maxRecDepth 20000 in
theorem gX11_cutAround_X11_at : GoodIn wsX11_cutAround (va_wsS RX11 164 yX11_at wsX11_at) := goodIn_app (goodIn_of _ (by decide +kernel)) ggX11_cutAround_X11_at
set_option maxRecDepth 20000 in
theorem ggX11_cutAround_X11_isCut : GoodIn wsX11_cutAround wsX11_isCut := goodIn_s _ [(13, 3), (3, 1), (16, 2), (6, 4), (25, 18), (67, 7), (55, 12)] rfl (by decide +kernel)
set_option maxRecDepth 20000 in
theorem gX11_cutAround_X11_isCut : GoodIn wsX11_cutAround (wsV RX11 310 RX11 yX11_isCut wsX11_isCut) := goodIn_app (goodIn_of _ (by decide +kernel)) ggX11_cutAround_X11_isCut
set_option maxRecDepth 20000 in
theorem ggX11_cutAround_X2_endsOf : GoodIn wsX11_cutAround wsX2_endsOf := goodIn_s _ [(22, 3), (7, 3), (55, 12)] rfl (by decide +kernel)
set_option maxRecDepth 20000 in
theorem gX11_cutAround_X2_endsOf : GoodIn wsX11_cutAround (wsV RX11 354 RX2 yX2_endsOf wsX2_endsOf) := goodIn_app (goodIn_of _ (by decide +kernel)) ggX11_cutAround_X2_endsOf
theorem dX11_cutAround_0 : decode cX11_cutAround 0 = .ok (.aload_n 0, 1) := by decide +kernel
theorem dX11_cutAround_1 : decode cX11_cutAround 1 = .ok (.getfield 73, 3) := by decide +kernel
theorem dX11_cutAround_4 : decode cX11_cutAround 4 = .ok (.getfield 343, 3) := by decide +kernel
theorem dX11_cutAround_7 : decode cX11_cutAround 7 = .ok (.iload_n 1, 1) := by decide +kernel
theorem dX11_cutAround_8 : decode cX11_cutAround 8 = .ok (.invokestatic 164, 3) := by decide +kernel
theorem dX11_cutAround_11 : decode cX11_cutAround 11 = .ok (.istore_n 2, 1) := by decide +kernel
theorem dX11_cutAround_12 : decode cX11_cutAround 12 = .ok (.iconst 0, 1) := by decide +kernel
theorem dX11_cutAround_13 : decode cX11_cutAround 13 = .ok (.istore_n 3, 1) := by decide +kernel
theorem dX11_cutAround_14 : decode cX11_cutAround 14 = .ok (.iconst 0, 1) := by decide +kernel
theorem dX11_cutAround_15 : decode cX11_cutAround 15 = .ok (.istore 4, 2) := by decide +kernel
theorem dX11_cutAround_17 : decode cX11_cutAround 17 = .ok (.iload 4, 2) := by decide +kernel
theorem dX11_cutAround_19 : decode cX11_cutAround 19 = .ok (.aload_n 0, 1) := by decide +kernel
theorem dX11_cutAround_20 : decode cX11_cutAround 20 = .ok (.getfield 40, 3) := by decide +kernel
theorem dX11_cutAround_23 : decode cX11_cutAround 23 = .ok (.getfield 259, 3) := by decide +kernel
theorem dX11_cutAround_26 : decode cX11_cutAround 26 = .ok (.if_icmp .ge 47, 3) := by decide +kernel
theorem dX11_cutAround_29 : decode cX11_cutAround 29 = .ok (.aload_n 0, 1) := by decide +kernel
theorem dX11_cutAround_30 : decode cX11_cutAround 30 = .ok (.iload 4, 2) := by decide +kernel
theorem dX11_cutAround_32 : decode cX11_cutAround 32 = .ok (.invokevirtual 310, 3) := by decide +kernel
theorem dX11_cutAround_35 : decode cX11_cutAround 35 = .ok (.ifCond .eq 32, 3) := by decide +kernel
theorem dX11_cutAround_38 : decode cX11_cutAround 38 = .ok (.aload_n 0, 1) := by decide +kernel
theorem dX11_cutAround_39 : decode cX11_cutAround 39 = .ok (.getfield 40, 3) := by decide +kernel
theorem dX11_cutAround_42 : decode cX11_cutAround 42 = .ok (.iload 4, 2) := by decide +kernel
theorem dX11_cutAround_44 : decode cX11_cutAround 44 = .ok (.invokevirtual 354, 3) := by decide +kernel
theorem dX11_cutAround_47 : decode cX11_cutAround 47 = .ok (.iload_n 2, 1) := by decide +kernel
theorem dX11_cutAround_48 : decode cX11_cutAround 48 = .ok (.iand, 1) := by decide +kernel
theorem dX11_cutAround_49 : decode cX11_cutAround 49 = .ok (.ifCond .eq 18, 3) := by decide +kernel
theorem dX11_cutAround_52 : decode cX11_cutAround 52 = .ok (.iload_n 3, 1) := by decide +kernel
theorem dX11_cutAround_53 : decode cX11_cutAround 53 = .ok (.aload_n 0, 1) := by decide +kernel
theorem dX11_cutAround_54 : decode cX11_cutAround 54 = .ok (.getfield 40, 3) := by decide +kernel
theorem dX11_cutAround_57 : decode cX11_cutAround 57 = .ok (.getfield 307, 3) := by decide +kernel
theorem dX11_cutAround_60 : decode cX11_cutAround 60 = .ok (.iload 4, 2) := by decide +kernel
theorem dX11_cutAround_62 : decode cX11_cutAround 62 = .ok (.invokestatic 164, 3) := by decide +kernel
theorem dX11_cutAround_65 : decode cX11_cutAround 65 = .ok (.iadd, 1) := by decide +kernel
theorem dX11_cutAround_66 : decode cX11_cutAround 66 = .ok (.istore_n 3, 1) := by decide +kernel
theorem dX11_cutAround_67 : decode cX11_cutAround 67 = .ok (.iinc 4 1, 3) := by decide +kernel
theorem dX11_cutAround_70 : decode cX11_cutAround 70 = .ok (.goto (-53), 3) := by decide +kernel
theorem dX11_cutAround_73 : decode cX11_cutAround 73 = .ok (.iload_n 3, 1) := by decide +kernel
theorem dX11_cutAround_74 : decode cX11_cutAround 74 = .ok (.ireturn, 1) := by decide +kernel
set_option maxRecDepth 20000 in
theorem ggX11_cut_X4_take : GoodIn wsX11_cut wsX4_take := goodIn_s _ [(9, 30), (8, 1), (39, 35), (92, 31)] rfl (by decide +kernel)
set_option maxRecDepth 20000 in
theorem gX11_cut_X4_take : GoodIn wsX11_cut (wsV RX11 333 RX4 yX4_take wsX4_take) := goodIn_app (goodIn_of _ (by decide +kernel)) ggX11_cut_X4_take
theorem dX11_cut_0 : decode cX11_cut 0 = .ok (.aload_n 0, 1) := by decide +kernel
theorem dX11_cut_1 : decode cX11_cut 1 = .ok (.getfield 73, 3) := by decide +kernel
theorem dX11_cut_4 : decode cX11_cut 4 = .ok (.aload_n 0, 1) := by decide +kernel
theorem dX11_cut_5 : decode cX11_cut 5 = .ok (.getfield 40, 3) := by decide +kernel
theorem dX11_cut_8 : decode cX11_cut 8 = .ok (.aload_n 0, 1) := by decide +kernel
theorem dX11_cut_9 : decode cX11_cut 9 = .ok (.getfield 53, 3) := by decide +kernel
theorem dX11_cut_12 : decode cX11_cut 12 = .ok (.invokevirtual 333, 3) := by decide +kernel
theorem dX11_cut_15 : decode cX11_cut 15 = .ok (.aload_n 0, 1) := by decide +kernel
theorem dX11_cut_16 : decode cX11_cut 16 = .ok (.getfield 73, 3) := by decide +kernel
theorem dX11_cut_19 : decode cX11_cut 19 = .ok (.getfield 357, 3) := by decide +kernel
theorem dX11_cut_22 : decode cX11_cut 22 = .ok (.ireturn, 1) := by decide +kernel
set_option maxRecDepth 20000 in
theorem ggX11_debts_X4_take : GoodIn wsX11_debts wsX4_take := goodIn_s _ [(9, 30), (8, 1), (39, 35), (92, 31)] rfl (by decide +kernel)
set_option maxRecDepth 20000 in
theorem gX11_debts_X4_take : GoodIn wsX11_debts (wsV RX11 333 RX4 yX4_take wsX4_take) := goodIn_app (goodIn_of _ (by decide +kernel)) ggX11_debts_X4_take
theorem dX11_debts_0 : decode cX11_debts 0 = .ok (.aload_n 0, 1) := by decide +kernel
theorem dX11_debts_1 : decode cX11_debts 1 = .ok (.getfield 73, 3) := by decide +kernel
theorem dX11_debts_4 : decode cX11_debts 4 = .ok (.aload_n 0, 1) := by decide +kernel
theorem dX11_debts_5 : decode cX11_debts 5 = .ok (.getfield 40, 3) := by decide +kernel
theorem dX11_debts_8 : decode cX11_debts 8 = .ok (.aload_n 0, 1) := by decide +kernel
theorem dX11_debts_9 : decode cX11_debts 9 = .ok (.getfield 53, 3) := by decide +kernel
theorem dX11_debts_12 : decode cX11_debts 12 = .ok (.invokevirtual 333, 3) := by decide +kernel
theorem dX11_debts_15 : decode cX11_debts 15 = .ok (.aload_n 0, 1) := by decide +kernel
theorem dX11_debts_16 : decode cX11_debts 16 = .ok (.getfield 73, 3) := by decide +kernel
theorem dX11_debts_19 : decode cX11_debts 19 = .ok (.getfield 360, 3) := by decide +kernel
theorem dX11_debts_22 : decode cX11_debts 22 = .ok (.ireturn, 1) := by decide +kernel
set_option maxRecDepth 20000 in
theorem ggX11_group_X11_requireGroup : GoodIn wsX11_group wsX11_requireGroup := goodIn_ca (goodIn_s _ [(13, 6), (12, 1), (19, 1), (5, 1), (20, 9), (94, 18), (124, 7)] rfl (by decide +kernel)) (goodIn_sub (fun _ h => List.mem_cons_of_mem _ (List.mem_append_right _ h)) (by decide +kernel))
set_option maxRecDepth 20000 in
theorem gX11_group_X11_requireGroup : GoodIn wsX11_group (wsV RX11 369 RX11 yX11_requireGroup wsX11_requireGroup) := goodIn_app (goodIn_of _ (by decide +kernel)) ggX11_group_X11_requireGroup
set_option maxRecDepth 20000 in
theorem ggX11_group_X4_take : GoodIn wsX11_group wsX4_take := goodIn_s _ [(33, 10), (21, 7), (12, 1), (28, 1), (43, 11), (32, 1), (54, 35), (112, 12), (131, 12), (124, 7)] rfl (by decide +kernel)
set_option maxRecDepth 20000 in
theorem gX11_group_X4_take : GoodIn wsX11_group (wsV RX11 333 RX4 yX4_take wsX4_take) := goodIn_app (goodIn_of _ (by decide +kernel)) ggX11_group_X4_take
set_option maxRecDepth 20000 in
theorem ggX11_group_X11_at : GoodIn wsX11_group wsX11_at := goodIn_s _ [(28, 1)] rfl (by decide +kernel)
set_option maxRecDepth 20000 in
theorem gX11_group_X11_at : GoodIn wsX11_group (va_wsS RX11 164 yX11_at wsX11_at) := goodIn_app (goodIn_of _ (by decide +kernel)) ggX11_group_X11_at
set_option maxRecDepth 20000 in
theorem ggX11_group_X4_pullOfAll : GoodIn wsX11_group wsX4_pullOfAll := goodIn_s _ [(93, 1), (36, 1), (79, 1), (27, 1), (12, 1), (28, 1), (112, 12)] rfl (by decide +kernel)
set_option maxRecDepth 20000 in
theorem gX11_group_X4_pullOfAll : GoodIn wsX11_group (wsV RX11 381 RX4 yX4_pullOfAll wsX4_pullOfAll) := goodIn_app (goodIn_of _ (by decide +kernel)) ggX11_group_X4_pullOfAll
theorem dX11_group_0 : decode cX11_group 0 = .ok (.aload_n 0, 1) := by decide +kernel
theorem dX11_group_1 : decode cX11_group 1 = .ok (.iload_n 1, 1) := by decide +kernel
theorem dX11_group_2 : decode cX11_group 2 = .ok (.invokevirtual 369, 3) := by decide +kernel
theorem dX11_group_5 : decode cX11_group 5 = .ok (.aload_n 0, 1) := by decide +kernel
theorem dX11_group_6 : decode cX11_group 6 = .ok (.getfield 73, 3) := by decide +kernel
theorem dX11_group_9 : decode cX11_group 9 = .ok (.aload_n 0, 1) := by decide +kernel
theorem dX11_group_10 : decode cX11_group 10 = .ok (.getfield 40, 3) := by decide +kernel
theorem dX11_group_13 : decode cX11_group 13 = .ok (.aload_n 0, 1) := by decide +kernel
theorem dX11_group_14 : decode cX11_group 14 = .ok (.getfield 53, 3) := by decide +kernel
theorem dX11_group_17 : decode cX11_group 17 = .ok (.invokevirtual 333, 3) := by decide +kernel
theorem dX11_group_20 : decode cX11_group 20 = .ok (.iload_n 2, 1) := by decide +kernel
theorem dX11_group_21 : decode cX11_group 21 = .ok (.tableswitch 76 0 3 #[31, 43, 55, 67], 31) := by decide +kernel
theorem dX11_group_52 : decode cX11_group 52 = .ok (.aload_n 0, 1) := by decide +kernel
theorem dX11_group_53 : decode cX11_group 53 = .ok (.getfield 73, 3) := by decide +kernel
theorem dX11_group_56 : decode cX11_group 56 = .ok (.getfield 372, 3) := by decide +kernel
theorem dX11_group_59 : decode cX11_group 59 = .ok (.iload_n 1, 1) := by decide +kernel
theorem dX11_group_60 : decode cX11_group 60 = .ok (.invokestatic 164, 3) := by decide +kernel
theorem dX11_group_63 : decode cX11_group 63 = .ok (.ireturn, 1) := by decide +kernel
theorem dX11_group_64 : decode cX11_group 64 = .ok (.aload_n 0, 1) := by decide +kernel
theorem dX11_group_65 : decode cX11_group 65 = .ok (.getfield 73, 3) := by decide +kernel
theorem dX11_group_68 : decode cX11_group 68 = .ok (.getfield 375, 3) := by decide +kernel
theorem dX11_group_71 : decode cX11_group 71 = .ok (.iload_n 1, 1) := by decide +kernel
theorem dX11_group_72 : decode cX11_group 72 = .ok (.invokestatic 164, 3) := by decide +kernel
theorem dX11_group_75 : decode cX11_group 75 = .ok (.ireturn, 1) := by decide +kernel
theorem dX11_group_76 : decode cX11_group 76 = .ok (.aload_n 0, 1) := by decide +kernel
theorem dX11_group_77 : decode cX11_group 77 = .ok (.getfield 73, 3) := by decide +kernel
theorem dX11_group_80 : decode cX11_group 80 = .ok (.getfield 378, 3) := by decide +kernel
theorem dX11_group_83 : decode cX11_group 83 = .ok (.iload_n 1, 1) := by decide +kernel
theorem dX11_group_84 : decode cX11_group 84 = .ok (.invokestatic 164, 3) := by decide +kernel
theorem dX11_group_87 : decode cX11_group 87 = .ok (.ireturn, 1) := by decide +kernel
theorem dX11_group_88 : decode cX11_group 88 = .ok (.aload_n 0, 1) := by decide +kernel
theorem dX11_group_89 : decode cX11_group 89 = .ok (.getfield 73, 3) := by decide +kernel
theorem dX11_group_92 : decode cX11_group 92 = .ok (.iload_n 1, 1) := by decide +kernel
theorem dX11_group_93 : decode cX11_group 93 = .ok (.invokevirtual 381, 3) := by decide +kernel
theorem dX11_group_96 : decode cX11_group 96 = .ok (.ireturn, 1) := by decide +kernel
theorem dX11_group_97 : decode cX11_group 97 = .ok (.new 117, 3) := by decide +kernel
theorem dX11_group_100 : decode cX11_group 100 = .ok (.dup, 1) := by decide +kernel
theorem dX11_group_101 : decode cX11_group 101 = .ok (.ldc_w 384, 3) := by decide +kernel
theorem dX11_group_104 : decode cX11_group 104 = .ok (.invokespecial 121, 3) := by decide +kernel
theorem dX11_group_107 : decode cX11_group 107 = .ok (.athrow, 1) := by decide +kernel
set_option maxRecDepth 20000 in
theorem ggX11_groupOf_X11_requireVertex : GoodIn wsX11_groupOf wsX11_requireVertex := goodIn_ca (goodIn_s _ [(7, 6), (6, 1), (13, 3), (25, 18), (50, 12)] rfl (by decide +kernel)) (goodIn_sub (fun _ h => List.mem_cons_of_mem _ (List.mem_append_right _ h)) (by decide +kernel))
set_option maxRecDepth 20000 in
theorem gX11_groupOf_X11_requireVertex : GoodIn wsX11_groupOf (wsV RX11 297 RX11 yX11_requireVertex wsX11_requireVertex) := goodIn_app (goodIn_of _ (by decide +kernel)) ggX11_groupOf_X11_requireVertex
set_option maxRecDepth 20000 in
theorem ggX11_groupOf_X8_groupRow : GoodIn wsX11_groupOf wsX8_groupRow := goodIn_s _ [(20, 2), (43, 7)] rfl (by decide +kernel)
set_option maxRecDepth 20000 in
theorem gX11_groupOf_X8_groupRow : GoodIn wsX11_groupOf (wsV RX11 389 RX8 yX8_groupRow wsX8_groupRow) := goodIn_app (goodIn_of _ (by decide +kernel)) ggX11_groupOf_X8_groupRow
set_option maxRecDepth 20000 in
theorem ggX11_groupOf_X11_at : GoodIn wsX11_groupOf wsX11_at := goodIn_s _ [(24, 1)] rfl (by decide +kernel)
set_option maxRecDepth 20000 in
theorem gX11_groupOf_X11_at : GoodIn wsX11_groupOf (va_wsS RX11 164 yX11_at wsX11_at) := goodIn_app (goodIn_of _ (by decide +kernel)) ggX11_groupOf_X11_at
theorem dX11_groupOf_0 : decode cX11_groupOf 0 = .ok (.aload_n 0, 1) := by decide +kernel
theorem dX11_groupOf_1 : decode cX11_groupOf 1 = .ok (.iload_n 1, 1) := by decide +kernel
theorem dX11_groupOf_2 : decode cX11_groupOf 2 = .ok (.invokevirtual 297, 3) := by decide +kernel
theorem dX11_groupOf_5 : decode cX11_groupOf 5 = .ok (.aload_n 0, 1) := by decide +kernel
theorem dX11_groupOf_6 : decode cX11_groupOf 6 = .ok (.getfield 53, 3) := by decide +kernel
theorem dX11_groupOf_9 : decode cX11_groupOf 9 = .ok (.getfield 386, 3) := by decide +kernel
theorem dX11_groupOf_12 : decode cX11_groupOf 12 = .ok (.aload_n 0, 1) := by decide +kernel
theorem dX11_groupOf_13 : decode cX11_groupOf 13 = .ok (.getfield 53, 3) := by decide +kernel
theorem dX11_groupOf_16 : decode cX11_groupOf 16 = .ok (.invokevirtual 389, 3) := by decide +kernel
theorem dX11_groupOf_19 : decode cX11_groupOf 19 = .ok (.iload_n 1, 1) := by decide +kernel
theorem dX11_groupOf_20 : decode cX11_groupOf 20 = .ok (.iadd, 1) := by decide +kernel
theorem dX11_groupOf_21 : decode cX11_groupOf 21 = .ok (.invokestatic 164, 3) := by decide +kernel
theorem dX11_groupOf_24 : decode cX11_groupOf 24 = .ok (.ireturn, 1) := by decide +kernel
set_option maxRecDepth 20000 in
theorem ggX11_whyNotShrink_X11_findPairs : GoodIn wsX11_whyNotShrink wsX11_findPairs := goodIn_s _ [(9, 3), (1, 1), (3, 1), (12, 21), (8, 1), (33, 92), (137, 24), (125, 12)] rfl (by decide +kernel)
set_option maxRecDepth 20000 in
theorem gX11_whyNotShrink_X11_findPairs : GoodIn wsX11_whyNotShrink (wsV RX11 392 RX11 yX11_findPairs wsX11_findPairs) := goodIn_app (goodIn_of _ (by decide +kernel)) ggX11_whyNotShrink_X11_findPairs
theorem dX11_whyNotShrink_0 : decode cX11_whyNotShrink 0 = .ok (.aload_n 0, 1) := by decide +kernel
theorem dX11_whyNotShrink_1 : decode cX11_whyNotShrink 1 = .ok (.getfield 53, 3) := by decide +kernel
theorem dX11_whyNotShrink_4 : decode cX11_whyNotShrink 4 = .ok (.getfield 192, 3) := by decide +kernel
theorem dX11_whyNotShrink_7 : decode cX11_whyNotShrink 7 = .ok (.iconst 4, 1) := by decide +kernel
theorem dX11_whyNotShrink_8 : decode cX11_whyNotShrink 8 = .ok (.if_icmp .lt 5, 3) := by decide +kernel
theorem dX11_whyNotShrink_11 : decode cX11_whyNotShrink 11 = .ok (.iconst 1, 1) := by decide +kernel
theorem dX11_whyNotShrink_12 : decode cX11_whyNotShrink 12 = .ok (.ireturn, 1) := by decide +kernel
theorem dX11_whyNotShrink_13 : decode cX11_whyNotShrink 13 = .ok (.aload_n 0, 1) := by decide +kernel
theorem dX11_whyNotShrink_14 : decode cX11_whyNotShrink 14 = .ok (.invokevirtual 392, 3) := by decide +kernel
theorem dX11_whyNotShrink_17 : decode cX11_whyNotShrink 17 = .ok (.aload_n 0, 1) := by decide +kernel
theorem dX11_whyNotShrink_18 : decode cX11_whyNotShrink 18 = .ok (.getfield 80, 3) := by decide +kernel
theorem dX11_whyNotShrink_21 : decode cX11_whyNotShrink 21 = .ok (.getfield 395, 3) := by decide +kernel
theorem dX11_whyNotShrink_24 : decode cX11_whyNotShrink 24 = .ok (.ifCond .eq 7, 3) := by decide +kernel
