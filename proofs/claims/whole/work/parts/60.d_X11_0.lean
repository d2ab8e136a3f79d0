set_option maxRecDepth 20000 in
theorem ggX11_init_X10_init : GoodIn wsX11_init wsX10_init := goodIn_r _ [55, 56, 2, 3, 52, 57, 58, 59, 124, 125, 126, 127, 128, 129, 130, 131, 132, 133, 134, 135] (by decide +kernel) (by decide +kernel)
set_option maxRecDepth 20000 in
theorem gX11_init_X10_init_n11 : GoodIn wsX11_init (wsX10_init) := ggX11_init_X10_init
set_option maxRecDepth 20000 in
theorem ggX11_init_X9_init : GoodIn wsX11_init wsX9_init := goodIn_r _ [61, 62, 2, 3] (by decide +kernel) (by decide +kernel)
set_option maxRecDepth 20000 in
theorem gX11_init_X9_init_n18 : GoodIn wsX11_init (wsX9_init) := ggX11_init_X9_init
set_option maxRecDepth 20000 in
theorem ggX11_init_X7_init : GoodIn wsX11_init wsX7_init := goodIn_r _ [64, 65, 2, 3, 52, 66, 155] (by decide +kernel) (by decide +kernel)
set_option maxRecDepth 20000 in
theorem gX11_init_X7_init_n25 : GoodIn wsX11_init (wsX7_init) := ggX11_init_X7_init
set_option maxRecDepth 20000 in
theorem ggX11_init_X6_init : GoodIn wsX11_init wsX6_init := goodIn_r _ [68, 69, 2, 3, 52, 70, 71, 72, 73, 156, 157, 158, 159, 160, 161] (by decide +kernel) (by decide +kernel)
set_option maxRecDepth 20000 in
theorem gX11_init_X6_init_n32 : GoodIn wsX11_init (wsX6_init) := ggX11_init_X6_init
set_option maxRecDepth 20000 in
theorem ggX11_init_X2_init : GoodIn wsX11_init wsX2_init := goodIn_r _ [75, 76, 2, 3, 77, 78, 79, 52, 80, 81, 82, 83, 162, 163, 164, 165, 166, 167, 168, 169, 170, 171, 172, 173] (by decide +kernel) (by decide +kernel)
set_option maxRecDepth 20000 in
theorem gX11_init_X2_init_n39 : GoodIn wsX11_init (wsX2_init) := ggX11_init_X2_init
set_option maxRecDepth 20000 in
theorem ggX11_init_X8_init : GoodIn wsX11_init wsX8_init := goodIn_r _ [85, 86, 2, 3, 52, 87, 88, 89, 90, 174, 175, 176, 177, 178, 179, 180] (by decide +kernel) (by decide +kernel)
set_option maxRecDepth 20000 in
theorem gX11_init_X8_init_n52 : GoodIn wsX11_init (wsX8_init) := ggX11_init_X8_init
set_option maxRecDepth 20000 in
theorem ggX11_init_X3_init : GoodIn wsX11_init wsX3_init := goodIn_r _ [93, 94, 2, 3, 95, 96, 27, 28, 84, 85, 86, 52, 87, 88, 89, 90, 181, 182, 183, 174, 175, 176, 177, 178, 179, 180] (by decide +kernel) (by decide +kernel)
set_option maxRecDepth 20000 in
theorem gX11_init_X3_init : GoodIn wsX11_init (wsX3_init) := ggX11_init_X3_init
set_option maxRecDepth 20000 in
theorem ggX11_init_X4_init : GoodIn wsX11_init wsX4_init := goodIn_r _ [98, 99, 2, 3, 52, 100, 101, 102, 103, 104, 105, 184, 185, 186, 187, 188, 189, 190, 191, 192, 193, 194, 195] (by decide +kernel) (by decide +kernel)
set_option maxRecDepth 20000 in
theorem gX11_init_X4_init_n72 : GoodIn wsX11_init (wsX4_init) := ggX11_init_X4_init
set_option maxRecDepth 20000 in
theorem ggX11_init_X5_init : GoodIn wsX11_init wsX5_init := goodIn_r _ [107, 108, 2, 3, 52, 109, 110, 111, 196, 197, 198, 199, 200] (by decide +kernel) (by decide +kernel)
set_option maxRecDepth 20000 in
theorem gX11_init_X5_init_n79 : GoodIn wsX11_init (wsX5_init) := ggX11_init_X5_init
set_option maxRecDepth 20000 in
theorem ggX11_init_X0_init : GoodIn wsX11_init wsX0_init := goodIn_r _ [113, 114, 2, 3, 52, 115, 116, 117, 201, 202, 203, 204, 205] (by decide +kernel) (by decide +kernel)
set_option maxRecDepth 20000 in
theorem gX11_init_X0_init_n86 : GoodIn wsX11_init (wsX0_init) := ggX11_init_X0_init
set_option maxRecDepth 20000 in
theorem ggX11_init_X1_init : GoodIn wsX11_init wsX1_init := goodIn_r _ [119, 120, 2, 3, 52, 121, 122, 123, 206, 207, 208, 209, 210, 211] (by decide +kernel) (by decide +kernel)
set_option maxRecDepth 20000 in
theorem gX11_init_X1_init_n93 : GoodIn wsX11_init (wsX1_init) := ggX11_init_X1_init
theorem dX11_init_0 : decode cX11_init 0 = .ok (.aload_n 0, 1) := by decide +kernel
theorem dX11_init_1 : decode cX11_init 1 = .ok (.invokespecial 3, 3) := by decide +kernel
theorem dX11_init_4 : decode cX11_init 4 = .ok (.aload_n 0, 1) := by decide +kernel
theorem dX11_init_5 : decode cX11_init 5 = .ok (.new 9, 3) := by decide +kernel
theorem dX11_init_8 : decode cX11_init 8 = .ok (.dup, 1) := by decide +kernel
theorem dX11_init_9 : decode cX11_init 9 = .ok (.invokespecial 11, 3) := by decide +kernel
theorem dX11_init_12 : decode cX11_init 12 = .ok (.putfield 12, 3) := by decide +kernel
theorem dX11_init_15 : decode cX11_init 15 = .ok (.aload_n 0, 1) := by decide +kernel
theorem dX11_init_16 : decode cX11_init 16 = .ok (.new 16, 3) := by decide +kernel
theorem dX11_init_19 : decode cX11_init 19 = .ok (.dup, 1) := by decide +kernel
theorem dX11_init_20 : decode cX11_init 20 = .ok (.invokespecial 18, 3) := by decide +kernel
theorem dX11_init_23 : decode cX11_init 23 = .ok (.putfield 19, 3) := by decide +kernel
theorem dX11_init_26 : decode cX11_init 26 = .ok (.aload_n 0, 1) := by decide +kernel
theorem dX11_init_27 : decode cX11_init 27 = .ok (.new 23, 3) := by decide +kernel
theorem dX11_init_30 : decode cX11_init 30 = .ok (.dup, 1) := by decide +kernel
theorem dX11_init_31 : decode cX11_init 31 = .ok (.invokespecial 25, 3) := by decide +kernel
theorem dX11_init_34 : decode cX11_init 34 = .ok (.putfield 26, 3) := by decide +kernel
theorem dX11_init_37 : decode cX11_init 37 = .ok (.aload_n 0, 1) := by decide +kernel
theorem dX11_init_38 : decode cX11_init 38 = .ok (.new 30, 3) := by decide +kernel
theorem dX11_init_41 : decode cX11_init 41 = .ok (.dup, 1) := by decide +kernel
theorem dX11_init_42 : decode cX11_init 42 = .ok (.invokespecial 32, 3) := by decide +kernel
theorem dX11_init_45 : decode cX11_init 45 = .ok (.putfield 33, 3) := by decide +kernel
theorem dX11_init_48 : decode cX11_init 48 = .ok (.aload_n 0, 1) := by decide +kernel
theorem dX11_init_49 : decode cX11_init 49 = .ok (.new 37, 3) := by decide +kernel
theorem dX11_init_52 : decode cX11_init 52 = .ok (.dup, 1) := by decide +kernel
theorem dX11_init_53 : decode cX11_init 53 = .ok (.invokespecial 39, 3) := by decide +kernel
theorem dX11_init_56 : decode cX11_init 56 = .ok (.putfield 40, 3) := by decide +kernel
theorem dX11_init_59 : decode cX11_init 59 = .ok (.aload_n 0, 1) := by decide +kernel
theorem dX11_init_60 : decode cX11_init 60 = .ok (.new 37, 3) := by decide +kernel
theorem dX11_init_63 : decode cX11_init 63 = .ok (.dup, 1) := by decide +kernel
theorem dX11_init_64 : decode cX11_init 64 = .ok (.invokespecial 39, 3) := by decide +kernel
theorem dX11_init_67 : decode cX11_init 67 = .ok (.putfield 44, 3) := by decide +kernel
theorem dX11_init_70 : decode cX11_init 70 = .ok (.aload_n 0, 1) := by decide +kernel
theorem dX11_init_71 : decode cX11_init 71 = .ok (.new 37, 3) := by decide +kernel
theorem dX11_init_74 : decode cX11_init 74 = .ok (.dup, 1) := by decide +kernel
theorem dX11_init_75 : decode cX11_init 75 = .ok (.invokespecial 39, 3) := by decide +kernel
theorem dX11_init_78 : decode cX11_init 78 = .ok (.putfield 47, 3) := by decide +kernel
theorem dX11_init_81 : decode cX11_init 81 = .ok (.aload_n 0, 1) := by decide +kernel
theorem dX11_init_82 : decode cX11_init 82 = .ok (.new 50, 3) := by decide +kernel
theorem dX11_init_85 : decode cX11_init 85 = .ok (.dup, 1) := by decide +kernel
theorem dX11_init_86 : decode cX11_init 86 = .ok (.invokespecial 52, 3) := by decide +kernel
theorem dX11_init_89 : decode cX11_init 89 = .ok (.putfield 53, 3) := by decide +kernel
theorem dX11_init_92 : decode cX11_init 92 = .ok (.aload_n 0, 1) := by decide +kernel
theorem dX11_init_93 : decode cX11_init 93 = .ok (.new 50, 3) := by decide +kernel
theorem dX11_init_96 : decode cX11_init 96 = .ok (.dup, 1) := by decide +kernel
theorem dX11_init_97 : decode cX11_init 97 = .ok (.invokespecial 52, 3) := by decide +kernel
theorem dX11_init_100 : decode cX11_init 100 = .ok (.putfield 57, 3) := by decide +kernel
theorem dX11_init_103 : decode cX11_init 103 = .ok (.aload_n 0, 1) := by decide +kernel
theorem dX11_init_104 : decode cX11_init 104 = .ok (.new 50, 3) := by decide +kernel
theorem dX11_init_107 : decode cX11_init 107 = .ok (.dup, 1) := by decide +kernel
theorem dX11_init_108 : decode cX11_init 108 = .ok (.invokespecial 52, 3) := by decide +kernel
theorem dX11_init_111 : decode cX11_init 111 = .ok (.putfield 60, 3) := by decide +kernel
theorem dX11_init_114 : decode cX11_init 114 = .ok (.aload_n 0, 1) := by decide +kernel
theorem dX11_init_115 : decode cX11_init 115 = .ok (.new 63, 3) := by decide +kernel
theorem dX11_init_118 : decode cX11_init 118 = .ok (.dup, 1) := by decide +kernel
theorem dX11_init_119 : decode cX11_init 119 = .ok (.invokespecial 65, 3) := by decide +kernel
theorem dX11_init_122 : decode cX11_init 122 = .ok (.putfield 66, 3) := by decide +kernel
theorem dX11_init_125 : decode cX11_init 125 = .ok (.aload_n 0, 1) := by decide +kernel
theorem dX11_init_126 : decode cX11_init 126 = .ok (.new 70, 3) := by decide +kernel
theorem dX11_init_129 : decode cX11_init 129 = .ok (.dup, 1) := by decide +kernel
theorem dX11_init_130 : decode cX11_init 130 = .ok (.invokespecial 72, 3) := by decide +kernel
theorem dX11_init_133 : decode cX11_init 133 = .ok (.putfield 73, 3) := by decide +kernel
theorem dX11_init_136 : decode cX11_init 136 = .ok (.aload_n 0, 1) := by decide +kernel
theorem dX11_init_137 : decode cX11_init 137 = .ok (.new 77, 3) := by decide +kernel
theorem dX11_init_140 : decode cX11_init 140 = .ok (.dup, 1) := by decide +kernel
theorem dX11_init_141 : decode cX11_init 141 = .ok (.invokespecial 79, 3) := by decide +kernel
theorem dX11_init_144 : decode cX11_init 144 = .ok (.putfield 80, 3) := by decide +kernel
theorem dX11_init_147 : decode cX11_init 147 = .ok (.aload_n 0, 1) := by decide +kernel
theorem dX11_init_148 : decode cX11_init 148 = .ok (.new 84, 3) := by decide +kernel
theorem dX11_init_151 : decode cX11_init 151 = .ok (.dup, 1) := by decide +kernel
theorem dX11_init_152 : decode cX11_init 152 = .ok (.invokespecial 86, 3) := by decide +kernel
theorem dX11_init_155 : decode cX11_init 155 = .ok (.putfield 87, 3) := by decide +kernel
theorem dX11_init_158 : decode cX11_init 158 = .ok (.aload_n 0, 1) := by decide +kernel
theorem dX11_init_159 : decode cX11_init 159 = .ok (.new 91, 3) := by decide +kernel
theorem dX11_init_162 : decode cX11_init 162 = .ok (.dup, 1) := by decide +kernel
theorem dX11_init_163 : decode cX11_init 163 = .ok (.invokespecial 93, 3) := by decide +kernel
theorem dX11_init_166 : decode cX11_init 166 = .ok (.putfield 94, 3) := by decide +kernel
theorem dX11_init_169 : decode cX11_init 169 = .ok (.aload_n 0, 1) := by decide +kernel
theorem dX11_init_170 : decode cX11_init 170 = .ok (.sipush 152, 3) := by decide +kernel
theorem dX11_init_173 : decode cX11_init 173 = .ok (.newarray .int, 2) := by decide +kernel
theorem dX11_init_175 : decode cX11_init 175 = .ok (.putfield 98, 3) := by decide +kernel
theorem dX11_init_178 : decode cX11_init 178 = .ok (.return_, 1) := by decide +kernel
set_option maxRecDepth 20000 in
theorem ggX11_feed_X10_append : GoodIn wsX11_feed wsX10_append := goodIn_r _ [9, 10, 11, 12, 13, 14, 33, 34, 35, 36, 37, 38, 39, 40, 41, 42, 43, 44] (by decide +kernel) (by decide +kernel)
set_option maxRecDepth 20000 in
theorem gX11_feed_X10_append : GoodIn wsX11_feed (wsV RX11 113 RX10 yX10_append wsX10_append) := goodIn_app (goodIn_of _ (by decide +kernel)) ggX11_feed_X10_append
theorem dX11_feed_0 : decode cX11_feed 0 = .ok (.aload_n 0, 1) := by decide +kernel
theorem dX11_feed_1 : decode cX11_feed 1 = .ok (.getfield 12, 3) := by decide +kernel
theorem dX11_feed_4 : decode cX11_feed 4 = .ok (.getfield 102, 3) := by decide +kernel
theorem dX11_feed_7 : decode cX11_feed 7 = .ok (.sipush 780, 3) := by decide +kernel
theorem dX11_feed_10 : decode cX11_feed 10 = .ok (.if_icmp .le 13, 3) := by decide +kernel
theorem dX11_feed_13 : decode cX11_feed 13 = .ok (.new 106, 3) := by decide +kernel
theorem dX11_feed_16 : decode cX11_feed 16 = .ok (.dup, 1) := by decide +kernel
theorem dX11_feed_17 : decode cX11_feed 17 = .ok (.ldc 108, 2) := by decide +kernel
theorem dX11_feed_19 : decode cX11_feed 19 = .ok (.invokespecial 110, 3) := by decide +kernel
theorem dX11_feed_22 : decode cX11_feed 22 = .ok (.athrow, 1) := by decide +kernel
theorem dX11_feed_23 : decode cX11_feed 23 = .ok (.aload_n 0, 1) := by decide +kernel
theorem dX11_feed_24 : decode cX11_feed 24 = .ok (.getfield 12, 3) := by decide +kernel
theorem dX11_feed_27 : decode cX11_feed 27 = .ok (.iload_n 1, 1) := by decide +kernel
theorem dX11_feed_28 : decode cX11_feed 28 = .ok (.invokevirtual 113, 3) := by decide +kernel
theorem dX11_feed_31 : decode cX11_feed 31 = .ok (.aload_n 0, 1) := by decide +kernel
theorem dX11_feed_32 : decode cX11_feed 32 = .ok (.getfield 12, 3) := by decide +kernel
theorem dX11_feed_35 : decode cX11_feed 35 = .ok (.iload_n 2, 1) := by decide +kernel
theorem dX11_feed_36 : decode cX11_feed 36 = .ok (.invokevirtual 113, 3) := by decide +kernel
theorem dX11_feed_39 : decode cX11_feed 39 = .ok (.aload_n 0, 1) := by decide +kernel
theorem dX11_feed_40 : decode cX11_feed 40 = .ok (.getfield 12, 3) := by decide +kernel
theorem dX11_feed_43 : decode cX11_feed 43 = .ok (.iload_n 3, 1) := by decide +kernel
theorem dX11_feed_44 : decode cX11_feed 44 = .ok (.invokevirtual 113, 3) := by decide +kernel
theorem dX11_feed_47 : decode cX11_feed 47 = .ok (.aload_n 0, 1) := by decide +kernel
theorem dX11_feed_48 : decode cX11_feed 48 = .ok (.getfield 12, 3) := by decide +kernel
theorem dX11_feed_51 : decode cX11_feed 51 = .ok (.iload 4, 2) := by decide +kernel
theorem dX11_feed_53 : decode cX11_feed 53 = .ok (.invokevirtual 113, 3) := by decide +kernel
theorem dX11_feed_56 : decode cX11_feed 56 = .ok (.aload_n 0, 1) := by decide +kernel
theorem dX11_feed_57 : decode cX11_feed 57 = .ok (.getfield 12, 3) := by decide +kernel
theorem dX11_feed_60 : decode cX11_feed 60 = .ok (.iload 5, 2) := by decide +kernel
theorem dX11_feed_62 : decode cX11_feed 62 = .ok (.invokevirtual 113, 3) := by decide +kernel
theorem dX11_feed_65 : decode cX11_feed 65 = .ok (.aload_n 0, 1) := by decide +kernel
theorem dX11_feed_66 : decode cX11_feed 66 = .ok (.getfield 12, 3) := by decide +kernel
theorem dX11_feed_69 : decode cX11_feed 69 = .ok (.getfield 102, 3) := by decide +kernel
theorem dX11_feed_72 : decode cX11_feed 72 = .ok (.ireturn, 1) := by decide +kernel
theorem dX11_truncate_0 : decode cX11_truncate 0 = .ok (.iload_n 1, 1) := by decide +kernel
theorem dX11_truncate_1 : decode cX11_truncate 1 = .ok (.ifCond .lt 14, 3) := by decide +kernel
theorem dX11_truncate_4 : decode cX11_truncate 4 = .ok (.iload_n 1, 1) := by decide +kernel
theorem dX11_truncate_5 : decode cX11_truncate 5 = .ok (.aload_n 0, 1) := by decide +kernel
theorem dX11_truncate_6 : decode cX11_truncate 6 = .ok (.getfield 12, 3) := by decide +kernel
theorem dX11_truncate_9 : decode cX11_truncate 9 = .ok (.getfield 102, 3) := by decide +kernel
theorem dX11_truncate_12 : decode cX11_truncate 12 = .ok (.if_icmp .le 13, 3) := by decide +kernel
theorem dX11_truncate_15 : decode cX11_truncate 15 = .ok (.new 117, 3) := by decide +kernel
theorem dX11_truncate_18 : decode cX11_truncate 18 = .ok (.dup, 1) := by decide +kernel
theorem dX11_truncate_19 : decode cX11_truncate 19 = .ok (.ldc 119, 2) := by decide +kernel
theorem dX11_truncate_21 : decode cX11_truncate 21 = .ok (.invokespecial 121, 3) := by decide +kernel
theorem dX11_truncate_24 : decode cX11_truncate 24 = .ok (.athrow, 1) := by decide +kernel
theorem dX11_truncate_25 : decode cX11_truncate 25 = .ok (.aload_n 0, 1) := by decide +kernel
theorem dX11_truncate_26 : decode cX11_truncate 26 = .ok (.getfield 12, 3) := by decide +kernel
theorem dX11_truncate_29 : decode cX11_truncate 29 = .ok (.iload_n 1, 1) := by decide +kernel
theorem dX11_truncate_30 : decode cX11_truncate 30 = .ok (.putfield 102, 3) := by decide +kernel
theorem dX11_truncate_33 : decode cX11_truncate 33 = .ok (.iload_n 1, 1) := by decide +kernel
theorem dX11_truncate_34 : decode cX11_truncate 34 = .ok (.ireturn, 1) := by decide +kernel
set_option maxRecDepth 20000 in
theorem ggX11_readText_X10_begin : GoodIn wsX11_readText wsX10_begin := goodIn_r _ [14, 15, 16, 17, 18, 19, 20, 21, 22, 23, 277, 278, 279, 280, 281, 282, 283, 284, 285, 286, 287, 288] (by decide +kernel) (by decide +kernel)
set_option maxRecDepth 20000 in
theorem gX11_readText_X10_begin : GoodIn wsX11_readText (wsV RX11 122 RX10 yX10_begin wsX10_begin) := goodIn_app (goodIn_of _ (by decide +kernel)) ggX11_readText_X10_begin
set_option maxRecDepth 20000 in
theorem ggX11_readText_X9_read : GoodIn wsX11_readText wsX9_read := goodIn_r _ [28, 29, 30, 31, 32, 33, 34, 35, 36, 37, 38, 39, 40, 41, 42, 43, 44, 45, 13, 46, 18, 16, 47, 17, 19, 48, 49, 50, 51, 52, 53, 54, 55, 56, 57, 58, 59, 60, 61, 62, 63, 64, 65, 66, 67, 68, 69, 70, 71, 72, 73, 74, 75, 76, 77, 78, 27, 79, 80, 81, 82, 83, 84, 85, 86, 87, 88, 89, 90, 91, 92, 93, 94, 95, 96, 97, 98, 99, 100, 101, 102, 103, 104, 105, 106, 107, 108, 109, 110, 111, 112, 113, 114, 115, 116, 117, 118, 119, 120, 121, 122, 123, 124, 125, 126, 127, 128, 129, 130, 131, 132, 133, 134, 135, 136, 137, 138, 139, 140, 141, 142, 143, 21, 22, 20, 23, 144, 145, 146, 147, 148, 149, 150, 151, 152, 153, 154, 155, 156, 157, 158, 159, 160, 161, 162, 163, 164, 165, 166, 167, 168, 169, 170, 171, 172, 173, 174, 175, 176, 177, 178, 179, 180, 181, 182, 183, 184, 185, 186, 187, 188, 189, 190, 191, 192, 193, 194, 195, 196, 197, 198, 199, 200, 201, 202, 203, 204, 205, 206, 207, 208, 289, 277, 278, 279, 280, 281, 282, 283, 284, 285, 286, 287, 288, 265, 266, 267, 268, 269, 270, 271, 272, 273, 274, 275, 276] (by decide +kernel) (by decide +kernel)
set_option maxRecDepth 20000 in
theorem gX11_readText_X9_read : GoodIn wsX11_readText (wsV RX11 125 RX9 yX9_read wsX9_read) := goodIn_app (goodIn_of _ (by decide +kernel)) ggX11_readText_X9_read
set_option maxRecDepth 20000 in
theorem ggX11_readText_X2_copyFrom : GoodIn wsX11_readText wsX2_copyFrom := goodIn_r _ [212, 36, 37, 38, 39, 40, 41, 42, 158, 213, 214, 215, 216, 167, 183, 184, 189, 217, 49, 218, 219, 220, 221, 222, 223, 265, 266, 267, 268, 269, 270, 271, 272, 273, 274, 275, 276] (by decide +kernel) (by decide +kernel)
set_option maxRecDepth 20000 in
theorem gX11_readText_X2_copyFrom : GoodIn wsX11_readText (wsV RX11 131 RX2 yX2_copyFrom wsX2_copyFrom) := goodIn_app (goodIn_of _ (by decide +kernel)) ggX11_readText_X2_copyFrom
set_option maxRecDepth 20000 in
theorem ggX11_readText_X8_start : GoodIn wsX11_readText wsX8_start := goodIn_r _ [228, 229, 230, 231, 232, 233, 234, 235, 236, 237, 238, 239, 240, 168, 49, 169, 290, 291, 292, 293, 294, 295, 296, 265, 266, 267, 268, 269, 270, 271, 272, 273, 274, 275, 276] (by decide +kernel) (by decide +kernel)
set_option maxRecDepth 20000 in
theorem gX11_readText_X8_start : GoodIn wsX11_readText (wsV RX11 135 RX8 yX8_start wsX8_start) := goodIn_app (goodIn_of _ (by decide +kernel)) ggX11_readText_X8_start
set_option maxRecDepth 20000 in
theorem ggX11_readText_X3_forget : GoodIn wsX11_readText wsX3_forget := goodIn_r _ [245, 246, 297, 298, 299] (by decide +kernel) (by decide +kernel)
set_option maxRecDepth 20000 in
theorem gX11_readText_X3_forget : GoodIn wsX11_readText (wsV RX11 138 RX3 yX3_forget wsX3_forget) := goodIn_app (goodIn_of _ (by decide +kernel)) ggX11_readText_X3_forget
theorem dX11_readText_0 : decode cX11_readText 0 = .ok (.aload_n 0, 1) := by decide +kernel
theorem dX11_readText_1 : decode cX11_readText 1 = .ok (.getfield 12, 3) := by decide +kernel
theorem dX11_readText_4 : decode cX11_readText 4 = .ok (.invokevirtual 122, 3) := by decide +kernel
theorem dX11_readText_7 : decode cX11_readText 7 = .ok (.aload_n 0, 1) := by decide +kernel
theorem dX11_readText_8 : decode cX11_readText 8 = .ok (.getfield 19, 3) := by decide +kernel
theorem dX11_readText_11 : decode cX11_readText 11 = .ok (.aload_n 0, 1) := by decide +kernel
theorem dX11_readText_12 : decode cX11_readText 12 = .ok (.getfield 12, 3) := by decide +kernel
theorem dX11_readText_15 : decode cX11_readText 15 = .ok (.aload_n 0, 1) := by decide +kernel
theorem dX11_readText_16 : decode cX11_readText 16 = .ok (.getfield 44, 3) := by decide +kernel
theorem dX11_readText_19 : decode cX11_readText 19 = .ok (.invokevirtual 125, 3) := by decide +kernel
theorem dX11_readText_22 : decode cX11_readText 22 = .ok (.ifCond .ne 13, 3) := by decide +kernel
theorem dX11_readText_25 : decode cX11_readText 25 = .ok (.new 117, 3) := by decide +kernel
theorem dX11_readText_28 : decode cX11_readText 28 = .ok (.dup, 1) := by decide +kernel
theorem dX11_readText_29 : decode cX11_readText 29 = .ok (.ldc 129, 2) := by decide +kernel
theorem dX11_readText_31 : decode cX11_readText 31 = .ok (.invokespecial 121, 3) := by decide +kernel
theorem dX11_readText_34 : decode cX11_readText 34 = .ok (.athrow, 1) := by decide +kernel
theorem dX11_readText_35 : decode cX11_readText 35 = .ok (.aload_n 0, 1) := by decide +kernel
theorem dX11_readText_36 : decode cX11_readText 36 = .ok (.getfield 40, 3) := by decide +kernel
theorem dX11_readText_39 : decode cX11_readText 39 = .ok (.aload_n 0, 1) := by decide +kernel
theorem dX11_readText_40 : decode cX11_readText 40 = .ok (.getfield 44, 3) := by decide +kernel
theorem dX11_readText_43 : decode cX11_readText 43 = .ok (.invokevirtual 131, 3) := by decide +kernel
theorem dX11_readText_46 : decode cX11_readText 46 = .ok (.aload_n 0, 1) := by decide +kernel
theorem dX11_readText_47 : decode cX11_readText 47 = .ok (.getfield 53, 3) := by decide +kernel
theorem dX11_readText_50 : decode cX11_readText 50 = .ok (.aload_n 0, 1) := by decide +kernel
theorem dX11_readText_51 : decode cX11_readText 51 = .ok (.getfield 40, 3) := by decide +kernel
theorem dX11_readText_54 : decode cX11_readText 54 = .ok (.invokevirtual 135, 3) := by decide +kernel
theorem dX11_readText_57 : decode cX11_readText 57 = .ok (.aload_n 0, 1) := by decide +kernel
theorem dX11_readText_58 : decode cX11_readText 58 = .ok (.getfield 66, 3) := by decide +kernel
theorem dX11_readText_61 : decode cX11_readText 61 = .ok (.invokevirtual 138, 3) := by decide +kernel
theorem dX11_readText_64 : decode cX11_readText 64 = .ok (.aload_n 0, 1) := by decide +kernel
theorem dX11_readText_65 : decode cX11_readText 65 = .ok (.getfield 40, 3) := by decide +kernel
theorem dX11_readText_68 : decode cX11_readText 68 = .ok (.getfield 141, 3) := by decide +kernel
theorem dX11_readText_71 : decode cX11_readText 71 = .ok (.ireturn, 1) := by decide +kernel
set_option maxRecDepth 20000 in
theorem ggX11_runScript_X10_begin : GoodIn wsX11_runScript wsX10_begin := goodIn_r _ [13, 14, 15, 16, 17, 18, 19, 20, 21, 22, 586, 587, 588, 589, 590, 591, 592, 593, 594, 595, 596, 597] (by decide +kernel) (by decide +kernel)
set_option maxRecDepth 20000 in
theorem gX11_runScript_X10_begin : GoodIn wsX11_runScript (wsV RX11 122 RX10 yX10_begin wsX10_begin) := goodIn_app (goodIn_of _ (by decide +kernel)) ggX11_runScript_X10_begin
set_option maxRecDepth 20000 in
theorem ggX11_runScript_X7_read : GoodIn wsX11_runScript wsX7_read := goodIn_r _ [27, 28, 29, 30, 31, 32, 33, 34, 35, 36, 37, 38, 39, 12, 40, 17, 15, 41, 16, 18, 42, 43, 44, 45, 46, 47, 48, 49, 50, 51, 52, 53, 54, 55, 56, 57, 58, 59, 60, 61, 62, 63, 64, 65, 66, 67, 68, 69, 70, 71, 72, 73, 20, 21, 19, 22, 74, 75, 76, 26, 77, 78, 79, 80, 81, 82, 83, 84, 85, 86, 87, 88, 89, 90, 91, 92, 93, 94, 95, 96, 97, 98, 99, 100, 101, 102, 103, 104, 105, 106, 107, 108, 109, 110, 111, 112, 113, 114, 115, 116, 117, 118, 119, 120, 121, 122, 123, 124, 125, 126, 127, 128, 129, 130, 131, 132, 133, 134, 135, 136, 137, 138, 139, 140, 141, 142, 143, 144, 145, 146, 147, 148, 149, 150, 151, 152, 153, 154, 155, 156, 157, 158, 159, 160, 161, 162, 163, 164, 165, 166, 167, 168, 169, 170, 171, 172, 173, 174, 175, 176, 177, 178, 179, 180, 181, 182, 183, 184, 185, 186, 187, 188, 189, 190, 191, 192, 193, 194, 195, 196, 197, 198, 199, 200, 201, 586, 587, 588, 589, 590, 591, 592, 593, 594, 595, 596, 597, 598, 599, 600, 601, 602, 603, 604, 605, 606, 607, 608, 609, 610, 611, 612, 613, 614, 615, 616] (by decide +kernel) (by decide +kernel)
set_option maxRecDepth 20000 in
theorem gX11_runScript_X7_read : GoodIn wsX11_runScript (wsV RX11 144 RX7 yX7_read wsX7_read) := goodIn_app (goodIn_of _ (by decide +kernel)) ggX11_runScript_X7_read
set_option maxRecDepth 20000 in
theorem ggX11_runScript_X3_keep : GoodIn wsX11_runScript wsX3_keep := goodIn_r _ [206, 207, 208, 209, 210, 211, 212, 213, 214, 215, 205, 216, 217, 218, 219, 220, 221, 222, 223, 224, 225, 226, 227, 228, 229, 230, 43, 231, 232, 233, 234, 235, 236, 617, 618, 619, 620, 621, 622, 623, 624, 625, 626] (by decide +kernel) (by decide +kernel)
set_option maxRecDepth 20000 in
theorem gX11_runScript_X3_keep : GoodIn wsX11_runScript (wsV RX11 149 RX3 yX3_keep wsX3_keep) := goodIn_app (goodIn_of _ (by decide +kernel)) ggX11_runScript_X3_keep
set_option maxRecDepth 20000 in
theorem ggX11_runScript_X11_runCommands : GoodIn wsX11_runScript wsX11_runCommands := goodIn_ca (goodIn_r _ [240, 241, 5, 242, 243, 244, 245, 246, 42, 43, 44, 247, 248, 249, 33, 250, 251, 88, 90, 91, 252, 253, 254, 255, 256, 257, 258, 259, 260, 261, 8, 262, 263, 264, 265, 266, 267, 268, 269, 270, 271, 272, 273, 6, 274, 275, 276, 277, 278, 279, 280, 281, 282, 283, 284, 285, 286, 287, 288, 289, 221, 290, 227, 223, 291, 292, 293, 194, 294, 295, 296, 297, 298, 299, 300, 301, 302, 303, 304, 305, 306, 307, 308, 309, 310, 311, 312, 313, 314, 315, 316, 317, 318, 319, 320, 321, 322, 323, 324, 325, 326, 327, 328, 329, 330, 331, 332, 333, 334, 335, 336, 337, 338, 339, 340, 341, 342, 343, 344, 345, 346, 347, 348, 349, 350, 351, 352, 353, 354, 355, 356, 357, 358, 359, 360, 361, 362, 363, 364, 365, 366, 367, 368, 369, 370, 371, 372, 373, 374, 375, 376, 377, 378, 379, 380, 381, 382, 383, 384, 385, 386, 387, 388, 389, 390, 391, 392, 393, 394, 395, 396, 397, 398, 399, 400, 401, 402, 403, 404, 405, 406, 407, 408, 409, 410, 411, 412, 413, 414, 415, 416, 417, 418, 419, 420, 421, 422, 423, 424, 425, 426, 427, 428, 429, 430, 431, 432, 433, 434, 435, 436, 437, 438, 439, 440, 441, 442, 443, 444, 445, 446, 447, 448, 449, 450, 228, 451, 452, 453, 454, 455, 456, 457, 458, 459, 460, 461, 462, 463, 464, 465, 466, 467, 468, 469, 229, 470, 234, 235, 236, 225, 471, 210, 211, 212, 472, 473, 474, 475, 226, 476, 477, 478, 479, 480, 481, 482, 483, 484, 485, 486, 487, 488, 489, 490, 491, 492, 493, 494, 495, 496, 497, 498, 499, 500, 501, 502, 503, 504, 505, 506, 507, 508, 509, 510, 511, 230, 231, 232, 233, 512, 513, 514, 515, 516, 517, 518, 519, 520, 521, 522, 523, 524, 525, 526, 527, 528, 529, 530, 531, 532, 533, 534, 535, 536, 537, 538, 539, 540, 541, 542, 543, 544, 545, 546, 547, 548, 549, 550, 551, 552, 553, 554, 555, 556, 557, 558, 559, 560, 561, 562, 563, 564, 565, 566, 567, 568, 569, 570, 571, 572, 573, 574, 575, 576, 577, 578, 579, 580, 581, 582, 583, 584, 585, 598, 599, 600, 601, 602, 603, 620, 621, 622, 623, 624, 625, 626, 627, 628, 629, 630, 631, 632, 633, 634, 635, 636, 637, 638, 639, 640, 641, 642, 643, 605, 606, 607, 608, 609, 610, 611, 612, 613, 614, 615, 616, 644, 645, 646, 647, 648, 649, 650, 651, 652, 653, 654] (by decide +kernel) (by decide +kernel)) (goodIn_sub (fun _ h => List.mem_cons_of_mem _ (List.mem_append_right _ h)) (by decide +kernel))
set_option maxRecDepth 20000 in
theorem gX11_runScript_X11_runCommands : GoodIn wsX11_runScript (wsV RX11 153 RX11 yX11_runCommands wsX11_runCommands) := goodIn_app (goodIn_of _ (by decide +kernel)) ggX11_runScript_X11_runCommands
theorem dX11_runScript_0 : decode cX11_runScript 0 = .ok (.aload_n 0, 1) := by decide +kernel
theorem dX11_runScript_1 : decode cX11_runScript 1 = .ok (.getfield 12, 3) := by decide +kernel
theorem dX11_runScript_4 : decode cX11_runScript 4 = .ok (.invokevirtual 122, 3) := by decide +kernel
theorem dX11_runScript_7 : decode cX11_runScript 7 = .ok (.aload_n 0, 1) := by decide +kernel
theorem dX11_runScript_8 : decode cX11_runScript 8 = .ok (.getfield 26, 3) := by decide +kernel
theorem dX11_runScript_11 : decode cX11_runScript 11 = .ok (.aload_n 0, 1) := by decide +kernel
theorem dX11_runScript_12 : decode cX11_runScript 12 = .ok (.getfield 12, 3) := by decide +kernel
theorem dX11_runScript_15 : decode cX11_runScript 15 = .ok (.aload_n 0, 1) := by decide +kernel
theorem dX11_runScript_16 : decode cX11_runScript 16 = .ok (.getfield 33, 3) := by decide +kernel
theorem dX11_runScript_19 : decode cX11_runScript 19 = .ok (.aload_n 0, 1) := by decide +kernel
theorem dX11_runScript_20 : decode cX11_runScript 20 = .ok (.getfield 40, 3) := by decide +kernel
theorem dX11_runScript_23 : decode cX11_runScript 23 = .ok (.invokevirtual 144, 3) := by decide +kernel
theorem dX11_runScript_26 : decode cX11_runScript 26 = .ok (.ifCond .ne 13, 3) := by decide +kernel
theorem dX11_runScript_29 : decode cX11_runScript 29 = .ok (.new 117, 3) := by decide +kernel
theorem dX11_runScript_32 : decode cX11_runScript 32 = .ok (.dup, 1) := by decide +kernel
theorem dX11_runScript_33 : decode cX11_runScript 33 = .ok (.ldc 147, 2) := by decide +kernel
theorem dX11_runScript_35 : decode cX11_runScript 35 = .ok (.invokespecial 121, 3) := by decide +kernel
theorem dX11_runScript_38 : decode cX11_runScript 38 = .ok (.athrow, 1) := by decide +kernel
theorem dX11_runScript_39 : decode cX11_runScript 39 = .ok (.aload_n 0, 1) := by decide +kernel
theorem dX11_runScript_40 : decode cX11_runScript 40 = .ok (.getfield 66, 3) := by decide +kernel
theorem dX11_runScript_43 : decode cX11_runScript 43 = .ok (.aload_n 0, 1) := by decide +kernel
theorem dX11_runScript_44 : decode cX11_runScript 44 = .ok (.getfield 53, 3) := by decide +kernel
theorem dX11_runScript_47 : decode cX11_runScript 47 = .ok (.invokevirtual 149, 3) := by decide +kernel
theorem dX11_runScript_50 : decode cX11_runScript 50 = .ok (.aload_n 0, 1) := by decide +kernel
theorem dX11_runScript_51 : decode cX11_runScript 51 = .ok (.invokevirtual 153, 3) := by decide +kernel
theorem dX11_runScript_54 : decode cX11_runScript 54 = .ok (.ireturn, 1) := by decide +kernel
set_option maxRecDepth 20000 in
theorem ggX11_runCommands_X11_at : GoodIn wsX11_runCommands wsX11_at := goodIn_r _ [10] (by decide +kernel) (by decide +kernel)
set_option maxRecDepth 20000 in
theorem gX11_runCommands_X11_at : GoodIn wsX11_runCommands (va_wsS RX11 164 yX11_at wsX11_at) := goodIn_app (goodIn_of _ (by decide +kernel)) ggX11_runCommands_X11_at
set_option maxRecDepth 20000 in
theorem ggX11_runCommands_X6_beginRepeat : GoodIn wsX11_runCommands wsX6_beginRepeat := goodIn_r _ [15, 16, 17, 8, 9, 10, 18, 19, 374, 375, 376, 377, 378, 379] (by decide +kernel) (by decide +kernel)
set_option maxRecDepth 20000 in
theorem gX11_runCommands_X6_beginRepeat : GoodIn wsX11_runCommands (wsV RX11 168 RX6 yX6_beginRepeat wsX6_beginRepeat) := goodIn_app (goodIn_of _ (by decide +kernel)) ggX11_runCommands_X6_beginRepeat
set_option maxRecDepth 20000 in
theorem ggX11_runCommands_X6_behindClose : GoodIn wsX11_runCommands wsX6_behindClose := goodIn_r _ [23, 17, 16, 8, 9, 10, 24, 25, 374, 375, 376, 377, 378, 379] (by decide +kernel) (by decide +kernel)
set_option maxRecDepth 20000 in
theorem gX11_runCommands_X6_behindClose : GoodIn wsX11_runCommands (wsV RX11 171 RX6 yX6_behindClose wsX6_behindClose) := goodIn_app (goodIn_of _ (by decide +kernel)) ggX11_runCommands_X6_behindClose
set_option maxRecDepth 20000 in
theorem ggX11_runCommands_X11_canPerform : GoodIn wsX11_runCommands wsX11_canPerform := goodIn_ca (goodIn_r _ [29, 30, 31, 32, 33, 34, 9, 35, 36, 37, 38, 39, 40, 41, 42, 43, 44, 45, 46, 47, 48, 49, 50, 51, 52, 53, 54, 55, 56, 57, 58, 59, 60, 61, 62, 63, 8, 10, 64, 65, 66, 67, 68, 69, 70, 71, 72, 73, 74, 75, 76, 77, 78, 79, 80, 81, 82, 83, 84, 85, 86, 87, 88, 89, 90, 91, 24, 25, 18, 19, 92, 93, 94, 95, 96, 97, 98, 99, 100, 101, 102, 103, 104, 105, 106, 107, 108, 109, 110, 111, 112, 113, 114, 115, 116, 117, 118, 119, 120, 121, 122, 123, 124, 125, 126, 127, 128, 129, 130, 131, 132, 133, 134, 135, 136, 137, 138, 139, 140, 141, 142, 143, 144, 145, 146, 147, 148, 149, 150, 151, 152, 153, 154, 155, 156, 157, 158, 159, 160, 161, 162, 163, 164, 165, 166, 167, 168, 169, 170, 171, 172, 173, 174, 175, 176, 177, 178, 179, 180, 181, 182, 183, 184, 185, 186, 187, 188, 189, 190, 191, 192, 193, 194, 195, 196, 197, 198, 199, 200, 201, 202, 203, 204, 205, 356, 357, 358, 359, 360, 361, 362, 363, 364, 365, 366, 367, 368, 369, 370, 371, 372, 373, 380, 381, 382, 383, 384, 385, 386, 387, 388, 389, 390, 391, 392, 393, 394, 395, 396, 397, 398, 399, 400, 401, 402, 403, 404, 405, 406, 407, 408, 409, 410, 411, 412, 413, 414, 415] (by decide +kernel) (by decide +kernel)) (goodIn_sub (fun _ h => List.mem_cons_of_mem _ (List.mem_append_right _ h)) (by decide +kernel))
set_option maxRecDepth 20000 in
theorem gX11_runCommands_X11_canPerform : GoodIn wsX11_runCommands (wsV RX11 181 RX11 yX11_canPerform wsX11_canPerform) := goodIn_app (goodIn_of _ (by decide +kernel)) ggX11_runCommands_X11_canPerform
set_option maxRecDepth 20000 in
theorem ggX11_runCommands_X11_perform : GoodIn wsX11_runCommands wsX11_perform := goodIn_r _ [209, 30, 31, 210, 211, 212, 213, 9, 214, 36, 42, 43, 197, 38, 39, 40, 41, 44, 45, 46, 47, 48, 49, 50, 51, 52, 53, 54, 55, 56, 57, 58, 59, 60, 61, 62, 63, 8, 10, 64, 65, 66, 67, 68, 69, 70, 71, 72, 73, 74, 75, 76, 77, 78, 79, 80, 81, 82, 83, 84, 85, 86, 87, 88, 89, 90, 91, 24, 25, 18, 19, 92, 93, 94, 95, 96, 97, 98, 99, 100, 101, 102, 103, 104, 105, 106, 107, 108, 109, 110, 111, 112, 113, 114, 115, 116, 117, 118, 119, 120, 121, 122, 123, 124, 125, 126, 127, 128, 129, 130, 131, 132, 215, 216, 217, 218, 219, 220, 221, 222, 223, 224, 225, 226, 227, 228, 229, 230, 231, 232, 233, 234, 235, 236, 237, 238, 239, 7, 240, 182, 183, 184, 241, 242, 243, 244, 245, 246, 247, 248, 249, 250, 251, 252, 253, 254, 255, 256, 257, 258, 259, 260, 261, 262, 263, 264, 265, 173, 174, 175, 176, 177, 178, 179, 180, 181, 161, 162, 163, 164, 165, 166, 167, 168, 266, 267, 268, 269, 270, 271, 272, 273, 274, 275, 276, 277, 278, 279, 280, 281, 282, 283, 284, 285, 286, 287, 288, 289, 290, 291, 292, 293, 294, 295, 296, 297, 298, 299, 300, 301, 302, 303, 304, 305, 306, 307, 308, 309, 310, 311, 312, 313, 314, 315, 316, 137, 317, 318, 319, 320, 321, 322, 323, 324, 325, 326, 327, 328, 329, 330, 331, 332, 333, 334, 335, 336, 337, 338, 339, 340, 341, 342, 343, 344, 345, 346, 347, 348, 349, 350, 351, 352, 353, 354, 355, 356, 357, 358, 359, 360, 361, 362, 363, 364, 365, 366, 367, 368, 369, 370, 371, 372, 373, 380, 381, 382, 383, 384, 385, 386, 404, 405, 406, 407, 408, 409, 410, 411, 412, 413, 414, 415, 392, 393, 394, 395, 396, 397, 398, 399, 400, 401, 402, 403, 387, 388, 389, 390, 391, 416, 417, 418, 419, 420, 421, 422, 423, 424, 425, 426] (by decide +kernel) (by decide +kernel)
set_option maxRecDepth 20000 in
theorem gX11_runCommands_X11_perform : GoodIn wsX11_runCommands (wsV RX11 185 RX11 yX11_perform wsX11_perform) := goodIn_app (goodIn_of _ (by decide +kernel)) ggX11_runCommands_X11_perform
theorem dX11_runCommands_0 : decode cX11_runCommands 0 = .ok (.iconst 0, 1) := by decide +kernel
theorem dX11_runCommands_1 : decode cX11_runCommands 1 = .ok (.istore_n 1, 1) := by decide +kernel
theorem dX11_runCommands_2 : decode cX11_runCommands 2 = .ok (.iconst 0, 1) := by decide +kernel
theorem dX11_runCommands_3 : decode cX11_runCommands 3 = .ok (.istore_n 2, 1) := by decide +kernel
theorem dX11_runCommands_4 : decode cX11_runCommands 4 = .ok (.iconst 0, 1) := by decide +kernel
theorem dX11_runCommands_5 : decode cX11_runCommands 5 = .ok (.istore_n 3, 1) := by decide +kernel
theorem dX11_runCommands_6 : decode cX11_runCommands 6 = .ok (.iload_n 3, 1) := by decide +kernel
theorem dX11_runCommands_7 : decode cX11_runCommands 7 = .ok (.ldc 157, 2) := by decide +kernel
theorem dX11_runCommands_9 : decode cX11_runCommands 9 = .ok (.if_icmp .ge 136, 3) := by decide +kernel
theorem dX11_runCommands_12 : decode cX11_runCommands 12 = .ok (.iload_n 2, 1) := by decide +kernel
theorem dX11_runCommands_13 : decode cX11_runCommands 13 = .ok (.aload_n 0, 1) := by decide +kernel
theorem dX11_runCommands_14 : decode cX11_runCommands 14 = .ok (.getfield 33, 3) := by decide +kernel
theorem dX11_runCommands_17 : decode cX11_runCommands 17 = .ok (.getfield 158, 3) := by decide +kernel
theorem dX11_runCommands_20 : decode cX11_runCommands 20 = .ok (.if_icmp .ge 125, 3) := by decide +kernel
theorem dX11_runCommands_23 : decode cX11_runCommands 23 = .ok (.iload_n 1, 1) := by decide +kernel
theorem dX11_runCommands_24 : decode cX11_runCommands 24 = .ok (.bipush 40, 2) := by decide +kernel
theorem dX11_runCommands_26 : decode cX11_runCommands 26 = .ok (.if_icmp .ge 119, 3) := by decide +kernel
theorem dX11_runCommands_29 : decode cX11_runCommands 29 = .ok (.aload_n 0, 1) := by decide +kernel
theorem dX11_runCommands_30 : decode cX11_runCommands 30 = .ok (.getfield 33, 3) := by decide +kernel
theorem dX11_runCommands_33 : decode cX11_runCommands 33 = .ok (.getfield 161, 3) := by decide +kernel
theorem dX11_runCommands_36 : decode cX11_runCommands 36 = .ok (.iload_n 2, 1) := by decide +kernel
theorem dX11_runCommands_37 : decode cX11_runCommands 37 = .ok (.invokestatic 164, 3) := by decide +kernel
theorem dX11_runCommands_40 : decode cX11_runCommands 40 = .ok (.istore 4, 2) := by decide +kernel
theorem dX11_runCommands_42 : decode cX11_runCommands 42 = .ok (.iload 4, 2) := by decide +kernel
theorem dX11_runCommands_44 : decode cX11_runCommands 44 = .ok (.bipush 8, 2) := by decide +kernel
theorem dX11_runCommands_46 : decode cX11_runCommands 46 = .ok (.if_icmp .ne 17, 3) := by decide +kernel
theorem dX11_runCommands_49 : decode cX11_runCommands 49 = .ok (.aload_n 0, 1) := by decide +kernel
theorem dX11_runCommands_50 : decode cX11_runCommands 50 = .ok (.getfield 33, 3) := by decide +kernel
theorem dX11_runCommands_53 : decode cX11_runCommands 53 = .ok (.iload_n 2, 1) := by decide +kernel
theorem dX11_runCommands_54 : decode cX11_runCommands 54 = .ok (.invokevirtual 168, 3) := by decide +kernel
theorem dX11_runCommands_57 : decode cX11_runCommands 57 = .ok (.iinc 2 1, 3) := by decide +kernel
theorem dX11_runCommands_60 : decode cX11_runCommands 60 = .ok (.goto 79, 3) := by decide +kernel
theorem dX11_runCommands_63 : decode cX11_runCommands 63 = .ok (.iload 4, 2) := by decide +kernel
theorem dX11_runCommands_65 : decode cX11_runCommands 65 = .ok (.bipush 9, 2) := by decide +kernel
theorem dX11_runCommands_67 : decode cX11_runCommands 67 = .ok (.if_icmp .ne 15, 3) := by decide +kernel
theorem dX11_runCommands_70 : decode cX11_runCommands 70 = .ok (.aload_n 0, 1) := by decide +kernel
theorem dX11_runCommands_71 : decode cX11_runCommands 71 = .ok (.getfield 33, 3) := by decide +kernel
theorem dX11_runCommands_74 : decode cX11_runCommands 74 = .ok (.iload_n 2, 1) := by decide +kernel
theorem dX11_runCommands_75 : decode cX11_runCommands 75 = .ok (.invokevirtual 171, 3) := by decide +kernel
theorem dX11_runCommands_78 : decode cX11_runCommands 78 = .ok (.istore_n 2, 1) := by decide +kernel
theorem dX11_runCommands_79 : decode cX11_runCommands 79 = .ok (.goto 60, 3) := by decide +kernel
theorem dX11_runCommands_82 : decode cX11_runCommands 82 = .ok (.aload_n 0, 1) := by decide +kernel
theorem dX11_runCommands_83 : decode cX11_runCommands 83 = .ok (.getfield 33, 3) := by decide +kernel
theorem dX11_runCommands_86 : decode cX11_runCommands 86 = .ok (.getfield 175, 3) := by decide +kernel
theorem dX11_runCommands_89 : decode cX11_runCommands 89 = .ok (.iload_n 2, 1) := by decide +kernel
theorem dX11_runCommands_90 : decode cX11_runCommands 90 = .ok (.invokestatic 164, 3) := by decide +kernel
theorem dX11_runCommands_93 : decode cX11_runCommands 93 = .ok (.istore 5, 2) := by decide +kernel
theorem dX11_runCommands_95 : decode cX11_runCommands 95 = .ok (.aload_n 0, 1) := by decide +kernel
theorem dX11_runCommands_96 : decode cX11_runCommands 96 = .ok (.getfield 33, 3) := by decide +kernel
theorem dX11_runCommands_99 : decode cX11_runCommands 99 = .ok (.getfield 178, 3) := by decide +kernel
theorem dX11_runCommands_102 : decode cX11_runCommands 102 = .ok (.iload_n 2, 1) := by decide +kernel
theorem dX11_runCommands_103 : decode cX11_runCommands 103 = .ok (.invokestatic 164, 3) := by decide +kernel
theorem dX11_runCommands_106 : decode cX11_runCommands 106 = .ok (.istore 6, 2) := by decide +kernel
theorem dX11_runCommands_108 : decode cX11_runCommands 108 = .ok (.aload_n 0, 1) := by decide +kernel
theorem dX11_runCommands_109 : decode cX11_runCommands 109 = .ok (.iload 4, 2) := by decide +kernel
theorem dX11_runCommands_111 : decode cX11_runCommands 111 = .ok (.iload 5, 2) := by decide +kernel
theorem dX11_runCommands_113 : decode cX11_runCommands 113 = .ok (.iload 6, 2) := by decide +kernel
theorem dX11_runCommands_115 : decode cX11_runCommands 115 = .ok (.invokevirtual 181, 3) := by decide +kernel
theorem dX11_runCommands_118 : decode cX11_runCommands 118 = .ok (.ifCond .ne 5, 3) := by decide +kernel
theorem dX11_runCommands_121 : decode cX11_runCommands 121 = .ok (.iload_n 1, 1) := by decide +kernel
theorem dX11_runCommands_122 : decode cX11_runCommands 122 = .ok (.ireturn, 1) := by decide +kernel
theorem dX11_runCommands_123 : decode cX11_runCommands 123 = .ok (.aload_n 0, 1) := by decide +kernel
theorem dX11_runCommands_124 : decode cX11_runCommands 124 = .ok (.iload 4, 2) := by decide +kernel
theorem dX11_runCommands_126 : decode cX11_runCommands 126 = .ok (.iload 5, 2) := by decide +kernel
theorem dX11_runCommands_128 : decode cX11_runCommands 128 = .ok (.iload 6, 2) := by decide +kernel
theorem dX11_runCommands_130 : decode cX11_runCommands 130 = .ok (.invokevirtual 185, 3) := by decide +kernel
theorem dX11_runCommands_133 : decode cX11_runCommands 133 = .ok (.iinc 1 1, 3) := by decide +kernel
theorem dX11_runCommands_136 : decode cX11_runCommands 136 = .ok (.iinc 2 1, 3) := by decide +kernel
theorem dX11_runCommands_139 : decode cX11_runCommands 139 = .ok (.iinc 3 1, 3) := by decide +kernel
theorem dX11_runCommands_142 : decode cX11_runCommands 142 = .ok (.goto (-136), 3) := by decide +kernel
theorem dX11_runCommands_145 : decode cX11_runCommands 145 = .ok (.iload_n 1, 1) := by decide +kernel
theorem dX11_runCommands_146 : decode cX11_runCommands 146 = .ok (.ireturn, 1) := by decide +kernel
set_option maxRecDepth 20000 in
theorem ggX11_canPerform_X11_whyNotShrink : GoodIn wsX11_canPerform wsX11_whyNotShrink := goodIn_r _ [7, 1, 2, 8, 9, 10, 11, 12, 6, 13, 14, 15, 16, 17, 18, 19, 20, 21, 22, 23, 24, 25, 26, 27, 28, 29, 30, 31, 32, 33, 34, 35, 36, 37, 38, 39, 40, 41, 42, 43, 44, 45, 46, 47, 48, 49, 50, 51, 52, 53, 54, 55, 56, 57, 58, 59, 60, 61, 62, 63, 64, 65, 66, 67, 68, 69, 70, 71, 72, 73, 74, 75, 76, 77, 78, 79, 80, 81, 82, 83, 84, 85, 86, 87, 88, 89, 90, 91, 92, 93, 94, 95, 96, 97, 98, 99, 100, 101, 102, 103, 104, 105, 106, 107, 108, 109, 110, 184, 185, 186, 187, 188, 189, 190, 191, 192, 193, 194, 195, 196, 197, 198, 199, 200, 201, 202, 203, 204, 205, 206, 207, 208, 209, 210, 211, 212, 213, 214, 215, 216, 217, 218, 219, 220, 221, 222, 223, 224, 225, 226, 227, 228, 229, 230, 231, 232, 233, 234, 235, 236, 237] (by decide +kernel) (by decide +kernel)
set_option maxRecDepth 20000 in
theorem gX11_canPerform_X11_whyNotShrink : GoodIn wsX11_canPerform (wsV RX11 189 RX11 yX11_whyNotShrink wsX11_whyNotShrink) := goodIn_app (goodIn_of _ (by decide +kernel)) ggX11_canPerform_X11_whyNotShrink
set_option maxRecDepth 20000 in
theorem ggX11_canPerform_X11_hasGroup : GoodIn wsX11_canPerform wsX11_hasGroup := goodIn_r _ [114, 1, 115, 30, 31, 32, 33, 34, 35, 36, 6, 37, 184, 185, 186, 187, 188, 189, 190, 191, 192, 193, 194, 195, 196, 197, 198, 199, 200, 201, 202, 203, 204, 205, 206, 207, 208] (by decide +kernel) (by decide +kernel)
set_option maxRecDepth 20000 in
theorem gX11_canPerform_X11_hasGroup : GoodIn wsX11_canPerform (wsV RX11 195 RX11 yX11_hasGroup wsX11_hasGroup) := goodIn_app (goodIn_of _ (by decide +kernel)) ggX11_canPerform_X11_hasGroup
set_option maxRecDepth 20000 in
theorem ggX11_canPerform_X11_hasPart : GoodIn wsX11_canPerform wsX11_hasPart := goodIn_r _ [119, 15, 120, 184, 185, 186, 187, 188, 189, 190, 191, 192, 193, 194, 195, 196, 197, 198, 199, 200, 201, 226, 227, 228, 229, 230, 231, 232, 233, 234, 235, 236, 237] (by decide +kernel) (by decide +kernel)
set_option maxRecDepth 20000 in
theorem gX11_canPerform_X11_hasPart : GoodIn wsX11_canPerform (wsV RX11 199 RX11 yX11_hasPart wsX11_hasPart) := goodIn_app (goodIn_of _ (by decide +kernel)) ggX11_canPerform_X11_hasPart
set_option maxRecDepth 20000 in
theorem ggX11_canPerform_X11_whyNotMove : GoodIn wsX11_canPerform wsX11_whyNotMove := goodIn_ca (goodIn_r _ [124, 14, 15, 1, 125, 126, 127, 6, 128, 129, 130, 111, 112, 113, 114, 115, 30, 31, 32, 33, 34, 35, 36, 37, 131, 132, 133, 134, 116, 117, 118, 119, 120, 16, 17, 18, 19, 20, 21, 22, 23, 24, 25, 26, 27, 28, 29, 38, 39, 40, 41, 42, 43, 44, 45, 46, 47, 48, 49, 50, 51, 52, 53, 54, 55, 56, 57, 58, 59, 60, 61, 62, 63, 64, 65, 66, 67, 68, 69, 70, 71, 72, 73, 74, 75, 76, 77, 78, 79, 80, 81, 82, 83, 135, 136, 137, 138, 139, 140, 141, 142, 143, 144, 145, 146, 184, 185, 186, 187, 188, 189, 190, 191, 192, 193, 194, 195, 196, 197, 198, 199, 200, 201, 202, 203, 204, 205, 206, 207, 208, 226, 227, 228, 229, 230, 231, 232, 233, 234, 235, 236, 237, 214, 215, 216, 217, 218, 219, 220, 221, 222, 223, 224, 225] (by decide +kernel) (by decide +kernel)) (goodIn_sub (fun _ h => List.mem_cons_of_mem _ (List.mem_append_right _ h)) (by decide +kernel))
set_option maxRecDepth 20000 in
theorem gX11_canPerform_X11_whyNotMove : GoodIn wsX11_canPerform (wsV RX11 202 RX11 yX11_whyNotMove wsX11_whyNotMove) := goodIn_app (goodIn_of _ (by decide +kernel)) ggX11_canPerform_X11_whyNotMove
set_option maxRecDepth 20000 in
theorem ggX11_canPerform_X11_nextStep : GoodIn wsX11_canPerform wsX11_nextStep := goodIn_r _ [150, 14, 15, 1, 16, 17, 18, 19, 20, 21, 22, 23, 24, 25, 26, 27, 28, 29, 30, 31, 32, 33, 34, 35, 36, 6, 37, 38, 39, 40, 41, 42, 43, 44, 45, 46, 47, 48, 49, 50, 51, 52, 53, 54, 55, 56, 57, 58, 59, 60, 61, 62, 63, 64, 65, 66, 67, 68, 69, 70, 71, 72, 73, 74, 75, 76, 77, 78, 79, 80, 81, 82, 83, 151, 152, 153, 154, 155, 156, 157, 158, 159, 160, 161, 162, 139, 140, 141, 142, 143, 144, 145, 146, 184, 185, 186, 187, 188, 189, 190, 191, 192, 193, 194, 195, 196, 197, 198, 199, 200, 201, 214, 215, 216, 217, 218, 219, 220, 221, 222, 223, 224, 225, 226, 227, 228, 229, 230, 231, 232, 233, 234, 235, 236, 237, 202, 203, 204, 205, 206, 207, 208] (by decide +kernel) (by decide +kernel)
set_option maxRecDepth 20000 in
theorem gX11_canPerform_X11_nextStep : GoodIn wsX11_canPerform (wsV RX11 206 RX11 yX11_nextStep wsX11_nextStep) := goodIn_app (goodIn_of _ (by decide +kernel)) ggX11_canPerform_X11_nextStep
set_option maxRecDepth 20000 in
theorem ggX11_canPerform_X11_isStepCount : GoodIn wsX11_canPerform wsX11_isStepCount := goodIn_r _ [166] (by decide +kernel) (by decide +kernel)
set_option maxRecDepth 20000 in
theorem gX11_canPerform_X11_isStepCount : GoodIn wsX11_canPerform (wsV RX11 209 RX11 yX11_isStepCount wsX11_isStepCount) := goodIn_app (goodIn_of _ (by decide +kernel)) ggX11_canPerform_X11_isStepCount
set_option maxRecDepth 20000 in
theorem ggX11_canPerform_X11_hasFewGroups : GoodIn wsX11_canPerform wsX11_hasFewGroups := goodIn_r _ [170, 1, 115, 30, 31, 32, 33, 34, 35, 36, 6, 37, 184, 185, 186, 187, 188, 189, 190, 191, 192, 193, 194, 195, 196, 197, 198, 199, 200, 201, 202, 203, 204, 205, 206, 207, 208] (by decide +kernel) (by decide +kernel)
set_option maxRecDepth 20000 in
theorem gX11_canPerform_X11_hasFewGroups : GoodIn wsX11_canPerform (wsV RX11 212 RX11 yX11_hasFewGroups wsX11_hasFewGroups) := goodIn_app (goodIn_of _ (by decide +kernel)) ggX11_canPerform_X11_hasFewGroups
set_option maxRecDepth 20000 in
theorem ggX11_canPerform_X11_hasVertex : GoodIn wsX11_canPerform wsX11_hasVertex := goodIn_r _ [174, 15, 175, 184, 185, 186, 187, 188, 189, 190, 191, 192, 193, 194, 195, 196, 197, 198, 199, 200, 201, 226, 227, 228, 229, 230, 231, 232, 233, 234, 235, 236, 237] (by decide +kernel) (by decide +kernel)
set_option maxRecDepth 20000 in
theorem gX11_canPerform_X11_hasVertex : GoodIn wsX11_canPerform (wsV RX11 216 RX11 yX11_hasVertex wsX11_hasVertex) := goodIn_app (goodIn_of _ (by decide +kernel)) ggX11_canPerform_X11_hasVertex
set_option maxRecDepth 20000 in
theorem ggX11_canPerform_X11_canTakeApart : GoodIn wsX11_canPerform wsX11_canTakeApart := goodIn_r _ [179, 15, 120, 1, 2, 184, 185, 186, 187, 188, 189, 190, 191, 192, 193, 194, 195, 196, 197, 198, 199, 200, 201, 226, 227, 228, 229, 230, 231, 232, 233, 234, 235, 236, 237, 202, 203, 204, 205, 206, 207, 208] (by decide +kernel) (by decide +kernel)
set_option maxRecDepth 20000 in
theorem gX11_canPerform_X11_canTakeApart : GoodIn wsX11_canPerform (wsV RX11 219 RX11 yX11_canTakeApart wsX11_canTakeApart) := goodIn_app (goodIn_of _ (by decide +kernel)) ggX11_canPerform_X11_canTakeApart
set_option maxRecDepth 20000 in
theorem ggX11_canPerform_X11_isAllowance : GoodIn wsX11_canPerform wsX11_isAllowance := goodIn_r _ [183] (by decide +kernel) (by decide +kernel)
set_option maxRecDepth 20000 in
theorem gX11_canPerform_X11_isAllowance : GoodIn wsX11_canPerform (wsV RX11 222 RX11 yX11_isAllowance wsX11_isAllowance) := goodIn_app (goodIn_of _ (by decide +kernel)) ggX11_canPerform_X11_isAllowance
theorem dX11_canPerform_0 : decode cX11_canPerform 0 = .ok (.iload_n 1, 1) := by decide +kernel
theorem dX11_canPerform_1 : decode cX11_canPerform 1 = .ok (.tableswitch 172 0 7 #[47, 60, 76, 107, 121, 127, 132, 166], 47) := by decide +kernel
theorem dX11_canPerform_48 : decode cX11_canPerform 48 = .ok (.aload_n 0, 1) := by decide +kernel
theorem dX11_canPerform_49 : decode cX11_canPerform 49 = .ok (.invokevirtual 189, 3) := by decide +kernel
theorem dX11_canPerform_52 : decode cX11_canPerform 52 = .ok (.ifCond .ne 7, 3) := by decide +kernel
theorem dX11_canPerform_55 : decode cX11_canPerform 55 = .ok (.iconst 1, 1) := by decide +kernel
theorem dX11_canPerform_56 : decode cX11_canPerform 56 = .ok (.goto 4, 3) := by decide +kernel
theorem dX11_canPerform_59 : decode cX11_canPerform 59 = .ok (.iconst 0, 1) := by decide +kernel
theorem dX11_canPerform_60 : decode cX11_canPerform 60 = .ok (.ireturn, 1) := by decide +kernel
theorem dX11_canPerform_61 : decode cX11_canPerform 61 = .ok (.aload_n 0, 1) := by decide +kernel
theorem dX11_canPerform_62 : decode cX11_canPerform 62 = .ok (.getfield 53, 3) := by decide +kernel
theorem dX11_canPerform_65 : decode cX11_canPerform 65 = .ok (.getfield 192, 3) := by decide +kernel
theorem dX11_canPerform_68 : decode cX11_canPerform 68 = .ok (.ifCond .le 7, 3) := by decide +kernel
theorem dX11_canPerform_71 : decode cX11_canPerform 71 = .ok (.iconst 1, 1) := by decide +kernel
theorem dX11_canPerform_72 : decode cX11_canPerform 72 = .ok (.goto 4, 3) := by decide +kernel
theorem dX11_canPerform_75 : decode cX11_canPerform 75 = .ok (.iconst 0, 1) := by decide +kernel
theorem dX11_canPerform_76 : decode cX11_canPerform 76 = .ok (.ireturn, 1) := by decide +kernel
theorem dX11_canPerform_77 : decode cX11_canPerform 77 = .ok (.aload_n 0, 1) := by decide +kernel
theorem dX11_canPerform_78 : decode cX11_canPerform 78 = .ok (.iload_n 2, 1) := by decide +kernel
theorem dX11_canPerform_79 : decode cX11_canPerform 79 = .ok (.invokevirtual 195, 3) := by decide +kernel
theorem dX11_canPerform_82 : decode cX11_canPerform 82 = .ok (.ifCond .eq 24, 3) := by decide +kernel
theorem dX11_canPerform_85 : decode cX11_canPerform 85 = .ok (.aload_n 0, 1) := by decide +kernel
theorem dX11_canPerform_86 : decode cX11_canPerform 86 = .ok (.iload_n 3, 1) := by decide +kernel
theorem dX11_canPerform_87 : decode cX11_canPerform 87 = .ok (.invokevirtual 199, 3) := by decide +kernel
theorem dX11_canPerform_90 : decode cX11_canPerform 90 = .ok (.ifCond .eq 16, 3) := by decide +kernel
theorem dX11_canPerform_93 : decode cX11_canPerform 93 = .ok (.aload_n 0, 1) := by decide +kernel
theorem dX11_canPerform_94 : decode cX11_canPerform 94 = .ok (.iload_n 2, 1) := by decide +kernel
theorem dX11_canPerform_95 : decode cX11_canPerform 95 = .ok (.iload_n 3, 1) := by decide +kernel
theorem dX11_canPerform_96 : decode cX11_canPerform 96 = .ok (.invokevirtual 202, 3) := by decide +kernel
theorem dX11_canPerform_99 : decode cX11_canPerform 99 = .ok (.ifCond .ne 7, 3) := by decide +kernel
theorem dX11_canPerform_102 : decode cX11_canPerform 102 = .ok (.iconst 1, 1) := by decide +kernel
theorem dX11_canPerform_103 : decode cX11_canPerform 103 = .ok (.goto 4, 3) := by decide +kernel
theorem dX11_canPerform_106 : decode cX11_canPerform 106 = .ok (.iconst 0, 1) := by decide +kernel
theorem dX11_canPerform_107 : decode cX11_canPerform 107 = .ok (.ireturn, 1) := by decide +kernel
theorem dX11_canPerform_108 : decode cX11_canPerform 108 = .ok (.aload_n 0, 1) := by decide +kernel
theorem dX11_canPerform_109 : decode cX11_canPerform 109 = .ok (.invokevirtual 206, 3) := by decide +kernel
theorem dX11_canPerform_112 : decode cX11_canPerform 112 = .ok (.iconst (-1), 1) := by decide +kernel
theorem dX11_canPerform_113 : decode cX11_canPerform 113 = .ok (.if_icmp .eq 7, 3) := by decide +kernel
theorem dX11_canPerform_116 : decode cX11_canPerform 116 = .ok (.iconst 1, 1) := by decide +kernel
theorem dX11_canPerform_117 : decode cX11_canPerform 117 = .ok (.goto 4, 3) := by decide +kernel
theorem dX11_canPerform_120 : decode cX11_canPerform 120 = .ok (.iconst 0, 1) := by decide +kernel
theorem dX11_canPerform_121 : decode cX11_canPerform 121 = .ok (.ireturn, 1) := by decide +kernel
theorem dX11_canPerform_122 : decode cX11_canPerform 122 = .ok (.aload_n 0, 1) := by decide +kernel
theorem dX11_canPerform_123 : decode cX11_canPerform 123 = .ok (.iload_n 2, 1) := by decide +kernel
theorem dX11_canPerform_124 : decode cX11_canPerform 124 = .ok (.invokevirtual 209, 3) := by decide +kernel
theorem dX11_canPerform_127 : decode cX11_canPerform 127 = .ok (.ireturn, 1) := by decide +kernel
theorem dX11_canPerform_128 : decode cX11_canPerform 128 = .ok (.aload_n 0, 1) := by decide +kernel
theorem dX11_canPerform_129 : decode cX11_canPerform 129 = .ok (.invokevirtual 212, 3) := by decide +kernel
theorem dX11_canPerform_132 : decode cX11_canPerform 132 = .ok (.ireturn, 1) := by decide +kernel
theorem dX11_canPerform_133 : decode cX11_canPerform 133 = .ok (.aload_n 0, 1) := by decide +kernel
theorem dX11_canPerform_134 : decode cX11_canPerform 134 = .ok (.iload_n 2, 1) := by decide +kernel
theorem dX11_canPerform_135 : decode cX11_canPerform 135 = .ok (.invokevirtual 216, 3) := by decide +kernel
theorem dX11_canPerform_138 : decode cX11_canPerform 138 = .ok (.ifCond .eq 27, 3) := by decide +kernel
theorem dX11_canPerform_141 : decode cX11_canPerform 141 = .ok (.aload_n 0, 1) := by decide +kernel
theorem dX11_canPerform_142 : decode cX11_canPerform 142 = .ok (.iload_n 3, 1) := by decide +kernel
theorem dX11_canPerform_143 : decode cX11_canPerform 143 = .ok (.invokevirtual 216, 3) := by decide +kernel
theorem dX11_canPerform_146 : decode cX11_canPerform 146 = .ok (.ifCond .eq 19, 3) := by decide +kernel
theorem dX11_canPerform_149 : decode cX11_canPerform 149 = .ok (.iload_n 2, 1) := by decide +kernel
theorem dX11_canPerform_150 : decode cX11_canPerform 150 = .ok (.iload_n 3, 1) := by decide +kernel
theorem dX11_canPerform_151 : decode cX11_canPerform 151 = .ok (.if_icmp .eq 14, 3) := by decide +kernel
theorem dX11_canPerform_154 : decode cX11_canPerform 154 = .ok (.aload_n 0, 1) := by decide +kernel
theorem dX11_canPerform_155 : decode cX11_canPerform 155 = .ok (.invokevirtual 219, 3) := by decide +kernel
theorem dX11_canPerform_158 : decode cX11_canPerform 158 = .ok (.ifCond .eq 7, 3) := by decide +kernel
theorem dX11_canPerform_161 : decode cX11_canPerform 161 = .ok (.iconst 1, 1) := by decide +kernel
theorem dX11_canPerform_162 : decode cX11_canPerform 162 = .ok (.goto 4, 3) := by decide +kernel
theorem dX11_canPerform_165 : decode cX11_canPerform 165 = .ok (.iconst 0, 1) := by decide +kernel
theorem dX11_canPerform_166 : decode cX11_canPerform 166 = .ok (.ireturn, 1) := by decide +kernel
theorem dX11_canPerform_167 : decode cX11_canPerform 167 = .ok (.aload_n 0, 1) := by decide +kernel
theorem dX11_canPerform_168 : decode cX11_canPerform 168 = .ok (.iload_n 2, 1) := by decide +kernel
theorem dX11_canPerform_169 : decode cX11_canPerform 169 = .ok (.invokevirtual 222, 3) := by decide +kernel
theorem dX11_canPerform_172 : decode cX11_canPerform 172 = .ok (.ireturn, 1) := by decide +kernel
theorem dX11_canPerform_173 : decode cX11_canPerform 173 = .ok (.iconst 0, 1) := by decide +kernel
theorem dX11_canPerform_174 : decode cX11_canPerform 174 = .ok (.ireturn, 1) := by decide +kernel
set_option maxRecDepth 20000 in
theorem ggX11_perform_X11_mergeGroups : GoodIn wsX11_perform wsX11_mergeGroups := goodIn_r _ [8, 9, 10, 1, 11, 12, 13, 14, 15, 7, 16, 17, 18, 19, 20, 21, 22, 23, 24, 25, 26, 27, 28, 29, 30, 31, 32, 33, 34, 35, 36, 37, 38, 39, 40, 41, 42, 43, 44, 45, 46, 47, 48, 49, 50, 51, 52, 53, 54, 55, 56, 57, 58, 59, 60, 61, 62, 63, 64, 65, 66, 67, 68, 69, 70, 71, 72, 73, 74, 75, 76, 77, 78, 79, 80, 81, 82, 83, 84, 85, 86, 87, 88, 89, 90, 91, 92, 93, 94, 95, 96, 97, 98, 99, 100, 101, 102, 103, 104, 105, 106, 107, 108, 109, 110, 111, 112, 113, 114, 115, 116, 117, 118, 119, 120, 121, 122, 123, 124, 125, 275, 276, 277, 278, 279, 280, 281, 282, 283, 284, 285, 286, 287, 288, 289, 290, 291, 292, 300, 301, 302, 303, 304, 305, 306, 307, 308, 309, 310, 311, 312, 313, 314, 315, 316, 317, 318, 319, 320, 321, 322, 323, 293, 294, 295, 296, 297, 298, 299, 324, 325, 326, 327, 328] (by decide +kernel) (by decide +kernel)
set_option maxRecDepth 20000 in
theorem gX11_perform_X11_mergeGroups : GoodIn wsX11_perform (wsV RX11 225 RX11 yX11_mergeGroups wsX11_mergeGroups) := goodIn_app (goodIn_of _ (by decide +kernel)) ggX11_perform_X11_mergeGroups
set_option maxRecDepth 20000 in
theorem ggX11_perform_X11_takeTo : GoodIn wsX11_perform wsX11_takeTo := goodIn_r _ [129, 10, 11, 1, 17, 18, 19, 20, 21, 22, 23, 24, 25, 26, 27, 28, 29, 30, 31, 32, 33, 34, 35, 36, 37, 7, 38, 39, 40, 41, 42, 43, 44, 45, 46, 47, 48, 49, 50, 51, 52, 53, 54, 55, 56, 57, 58, 59, 60, 61, 62, 63, 64, 65, 66, 67, 68, 69, 70, 71, 72, 73, 74, 75, 76, 77, 78, 79, 80, 81, 82, 83, 84, 130, 131, 132, 133, 134, 135, 136, 137, 138, 139, 140, 141, 142, 143, 144, 145, 146, 147, 148, 149, 150, 151, 152, 153, 154, 155, 156, 157, 158, 159, 160, 161, 162, 275, 276, 277, 278, 279, 280, 281, 282, 283, 284, 285, 286, 287, 288, 289, 290, 291, 292, 312, 313, 314, 315, 316, 317, 318, 319, 320, 321, 322, 323, 300, 301, 302, 303, 304, 305, 306, 307, 308, 309, 310, 311, 293, 294, 295, 296, 297, 298, 299] (by decide +kernel) (by decide +kernel)
set_option maxRecDepth 20000 in
theorem gX11_perform_X11_takeTo : GoodIn wsX11_perform (wsV RX11 228 RX11 yX11_takeTo wsX11_takeTo) := goodIn_app (goodIn_of _ (by decide +kernel)) ggX11_perform_X11_takeTo
set_option maxRecDepth 20000 in
theorem ggX11_perform_X11_makeSteps : GoodIn wsX11_perform wsX11_makeSteps := goodIn_r _ [166, 10, 11, 17, 18, 19, 20, 21, 22, 23, 24, 25, 26, 27, 28, 29, 30, 31, 32, 33, 34, 35, 36, 37, 7, 38, 39, 40, 41, 42, 43, 44, 45, 46, 47, 48, 49, 50, 51, 52, 53, 54, 55, 56, 57, 58, 59, 60, 61, 62, 63, 64, 65, 66, 67, 68, 69, 70, 71, 72, 73, 74, 75, 76, 77, 78, 79, 80, 81, 82, 83, 84, 167, 168, 169, 170, 171, 172, 173, 174, 175, 139, 140, 141, 176, 177, 178, 179, 180, 181, 182, 183, 130, 131, 132, 133, 134, 135, 136, 137, 138, 142, 143, 144, 145, 146, 147, 148, 149, 150, 151, 152, 153, 154, 155, 156, 157, 158, 159, 160, 161, 162, 275, 276, 277, 278, 279, 280, 281, 282, 283, 284, 285, 286, 287, 288, 289, 290, 291, 292, 312, 313, 314, 315, 316, 317, 318, 319, 320, 321, 322, 323, 300, 301, 302, 303, 304, 305, 306, 307, 308, 309, 310, 311, 293, 294, 295, 296, 297, 298, 299] (by decide +kernel) (by decide +kernel)
set_option maxRecDepth 20000 in
theorem gX11_perform_X11_makeSteps : GoodIn wsX11_perform (wsV RX11 232 RX11 yX11_makeSteps wsX11_makeSteps) := goodIn_app (goodIn_of _ (by decide +kernel)) ggX11_perform_X11_makeSteps
set_option maxRecDepth 20000 in
theorem ggX11_perform_X11_searchBest : GoodIn wsX11_perform wsX11_searchBest := goodIn_r _ [187, 10, 11, 1, 9, 188, 17, 18, 19, 20, 21, 22, 23, 24, 25, 26, 27, 28, 29, 30, 31, 32, 33, 34, 35, 36, 37, 7, 38, 39, 40, 41, 42, 43, 44, 45, 46, 47, 48, 49, 50, 51, 52, 53, 54, 55, 56, 57, 58, 59, 60, 61, 62, 63, 64, 65, 66, 67, 68, 69, 70, 71, 72, 73, 74, 75, 76, 77, 78, 79, 80, 81, 82, 83, 84, 85, 86, 87, 88, 89, 90, 91, 92, 93, 94, 95, 96, 97, 189, 190, 191, 192, 193, 194, 195, 196, 197, 198, 199, 200, 201, 202, 203, 204, 205, 206, 207, 208, 209, 210, 211, 212, 213, 214, 215, 216, 153, 154, 155, 217, 148, 149, 150, 218, 219, 220, 221, 222, 223, 224, 225, 226, 227, 228, 229, 275, 276, 277, 278, 279, 280, 281, 282, 283, 284, 285, 286, 287, 288, 289, 290, 291, 292, 312, 313, 314, 315, 316, 317, 318, 319, 320, 321, 322, 323, 300, 301, 302, 303, 304, 305, 306, 307, 308, 309, 310, 311, 293, 294, 295, 296, 297, 298, 299, 324, 325, 326, 327, 328, 329, 330, 331, 332, 333] (by decide +kernel) (by decide +kernel)
set_option maxRecDepth 20000 in
theorem gX11_perform_X11_searchBest : GoodIn wsX11_perform (wsV RX11 236 RX11 yX11_searchBest wsX11_searchBest) := goodIn_app (goodIn_of _ (by decide +kernel)) ggX11_perform_X11_searchBest
set_option maxRecDepth 20000 in
theorem ggX11_perform_X11_takeBest : GoodIn wsX11_perform wsX11_takeBest := goodIn_r _ [233, 1, 188, 234, 10, 134, 235, 31, 32, 33, 34, 35, 36, 37, 7, 38, 137, 126, 127, 128, 129, 11, 17, 18, 19, 20, 21, 22, 23, 24, 25, 26, 27, 28, 29, 30, 39, 40, 41, 42, 43, 44, 45, 46, 47, 48, 49, 50, 51, 52, 53, 54, 55, 56, 57, 58, 59, 60, 61, 62, 63, 64, 65, 66, 67, 68, 69, 70, 71, 72, 73, 74, 75, 76, 77, 78, 79, 80, 81, 82, 83, 84, 130, 131, 132, 133, 135, 136, 138, 139, 140, 141, 142, 143, 144, 145, 146, 147, 148, 149, 150, 151, 152, 153, 154, 155, 156, 157, 158, 159, 160, 161, 162, 275, 276, 277, 278, 279, 280, 281, 282, 283, 284, 285, 286, 287, 288, 289, 290, 291, 292, 329, 330, 331, 332, 333, 312, 313, 314, 315, 316, 317, 318, 319, 320, 321, 322, 323, 293, 294, 295, 296, 297, 298, 299, 300, 301, 302, 303, 304, 305, 306, 307, 308, 309, 310, 311] (by decide +kernel) (by decide +kernel)
set_option maxRecDepth 20000 in
theorem gX11_perform_X11_takeBest : GoodIn wsX11_perform (wsV RX11 239 RX11 yX11_takeBest wsX11_takeBest) := goodIn_app (goodIn_of _ (by decide +kernel)) ggX11_perform_X11_takeBest
set_option maxRecDepth 20000 in
theorem ggX11_perform_X11_takeApart : GoodIn wsX11_perform wsX11_takeApart := goodIn_r _ [239, 240, 11, 12, 241, 1, 242, 243, 244, 245, 246, 247, 248, 249, 250, 251, 252, 253, 254, 255, 256, 257, 258, 259, 260, 261, 60, 61, 62, 37, 7, 38, 67, 68, 262, 263, 264, 265, 266, 267, 268, 69, 70, 161, 162, 269, 270, 271, 272, 273, 153, 154, 155, 274, 137, 126, 127, 128, 129, 10, 17, 18, 19, 20, 21, 22, 23, 24, 25, 26, 27, 28, 29, 30, 31, 32, 33, 34, 35, 36, 39, 40, 41, 42, 43, 44, 45, 46, 47, 48, 49, 50, 51, 52, 53, 54, 55, 56, 57, 58, 59, 63, 64, 65, 66, 71, 72, 73, 74, 75, 76, 77, 78, 79, 80, 81, 82, 83, 84, 130, 131, 132, 133, 134, 135, 136, 138, 139, 140, 141, 142, 143, 144, 145, 146, 147, 148, 149, 150, 151, 152, 156, 157, 158, 159, 160, 275, 276, 277, 278, 279, 280, 281, 282, 283, 284, 285, 286, 287, 288, 289, 290, 291, 292, 300, 301, 302, 303, 304, 305, 306, 307, 308, 309, 310, 311, 334, 335, 336, 337, 338, 339, 293, 294, 295, 296, 297, 298, 299, 312, 313, 314, 315, 316, 317, 318, 319, 320, 321, 322, 323] (by decide +kernel) (by decide +kernel)
set_option maxRecDepth 20000 in
theorem gX11_perform_X11_takeApart : GoodIn wsX11_perform (wsV RX11 242 RX11 yX11_takeApart wsX11_takeApart) := goodIn_app (goodIn_of _ (by decide +kernel)) ggX11_perform_X11_takeApart
theorem dX11_perform_0 : decode cX11_perform 0 = .ok (.iload_n 1, 1) := by decide +kernel
theorem dX11_perform_1 : decode cX11_perform 1 = .ok (.tableswitch 138 0 7 #[47, 54, 70, 79, 92, 105, 117, 127], 47) := by decide +kernel
theorem dX11_perform_48 : decode cX11_perform 48 = .ok (.aload_n 0, 1) := by decide +kernel
theorem dX11_perform_49 : decode cX11_perform 49 = .ok (.invokevirtual 225, 3) := by decide +kernel
theorem dX11_perform_52 : decode cX11_perform 52 = .ok (.goto 87, 3) := by decide +kernel
theorem dX11_perform_55 : decode cX11_perform 55 = .ok (.aload_n 0, 1) := by decide +kernel
theorem dX11_perform_56 : decode cX11_perform 56 = .ok (.getfield 53, 3) := by decide +kernel
theorem dX11_perform_59 : decode cX11_perform 59 = .ok (.dup, 1) := by decide +kernel
theorem dX11_perform_60 : decode cX11_perform 60 = .ok (.getfield 192, 3) := by decide +kernel
theorem dX11_perform_63 : decode cX11_perform 63 = .ok (.iconst 1, 1) := by decide +kernel
theorem dX11_perform_64 : decode cX11_perform 64 = .ok (.isub, 1) := by decide +kernel
theorem dX11_perform_65 : decode cX11_perform 65 = .ok (.putfield 192, 3) := by decide +kernel
theorem dX11_perform_68 : decode cX11_perform 68 = .ok (.goto 71, 3) := by decide +kernel
theorem dX11_perform_71 : decode cX11_perform 71 = .ok (.aload_n 0, 1) := by decide +kernel
theorem dX11_perform_72 : decode cX11_perform 72 = .ok (.iload_n 2, 1) := by decide +kernel
theorem dX11_perform_73 : decode cX11_perform 73 = .ok (.iload_n 3, 1) := by decide +kernel
theorem dX11_perform_74 : decode cX11_perform 74 = .ok (.invokevirtual 228, 3) := by decide +kernel
theorem dX11_perform_77 : decode cX11_perform 77 = .ok (.goto 62, 3) := by decide +kernel
theorem dX11_perform_80 : decode cX11_perform 80 = .ok (.aload_n 0, 1) := by decide +kernel
theorem dX11_perform_81 : decode cX11_perform 81 = .ok (.aload_n 0, 1) := by decide +kernel
theorem dX11_perform_82 : decode cX11_perform 82 = .ok (.getfield 53, 3) := by decide +kernel
theorem dX11_perform_85 : decode cX11_perform 85 = .ok (.iconst 1, 1) := by decide +kernel
theorem dX11_perform_86 : decode cX11_perform 86 = .ok (.invokevirtual 232, 3) := by decide +kernel
theorem dX11_perform_89 : decode cX11_perform 89 = .ok (.pop, 1) := by decide +kernel
theorem dX11_perform_90 : decode cX11_perform 90 = .ok (.goto 49, 3) := by decide +kernel
theorem dX11_perform_93 : decode cX11_perform 93 = .ok (.aload_n 0, 1) := by decide +kernel
theorem dX11_perform_94 : decode cX11_perform 94 = .ok (.aload_n 0, 1) := by decide +kernel
theorem dX11_perform_95 : decode cX11_perform 95 = .ok (.getfield 53, 3) := by decide +kernel
theorem dX11_perform_98 : decode cX11_perform 98 = .ok (.iload_n 2, 1) := by decide +kernel
theorem dX11_perform_99 : decode cX11_perform 99 = .ok (.invokevirtual 232, 3) := by decide +kernel
theorem dX11_perform_102 : decode cX11_perform 102 = .ok (.pop, 1) := by decide +kernel
theorem dX11_perform_103 : decode cX11_perform 103 = .ok (.goto 36, 3) := by decide +kernel
theorem dX11_perform_106 : decode cX11_perform 106 = .ok (.aload_n 0, 1) := by decide +kernel
theorem dX11_perform_107 : decode cX11_perform 107 = .ok (.invokevirtual 236, 3) := by decide +kernel
theorem dX11_perform_110 : decode cX11_perform 110 = .ok (.aload_n 0, 1) := by decide +kernel
theorem dX11_perform_111 : decode cX11_perform 111 = .ok (.invokevirtual 239, 3) := by decide +kernel
theorem dX11_perform_114 : decode cX11_perform 114 = .ok (.pop, 1) := by decide +kernel
theorem dX11_perform_115 : decode cX11_perform 115 = .ok (.goto 24, 3) := by decide +kernel
theorem dX11_perform_118 : decode cX11_perform 118 = .ok (.aload_n 0, 1) := by decide +kernel
theorem dX11_perform_119 : decode cX11_perform 119 = .ok (.iload_n 2, 1) := by decide +kernel
theorem dX11_perform_120 : decode cX11_perform 120 = .ok (.iload_n 3, 1) := by decide +kernel
theorem dX11_perform_121 : decode cX11_perform 121 = .ok (.invokevirtual 242, 3) := by decide +kernel
theorem dX11_perform_124 : decode cX11_perform 124 = .ok (.pop, 1) := by decide +kernel
theorem dX11_perform_125 : decode cX11_perform 125 = .ok (.goto 14, 3) := by decide +kernel
theorem dX11_perform_128 : decode cX11_perform 128 = .ok (.aload_n 0, 1) := by decide +kernel
theorem dX11_perform_129 : decode cX11_perform 129 = .ok (.getfield 53, 3) := by decide +kernel
theorem dX11_perform_132 : decode cX11_perform 132 = .ok (.iload_n 2, 1) := by decide +kernel
theorem dX11_perform_133 : decode cX11_perform 133 = .ok (.putfield 245, 3) := by decide +kernel
theorem dX11_perform_136 : decode cX11_perform 136 = .ok (.goto 3, 3) := by decide +kernel
theorem dX11_perform_139 : decode cX11_perform 139 = .ok (.return_, 1) := by decide +kernel
theorem dX11_error_0 : decode cX11_error 0 = .ok (.iload_n 1, 1) := by decide +kernel
theorem dX11_error_1 : decode cX11_error 1 = .ok (.tableswitch 51 0 2 #[27, 35, 43], 27) := by decide +kernel
theorem dX11_error_28 : decode cX11_error 28 = .ok (.aload_n 0, 1) := by decide +kernel
theorem dX11_error_29 : decode cX11_error 29 = .ok (.getfield 12, 3) := by decide +kernel
theorem dX11_error_32 : decode cX11_error 32 = .ok (.getfield 248, 3) := by decide +kernel
theorem dX11_error_35 : decode cX11_error 35 = .ok (.ireturn, 1) := by decide +kernel
theorem dX11_error_36 : decode cX11_error 36 = .ok (.aload_n 0, 1) := by decide +kernel
theorem dX11_error_37 : decode cX11_error 37 = .ok (.getfield 12, 3) := by decide +kernel
theorem dX11_error_40 : decode cX11_error 40 = .ok (.getfield 251, 3) := by decide +kernel
theorem dX11_error_43 : decode cX11_error 43 = .ok (.ireturn, 1) := by decide +kernel
theorem dX11_error_44 : decode cX11_error 44 = .ok (.aload_n 0, 1) := by decide +kernel
theorem dX11_error_45 : decode cX11_error 45 = .ok (.getfield 12, 3) := by decide +kernel
theorem dX11_error_48 : decode cX11_error 48 = .ok (.getfield 254, 3) := by decide +kernel
theorem dX11_error_51 : decode cX11_error 51 = .ok (.ireturn, 1) := by decide +kernel
theorem dX11_error_52 : decode cX11_error 52 = .ok (.new 117, 3) := by decide +kernel
theorem dX11_error_55 : decode cX11_error 55 = .ok (.dup, 1) := by decide +kernel
theorem dX11_error_56 : decode cX11_error 56 = .ok (.ldc_w 257, 3) := by decide +kernel
theorem dX11_error_59 : decode cX11_error 59 = .ok (.invokespecial 121, 3) := by decide +kernel
theorem dX11_error_62 : decode cX11_error 62 = .ok (.athrow, 1) := by decide +kernel
set_option maxRecDepth 20000 in
theorem ggX11_setting_X2_limit : GoodIn wsX11_setting wsX2_limit := goodIn_r _ [19, 20, 21, 22, 78, 79, 80, 81, 82, 83, 84, 85, 86, 87, 88, 89] (by decide +kernel) (by decide +kernel)
set_option maxRecDepth 20000 in
theorem gX11_setting_X2_limit : GoodIn wsX11_setting (wsV RX11 268 RX2 yX2_limit wsX2_limit) := goodIn_app (goodIn_of _ (by decide +kernel)) ggX11_setting_X2_limit
set_option maxRecDepth 20000 in
theorem ggX11_setting_X8_groupCount : GoodIn wsX11_setting wsX8_groupCount := goodIn_r _ [27, 28, 29, 30, 31, 32, 90, 91, 92, 93, 94, 95, 96] (by decide +kernel) (by decide +kernel)
set_option maxRecDepth 20000 in
theorem gX11_setting_X8_groupCount : GoodIn wsX11_setting (wsV RX11 277 RX8 yX8_groupCount wsX8_groupCount) := goodIn_app (goodIn_of _ (by decide +kernel)) ggX11_setting_X8_groupCount
set_option maxRecDepth 20000 in
theorem ggX11_setting_X2_largestPiece : GoodIn wsX11_setting wsX2_largestPiece := goodIn_r _ [36, 37, 38, 39, 40, 41, 42, 43, 44, 18, 45, 46, 47, 48, 49, 50, 51, 52, 30, 31, 32, 53, 54, 55, 56, 57, 58, 59, 78, 79, 80, 81, 82, 83, 84, 85, 86, 87, 88, 89] (by decide +kernel) (by decide +kernel)
set_option maxRecDepth 20000 in
theorem gX11_setting_X2_largestPiece : GoodIn wsX11_setting (wsV RX11 283 RX2 yX2_largestPiece wsX2_largestPiece) := goodIn_app (goodIn_of _ (by decide +kernel)) ggX11_setting_X2_largestPiece
theorem dX11_setting_0 : decode cX11_setting 0 = .ok (.iload_n 1, 1) := by decide +kernel
theorem dX11_setting_1 : decode cX11_setting 1 = .ok (.tableswitch 159 0 11 #[63, 71, 79, 87, 95, 103, 111, 119, 127, 135, 143, 151], 63) := by decide +kernel
theorem dX11_setting_64 : decode cX11_setting 64 = .ok (.aload_n 0, 1) := by decide +kernel
theorem dX11_setting_65 : decode cX11_setting 65 = .ok (.getfield 40, 3) := by decide +kernel
theorem dX11_setting_68 : decode cX11_setting 68 = .ok (.getfield 141, 3) := by decide +kernel
theorem dX11_setting_71 : decode cX11_setting 71 = .ok (.ireturn, 1) := by decide +kernel
theorem dX11_setting_72 : decode cX11_setting 72 = .ok (.aload_n 0, 1) := by decide +kernel
theorem dX11_setting_73 : decode cX11_setting 73 = .ok (.getfield 40, 3) := by decide +kernel
theorem dX11_setting_76 : decode cX11_setting 76 = .ok (.getfield 259, 3) := by decide +kernel
theorem dX11_setting_79 : decode cX11_setting 79 = .ok (.ireturn, 1) := by decide +kernel
theorem dX11_setting_80 : decode cX11_setting 80 = .ok (.aload_n 0, 1) := by decide +kernel
theorem dX11_setting_81 : decode cX11_setting 81 = .ok (.getfield 40, 3) := by decide +kernel
theorem dX11_setting_84 : decode cX11_setting 84 = .ok (.getfield 262, 3) := by decide +kernel
theorem dX11_setting_87 : decode cX11_setting 87 = .ok (.ireturn, 1) := by decide +kernel
theorem dX11_setting_88 : decode cX11_setting 88 = .ok (.aload_n 0, 1) := by decide +kernel
theorem dX11_setting_89 : decode cX11_setting 89 = .ok (.getfield 40, 3) := by decide +kernel
theorem dX11_setting_92 : decode cX11_setting 92 = .ok (.getfield 265, 3) := by decide +kernel
theorem dX11_setting_95 : decode cX11_setting 95 = .ok (.ireturn, 1) := by decide +kernel
theorem dX11_setting_96 : decode cX11_setting 96 = .ok (.aload_n 0, 1) := by decide +kernel
theorem dX11_setting_97 : decode cX11_setting 97 = .ok (.getfield 53, 3) := by decide +kernel
theorem dX11_setting_100 : decode cX11_setting 100 = .ok (.getfield 245, 3) := by decide +kernel
theorem dX11_setting_103 : decode cX11_setting 103 = .ok (.ireturn, 1) := by decide +kernel
theorem dX11_setting_104 : decode cX11_setting 104 = .ok (.aload_n 0, 1) := by decide +kernel
theorem dX11_setting_105 : decode cX11_setting 105 = .ok (.getfield 40, 3) := by decide +kernel
theorem dX11_setting_108 : decode cX11_setting 108 = .ok (.invokevirtual 268, 3) := by decide +kernel
theorem dX11_setting_111 : decode cX11_setting 111 = .ok (.ireturn, 1) := by decide +kernel
theorem dX11_setting_112 : decode cX11_setting 112 = .ok (.aload_n 0, 1) := by decide +kernel
theorem dX11_setting_113 : decode cX11_setting 113 = .ok (.getfield 40, 3) := by decide +kernel
theorem dX11_setting_116 : decode cX11_setting 116 = .ok (.getfield 271, 3) := by decide +kernel
theorem dX11_setting_119 : decode cX11_setting 119 = .ok (.ireturn, 1) := by decide +kernel
theorem dX11_setting_120 : decode cX11_setting 120 = .ok (.aload_n 0, 1) := by decide +kernel
theorem dX11_setting_121 : decode cX11_setting 121 = .ok (.getfield 40, 3) := by decide +kernel
theorem dX11_setting_124 : decode cX11_setting 124 = .ok (.getfield 274, 3) := by decide +kernel
theorem dX11_setting_127 : decode cX11_setting 127 = .ok (.ireturn, 1) := by decide +kernel
theorem dX11_setting_128 : decode cX11_setting 128 = .ok (.aload_n 0, 1) := by decide +kernel
theorem dX11_setting_129 : decode cX11_setting 129 = .ok (.getfield 53, 3) := by decide +kernel
theorem dX11_setting_132 : decode cX11_setting 132 = .ok (.getfield 192, 3) := by decide +kernel
theorem dX11_setting_135 : decode cX11_setting 135 = .ok (.ireturn, 1) := by decide +kernel
theorem dX11_setting_136 : decode cX11_setting 136 = .ok (.aload_n 0, 1) := by decide +kernel
theorem dX11_setting_137 : decode cX11_setting 137 = .ok (.getfield 53, 3) := by decide +kernel
theorem dX11_setting_140 : decode cX11_setting 140 = .ok (.invokevirtual 277, 3) := by decide +kernel
theorem dX11_setting_143 : decode cX11_setting 143 = .ok (.ireturn, 1) := by decide +kernel
theorem dX11_setting_144 : decode cX11_setting 144 = .ok (.aload_n 0, 1) := by decide +kernel
theorem dX11_setting_145 : decode cX11_setting 145 = .ok (.getfield 66, 3) := by decide +kernel
theorem dX11_setting_148 : decode cX11_setting 148 = .ok (.getfield 280, 3) := by decide +kernel
theorem dX11_setting_151 : decode cX11_setting 151 = .ok (.ireturn, 1) := by decide +kernel
theorem dX11_setting_152 : decode cX11_setting 152 = .ok (.aload_n 0, 1) := by decide +kernel
theorem dX11_setting_153 : decode cX11_setting 153 = .ok (.getfield 40, 3) := by decide +kernel
theorem dX11_setting_156 : decode cX11_setting 156 = .ok (.invokevirtual 283, 3) := by decide +kernel
theorem dX11_setting_159 : decode cX11_setting 159 = .ok (.ireturn, 1) := by decide +kernel
theorem dX11_setting_160 : decode cX11_setting 160 = .ok (.new 117, 3) := by decide +kernel
theorem dX11_setting_163 : decode cX11_setting 163 = .ok (.dup, 1) := by decide +kernel
theorem dX11_setting_164 : decode cX11_setting 164 = .ok (.ldc_w 286, 3) := by decide +kernel
theorem dX11_setting_167 : decode cX11_setting 167 = .ok (.invokespecial 121, 3) := by decide +kernel
theorem dX11_setting_170 : decode cX11_setting 170 = .ok (.athrow, 1) := by decide +kernel
theorem dX11_hasVertex_0 : decode cX11_hasVertex 0 = .ok (.iload_n 1, 1) := by decide +kernel
theorem dX11_hasVertex_1 : decode cX11_hasVertex 1 = .ok (.ifCond .lt 18, 3) := by decide +kernel
theorem dX11_hasVertex_4 : decode cX11_hasVertex 4 = .ok (.iload_n 1, 1) := by decide +kernel
theorem dX11_hasVertex_5 : decode cX11_hasVertex 5 = .ok (.aload_n 0, 1) := by decide +kernel
theorem dX11_hasVertex_6 : decode cX11_hasVertex 6 = .ok (.getfield 40, 3) := by decide +kernel
theorem dX11_hasVertex_9 : decode cX11_hasVertex 9 = .ok (.getfield 141, 3) := by decide +kernel
theorem dX11_hasVertex_12 : decode cX11_hasVertex 12 = .ok (.if_icmp .ge 7, 3) := by decide +kernel
theorem dX11_hasVertex_15 : decode cX11_hasVertex 15 = .ok (.iconst 1, 1) := by decide +kernel
theorem dX11_hasVertex_16 : decode cX11_hasVertex 16 = .ok (.goto 4, 3) := by decide +kernel
theorem dX11_hasVertex_19 : decode cX11_hasVertex 19 = .ok (.iconst 0, 1) := by decide +kernel
theorem dX11_hasVertex_20 : decode cX11_hasVertex 20 = .ok (.ireturn, 1) := by decide +kernel
theorem dX11_hasPart_0 : decode cX11_hasPart 0 = .ok (.iload_n 1, 1) := by decide +kernel
theorem dX11_hasPart_1 : decode cX11_hasPart 1 = .ok (.ifCond .lt 18, 3) := by decide +kernel
theorem dX11_hasPart_4 : decode cX11_hasPart 4 = .ok (.iload_n 1, 1) := by decide +kernel
theorem dX11_hasPart_5 : decode cX11_hasPart 5 = .ok (.aload_n 0, 1) := by decide +kernel
theorem dX11_hasPart_6 : decode cX11_hasPart 6 = .ok (.getfield 40, 3) := by decide +kernel
theorem dX11_hasPart_9 : decode cX11_hasPart 9 = .ok (.getfield 262, 3) := by decide +kernel
theorem dX11_hasPart_12 : decode cX11_hasPart 12 = .ok (.if_icmp .ge 7, 3) := by decide +kernel
theorem dX11_hasPart_15 : decode cX11_hasPart 15 = .ok (.iconst 1, 1) := by decide +kernel
theorem dX11_hasPart_16 : decode cX11_hasPart 16 = .ok (.goto 4, 3) := by decide +kernel
theorem dX11_hasPart_19 : decode cX11_hasPart 19 = .ok (.iconst 0, 1) := by decide +kernel
theorem dX11_hasPart_20 : decode cX11_hasPart 20 = .ok (.ireturn, 1) := by decide +kernel
set_option maxRecDepth 20000 in
theorem ggX11_hasGroup_X8_groupCount : GoodIn wsX11_hasGroup wsX8_groupCount := goodIn_r _ [6, 7, 8, 9, 10, 11, 30, 31, 32, 33, 34, 35, 36] (by decide +kernel) (by decide +kernel)
set_option maxRecDepth 20000 in
theorem gX11_hasGroup_X8_groupCount : GoodIn wsX11_hasGroup (wsV RX11 277 RX8 yX8_groupCount wsX8_groupCount) := goodIn_app (goodIn_of _ (by decide +kernel)) ggX11_hasGroup_X8_groupCount
theorem dX11_hasGroup_0 : decode cX11_hasGroup 0 = .ok (.iload_n 1, 1) := by decide +kernel
theorem dX11_hasGroup_1 : decode cX11_hasGroup 1 = .ok (.ifCond .lt 18, 3) := by decide +kernel
theorem dX11_hasGroup_4 : decode cX11_hasGroup 4 = .ok (.iload_n 1, 1) := by decide +kernel
theorem dX11_hasGroup_5 : decode cX11_hasGroup 5 = .ok (.aload_n 0, 1) := by decide +kernel
theorem dX11_hasGroup_6 : decode cX11_hasGroup 6 = .ok (.getfield 53, 3) := by decide +kernel
theorem dX11_hasGroup_9 : decode cX11_hasGroup 9 = .ok (.invokevirtual 277, 3) := by decide +kernel
theorem dX11_hasGroup_12 : decode cX11_hasGroup 12 = .ok (.if_icmp .ge 7, 3) := by decide +kernel
theorem dX11_hasGroup_15 : decode cX11_hasGroup 15 = .ok (.iconst 1, 1) := by decide +kernel
theorem dX11_hasGroup_16 : decode cX11_hasGroup 16 = .ok (.goto 4, 3) := by decide +kernel
theorem dX11_hasGroup_19 : decode cX11_hasGroup 19 = .ok (.iconst 0, 1) := by decide +kernel
theorem dX11_hasGroup_20 : decode cX11_hasGroup 20 = .ok (.ireturn, 1) := by decide +kernel
set_option maxRecDepth 20000 in
theorem ggX11_requireVertex_X11_hasVertex : GoodIn wsX11_requireVertex wsX11_hasVertex := goodIn_r _ [7, 8, 9, 10, 11, 12, 13, 14, 15, 16, 17, 18, 19, 20, 21, 22, 23, 24, 25, 26, 27, 28, 29, 30, 31, 32, 33, 34, 35, 36, 37, 38, 39] (by decide +kernel) (by decide +kernel)
set_option maxRecDepth 20000 in
theorem gX11_requireVertex_X11_hasVertex : GoodIn wsX11_requireVertex (wsV RX11 216 RX11 yX11_hasVertex wsX11_hasVertex) := goodIn_app (goodIn_of _ (by decide +kernel)) ggX11_requireVertex_X11_hasVertex
theorem dX11_requireVertex_0 : decode cX11_requireVertex 0 = .ok (.aload_n 0, 1) := by decide +kernel
theorem dX11_requireVertex_1 : decode cX11_requireVertex 1 = .ok (.iload_n 1, 1) := by decide +kernel
theorem dX11_requireVertex_2 : decode cX11_requireVertex 2 = .ok (.invokevirtual 216, 3) := by decide +kernel
theorem dX11_requireVertex_5 : decode cX11_requireVertex 5 = .ok (.ifCond .ne 14, 3) := by decide +kernel
theorem dX11_requireVertex_8 : decode cX11_requireVertex 8 = .ok (.new 288, 3) := by decide +kernel
theorem dX11_requireVertex_11 : decode cX11_requireVertex 11 = .ok (.dup, 1) := by decide +kernel
theorem dX11_requireVertex_12 : decode cX11_requireVertex 12 = .ok (.ldc_w 290, 3) := by decide +kernel
theorem dX11_requireVertex_15 : decode cX11_requireVertex 15 = .ok (.invokespecial 292, 3) := by decide +kernel
theorem dX11_requireVertex_18 : decode cX11_requireVertex 18 = .ok (.athrow, 1) := by decide +kernel
theorem dX11_requireVertex_19 : decode cX11_requireVertex 19 = .ok (.return_, 1) := by decide +kernel
set_option maxRecDepth 20000 in
theorem ggX11_requirePart_X11_hasPart : GoodIn wsX11_requirePart wsX11_hasPart := goodIn_r _ [7, 8, 9, 10, 11, 12, 13, 14, 15, 16, 17, 18, 19, 20, 21, 22, 23, 24, 25, 26, 27, 28, 29, 30, 31, 32, 33, 34, 35, 36, 37, 38, 39] (by decide +kernel) (by decide +kernel)
set_option maxRecDepth 20000 in
theorem gX11_requirePart_X11_hasPart : GoodIn wsX11_requirePart (wsV RX11 199 RX11 yX11_hasPart wsX11_hasPart) := goodIn_app (goodIn_of _ (by decide +kernel)) ggX11_requirePart_X11_hasPart
theorem dX11_requirePart_0 : decode cX11_requirePart 0 = .ok (.aload_n 0, 1) := by decide +kernel
theorem dX11_requirePart_1 : decode cX11_requirePart 1 = .ok (.iload_n 1, 1) := by decide +kernel
theorem dX11_requirePart_2 : decode cX11_requirePart 2 = .ok (.invokevirtual 199, 3) := by decide +kernel
theorem dX11_requirePart_5 : decode cX11_requirePart 5 = .ok (.ifCond .ne 14, 3) := by decide +kernel
theorem dX11_requirePart_8 : decode cX11_requirePart 8 = .ok (.new 288, 3) := by decide +kernel
theorem dX11_requirePart_11 : decode cX11_requirePart 11 = .ok (.dup, 1) := by decide +kernel
theorem dX11_requirePart_12 : decode cX11_requirePart 12 = .ok (.ldc_w 293, 3) := by decide +kernel
theorem dX11_requirePart_15 : decode cX11_requirePart 15 = .ok (.invokespecial 292, 3) := by decide +kernel
theorem dX11_requirePart_18 : decode cX11_requirePart 18 = .ok (.athrow, 1) := by decide +kernel
theorem dX11_requirePart_19 : decode cX11_requirePart 19 = .ok (.return_, 1) := by decide +kernel
set_option maxRecDepth 20000 in
theorem ggX11_requireGroup_X11_hasGroup : GoodIn wsX11_requireGroup wsX11_hasGroup := goodIn_r _ [7, 8, 9, 10, 11, 12, 13, 14, 15, 16, 6, 17, 18, 19, 20, 21, 22, 23, 24, 25, 26, 27, 28, 29, 30, 31, 32, 33, 34, 35, 36, 37, 38, 39, 40, 41, 42] (by decide +kernel) (by decide +kernel)
set_option maxRecDepth 20000 in
theorem gX11_requireGroup_X11_hasGroup : GoodIn wsX11_requireGroup (wsV RX11 195 RX11 yX11_hasGroup wsX11_hasGroup) := goodIn_app (goodIn_of _ (by decide +kernel)) ggX11_requireGroup_X11_hasGroup
theorem dX11_requireGroup_0 : decode cX11_requireGroup 0 = .ok (.aload_n 0, 1) := by decide +kernel
theorem dX11_requireGroup_1 : decode cX11_requireGroup 1 = .ok (.iload_n 1, 1) := by decide +kernel
theorem dX11_requireGroup_2 : decode cX11_requireGroup 2 = .ok (.invokevirtual 195, 3) := by decide +kernel
theorem dX11_requireGroup_5 : decode cX11_requireGroup 5 = .ok (.ifCond .ne 14, 3) := by decide +kernel
theorem dX11_requireGroup_8 : decode cX11_requireGroup 8 = .ok (.new 288, 3) := by decide +kernel
theorem dX11_requireGroup_11 : decode cX11_requireGroup 11 = .ok (.dup, 1) := by decide +kernel
theorem dX11_requireGroup_12 : decode cX11_requireGroup 12 = .ok (.ldc_w 295, 3) := by decide +kernel
theorem dX11_requireGroup_15 : decode cX11_requireGroup 15 = .ok (.invokespecial 292, 3) := by decide +kernel
theorem dX11_requireGroup_18 : decode cX11_requireGroup 18 = .ok (.athrow, 1) := by decide +kernel
theorem dX11_requireGroup_19 : decode cX11_requireGroup 19 = .ok (.return_, 1) := by decide +kernel
set_option maxRecDepth 20000 in
theorem ggX11_weight_X11_requireVertex : GoodIn wsX11_weight wsX11_requireVertex := goodIn_ca (goodIn_r _ [7, 8, 9, 10, 11, 12, 6, 13, 1, 14, 18, 19, 20, 21, 22, 23, 24, 25, 26, 27, 28, 29, 30, 31, 32, 33, 34, 35, 36, 37, 38, 39, 40, 41, 42, 43, 44, 45, 46, 47] (by decide +kernel) (by decide +kernel)) (goodIn_sub (fun _ h => List.mem_cons_of_mem _ (List.mem_append_right _ h)) (by decide +kernel))
set_option maxRecDepth 20000 in
theorem gX11_weight_X11_requireVertex : GoodIn wsX11_weight (wsV RX11 297 RX11 yX11_requireVertex wsX11_requireVertex) := goodIn_app (goodIn_of _ (by decide +kernel)) ggX11_weight_X11_requireVertex
set_option maxRecDepth 20000 in
theorem ggX11_weight_X11_at : GoodIn wsX11_weight wsX11_at := goodIn_r _ [17] (by decide +kernel) (by decide +kernel)
set_option maxRecDepth 20000 in
theorem gX11_weight_X11_at : GoodIn wsX11_weight (va_wsS RX11 164 yX11_at wsX11_at) := goodIn_app (goodIn_of _ (by decide +kernel)) ggX11_weight_X11_at
theorem dX11_weight_0 : decode cX11_weight 0 = .ok (.aload_n 0, 1) := by decide +kernel
theorem dX11_weight_1 : decode cX11_weight 1 = .ok (.iload_n 1, 1) := by decide +kernel
theorem dX11_weight_2 : decode cX11_weight 2 = .ok (.invokevirtual 297, 3) := by decide +kernel
theorem dX11_weight_5 : decode cX11_weight 5 = .ok (.aload_n 0, 1) := by decide +kernel
theorem dX11_weight_6 : decode cX11_weight 6 = .ok (.getfield 40, 3) := by decide +kernel
theorem dX11_weight_9 : decode cX11_weight 9 = .ok (.getfield 300, 3) := by decide +kernel
theorem dX11_weight_12 : decode cX11_weight 12 = .ok (.iload_n 1, 1) := by decide +kernel
theorem dX11_weight_13 : decode cX11_weight 13 = .ok (.invokestatic 164, 3) := by decide +kernel
theorem dX11_weight_16 : decode cX11_weight 16 = .ok (.ireturn, 1) := by decide +kernel
set_option maxRecDepth 20000 in
theorem ggX11_edge_X11_at : GoodIn wsX11_edge wsX11_at := goodIn_r _ [13] (by decide +kernel) (by decide +kernel)
set_option maxRecDepth 20000 in
theorem gX11_edge_X11_at : GoodIn wsX11_edge (va_wsS RX11 164 yX11_at wsX11_at) := goodIn_app (goodIn_of _ (by decide +kernel)) ggX11_edge_X11_at
set_option maxRecDepth 20000 in
theorem ggX11_edge_X11_isCut : GoodIn wsX11_edge wsX11_isCut := goodIn_r _ [17, 18, 19, 5, 7, 8, 10, 11, 12, 13, 20, 21, 22, 23, 24, 25, 26, 27, 28, 29, 30, 31, 32, 33, 34, 35, 36, 37, 50, 51, 52, 53, 54, 55, 56, 38, 39, 40, 41, 42, 43, 44, 45, 46, 47, 48, 49] (by decide +kernel) (by decide +kernel)
set_option maxRecDepth 20000 in
theorem gX11_edge_X11_isCut : GoodIn wsX11_edge (wsV RX11 310 RX11 yX11_isCut wsX11_isCut) := goodIn_app (goodIn_of _ (by decide +kernel)) ggX11_edge_X11_isCut
theorem dX11_edge_0 : decode cX11_edge 0 = .ok (.iload_n 1, 1) := by decide +kernel
theorem dX11_edge_1 : decode cX11_edge 1 = .ok (.ifCond .lt 14, 3) := by decide +kernel
theorem dX11_edge_4 : decode cX11_edge 4 = .ok (.iload_n 1, 1) := by decide +kernel
theorem dX11_edge_5 : decode cX11_edge 5 = .ok (.aload_n 0, 1) := by decide +kernel
theorem dX11_edge_6 : decode cX11_edge 6 = .ok (.getfield 40, 3) := by decide +kernel
theorem dX11_edge_9 : decode cX11_edge 9 = .ok (.getfield 259, 3) := by decide +kernel
theorem dX11_edge_12 : decode cX11_edge 12 = .ok (.if_icmp .lt 14, 3) := by decide +kernel
theorem dX11_edge_15 : decode cX11_edge 15 = .ok (.new 288, 3) := by decide +kernel
theorem dX11_edge_18 : decode cX11_edge 18 = .ok (.dup, 1) := by decide +kernel
theorem dX11_edge_19 : decode cX11_edge 19 = .ok (.ldc_w 303, 3) := by decide +kernel
theorem dX11_edge_22 : decode cX11_edge 22 = .ok (.invokespecial 292, 3) := by decide +kernel
theorem dX11_edge_25 : decode cX11_edge 25 = .ok (.athrow, 1) := by decide +kernel
theorem dX11_edge_26 : decode cX11_edge 26 = .ok (.iload_n 2, 1) := by decide +kernel
theorem dX11_edge_27 : decode cX11_edge 27 = .ok (.tableswitch 79 0 3 #[29, 41, 53, 65], 29) := by decide +kernel
theorem dX11_edge_56 : decode cX11_edge 56 = .ok (.aload_n 0, 1) := by decide +kernel
theorem dX11_edge_57 : decode cX11_edge 57 = .ok (.getfield 40, 3) := by decide +kernel
theorem dX11_edge_60 : decode cX11_edge 60 = .ok (.getfield 305, 3) := by decide +kernel
theorem dX11_edge_63 : decode cX11_edge 63 = .ok (.iload_n 1, 1) := by decide +kernel
theorem dX11_edge_64 : decode cX11_edge 64 = .ok (.invokestatic 164, 3) := by decide +kernel
theorem dX11_edge_67 : decode cX11_edge 67 = .ok (.ireturn, 1) := by decide +kernel
theorem dX11_edge_68 : decode cX11_edge 68 = .ok (.aload_n 0, 1) := by decide +kernel
theorem dX11_edge_69 : decode cX11_edge 69 = .ok (.getfield 40, 3) := by decide +kernel
theorem dX11_edge_72 : decode cX11_edge 72 = .ok (.getfield 306, 3) := by decide +kernel
theorem dX11_edge_75 : decode cX11_edge 75 = .ok (.iload_n 1, 1) := by decide +kernel
theorem dX11_edge_76 : decode cX11_edge 76 = .ok (.invokestatic 164, 3) := by decide +kernel
theorem dX11_edge_79 : decode cX11_edge 79 = .ok (.ireturn, 1) := by decide +kernel
theorem dX11_edge_80 : decode cX11_edge 80 = .ok (.aload_n 0, 1) := by decide +kernel
theorem dX11_edge_81 : decode cX11_edge 81 = .ok (.getfield 40, 3) := by decide +kernel
theorem dX11_edge_84 : decode cX11_edge 84 = .ok (.getfield 307, 3) := by decide +kernel
theorem dX11_edge_87 : decode cX11_edge 87 = .ok (.iload_n 1, 1) := by decide +kernel
theorem dX11_edge_88 : decode cX11_edge 88 = .ok (.invokestatic 164, 3) := by decide +kernel
theorem dX11_edge_91 : decode cX11_edge 91 = .ok (.ireturn, 1) := by decide +kernel
theorem dX11_edge_92 : decode cX11_edge 92 = .ok (.aload_n 0, 1) := by decide +kernel
theorem dX11_edge_93 : decode cX11_edge 93 = .ok (.iload_n 1, 1) := by decide +kernel
theorem dX11_edge_94 : decode cX11_edge 94 = .ok (.invokevirtual 310, 3) := by decide +kernel
theorem dX11_edge_97 : decode cX11_edge 97 = .ok (.ifCond .eq 7, 3) := by decide +kernel
theorem dX11_edge_100 : decode cX11_edge 100 = .ok (.iconst 1, 1) := by decide +kernel
theorem dX11_edge_101 : decode cX11_edge 101 = .ok (.goto 4, 3) := by decide +kernel
theorem dX11_edge_104 : decode cX11_edge 104 = .ok (.iconst 0, 1) := by decide +kernel
theorem dX11_edge_105 : decode cX11_edge 105 = .ok (.ireturn, 1) := by decide +kernel
theorem dX11_edge_106 : decode cX11_edge 106 = .ok (.new 117, 3) := by decide +kernel
theorem dX11_edge_109 : decode cX11_edge 109 = .ok (.dup, 1) := by decide +kernel
theorem dX11_edge_110 : decode cX11_edge 110 = .ok (.ldc_w 313, 3) := by decide +kernel
theorem dX11_edge_113 : decode cX11_edge 113 = .ok (.invokespecial 121, 3) := by decide +kernel
theorem dX11_edge_116 : decode cX11_edge 116 = .ok (.athrow, 1) := by decide +kernel
set_option maxRecDepth 20000 in
theorem ggX11_isCut_X11_at : GoodIn wsX11_isCut wsX11_at := goodIn_r _ [9] (by decide +kernel) (by decide +kernel)
set_option maxRecDepth 20000 in
theorem gX11_isCut_X11_at : GoodIn wsX11_isCut (va_wsS RX11 164 yX11_at wsX11_at) := goodIn_app (goodIn_of _ (by decide +kernel)) ggX11_isCut_X11_at
theorem dX11_isCut_0 : decode cX11_isCut 0 = .ok (.aload_n 0, 1) := by decide +kernel
theorem dX11_isCut_1 : decode cX11_isCut 1 = .ok (.getfield 53, 3) := by decide +kernel
theorem dX11_isCut_4 : decode cX11_isCut 4 = .ok (.getfield 315, 3) := by decide +kernel
theorem dX11_isCut_7 : decode cX11_isCut 7 = .ok (.aload_n 0, 1) := by decide +kernel
theorem dX11_isCut_8 : decode cX11_isCut 8 = .ok (.getfield 40, 3) := by decide +kernel
theorem dX11_isCut_11 : decode cX11_isCut 11 = .ok (.getfield 305, 3) := by decide +kernel
theorem dX11_isCut_14 : decode cX11_isCut 14 = .ok (.iload_n 1, 1) := by decide +kernel
theorem dX11_isCut_15 : decode cX11_isCut 15 = .ok (.invokestatic 164, 3) := by decide +kernel
theorem dX11_isCut_18 : decode cX11_isCut 18 = .ok (.invokestatic 164, 3) := by decide +kernel
theorem dX11_isCut_21 : decode cX11_isCut 21 = .ok (.aload_n 0, 1) := by decide +kernel
theorem dX11_isCut_22 : decode cX11_isCut 22 = .ok (.getfield 53, 3) := by decide +kernel
theorem dX11_isCut_25 : decode cX11_isCut 25 = .ok (.getfield 315, 3) := by decide +kernel
theorem dX11_isCut_28 : decode cX11_isCut 28 = .ok (.aload_n 0, 1) := by decide +kernel
theorem dX11_isCut_29 : decode cX11_isCut 29 = .ok (.getfield 40, 3) := by decide +kernel
theorem dX11_isCut_32 : decode cX11_isCut 32 = .ok (.getfield 306, 3) := by decide +kernel
theorem dX11_isCut_35 : decode cX11_isCut 35 = .ok (.iload_n 1, 1) := by decide +kernel
theorem dX11_isCut_36 : decode cX11_isCut 36 = .ok (.invokestatic 164, 3) := by decide +kernel
theorem dX11_isCut_39 : decode cX11_isCut 39 = .ok (.invokestatic 164, 3) := by decide +kernel
theorem dX11_isCut_42 : decode cX11_isCut 42 = .ok (.if_icmp .eq 7, 3) := by decide +kernel
theorem dX11_isCut_45 : decode cX11_isCut 45 = .ok (.iconst 1, 1) := by decide +kernel
theorem dX11_isCut_46 : decode cX11_isCut 46 = .ok (.goto 4, 3) := by decide +kernel
theorem dX11_isCut_49 : decode cX11_isCut 49 = .ok (.iconst 0, 1) := by decide +kernel
theorem dX11_isCut_50 : decode cX11_isCut 50 = .ok (.ireturn, 1) := by decide +kernel
set_option maxRecDepth 20000 in
theorem ggX11_between_X11_requireVertex : GoodIn wsX11_between wsX11_requireVertex := goodIn_ca (goodIn_r _ [7, 8, 9, 10, 11, 12, 6, 13, 1, 14, 30, 31, 32, 33, 34, 35, 36, 37, 38, 39, 40, 41, 42, 43, 44, 45, 46, 47, 48, 49, 50, 51, 52, 53, 54, 55, 56, 57, 58, 59] (by decide +kernel) (by decide +kernel)) (goodIn_sub (fun _ h => List.mem_cons_of_mem _ (List.mem_append_right _ h)) (by decide +kernel))
set_option maxRecDepth 20000 in
theorem gX11_between_X11_requireVertex : GoodIn wsX11_between (wsV RX11 297 RX11 yX11_requireVertex wsX11_requireVertex) := goodIn_app (goodIn_of _ (by decide +kernel)) ggX11_between_X11_requireVertex
set_option maxRecDepth 20000 in
theorem ggX11_between_X2_edgeOf : GoodIn wsX11_between wsX2_edgeOf := goodIn_r _ [19, 20, 21, 22, 23, 18, 24, 25, 26, 27, 6, 28, 48, 49, 50, 51, 52, 53, 54, 55, 56, 57, 58, 59] (by decide +kernel) (by decide +kernel)
set_option maxRecDepth 20000 in
theorem gX11_between_X2_edgeOf : GoodIn wsX11_between (wsV RX11 317 RX2 yX2_edgeOf wsX2_edgeOf) := goodIn_app (goodIn_of _ (by decide +kernel)) ggX11_between_X2_edgeOf
set_option maxRecDepth 20000 in
theorem ggX11_between_X11_at : GoodIn wsX11_between wsX11_at := goodIn_r _ [28] (by decide +kernel) (by decide +kernel)
set_option maxRecDepth 20000 in
theorem gX11_between_X11_at : GoodIn wsX11_between (va_wsS RX11 164 yX11_at wsX11_at) := goodIn_app (goodIn_of _ (by decide +kernel)) ggX11_between_X11_at
theorem dX11_between_0 : decode cX11_between 0 = .ok (.aload_n 0, 1) := by decide +kernel
theorem dX11_between_1 : decode cX11_between 1 = .ok (.iload_n 1, 1) := by decide +kernel
theorem dX11_between_2 : decode cX11_between 2 = .ok (.invokevirtual 297, 3) := by decide +kernel
theorem dX11_between_5 : decode cX11_between 5 = .ok (.aload_n 0, 1) := by decide +kernel
theorem dX11_between_6 : decode cX11_between 6 = .ok (.iload_n 2, 1) := by decide +kernel
theorem dX11_between_7 : decode cX11_between 7 = .ok (.invokevirtual 297, 3) := by decide +kernel
theorem dX11_between_10 : decode cX11_between 10 = .ok (.aload_n 0, 1) := by decide +kernel
theorem dX11_between_11 : decode cX11_between 11 = .ok (.getfield 40, 3) := by decide +kernel
theorem dX11_between_14 : decode cX11_between 14 = .ok (.iload_n 1, 1) := by decide +kernel
theorem dX11_between_15 : decode cX11_between 15 = .ok (.iload_n 2, 1) := by decide +kernel
theorem dX11_between_16 : decode cX11_between 16 = .ok (.invokevirtual 317, 3) := by decide +kernel
theorem dX11_between_19 : decode cX11_between 19 = .ok (.istore_n 3, 1) := by decide +kernel
theorem dX11_between_20 : decode cX11_between 20 = .ok (.iload_n 3, 1) := by decide +kernel
theorem dX11_between_21 : decode cX11_between 21 = .ok (.iconst (-1), 1) := by decide +kernel
theorem dX11_between_22 : decode cX11_between 22 = .ok (.if_icmp .ne 7, 3) := by decide +kernel
theorem dX11_between_25 : decode cX11_between 25 = .ok (.iconst 0, 1) := by decide +kernel
theorem dX11_between_26 : decode cX11_between 26 = .ok (.goto 14, 3) := by decide +kernel
theorem dX11_between_29 : decode cX11_between 29 = .ok (.aload_n 0, 1) := by decide +kernel
theorem dX11_between_30 : decode cX11_between 30 = .ok (.getfield 40, 3) := by decide +kernel
theorem dX11_between_33 : decode cX11_between 33 = .ok (.getfield 307, 3) := by decide +kernel
theorem dX11_between_36 : decode cX11_between 36 = .ok (.iload_n 3, 1) := by decide +kernel
theorem dX11_between_37 : decode cX11_between 37 = .ok (.invokestatic 164, 3) := by decide +kernel
theorem dX11_between_40 : decode cX11_between 40 = .ok (.ireturn, 1) := by decide +kernel
set_option maxRecDepth 20000 in
theorem ggX11_flow_X11_requireVertex : GoodIn wsX11_flow wsX11_requireVertex := goodIn_ca (goodIn_r _ [8, 9, 10, 11, 12, 13, 7, 14, 2, 15, 61, 62, 63, 64, 65, 66, 67, 68, 69, 70, 71, 72, 73, 74, 75, 76, 77, 78, 85, 86, 87, 88, 89, 90, 91, 92, 93, 94, 95, 96] (by decide +kernel) (by decide +kernel)) (goodIn_sub (fun _ h => List.mem_cons_of_mem _ (List.mem_append_right _ h)) (by decide +kernel))
set_option maxRecDepth 20000 in
theorem gX11_flow_X11_requireVertex : GoodIn wsX11_flow (wsV RX11 297 RX11 yX11_requireVertex wsX11_requireVertex) := goodIn_app (goodIn_of _ (by decide +kernel)) ggX11_flow_X11_requireVertex
set_option maxRecDepth 20000 in
theorem ggX11_flow_X1_run : GoodIn wsX11_flow wsX1_run := goodIn_r _ [20, 21, 22, 23, 24, 25, 19, 26, 27, 28, 29, 30, 31, 32, 33, 34, 35, 36, 37, 38, 7, 39, 40, 41, 42, 43, 44, 45, 46, 47, 48, 49, 50, 51, 52, 53, 54, 55, 56, 57, 58, 59, 60, 79, 80, 81, 82, 83, 84, 85, 86, 87, 88, 89, 90, 91, 92, 93, 94, 95, 96] (by decide +kernel) (by decide +kernel)
set_option maxRecDepth 20000 in
theorem gX11_flow_X1_run : GoodIn wsX11_flow (wsV RX11 320 RX1 yX1_run wsX1_run) := goodIn_app (goodIn_of _ (by decide +kernel)) ggX11_flow_X1_run
theorem dX11_flow_0 : decode cX11_flow 0 = .ok (.aload_n 0, 1) := by decide +kernel
theorem dX11_flow_1 : decode cX11_flow 1 = .ok (.iload_n 1, 1) := by decide +kernel
theorem dX11_flow_2 : decode cX11_flow 2 = .ok (.invokevirtual 297, 3) := by decide +kernel
theorem dX11_flow_5 : decode cX11_flow 5 = .ok (.aload_n 0, 1) := by decide +kernel
theorem dX11_flow_6 : decode cX11_flow 6 = .ok (.iload_n 2, 1) := by decide +kernel
theorem dX11_flow_7 : decode cX11_flow 7 = .ok (.invokevirtual 297, 3) := by decide +kernel
theorem dX11_flow_10 : decode cX11_flow 10 = .ok (.iload_n 1, 1) := by decide +kernel
theorem dX11_flow_11 : decode cX11_flow 11 = .ok (.iload_n 2, 1) := by decide +kernel
theorem dX11_flow_12 : decode cX11_flow 12 = .ok (.if_icmp .ne 5, 3) := by decide +kernel
theorem dX11_flow_15 : decode cX11_flow 15 = .ok (.iconst 0, 1) := by decide +kernel
theorem dX11_flow_16 : decode cX11_flow 16 = .ok (.ireturn, 1) := by decide +kernel
theorem dX11_flow_17 : decode cX11_flow 17 = .ok (.aload_n 0, 1) := by decide +kernel
theorem dX11_flow_18 : decode cX11_flow 18 = .ok (.getfield 94, 3) := by decide +kernel
theorem dX11_flow_21 : decode cX11_flow 21 = .ok (.aload_n 0, 1) := by decide +kernel
theorem dX11_flow_22 : decode cX11_flow 22 = .ok (.getfield 40, 3) := by decide +kernel
theorem dX11_flow_25 : decode cX11_flow 25 = .ok (.iload_n 1, 1) := by decide +kernel
theorem dX11_flow_26 : decode cX11_flow 26 = .ok (.iload_n 2, 1) := by decide +kernel
theorem dX11_flow_27 : decode cX11_flow 27 = .ok (.invokevirtual 320, 3) := by decide +kernel
theorem dX11_flow_30 : decode cX11_flow 30 = .ok (.aload_n 0, 1) := by decide +kernel
theorem dX11_flow_31 : decode cX11_flow 31 = .ok (.getfield 94, 3) := by decide +kernel
theorem dX11_flow_34 : decode cX11_flow 34 = .ok (.getfield 324, 3) := by decide +kernel
theorem dX11_flow_37 : decode cX11_flow 37 = .ok (.ireturn, 1) := by decide +kernel
set_option maxRecDepth 20000 in
theorem ggX11_side_X11_requireVertex : GoodIn wsX11_side wsX11_requireVertex := goodIn_ca (goodIn_r _ [8, 9, 10, 11, 12, 13, 7, 14, 2, 15, 61, 62, 63, 64, 65, 66, 67, 68, 69, 70, 71, 72, 73, 74, 75, 76, 77, 78, 85, 86, 87, 88, 89, 90, 91, 92, 93, 94, 95, 96] (by decide +kernel) (by decide +kernel)) (goodIn_sub (fun _ h => List.mem_cons_of_mem _ (List.mem_append_right _ h)) (by decide +kernel))
set_option maxRecDepth 20000 in
theorem gX11_side_X11_requireVertex : GoodIn wsX11_side (wsV RX11 297 RX11 yX11_requireVertex wsX11_requireVertex) := goodIn_app (goodIn_of _ (by decide +kernel)) ggX11_side_X11_requireVertex
set_option maxRecDepth 20000 in
theorem ggX11_side_X1_run : GoodIn wsX11_side wsX1_run := goodIn_r _ [20, 21, 22, 23, 24, 25, 19, 26, 27, 28, 29, 30, 31, 32, 33, 34, 35, 36, 37, 38, 7, 39, 40, 41, 42, 43, 44, 45, 46, 47, 48, 49, 50, 51, 52, 53, 54, 55, 56, 57, 58, 59, 60, 79, 80, 81, 82, 83, 84, 85, 86, 87, 88, 89, 90, 91, 92, 93, 94, 95, 96] (by decide +kernel) (by decide +kernel)
set_option maxRecDepth 20000 in
theorem gX11_side_X1_run : GoodIn wsX11_side (wsV RX11 320 RX1 yX1_run wsX1_run) := goodIn_app (goodIn_of _ (by decide +kernel)) ggX11_side_X1_run
theorem dX11_side_0 : decode cX11_side 0 = .ok (.aload_n 0, 1) := by decide +kernel
theorem dX11_side_1 : decode cX11_side 1 = .ok (.iload_n 1, 1) := by decide +kernel
theorem dX11_side_2 : decode cX11_side 2 = .ok (.invokevirtual 297, 3) := by decide +kernel
theorem dX11_side_5 : decode cX11_side 5 = .ok (.aload_n 0, 1) := by decide +kernel
theorem dX11_side_6 : decode cX11_side 6 = .ok (.iload_n 2, 1) := by decide +kernel
theorem dX11_side_7 : decode cX11_side 7 = .ok (.invokevirtual 297, 3) := by decide +kernel
theorem dX11_side_10 : decode cX11_side 10 = .ok (.iload_n 1, 1) := by decide +kernel
theorem dX11_side_11 : decode cX11_side 11 = .ok (.iload_n 2, 1) := by decide +kernel
theorem dX11_side_12 : decode cX11_side 12 = .ok (.if_icmp .ne 5, 3) := by decide +kernel
theorem dX11_side_15 : decode cX11_side 15 = .ok (.iconst 0, 1) := by decide +kernel
theorem dX11_side_16 : decode cX11_side 16 = .ok (.ireturn, 1) := by decide +kernel
theorem dX11_side_17 : decode cX11_side 17 = .ok (.aload_n 0, 1) := by decide +kernel
theorem dX11_side_18 : decode cX11_side 18 = .ok (.getfield 94, 3) := by decide +kernel
theorem dX11_side_21 : decode cX11_side 21 = .ok (.aload_n 0, 1) := by decide +kernel
theorem dX11_side_22 : decode cX11_side 22 = .ok (.getfield 40, 3) := by decide +kernel
theorem dX11_side_25 : decode cX11_side 25 = .ok (.iload_n 1, 1) := by decide +kernel
theorem dX11_side_26 : decode cX11_side 26 = .ok (.iload_n 2, 1) := by decide +kernel
theorem dX11_side_27 : decode cX11_side 27 = .ok (.invokevirtual 320, 3) := by decide +kernel
theorem dX11_side_30 : decode cX11_side 30 = .ok (.aload_n 0, 1) := by decide +kernel
theorem dX11_side_31 : decode cX11_side 31 = .ok (.getfield 94, 3) := by decide +kernel
theorem dX11_side_34 : decode cX11_side 34 = .ok (.getfield 327, 3) := by decide +kernel
theorem dX11_side_37 : decode cX11_side 37 = .ok (.ireturn, 1) := by decide +kernel
set_option maxRecDepth 20000 in
theorem ggX11_leastFlow_X1_run : GoodIn wsX11_leastFlow wsX1_run := goodIn_r _ [9, 10, 11, 12, 13, 14, 8, 15, 16, 17, 18, 19, 20, 21, 22, 23, 24, 25, 26, 27, 28, 29, 30, 31, 32, 33, 34, 35, 36, 37, 38, 39, 40, 41, 42, 43, 44, 45, 46, 47, 48, 49, 50, 81, 82, 83, 84, 85, 86, 69, 70, 71, 72, 73, 74, 75, 76, 77, 78, 79, 80] (by decide +kernel) (by decide +kernel)
set_option maxRecDepth 20000 in
theorem gX11_leastFlow_X1_run : GoodIn wsX11_leastFlow (wsV RX11 320 RX1 yX1_run wsX1_run) := goodIn_app (goodIn_of _ (by decide +kernel)) ggX11_leastFlow_X1_run
theorem dX11_leastFlow_0 : decode cX11_leastFlow 0 = .ok (.iconst (-1), 1) := by decide +kernel
theorem dX11_leastFlow_1 : decode cX11_leastFlow 1 = .ok (.istore_n 1, 1) := by decide +kernel
theorem dX11_leastFlow_2 : decode cX11_leastFlow 2 = .ok (.iconst 1, 1) := by decide +kernel
theorem dX11_leastFlow_3 : decode cX11_leastFlow 3 = .ok (.istore_n 2, 1) := by decide +kernel
theorem dX11_leastFlow_4 : decode cX11_leastFlow 4 = .ok (.iload_n 2, 1) := by decide +kernel
theorem dX11_leastFlow_5 : decode cX11_leastFlow 5 = .ok (.aload_n 0, 1) := by decide +kernel
theorem dX11_leastFlow_6 : decode cX11_leastFlow 6 = .ok (.getfield 40, 3) := by decide +kernel
theorem dX11_leastFlow_9 : decode cX11_leastFlow 9 = .ok (.getfield 141, 3) := by decide +kernel
theorem dX11_leastFlow_12 : decode cX11_leastFlow 12 = .ok (.if_icmp .ge 46, 3) := by decide +kernel
theorem dX11_leastFlow_15 : decode cX11_leastFlow 15 = .ok (.aload_n 0, 1) := by decide +kernel
theorem dX11_leastFlow_16 : decode cX11_leastFlow 16 = .ok (.getfield 94, 3) := by decide +kernel
theorem dX11_leastFlow_19 : decode cX11_leastFlow 19 = .ok (.aload_n 0, 1) := by decide +kernel
theorem dX11_leastFlow_20 : decode cX11_leastFlow 20 = .ok (.getfield 40, 3) := by decide +kernel
theorem dX11_leastFlow_23 : decode cX11_leastFlow 23 = .ok (.iconst 0, 1) := by decide +kernel
theorem dX11_leastFlow_24 : decode cX11_leastFlow 24 = .ok (.iload_n 2, 1) := by decide +kernel
theorem dX11_leastFlow_25 : decode cX11_leastFlow 25 = .ok (.invokevirtual 320, 3) := by decide +kernel
theorem dX11_leastFlow_28 : decode cX11_leastFlow 28 = .ok (.iload_n 1, 1) := by decide +kernel
theorem dX11_leastFlow_29 : decode cX11_leastFlow 29 = .ok (.iconst (-1), 1) := by decide +kernel
theorem dX11_leastFlow_30 : decode cX11_leastFlow 30 = .ok (.if_icmp .eq 14, 3) := by decide +kernel
theorem dX11_leastFlow_33 : decode cX11_leastFlow 33 = .ok (.aload_n 0, 1) := by decide +kernel
theorem dX11_leastFlow_34 : decode cX11_leastFlow 34 = .ok (.getfield 94, 3) := by decide +kernel
theorem dX11_leastFlow_37 : decode cX11_leastFlow 37 = .ok (.getfield 324, 3) := by decide +kernel
theorem dX11_leastFlow_40 : decode cX11_leastFlow 40 = .ok (.iload_n 1, 1) := by decide +kernel
theorem dX11_leastFlow_41 : decode cX11_leastFlow 41 = .ok (.if_icmp .ge 11, 3) := by decide +kernel
theorem dX11_leastFlow_44 : decode cX11_leastFlow 44 = .ok (.aload_n 0, 1) := by decide +kernel
theorem dX11_leastFlow_45 : decode cX11_leastFlow 45 = .ok (.getfield 94, 3) := by decide +kernel
theorem dX11_leastFlow_48 : decode cX11_leastFlow 48 = .ok (.getfield 324, 3) := by decide +kernel
theorem dX11_leastFlow_51 : decode cX11_leastFlow 51 = .ok (.istore_n 1, 1) := by decide +kernel
theorem dX11_leastFlow_52 : decode cX11_leastFlow 52 = .ok (.iinc 2 1, 3) := by decide +kernel
theorem dX11_leastFlow_55 : decode cX11_leastFlow 55 = .ok (.goto (-51), 3) := by decide +kernel
theorem dX11_leastFlow_58 : decode cX11_leastFlow 58 = .ok (.iload_n 1, 1) := by decide +kernel
theorem dX11_leastFlow_59 : decode cX11_leastFlow 59 = .ok (.ireturn, 1) := by decide +kernel
set_option maxRecDepth 20000 in
theorem ggX11_partOf_X11_requireVertex : GoodIn wsX11_partOf wsX11_requireVertex := goodIn_ca (goodIn_r _ [7, 8, 9, 10, 11, 12, 6, 13, 14, 15, 19, 20, 21, 22, 23, 24, 25, 26, 27, 28, 29, 30, 31, 32, 33, 34, 35, 36, 44, 45, 46, 47, 48, 49, 50, 51, 52, 53, 54, 55] (by decide +kernel) (by decide +kernel)) (goodIn_sub (fun _ h => List.mem_cons_of_mem _ (List.mem_append_right _ h)) (by decide +kernel))
set_option maxRecDepth 20000 in
theorem gX11_partOf_X11_requireVertex : GoodIn wsX11_partOf (wsV RX11 297 RX11 yX11_requireVertex wsX11_requireVertex) := goodIn_app (goodIn_of _ (by decide +kernel)) ggX11_partOf_X11_requireVertex
set_option maxRecDepth 20000 in
theorem ggX11_partOf_X11_at : GoodIn wsX11_partOf wsX11_at := goodIn_r _ [18] (by decide +kernel) (by decide +kernel)
set_option maxRecDepth 20000 in
theorem gX11_partOf_X11_at : GoodIn wsX11_partOf (va_wsS RX11 164 yX11_at wsX11_at) := goodIn_app (goodIn_of _ (by decide +kernel)) ggX11_partOf_X11_at
theorem dX11_partOf_0 : decode cX11_partOf 0 = .ok (.aload_n 0, 1) := by decide +kernel
theorem dX11_partOf_1 : decode cX11_partOf 1 = .ok (.iload_n 1, 1) := by decide +kernel
theorem dX11_partOf_2 : decode cX11_partOf 2 = .ok (.invokevirtual 297, 3) := by decide +kernel
theorem dX11_partOf_5 : decode cX11_partOf 5 = .ok (.aload_n 0, 1) := by decide +kernel
theorem dX11_partOf_6 : decode cX11_partOf 6 = .ok (.getfield 53, 3) := by decide +kernel
theorem dX11_partOf_9 : decode cX11_partOf 9 = .ok (.getfield 315, 3) := by decide +kernel
theorem dX11_partOf_12 : decode cX11_partOf 12 = .ok (.iload_n 1, 1) := by decide +kernel
theorem dX11_partOf_13 : decode cX11_partOf 13 = .ok (.invokestatic 164, 3) := by decide +kernel
theorem dX11_partOf_16 : decode cX11_partOf 16 = .ok (.ireturn, 1) := by decide +kernel
set_option maxRecDepth 20000 in
theorem ggX11_part_X11_requirePart : GoodIn wsX11_part wsX11_requirePart := goodIn_ca (goodIn_r _ [12, 13, 14, 15, 16, 17, 11, 18, 4, 19, 122, 123, 124, 125, 126, 127, 128, 129, 130, 131, 132, 133, 134, 135, 136, 137, 138, 139, 152, 153, 154, 155, 156, 157, 158, 159, 160, 161, 162, 163] (by decide +kernel) (by decide +kernel)) (goodIn_sub (fun _ h => List.mem_cons_of_mem _ (List.mem_append_right _ h)) (by decide +kernel))
set_option maxRecDepth 20000 in
theorem gX11_part_X11_requirePart : GoodIn wsX11_part (wsV RX11 330 RX11 yX11_requirePart wsX11_requirePart) := goodIn_app (goodIn_of _ (by decide +kernel)) ggX11_part_X11_requirePart
set_option maxRecDepth 20000 in
theorem ggX11_part_X4_take : GoodIn wsX11_part wsX4_take := goodIn_r _ [24, 25, 26, 27, 28, 29, 30, 31, 32, 33, 34, 35, 36, 37, 38, 39, 40, 11, 41, 42, 43, 44, 45, 46, 47, 48, 49, 50, 51, 52, 23, 53, 54, 55, 56, 57, 58, 59, 60, 61, 62, 63, 64, 65, 66, 67, 68, 69, 70, 71, 72, 73, 74, 75, 76, 77, 78, 79, 80, 81, 82, 83, 84, 85, 86, 87, 140, 141, 142, 143, 144, 145, 146, 147, 148, 149, 150, 151, 152, 153, 154, 155, 156, 157, 158, 159, 160, 161, 162, 163, 164, 165, 166, 167, 168, 169, 170] (by decide +kernel) (by decide +kernel)
set_option maxRecDepth 20000 in
theorem gX11_part_X4_take : GoodIn wsX11_part (wsV RX11 333 RX4 yX4_take wsX4_take) := goodIn_app (goodIn_of _ (by decide +kernel)) ggX11_part_X4_take
set_option maxRecDepth 20000 in
theorem ggX11_part_X11_at : GoodIn wsX11_part wsX11_at := goodIn_r _ [41] (by decide +kernel) (by decide +kernel)
set_option maxRecDepth 20000 in
theorem gX11_part_X11_at : GoodIn wsX11_part (va_wsS RX11 164 yX11_at wsX11_at) := goodIn_app (goodIn_of _ (by decide +kernel)) ggX11_part_X11_at
set_option maxRecDepth 20000 in
theorem ggX11_part_X4_debtAt : GoodIn wsX11_part wsX4_debtAt := goodIn_r _ [87, 28, 140, 141, 142, 143, 144, 145, 146, 147, 148, 149, 150, 151] (by decide +kernel) (by decide +kernel)
set_option maxRecDepth 20000 in
theorem gX11_part_X4_debtAt : GoodIn wsX11_part (wsV RX11 340 RX4 yX4_debtAt wsX4_debtAt) := goodIn_app (goodIn_of _ (by decide +kernel)) ggX11_part_X4_debtAt
set_option maxRecDepth 20000 in
theorem ggX11_part_X2_pieces : GoodIn wsX11_part wsX2_pieces := goodIn_r _ [93, 94, 95, 11, 96, 97, 98, 99, 45, 100, 101, 102, 103, 104, 105, 106, 107, 40, 41, 152, 153, 154, 155, 156, 157, 158, 159, 160, 161, 162, 163] (by decide +kernel) (by decide +kernel)
set_option maxRecDepth 20000 in
theorem gX11_part_X2_pieces : GoodIn wsX11_part (wsV RX11 346 RX2 yX2_pieces wsX2_pieces) := goodIn_app (goodIn_of _ (by decide +kernel)) ggX11_part_X2_pieces
set_option maxRecDepth 20000 in
theorem ggX11_part_X11_cutAround : GoodIn wsX11_part wsX11_cutAround := goodIn_r _ [111, 3, 7, 4, 112, 113, 88, 40, 11, 41, 114, 115, 116, 117, 5, 118, 119, 120, 121, 103, 104, 45, 105, 106, 107, 122, 123, 124, 125, 126, 127, 128, 129, 130, 131, 132, 133, 134, 135, 136, 137, 138, 139, 140, 141, 142, 143, 144, 145, 146, 147, 148, 149, 150, 151, 152, 153, 154, 155, 156, 157, 158, 159, 160, 161, 162, 163, 164, 165, 166, 167, 168, 169, 170] (by decide +kernel) (by decide +kernel)
set_option maxRecDepth 20000 in
theorem gX11_part_X11_cutAround : GoodIn wsX11_part (wsV RX11 349 RX11 yX11_cutAround wsX11_cutAround) := goodIn_app (goodIn_of _ (by decide +kernel)) ggX11_part_X11_cutAround
theorem dX11_part_0 : decode cX11_part 0 = .ok (.aload_n 0, 1) := by decide +kernel
theorem dX11_part_1 : decode cX11_part 1 = .ok (.iload_n 1, 1) := by decide +kernel
theorem dX11_part_2 : decode cX11_part 2 = .ok (.invokevirtual 330, 3) := by decide +kernel
theorem dX11_part_5 : decode cX11_part 5 = .ok (.aload_n 0, 1) := by decide +kernel
theorem dX11_part_6 : decode cX11_part 6 = .ok (.getfield 73, 3) := by decide +kernel
theorem dX11_part_9 : decode cX11_part 9 = .ok (.aload_n 0, 1) := by decide +kernel
theorem dX11_part_10 : decode cX11_part 10 = .ok (.getfield 40, 3) := by decide +kernel
theorem dX11_part_13 : decode cX11_part 13 = .ok (.aload_n 0, 1) := by decide +kernel
theorem dX11_part_14 : decode cX11_part 14 = .ok (.getfield 53, 3) := by decide +kernel
theorem dX11_part_17 : decode cX11_part 17 = .ok (.invokevirtual 333, 3) := by decide +kernel
theorem dX11_part_20 : decode cX11_part 20 = .ok (.iload_n 2, 1) := by decide +kernel
theorem dX11_part_21 : decode cX11_part 21 = .ok (.tableswitch 103 0 4 #[35, 47, 66, 78, 97], 35) := by decide +kernel
theorem dX11_part_56 : decode cX11_part 56 = .ok (.aload_n 0, 1) := by decide +kernel
theorem dX11_part_57 : decode cX11_part 57 = .ok (.getfield 73, 3) := by decide +kernel
theorem dX11_part_60 : decode cX11_part 60 = .ok (.getfield 337, 3) := by decide +kernel
theorem dX11_part_63 : decode cX11_part 63 = .ok (.iload_n 1, 1) := by decide +kernel
theorem dX11_part_64 : decode cX11_part 64 = .ok (.invokestatic 164, 3) := by decide +kernel
theorem dX11_part_67 : decode cX11_part 67 = .ok (.ireturn, 1) := by decide +kernel
theorem dX11_part_68 : decode cX11_part 68 = .ok (.aload_n 0, 1) := by decide +kernel
theorem dX11_part_69 : decode cX11_part 69 = .ok (.getfield 73, 3) := by decide +kernel
theorem dX11_part_72 : decode cX11_part 72 = .ok (.aload_n 0, 1) := by decide +kernel
theorem dX11_part_73 : decode cX11_part 73 = .ok (.getfield 73, 3) := by decide +kernel
theorem dX11_part_76 : decode cX11_part 76 = .ok (.getfield 337, 3) := by decide +kernel
theorem dX11_part_79 : decode cX11_part 79 = .ok (.iload_n 1, 1) := by decide +kernel
theorem dX11_part_80 : decode cX11_part 80 = .ok (.invokestatic 164, 3) := by decide +kernel
theorem dX11_part_83 : decode cX11_part 83 = .ok (.invokevirtual 340, 3) := by decide +kernel
theorem dX11_part_86 : decode cX11_part 86 = .ok (.ireturn, 1) := by decide +kernel
theorem dX11_part_87 : decode cX11_part 87 = .ok (.aload_n 0, 1) := by decide +kernel
theorem dX11_part_88 : decode cX11_part 88 = .ok (.getfield 73, 3) := by decide +kernel
theorem dX11_part_91 : decode cX11_part 91 = .ok (.getfield 343, 3) := by decide +kernel
theorem dX11_part_94 : decode cX11_part 94 = .ok (.iload_n 1, 1) := by decide +kernel
theorem dX11_part_95 : decode cX11_part 95 = .ok (.invokestatic 164, 3) := by decide +kernel
theorem dX11_part_98 : decode cX11_part 98 = .ok (.ireturn, 1) := by decide +kernel
theorem dX11_part_99 : decode cX11_part 99 = .ok (.aload_n 0, 1) := by decide +kernel
theorem dX11_part_100 : decode cX11_part 100 = .ok (.getfield 40, 3) := by decide +kernel
theorem dX11_part_103 : decode cX11_part 103 = .ok (.aload_n 0, 1) := by decide +kernel
theorem dX11_part_104 : decode cX11_part 104 = .ok (.getfield 73, 3) := by decide +kernel
theorem dX11_part_107 : decode cX11_part 107 = .ok (.getfield 343, 3) := by decide +kernel
theorem dX11_part_110 : decode cX11_part 110 = .ok (.iload_n 1, 1) := by decide +kernel
theorem dX11_part_111 : decode cX11_part 111 = .ok (.invokestatic 164, 3) := by decide +kernel
theorem dX11_part_114 : decode cX11_part 114 = .ok (.invokevirtual 346, 3) := by decide +kernel
theorem dX11_part_117 : decode cX11_part 117 = .ok (.ireturn, 1) := by decide +kernel
theorem dX11_part_118 : decode cX11_part 118 = .ok (.aload_n 0, 1) := by decide +kernel
theorem dX11_part_119 : decode cX11_part 119 = .ok (.iload_n 1, 1) := by decide +kernel
theorem dX11_part_120 : decode cX11_part 120 = .ok (.invokevirtual 349, 3) := by decide +kernel
theorem dX11_part_123 : decode cX11_part 123 = .ok (.ireturn, 1) := by decide +kernel
theorem dX11_part_124 : decode cX11_part 124 = .ok (.new 117, 3) := by decide +kernel
theorem dX11_part_127 : decode cX11_part 127 = .ok (.dup, 1) := by decide +kernel
theorem dX11_part_128 : decode cX11_part 128 = .ok (.ldc_w 352, 3) := by decide +kernel
theorem dX11_part_131 : decode cX11_part 131 = .ok (.invokespecial 121, 3) := by decide +kernel
theorem dX11_part_134 : decode cX11_part 134 = .ok (.athrow, 1) := by decide +kernel
set_option maxRecDepth 20000 in
theorem ggX11_cutAround_X11_at : GoodIn wsX11_cutAround wsX11_at := goodIn_r _ [9] (by decide +kernel) (by decide +kernel)
set_option maxRecDepth 20000 in
theorem gX11_cutAround_X11_at : GoodIn wsX11_cutAround (va_wsS RX11 164 yX11_at wsX11_at) := goodIn_app (goodIn_of _ (by decide +kernel)) ggX11_cutAround_X11_at
set_option maxRecDepth 20000 in
theorem ggX11_cutAround_X11_isCut : GoodIn wsX11_cutAround wsX11_isCut := goodIn_r _ [13, 14, 15, 3, 16, 17, 6, 7, 8, 9, 25, 26, 27, 28, 29, 30, 31, 32, 33, 34, 35, 36, 37, 38, 39, 40, 41, 42, 67, 68, 69, 70, 71, 72, 73, 55, 56, 57, 58, 59, 60, 61, 62, 63, 64, 65, 66] (by decide +kernel) (by decide +kernel)
set_option maxRecDepth 20000 in
theorem gX11_cutAround_X11_isCut : GoodIn wsX11_cutAround (wsV RX11 310 RX11 yX11_isCut wsX11_isCut) := goodIn_app (goodIn_of _ (by decide +kernel)) ggX11_cutAround_X11_isCut
set_option maxRecDepth 20000 in
theorem ggX11_cutAround_X2_endsOf : GoodIn wsX11_cutAround wsX2_endsOf := goodIn_r _ [22, 23, 24, 7, 8, 9, 55, 56, 57, 58, 59, 60, 61, 62, 63, 64, 65, 66] (by decide +kernel) (by decide +kernel)
set_option maxRecDepth 20000 in
theorem gX11_cutAround_X2_endsOf : GoodIn wsX11_cutAround (wsV RX11 354 RX2 yX2_endsOf wsX2_endsOf) := goodIn_app (goodIn_of _ (by decide +kernel)) ggX11_cutAround_X2_endsOf
theorem dX11_cutAround_0 : decode cX11_cutAround 0 = .ok (.aload_n 0, 1) := by decide +kernel
theorem dX11_cutAround_1 : decode cX11_cutAround 1 = .ok (.getfield 73, 3) := by decide +kernel
theorem dX11_cutAround_4 : decode cX11_cutAround 4 = .ok (.getfield 343, 3) := by decide +kernel
theorem dX11_cutAround_7 : decode cX11_cutAround 7 = .ok (.iload_n 1, 1) := by decide +kernel
theorem dX11_cutAround_8 : decode cX11_cutAround 8 = .ok (.invokestatic 164, 3) := by decide +kernel
theorem dX11_cutAround_11 : decode cX11_cutAround 11 = .ok (.istore_n 2, 1) := by decide +kernel
theorem dX11_cutAround_12 : decode cX11_cutAround 12 = .ok (.iconst 0, 1) := by decide +kernel
theorem dX11_cutAround_13 : decode cX11_cutAround 13 = .ok (.istore_n 3, 1) := by decide +kernel
theorem dX11_cutAround_14 : decode cX11_cutAround 14 = .ok (.iconst 0, 1) := by decide +kernel
theorem dX11_cutAround_15 : decode cX11_cutAround 15 = .ok (.istore 4, 2) := by decide +kernel
theorem dX11_cutAround_17 : decode cX11_cutAround 17 = .ok (.iload 4, 2) := by decide +kernel
theorem dX11_cutAround_19 : decode cX11_cutAround 19 = .ok (.aload_n 0, 1) := by decide +kernel
theorem dX11_cutAround_20 : decode cX11_cutAround 20 = .ok (.getfield 40, 3) := by decide +kernel
theorem dX11_cutAround_23 : decode cX11_cutAround 23 = .ok (.getfield 259, 3) := by decide +kernel
theorem dX11_cutAround_26 : decode cX11_cutAround 26 = .ok (.if_icmp .ge 47, 3) := by decide +kernel
theorem dX11_cutAround_29 : decode cX11_cutAround 29 = .ok (.aload_n 0, 1) := by decide +kernel
theorem dX11_cutAround_30 : decode cX11_cutAround 30 = .ok (.iload 4, 2) := by decide +kernel
theorem dX11_cutAround_32 : decode cX11_cutAround 32 = .ok (.invokevirtual 310, 3) := by decide +kernel
theorem dX11_cutAround_35 : decode cX11_cutAround 35 = .ok (.ifCond .eq 32, 3) := by decide +kernel
theorem dX11_cutAround_38 : decode cX11_cutAround 38 = .ok (.aload_n 0, 1) := by decide +kernel
theorem dX11_cutAround_39 : decode cX11_cutAround 39 = .ok (.getfield 40, 3) := by decide +kernel
theorem dX11_cutAround_42 : decode cX11_cutAround 42 = .ok (.iload 4, 2) := by decide +kernel
theorem dX11_cutAround_44 : decode cX11_cutAround 44 = .ok (.invokevirtual 354, 3) := by decide +kernel
theorem dX11_cutAround_47 : decode cX11_cutAround 47 = .ok (.iload_n 2, 1) := by decide +kernel
theorem dX11_cutAround_48 : decode cX11_cutAround 48 = .ok (.iand, 1) := by decide +kernel
theorem dX11_cutAround_49 : decode cX11_cutAround 49 = .ok (.ifCond .eq 18, 3) := by decide +kernel
theorem dX11_cutAround_52 : decode cX11_cutAround 52 = .ok (.iload_n 3, 1) := by decide +kernel
theorem dX11_cutAround_53 : decode cX11_cutAround 53 = .ok (.aload_n 0, 1) := by decide +kernel
theorem dX11_cutAround_54 : decode cX11_cutAround 54 = .ok (.getfield 40, 3) := by decide +kernel
theorem dX11_cutAround_57 : decode cX11_cutAround 57 = .ok (.getfield 307, 3) := by decide +kernel
theorem dX11_cutAround_60 : decode cX11_cutAround 60 = .ok (.iload 4, 2) := by decide +kernel
theorem dX11_cutAround_62 : decode cX11_cutAround 62 = .ok (.invokestatic 164, 3) := by decide +kernel
theorem dX11_cutAround_65 : decode cX11_cutAround 65 = .ok (.iadd, 1) := by decide +kernel
theorem dX11_cutAround_66 : decode cX11_cutAround 66 = .ok (.istore_n 3, 1) := by decide +kernel
theorem dX11_cutAround_67 : decode cX11_cutAround 67 = .ok (.iinc 4 1, 3) := by decide +kernel
theorem dX11_cutAround_70 : decode cX11_cutAround 70 = .ok (.goto (-53), 3) := by decide +kernel
theorem dX11_cutAround_73 : decode cX11_cutAround 73 = .ok (.iload_n 3, 1) := by decide +kernel
theorem dX11_cutAround_74 : decode cX11_cutAround 74 = .ok (.ireturn, 1) := by decide +kernel
set_option maxRecDepth 20000 in
theorem ggX11_cut_X4_take : GoodIn wsX11_cut wsX4_take := goodIn_r _ [9, 10, 11, 12, 13, 14, 15, 16, 17, 18, 19, 20, 21, 22, 23, 24, 25, 26, 27, 28, 29, 30, 31, 32, 33, 34, 35, 36, 37, 38, 8, 39, 40, 41, 42, 43, 44, 45, 46, 47, 48, 49, 50, 51, 52, 53, 54, 55, 56, 57, 58, 59, 60, 61, 62, 63, 64, 65, 66, 67, 68, 69, 70, 71, 72, 73, 92, 93, 94, 95, 96, 97, 98, 99, 100, 101, 102, 103, 104, 105, 106, 107, 108, 109, 110, 111, 112, 113, 114, 115, 116, 117, 118, 119, 120, 121, 122] (by decide +kernel) (by decide +kernel)
set_option maxRecDepth 20000 in
theorem gX11_cut_X4_take : GoodIn wsX11_cut (wsV RX11 333 RX4 yX4_take wsX4_take) := goodIn_app (goodIn_of _ (by decide +kernel)) ggX11_cut_X4_take
theorem dX11_cut_0 : decode cX11_cut 0 = .ok (.aload_n 0, 1) := by decide +kernel
theorem dX11_cut_1 : decode cX11_cut 1 = .ok (.getfield 73, 3) := by decide +kernel
theorem dX11_cut_4 : decode cX11_cut 4 = .ok (.aload_n 0, 1) := by decide +kernel
theorem dX11_cut_5 : decode cX11_cut 5 = .ok (.getfield 40, 3) := by decide +kernel
theorem dX11_cut_8 : decode cX11_cut 8 = .ok (.aload_n 0, 1) := by decide +kernel
theorem dX11_cut_9 : decode cX11_cut 9 = .ok (.getfield 53, 3) := by decide +kernel
theorem dX11_cut_12 : decode cX11_cut 12 = .ok (.invokevirtual 333, 3) := by decide +kernel
theorem dX11_cut_15 : decode cX11_cut 15 = .ok (.aload_n 0, 1) := by decide +kernel
theorem dX11_cut_16 : decode cX11_cut 16 = .ok (.getfield 73, 3) := by decide +kernel
theorem dX11_cut_19 : decode cX11_cut 19 = .ok (.getfield 357, 3) := by decide +kernel
theorem dX11_cut_22 : decode cX11_cut 22 = .ok (.ireturn, 1) := by decide +kernel
set_option maxRecDepth 20000 in
theorem ggX11_debts_X4_take : GoodIn wsX11_debts wsX4_take := goodIn_r _ [9, 10, 11, 12, 13, 14, 15, 16, 17, 18, 19, 20, 21, 22, 23, 24, 25, 26, 27, 28, 29, 30, 31, 32, 33, 34, 35, 36, 37, 38, 8, 39, 40, 41, 42, 43, 44, 45, 46, 47, 48, 49, 50, 51, 52, 53, 54, 55, 56, 57, 58, 59, 60, 61, 62, 63, 64, 65, 66, 67, 68, 69, 70, 71, 72, 73, 92, 93, 94, 95, 96, 97, 98, 99, 100, 101, 102, 103, 104, 105, 106, 107, 108, 109, 110, 111, 112, 113, 114, 115, 116, 117, 118, 119, 120, 121, 122] (by decide +kernel) (by decide +kernel)
set_option maxRecDepth 20000 in
theorem gX11_debts_X4_take : GoodIn wsX11_debts (wsV RX11 333 RX4 yX4_take wsX4_take) := goodIn_app (goodIn_of _ (by decide +kernel)) ggX11_debts_X4_take
theorem dX11_debts_0 : decode cX11_debts 0 = .ok (.aload_n 0, 1) := by decide +kernel
theorem dX11_debts_1 : decode cX11_debts 1 = .ok (.getfield 73, 3) := by decide +kernel
theorem dX11_debts_4 : decode cX11_debts 4 = .ok (.aload_n 0, 1) := by decide +kernel
theorem dX11_debts_5 : decode cX11_debts 5 = .ok (.getfield 40, 3) := by decide +kernel
theorem dX11_debts_8 : decode cX11_debts 8 = .ok (.aload_n 0, 1) := by decide +kernel
theorem dX11_debts_9 : decode cX11_debts 9 = .ok (.getfield 53, 3) := by decide +kernel
theorem dX11_debts_12 : decode cX11_debts 12 = .ok (.invokevirtual 333, 3) := by decide +kernel
theorem dX11_debts_15 : decode cX11_debts 15 = .ok (.aload_n 0, 1) := by decide +kernel
theorem dX11_debts_16 : decode cX11_debts 16 = .ok (.getfield 73, 3) := by decide +kernel
theorem dX11_debts_19 : decode cX11_debts 19 = .ok (.getfield 360, 3) := by decide +kernel
theorem dX11_debts_22 : decode cX11_debts 22 = .ok (.ireturn, 1) := by decide +kernel
set_option maxRecDepth 20000 in
theorem ggX11_border_X11_isCut : GoodIn wsX11_border wsX11_isCut := goodIn_r _ [7, 8, 9, 1, 10, 11, 12, 13, 6, 14, 22, 23, 24, 25, 26, 27, 28, 29, 30, 31, 32, 33, 34, 35, 36, 37, 38, 39, 52, 53, 54, 55, 56, 57, 58, 40, 41, 42, 43, 44, 45, 46, 47, 48, 49, 50, 51] (by decide +kernel) (by decide +kernel)
set_option maxRecDepth 20000 in
theorem gX11_border_X11_isCut : GoodIn wsX11_border (wsV RX11 310 RX11 yX11_isCut wsX11_isCut) := goodIn_app (goodIn_of _ (by decide +kernel)) ggX11_border_X11_isCut
set_option maxRecDepth 20000 in
theorem ggX11_border_X2_endsOf : GoodIn wsX11_border wsX2_endsOf := goodIn_r _ [19, 20, 21, 13, 6, 14, 40, 41, 42, 43, 44, 45, 46, 47, 48, 49, 50, 51] (by decide +kernel) (by decide +kernel)
set_option maxRecDepth 20000 in
theorem gX11_border_X2_endsOf : GoodIn wsX11_border (wsV RX11 354 RX2 yX2_endsOf wsX2_endsOf) := goodIn_app (goodIn_of _ (by decide +kernel)) ggX11_border_X2_endsOf
theorem dX11_border_0 : decode cX11_border 0 = .ok (.iconst 0, 1) := by decide +kernel
theorem dX11_border_1 : decode cX11_border 1 = .ok (.istore_n 1, 1) := by decide +kernel
theorem dX11_border_2 : decode cX11_border 2 = .ok (.iconst 0, 1) := by decide +kernel
theorem dX11_border_3 : decode cX11_border 3 = .ok (.istore_n 2, 1) := by decide +kernel
theorem dX11_border_4 : decode cX11_border 4 = .ok (.iload_n 2, 1) := by decide +kernel
theorem dX11_border_5 : decode cX11_border 5 = .ok (.aload_n 0, 1) := by decide +kernel
theorem dX11_border_6 : decode cX11_border 6 = .ok (.getfield 40, 3) := by decide +kernel
theorem dX11_border_9 : decode cX11_border 9 = .ok (.getfield 259, 3) := by decide +kernel
theorem dX11_border_12 : decode cX11_border 12 = .ok (.if_icmp .ge 28, 3) := by decide +kernel
theorem dX11_border_15 : decode cX11_border 15 = .ok (.aload_n 0, 1) := by decide +kernel
theorem dX11_border_16 : decode cX11_border 16 = .ok (.iload_n 2, 1) := by decide +kernel
theorem dX11_border_17 : decode cX11_border 17 = .ok (.invokevirtual 310, 3) := by decide +kernel
theorem dX11_border_20 : decode cX11_border 20 = .ok (.ifCond .eq 14, 3) := by decide +kernel
theorem dX11_border_23 : decode cX11_border 23 = .ok (.iload_n 1, 1) := by decide +kernel
theorem dX11_border_24 : decode cX11_border 24 = .ok (.aload_n 0, 1) := by decide +kernel
theorem dX11_border_25 : decode cX11_border 25 = .ok (.getfield 40, 3) := by decide +kernel
theorem dX11_border_28 : decode cX11_border 28 = .ok (.iload_n 2, 1) := by decide +kernel
theorem dX11_border_29 : decode cX11_border 29 = .ok (.invokevirtual 354, 3) := by decide +kernel
theorem dX11_border_32 : decode cX11_border 32 = .ok (.ior, 1) := by decide +kernel
theorem dX11_border_33 : decode cX11_border 33 = .ok (.istore_n 1, 1) := by decide +kernel
theorem dX11_border_34 : decode cX11_border 34 = .ok (.iinc 2 1, 3) := by decide +kernel
theorem dX11_border_37 : decode cX11_border 37 = .ok (.goto (-33), 3) := by decide +kernel
theorem dX11_border_40 : decode cX11_border 40 = .ok (.iload_n 1, 1) := by decide +kernel
theorem dX11_border_41 : decode cX11_border 41 = .ok (.ireturn, 1) := by decide +kernel
set_option maxRecDepth 20000 in
theorem ggX11_heaviest_X4_take : GoodIn wsX11_heaviest wsX4_take := goodIn_r _ [8, 9, 10, 11, 12, 13, 14, 15, 16, 17, 18, 19, 20, 21, 22, 23, 24, 25, 26, 27, 28, 29, 30, 31, 32, 33, 34, 35, 36, 37, 7, 38, 39, 40, 41, 42, 43, 44, 45, 46, 47, 48, 49, 50, 51, 52, 53, 54, 55, 56, 57, 58, 59, 60, 61, 62, 63, 64, 65, 66, 67, 68, 69, 70, 71, 72, 95, 96, 97, 98, 99, 100, 101, 102, 103, 104, 105, 106, 107, 108, 109, 110, 111, 112, 113, 114, 115, 116, 117, 118, 119, 120, 121, 122, 123, 124, 125] (by decide +kernel) (by decide +kernel)
set_option maxRecDepth 20000 in
theorem gX11_heaviest_X4_take : GoodIn wsX11_heaviest (wsV RX11 333 RX4 yX4_take wsX4_take) := goodIn_app (goodIn_of _ (by decide +kernel)) ggX11_heaviest_X4_take
set_option maxRecDepth 20000 in
theorem ggX11_heaviest_X4_heaviestPart : GoodIn wsX11_heaviest wsX4_heaviestPart := goodIn_r _ [76, 11, 16, 24, 25, 26, 95, 96, 97, 98, 99, 100, 101, 102, 103, 104, 105, 106] (by decide +kernel) (by decide +kernel)
set_option maxRecDepth 20000 in
theorem gX11_heaviest_X4_heaviestPart : GoodIn wsX11_heaviest (wsV RX11 363 RX4 yX4_heaviestPart wsX4_heaviestPart) := goodIn_app (goodIn_of _ (by decide +kernel)) ggX11_heaviest_X4_heaviestPart
theorem dX11_heaviest_0 : decode cX11_heaviest 0 = .ok (.aload_n 0, 1) := by decide +kernel
theorem dX11_heaviest_1 : decode cX11_heaviest 1 = .ok (.getfield 73, 3) := by decide +kernel
theorem dX11_heaviest_4 : decode cX11_heaviest 4 = .ok (.aload_n 0, 1) := by decide +kernel
theorem dX11_heaviest_5 : decode cX11_heaviest 5 = .ok (.getfield 40, 3) := by decide +kernel
theorem dX11_heaviest_8 : decode cX11_heaviest 8 = .ok (.aload_n 0, 1) := by decide +kernel
theorem dX11_heaviest_9 : decode cX11_heaviest 9 = .ok (.getfield 53, 3) := by decide +kernel
theorem dX11_heaviest_12 : decode cX11_heaviest 12 = .ok (.invokevirtual 333, 3) := by decide +kernel
theorem dX11_heaviest_15 : decode cX11_heaviest 15 = .ok (.aload_n 0, 1) := by decide +kernel
theorem dX11_heaviest_16 : decode cX11_heaviest 16 = .ok (.getfield 73, 3) := by decide +kernel
theorem dX11_heaviest_19 : decode cX11_heaviest 19 = .ok (.invokevirtual 363, 3) := by decide +kernel
theorem dX11_heaviest_22 : decode cX11_heaviest 22 = .ok (.ireturn, 1) := by decide +kernel
set_option maxRecDepth 20000 in
theorem ggX11_cutShare_X11_cut : GoodIn wsX11_cutShare wsX11_cut := goodIn_r _ [7, 8, 1, 9, 10, 11, 12, 13, 14, 15, 16, 17, 18, 19, 20, 21, 22, 23, 24, 25, 26, 27, 28, 29, 30, 31, 6, 32, 33, 34, 35, 36, 37, 38, 39, 40, 41, 42, 43, 44, 45, 46, 47, 48, 49, 50, 51, 52, 53, 54, 55, 56, 57, 58, 59, 60, 61, 62, 63, 64, 65, 66, 67, 68, 69, 70, 71, 72, 73, 74, 75, 76, 77, 78, 79, 80, 81, 82, 83, 84, 85, 86, 87, 88, 89, 90, 91, 92, 93, 94, 95, 96, 109, 110, 111, 112, 113, 114, 115, 116, 117, 118, 119, 120, 97, 98, 99, 100, 101, 102, 103, 104, 105, 106, 107, 108, 121, 122, 123, 124, 125, 126, 127] (by decide +kernel) (by decide +kernel)
set_option maxRecDepth 20000 in
theorem gX11_cutShare_X11_cut : GoodIn wsX11_cutShare (wsV RX11 366 RX11 yX11_cut wsX11_cut) := goodIn_app (goodIn_of _ (by decide +kernel)) ggX11_cutShare_X11_cut
theorem dX11_cutShare_0 : decode cX11_cutShare 0 = .ok (.aload_n 0, 1) := by decide +kernel
theorem dX11_cutShare_1 : decode cX11_cutShare 1 = .ok (.getfield 40, 3) := by decide +kernel
theorem dX11_cutShare_4 : decode cX11_cutShare 4 = .ok (.getfield 274, 3) := by decide +kernel
theorem dX11_cutShare_7 : decode cX11_cutShare 7 = .ok (.ifCond .ne 5, 3) := by decide +kernel
theorem dX11_cutShare_10 : decode cX11_cutShare 10 = .ok (.fconst 0, 1) := by decide +kernel
theorem dX11_cutShare_11 : decode cX11_cutShare 11 = .ok (.freturn, 1) := by decide +kernel
theorem dX11_cutShare_12 : decode cX11_cutShare 12 = .ok (.aload_n 0, 1) := by decide +kernel
theorem dX11_cutShare_13 : decode cX11_cutShare 13 = .ok (.invokevirtual 366, 3) := by decide +kernel
theorem dX11_cutShare_16 : decode cX11_cutShare 16 = .ok (.i2f, 1) := by decide +kernel
theorem dX11_cutShare_17 : decode cX11_cutShare 17 = .ok (.aload_n 0, 1) := by decide +kernel
theorem dX11_cutShare_18 : decode cX11_cutShare 18 = .ok (.getfield 40, 3) := by decide +kernel
theorem dX11_cutShare_21 : decode cX11_cutShare 21 = .ok (.getfield 274, 3) := by decide +kernel
theorem dX11_cutShare_24 : decode cX11_cutShare 24 = .ok (.i2f, 1) := by decide +kernel
theorem dX11_cutShare_25 : decode cX11_cutShare 25 = .ok (.fdiv, 1) := by decide +kernel
theorem dX11_cutShare_26 : decode cX11_cutShare 26 = .ok (.freturn, 1) := by decide +kernel
set_option maxRecDepth 20000 in
theorem ggX11_imbalance_X4_take : GoodIn wsX11_imbalance wsX4_take := goodIn_r _ [11, 12, 13, 14, 15, 16, 17, 18, 19, 20, 21, 22, 23, 24, 25, 26, 27, 28, 29, 30, 31, 32, 33, 34, 35, 36, 37, 38, 39, 40, 10, 41, 42, 43, 44, 45, 46, 47, 48, 49, 50, 51, 52, 53, 54, 55, 56, 57, 58, 59, 60, 61, 62, 63, 64, 65, 66, 67, 68, 69, 70, 71, 72, 73, 74, 75, 111, 112, 113, 114, 115, 116, 117, 118, 119, 120, 121, 122, 99, 100, 101, 102, 103, 104, 105, 106, 107, 108, 109, 110, 123, 124, 125, 126, 127, 128, 129] (by decide +kernel) (by decide +kernel)
set_option maxRecDepth 20000 in
theorem gX11_imbalance_X4_take : GoodIn wsX11_imbalance (wsV RX11 333 RX4 yX4_take wsX4_take) := goodIn_app (goodIn_of _ (by decide +kernel)) ggX11_imbalance_X4_take
set_option maxRecDepth 20000 in
theorem ggX11_imbalance_X4_heaviestPart : GoodIn wsX11_imbalance wsX4_heaviestPart := goodIn_r _ [79, 14, 19, 27, 28, 29, 111, 112, 113, 114, 115, 116, 117, 118, 119, 120, 121, 122] (by decide +kernel) (by decide +kernel)
set_option maxRecDepth 20000 in
theorem gX11_imbalance_X4_heaviestPart : GoodIn wsX11_imbalance (wsV RX11 363 RX4 yX4_heaviestPart wsX4_heaviestPart) := goodIn_app (goodIn_of _ (by decide +kernel)) ggX11_imbalance_X4_heaviestPart
set_option maxRecDepth 20000 in
theorem ggX11_imbalance_X11_at : GoodIn wsX11_imbalance wsX11_at := goodIn_r _ [29] (by decide +kernel) (by decide +kernel)
set_option maxRecDepth 20000 in
theorem gX11_imbalance_X11_at : GoodIn wsX11_imbalance (va_wsS RX11 164 yX11_at wsX11_at) := goodIn_app (goodIn_of _ (by decide +kernel)) ggX11_imbalance_X11_at
theorem dX11_imbalance_0 : decode cX11_imbalance 0 = .ok (.aload_n 0, 1) := by decide +kernel
theorem dX11_imbalance_1 : decode cX11_imbalance 1 = .ok (.getfield 40, 3) := by decide +kernel
theorem dX11_imbalance_4 : decode cX11_imbalance 4 = .ok (.getfield 271, 3) := by decide +kernel
theorem dX11_imbalance_7 : decode cX11_imbalance 7 = .ok (.ifCond .ne 5, 3) := by decide +kernel
theorem dX11_imbalance_10 : decode cX11_imbalance 10 = .ok (.dconst 0, 1) := by decide +kernel
theorem dX11_imbalance_11 : decode cX11_imbalance 11 = .ok (.dreturn, 1) := by decide +kernel
theorem dX11_imbalance_12 : decode cX11_imbalance 12 = .ok (.aload_n 0, 1) := by decide +kernel
theorem dX11_imbalance_13 : decode cX11_imbalance 13 = .ok (.getfield 73, 3) := by decide +kernel
theorem dX11_imbalance_16 : decode cX11_imbalance 16 = .ok (.aload_n 0, 1) := by decide +kernel
theorem dX11_imbalance_17 : decode cX11_imbalance 17 = .ok (.getfield 40, 3) := by decide +kernel
theorem dX11_imbalance_20 : decode cX11_imbalance 20 = .ok (.aload_n 0, 1) := by decide +kernel
theorem dX11_imbalance_21 : decode cX11_imbalance 21 = .ok (.getfield 53, 3) := by decide +kernel
theorem dX11_imbalance_24 : decode cX11_imbalance 24 = .ok (.invokevirtual 333, 3) := by decide +kernel
theorem dX11_imbalance_27 : decode cX11_imbalance 27 = .ok (.aload_n 0, 1) := by decide +kernel
theorem dX11_imbalance_28 : decode cX11_imbalance 28 = .ok (.getfield 73, 3) := by decide +kernel
theorem dX11_imbalance_31 : decode cX11_imbalance 31 = .ok (.getfield 337, 3) := by decide +kernel
theorem dX11_imbalance_34 : decode cX11_imbalance 34 = .ok (.aload_n 0, 1) := by decide +kernel
theorem dX11_imbalance_35 : decode cX11_imbalance 35 = .ok (.getfield 73, 3) := by decide +kernel
theorem dX11_imbalance_38 : decode cX11_imbalance 38 = .ok (.invokevirtual 363, 3) := by decide +kernel
theorem dX11_imbalance_41 : decode cX11_imbalance 41 = .ok (.invokestatic 164, 3) := by decide +kernel
theorem dX11_imbalance_44 : decode cX11_imbalance 44 = .ok (.istore_n 1, 1) := by decide +kernel
theorem dX11_imbalance_45 : decode cX11_imbalance 45 = .ok (.iload_n 1, 1) := by decide +kernel
theorem dX11_imbalance_46 : decode cX11_imbalance 46 = .ok (.aload_n 0, 1) := by decide +kernel
theorem dX11_imbalance_47 : decode cX11_imbalance 47 = .ok (.getfield 40, 3) := by decide +kernel
theorem dX11_imbalance_50 : decode cX11_imbalance 50 = .ok (.getfield 262, 3) := by decide +kernel
theorem dX11_imbalance_53 : decode cX11_imbalance 53 = .ok (.imul, 1) := by decide +kernel
theorem dX11_imbalance_54 : decode cX11_imbalance 54 = .ok (.i2d, 1) := by decide +kernel
theorem dX11_imbalance_55 : decode cX11_imbalance 55 = .ok (.aload_n 0, 1) := by decide +kernel
theorem dX11_imbalance_56 : decode cX11_imbalance 56 = .ok (.getfield 40, 3) := by decide +kernel
theorem dX11_imbalance_59 : decode cX11_imbalance 59 = .ok (.getfield 271, 3) := by decide +kernel
theorem dX11_imbalance_62 : decode cX11_imbalance 62 = .ok (.i2d, 1) := by decide +kernel
theorem dX11_imbalance_63 : decode cX11_imbalance 63 = .ok (.ddiv, 1) := by decide +kernel
theorem dX11_imbalance_64 : decode cX11_imbalance 64 = .ok (.dreturn, 1) := by decide +kernel
set_option maxRecDepth 20000 in
theorem ggX11_group_X11_requireGroup : GoodIn wsX11_group wsX11_requireGroup := goodIn_ca (goodIn_r _ [13, 14, 15, 16, 17, 18, 12, 19, 5, 20, 21, 22, 23, 24, 25, 26, 27, 28, 94, 95, 96, 97, 98, 99, 100, 101, 102, 103, 104, 105, 106, 107, 108, 109, 110, 111, 124, 125, 126, 127, 128, 129, 130] (by decide +kernel) (by decide +kernel)) (goodIn_sub (fun _ h => List.mem_cons_of_mem _ (List.mem_append_right _ h)) (by decide +kernel))
set_option maxRecDepth 20000 in
theorem gX11_group_X11_requireGroup : GoodIn wsX11_group (wsV RX11 369 RX11 yX11_requireGroup wsX11_requireGroup) := goodIn_app (goodIn_of _ (by decide +kernel)) ggX11_group_X11_requireGroup
set_option maxRecDepth 20000 in
theorem ggX11_group_X4_take : GoodIn wsX11_group wsX4_take := goodIn_r _ [33, 34, 35, 36, 37, 38, 39, 40, 41, 42, 21, 22, 23, 24, 25, 26, 27, 12, 28, 43, 44, 45, 46, 47, 48, 49, 50, 51, 52, 53, 32, 54, 55, 56, 57, 58, 59, 60, 61, 62, 63, 64, 65, 66, 67, 68, 69, 70, 71, 72, 73, 74, 75, 76, 77, 78, 79, 80, 81, 82, 83, 84, 85, 86, 87, 88, 112, 113, 114, 115, 116, 117, 118, 119, 120, 121, 122, 123, 131, 132, 133, 134, 135, 136, 137, 138, 139, 140, 141, 142, 124, 125, 126, 127, 128, 129, 130] (by decide +kernel) (by decide +kernel)
set_option maxRecDepth 20000 in
theorem gX11_group_X4_take : GoodIn wsX11_group (wsV RX11 333 RX4 yX4_take wsX4_take) := goodIn_app (goodIn_of _ (by decide +kernel)) ggX11_group_X4_take
set_option maxRecDepth 20000 in
theorem ggX11_group_X11_at : GoodIn wsX11_group wsX11_at := goodIn_r _ [28] (by decide +kernel) (by decide +kernel)
set_option maxRecDepth 20000 in
theorem gX11_group_X11_at : GoodIn wsX11_group (va_wsS RX11 164 yX11_at wsX11_at) := goodIn_app (goodIn_of _ (by decide +kernel)) ggX11_group_X11_at
set_option maxRecDepth 20000 in
theorem ggX11_group_X4_pullOfAll : GoodIn wsX11_group wsX4_pullOfAll := goodIn_r _ [93, 36, 79, 27, 12, 28, 112, 113, 114, 115, 116, 117, 118, 119, 120, 121, 122, 123] (by decide +kernel) (by decide +kernel)
set_option maxRecDepth 20000 in
theorem gX11_group_X4_pullOfAll : GoodIn wsX11_group (wsV RX11 381 RX4 yX4_pullOfAll wsX4_pullOfAll) := goodIn_app (goodIn_of _ (by decide +kernel)) ggX11_group_X4_pullOfAll
theorem dX11_group_0 : decode cX11_group 0 = .ok (.aload_n 0, 1) := by decide +kernel
theorem dX11_group_1 : decode cX11_group 1 = .ok (.iload_n 1, 1) := by decide +kernel
theorem dX11_group_2 : decode cX11_group 2 = .ok (.invokevirtual 369, 3) := by decide +kernel
theorem dX11_group_5 : decode cX11_group 5 = .ok (.aload_n 0, 1) := by decide +kernel
theorem dX11_group_6 : decode cX11_group 6 = .ok (.getfield 73, 3) := by decide +kernel
theorem dX11_group_9 : decode cX11_group 9 = .ok (.aload_n 0, 1) := by decide +kernel
theorem dX11_group_10 : decode cX11_group 10 = .ok (.getfield 40, 3) := by decide +kernel
theorem dX11_group_13 : decode cX11_group 13 = .ok (.aload_n 0, 1) := by decide +kernel
theorem dX11_group_14 : decode cX11_group 14 = .ok (.getfield 53, 3) := by decide +kernel
theorem dX11_group_17 : decode cX11_group 17 = .ok (.invokevirtual 333, 3) := by decide +kernel
theorem dX11_group_20 : decode cX11_group 20 = .ok (.iload_n 2, 1) := by decide +kernel
theorem dX11_group_21 : decode cX11_group 21 = .ok (.tableswitch 76 0 3 #[31, 43, 55, 67], 31) := by decide +kernel
theorem dX11_group_52 : decode cX11_group 52 = .ok (.aload_n 0, 1) := by decide +kernel
theorem dX11_group_53 : decode cX11_group 53 = .ok (.getfield 73, 3) := by decide +kernel
theorem dX11_group_56 : decode cX11_group 56 = .ok (.getfield 372, 3) := by decide +kernel
theorem dX11_group_59 : decode cX11_group 59 = .ok (.iload_n 1, 1) := by decide +kernel
theorem dX11_group_60 : decode cX11_group 60 = .ok (.invokestatic 164, 3) := by decide +kernel
theorem dX11_group_63 : decode cX11_group 63 = .ok (.ireturn, 1) := by decide +kernel
theorem dX11_group_64 : decode cX11_group 64 = .ok (.aload_n 0, 1) := by decide +kernel
theorem dX11_group_65 : decode cX11_group 65 = .ok (.getfield 73, 3) := by decide +kernel
theorem dX11_group_68 : decode cX11_group 68 = .ok (.getfield 375, 3) := by decide +kernel
theorem dX11_group_71 : decode cX11_group 71 = .ok (.iload_n 1, 1) := by decide +kernel
theorem dX11_group_72 : decode cX11_group 72 = .ok (.invokestatic 164, 3) := by decide +kernel
theorem dX11_group_75 : decode cX11_group 75 = .ok (.ireturn, 1) := by decide +kernel
theorem dX11_group_76 : decode cX11_group 76 = .ok (.aload_n 0, 1) := by decide +kernel
theorem dX11_group_77 : decode cX11_group 77 = .ok (.getfield 73, 3) := by decide +kernel
theorem dX11_group_80 : decode cX11_group 80 = .ok (.getfield 378, 3) := by decide +kernel
theorem dX11_group_83 : decode cX11_group 83 = .ok (.iload_n 1, 1) := by decide +kernel
theorem dX11_group_84 : decode cX11_group 84 = .ok (.invokestatic 164, 3) := by decide +kernel
theorem dX11_group_87 : decode cX11_group 87 = .ok (.ireturn, 1) := by decide +kernel
theorem dX11_group_88 : decode cX11_group 88 = .ok (.aload_n 0, 1) := by decide +kernel
theorem dX11_group_89 : decode cX11_group 89 = .ok (.getfield 73, 3) := by decide +kernel
theorem dX11_group_92 : decode cX11_group 92 = .ok (.iload_n 1, 1) := by decide +kernel
theorem dX11_group_93 : decode cX11_group 93 = .ok (.invokevirtual 381, 3) := by decide +kernel
theorem dX11_group_96 : decode cX11_group 96 = .ok (.ireturn, 1) := by decide +kernel
theorem dX11_group_97 : decode cX11_group 97 = .ok (.new 117, 3) := by decide +kernel
theorem dX11_group_100 : decode cX11_group 100 = .ok (.dup, 1) := by decide +kernel
theorem dX11_group_101 : decode cX11_group 101 = .ok (.ldc_w 384, 3) := by decide +kernel
theorem dX11_group_104 : decode cX11_group 104 = .ok (.invokespecial 121, 3) := by decide +kernel
theorem dX11_group_107 : decode cX11_group 107 = .ok (.athrow, 1) := by decide +kernel
set_option maxRecDepth 20000 in
theorem ggX11_groupOf_X11_requireVertex : GoodIn wsX11_groupOf wsX11_requireVertex := goodIn_ca (goodIn_r _ [7, 8, 9, 10, 11, 12, 6, 13, 14, 15, 25, 26, 27, 28, 29, 30, 31, 32, 33, 34, 35, 36, 37, 38, 39, 40, 41, 42, 50, 51, 52, 53, 54, 55, 56, 57, 58, 59, 60, 61] (by decide +kernel) (by decide +kernel)) (goodIn_sub (fun _ h => List.mem_cons_of_mem _ (List.mem_append_right _ h)) (by decide +kernel))
set_option maxRecDepth 20000 in
theorem gX11_groupOf_X11_requireVertex : GoodIn wsX11_groupOf (wsV RX11 297 RX11 yX11_requireVertex wsX11_requireVertex) := goodIn_app (goodIn_of _ (by decide +kernel)) ggX11_groupOf_X11_requireVertex
set_option maxRecDepth 20000 in
theorem ggX11_groupOf_X8_groupRow : GoodIn wsX11_groupOf wsX8_groupRow := goodIn_r _ [20, 21, 43, 44, 45, 46, 47, 48, 49] (by decide +kernel) (by decide +kernel)
set_option maxRecDepth 20000 in
theorem gX11_groupOf_X8_groupRow : GoodIn wsX11_groupOf (wsV RX11 389 RX8 yX8_groupRow wsX8_groupRow) := goodIn_app (goodIn_of _ (by decide +kernel)) ggX11_groupOf_X8_groupRow
set_option maxRecDepth 20000 in
theorem ggX11_groupOf_X11_at : GoodIn wsX11_groupOf wsX11_at := goodIn_r _ [24] (by decide +kernel) (by decide +kernel)
set_option maxRecDepth 20000 in
theorem gX11_groupOf_X11_at : GoodIn wsX11_groupOf (va_wsS RX11 164 yX11_at wsX11_at) := goodIn_app (goodIn_of _ (by decide +kernel)) ggX11_groupOf_X11_at
theorem dX11_groupOf_0 : decode cX11_groupOf 0 = .ok (.aload_n 0, 1) := by decide +kernel
theorem dX11_groupOf_1 : decode cX11_groupOf 1 = .ok (.iload_n 1, 1) := by decide +kernel
theorem dX11_groupOf_2 : decode cX11_groupOf 2 = .ok (.invokevirtual 297, 3) := by decide +kernel
theorem dX11_groupOf_5 : decode cX11_groupOf 5 = .ok (.aload_n 0, 1) := by decide +kernel
theorem dX11_groupOf_6 : decode cX11_groupOf 6 = .ok (.getfield 53, 3) := by decide +kernel
theorem dX11_groupOf_9 : decode cX11_groupOf 9 = .ok (.getfield 386, 3) := by decide +kernel
theorem dX11_groupOf_12 : decode cX11_groupOf 12 = .ok (.aload_n 0, 1) := by decide +kernel
theorem dX11_groupOf_13 : decode cX11_groupOf 13 = .ok (.getfield 53, 3) := by decide +kernel
theorem dX11_groupOf_16 : decode cX11_groupOf 16 = .ok (.invokevirtual 389, 3) := by decide +kernel
theorem dX11_groupOf_19 : decode cX11_groupOf 19 = .ok (.iload_n 1, 1) := by decide +kernel
theorem dX11_groupOf_20 : decode cX11_groupOf 20 = .ok (.iadd, 1) := by decide +kernel
theorem dX11_groupOf_21 : decode cX11_groupOf 21 = .ok (.invokestatic 164, 3) := by decide +kernel
theorem dX11_groupOf_24 : decode cX11_groupOf 24 = .ok (.ireturn, 1) := by decide +kernel
set_option maxRecDepth 20000 in
theorem ggX11_whyNotShrink_X11_findPairs : GoodIn wsX11_whyNotShrink wsX11_findPairs := goodIn_r _ [9, 10, 11, 1, 3, 12, 13, 14, 15, 16, 17, 18, 19, 20, 21, 22, 23, 24, 25, 26, 27, 28, 29, 30, 31, 32, 8, 33, 34, 35, 36, 37, 38, 39, 40, 41, 42, 43, 44, 45, 46, 47, 48, 49, 50, 51, 52, 53, 54, 55, 56, 57, 58, 59, 60, 61, 62, 63, 64, 65, 66, 67, 68, 69, 70, 71, 72, 73, 74, 75, 76, 77, 78, 79, 80, 81, 82, 83, 84, 85, 86, 87, 88, 89, 90, 91, 92, 93, 94, 95, 96, 97, 98, 99, 100, 101, 102, 103, 104, 105, 106, 107, 108, 109, 110, 111, 112, 113, 114, 115, 116, 117, 118, 119, 120, 121, 122, 123, 124, 137, 138, 139, 140, 141, 142, 143, 144, 145, 146, 147, 148, 149, 150, 151, 152, 153, 154, 155, 156, 157, 158, 159, 160, 125, 126, 127, 128, 129, 130, 131, 132, 133, 134, 135, 136] (by decide +kernel) (by decide +kernel)
set_option maxRecDepth 20000 in
theorem gX11_whyNotShrink_X11_findPairs : GoodIn wsX11_whyNotShrink (wsV RX11 392 RX11 yX11_findPairs wsX11_findPairs) := goodIn_app (goodIn_of _ (by decide +kernel)) ggX11_whyNotShrink_X11_findPairs
theorem dX11_whyNotShrink_0 : decode cX11_whyNotShrink 0 = .ok (.aload_n 0, 1) := by decide +kernel
theorem dX11_whyNotShrink_1 : decode cX11_whyNotShrink 1 = .ok (.getfield 53, 3) := by decide +kernel
theorem dX11_whyNotShrink_4 : decode cX11_whyNotShrink 4 = .ok (.getfield 192, 3) := by decide +kernel
theorem dX11_whyNotShrink_7 : decode cX11_whyNotShrink 7 = .ok (.iconst 4, 1) := by decide +kernel
theorem dX11_whyNotShrink_8 : decode cX11_whyNotShrink 8 = .ok (.if_icmp .lt 5, 3) := by decide +kernel
theorem dX11_whyNotShrink_11 : decode cX11_whyNotShrink 11 = .ok (.iconst 1, 1) := by decide +kernel
theorem dX11_whyNotShrink_12 : decode cX11_whyNotShrink 12 = .ok (.ireturn, 1) := by decide +kernel
theorem dX11_whyNotShrink_13 : decode cX11_whyNotShrink 13 = .ok (.aload_n 0, 1) := by decide +kernel
theorem dX11_whyNotShrink_14 : decode cX11_whyNotShrink 14 = .ok (.invokevirtual 392, 3) := by decide +kernel
theorem dX11_whyNotShrink_17 : decode cX11_whyNotShrink 17 = .ok (.aload_n 0, 1) := by decide +kernel
theorem dX11_whyNotShrink_18 : decode cX11_whyNotShrink 18 = .ok (.getfield 80, 3) := by decide +kernel
theorem dX11_whyNotShrink_21 : decode cX11_whyNotShrink 21 = .ok (.getfield 395, 3) := by decide +kernel
theorem dX11_whyNotShrink_24 : decode cX11_whyNotShrink 24 = .ok (.ifCond .eq 7, 3) := by decide +kernel
theorem dX11_whyNotShrink_27 : decode cX11_whyNotShrink 27 = .ok (.iconst 0, 1) := by decide +kernel
theorem dX11_whyNotShrink_28 : decode cX11_whyNotShrink 28 = .ok (.goto 4, 3) := by decide +kernel
theorem dX11_whyNotShrink_31 : decode cX11_whyNotShrink 31 = .ok (.iconst 2, 1) := by decide +kernel
theorem dX11_whyNotShrink_32 : decode cX11_whyNotShrink 32 = .ok (.ireturn, 1) := by decide +kernel
set_option maxRecDepth 20000 in
theorem ggX11_findPairs_X4_take : GoodIn wsX11_findPairs wsX4_take := goodIn_r _ [9, 10, 11, 12, 13, 14, 15, 16, 17, 18, 19, 20, 21, 22, 23, 24, 25, 26, 27, 28, 29, 30, 31, 32, 33, 34, 35, 36, 37, 38, 8, 39, 40, 41, 42, 43, 44, 45, 46, 47, 48, 49, 50, 51, 52, 53, 54, 55, 56, 57, 58, 59, 60, 61, 62, 63, 64, 65, 66, 67, 68, 69, 70, 71, 72, 73, 119, 120, 121, 122, 123, 124, 125, 126, 127, 128, 129, 130, 131, 132, 133, 134, 135, 136, 137, 138, 139, 140, 141, 142, 143, 144, 145, 146, 147, 148, 149] (by decide +kernel) (by decide +kernel)
set_option maxRecDepth 20000 in
theorem gX11_findPairs_X4_take : GoodIn wsX11_findPairs (wsV RX11 333 RX4 yX4_take wsX4_take) := goodIn_app (goodIn_of _ (by decide +kernel)) ggX11_findPairs_X4_take
set_option maxRecDepth 20000 in
theorem ggX11_findPairs_X5_join : GoodIn wsX11_findPairs wsX5_join := goodIn_r _ [78, 79, 80, 81, 82, 83, 84, 85, 49, 50, 51, 86, 53, 54, 21, 55, 24, 25, 26, 27, 56, 57, 150, 151, 152, 153, 154, 131, 132, 133, 134, 135, 136, 137, 138, 139, 140, 141, 142, 143, 144, 145, 146, 147, 148, 149] (by decide +kernel) (by decide +kernel)
set_option maxRecDepth 20000 in
theorem gX11_findPairs_X5_join : GoodIn wsX11_findPairs (wsV RX11 399 RX5 yX5_join wsX5_join) := goodIn_app (goodIn_of _ (by decide +kernel)) ggX11_findPairs_X5_join
set_option maxRecDepth 20000 in
theorem ggX11_findPairs_X5_findMates : GoodIn wsX11_findPairs wsX5_findMates := goodIn_r _ [90, 91, 92, 93, 85, 49, 50, 51, 25, 26, 27, 94, 95, 96, 77, 97, 98, 99, 100, 79, 58, 59, 150, 151, 152, 153, 154, 119, 120, 121, 122, 123, 124, 125, 126, 127, 128, 129, 130] (by decide +kernel) (by decide +kernel)
set_option maxRecDepth 20000 in
theorem gX11_findPairs_X5_findMates : GoodIn wsX11_findPairs (wsV RX11 402 RX5 yX5_findMates wsX5_findMates) := goodIn_app (goodIn_of _ (by decide +kernel)) ggX11_findPairs_X5_findMates
theorem dX11_findPairs_0 : decode cX11_findPairs 0 = .ok (.aload_n 0, 1) := by decide +kernel
theorem dX11_findPairs_1 : decode cX11_findPairs 1 = .ok (.getfield 73, 3) := by decide +kernel
theorem dX11_findPairs_4 : decode cX11_findPairs 4 = .ok (.aload_n 0, 1) := by decide +kernel
theorem dX11_findPairs_5 : decode cX11_findPairs 5 = .ok (.getfield 40, 3) := by decide +kernel
theorem dX11_findPairs_8 : decode cX11_findPairs 8 = .ok (.aload_n 0, 1) := by decide +kernel
theorem dX11_findPairs_9 : decode cX11_findPairs 9 = .ok (.getfield 53, 3) := by decide +kernel
theorem dX11_findPairs_12 : decode cX11_findPairs 12 = .ok (.invokevirtual 333, 3) := by decide +kernel
theorem dX11_findPairs_15 : decode cX11_findPairs 15 = .ok (.aload_n 0, 1) := by decide +kernel
theorem dX11_findPairs_16 : decode cX11_findPairs 16 = .ok (.getfield 80, 3) := by decide +kernel
theorem dX11_findPairs_19 : decode cX11_findPairs 19 = .ok (.aload_n 0, 1) := by decide +kernel
theorem dX11_findPairs_20 : decode cX11_findPairs 20 = .ok (.getfield 40, 3) := by decide +kernel
theorem dX11_findPairs_23 : decode cX11_findPairs 23 = .ok (.aload_n 0, 1) := by decide +kernel
theorem dX11_findPairs_24 : decode cX11_findPairs 24 = .ok (.getfield 53, 3) := by decide +kernel
theorem dX11_findPairs_27 : decode cX11_findPairs 27 = .ok (.invokevirtual 399, 3) := by decide +kernel
theorem dX11_findPairs_30 : decode cX11_findPairs 30 = .ok (.aload_n 0, 1) := by decide +kernel
theorem dX11_findPairs_31 : decode cX11_findPairs 31 = .ok (.getfield 80, 3) := by decide +kernel
theorem dX11_findPairs_34 : decode cX11_findPairs 34 = .ok (.aload_n 0, 1) := by decide +kernel
theorem dX11_findPairs_35 : decode cX11_findPairs 35 = .ok (.getfield 73, 3) := by decide +kernel
theorem dX11_findPairs_38 : decode cX11_findPairs 38 = .ok (.invokevirtual 402, 3) := by decide +kernel
theorem dX11_findPairs_41 : decode cX11_findPairs 41 = .ok (.return_, 1) := by decide +kernel
set_option maxRecDepth 20000 in
theorem ggX11_mate_X11_requireGroup : GoodIn wsX11_mate wsX11_requireGroup := goodIn_ca (goodIn_r _ [7, 8, 9, 10, 11, 12, 6, 13, 14, 15, 16, 17, 18, 19, 20, 21, 22, 23, 118, 119, 120, 121, 122, 123, 124, 125, 126, 127, 128, 129, 130, 131, 132, 133, 134, 135, 141, 142, 143, 144, 145, 146, 147] (by decide +kernel) (by decide +kernel)) (goodIn_sub (fun _ h => List.mem_cons_of_mem _ (List.mem_append_right _ h)) (by decide +kernel))
set_option maxRecDepth 20000 in
theorem gX11_mate_X11_requireGroup : GoodIn wsX11_mate (wsV RX11 369 RX11 yX11_requireGroup wsX11_requireGroup) := goodIn_app (goodIn_of _ (by decide +kernel)) ggX11_mate_X11_requireGroup
set_option maxRecDepth 20000 in
theorem ggX11_mate_X11_findPairs : GoodIn wsX11_mate wsX11_findPairs := goodIn_r _ [27, 28, 29, 14, 1, 30, 31, 32, 33, 34, 35, 36, 37, 38, 39, 40, 41, 42, 43, 16, 17, 18, 19, 20, 21, 22, 6, 23, 44, 45, 46, 47, 48, 49, 50, 51, 52, 53, 54, 55, 56, 57, 58, 59, 60, 61, 62, 63, 64, 65, 66, 67, 68, 69, 70, 71, 72, 73, 74, 75, 76, 77, 78, 79, 80, 81, 82, 83, 84, 85, 86, 87, 88, 89, 90, 91, 92, 93, 94, 95, 96, 97, 98, 99, 100, 101, 102, 103, 104, 105, 106, 107, 108, 109, 110, 111, 112, 113, 114, 115, 116, 118, 119, 120, 121, 122, 123, 124, 125, 126, 127, 128, 129, 130, 131, 132, 133, 134, 135, 148, 149, 150, 151, 152, 153, 154, 155, 156, 157, 158, 159, 160, 161, 162, 163, 164, 165, 166, 167, 168, 169, 170, 171, 141, 142, 143, 144, 145, 146, 147, 136, 137, 138, 139, 140] (by decide +kernel) (by decide +kernel)
set_option maxRecDepth 20000 in
theorem gX11_mate_X11_findPairs : GoodIn wsX11_mate (wsV RX11 392 RX11 yX11_findPairs wsX11_findPairs) := goodIn_app (goodIn_of _ (by decide +kernel)) ggX11_mate_X11_findPairs
set_option maxRecDepth 20000 in
theorem ggX11_mate_X11_at : GoodIn wsX11_mate wsX11_at := goodIn_r _ [23] (by decide +kernel) (by decide +kernel)
set_option maxRecDepth 20000 in
theorem gX11_mate_X11_at : GoodIn wsX11_mate (va_wsS RX11 164 yX11_at wsX11_at) := goodIn_app (goodIn_of _ (by decide +kernel)) ggX11_mate_X11_at
theorem dX11_mate_0 : decode cX11_mate 0 = .ok (.aload_n 0, 1) := by decide +kernel
theorem dX11_mate_1 : decode cX11_mate 1 = .ok (.iload_n 1, 1) := by decide +kernel
theorem dX11_mate_2 : decode cX11_mate 2 = .ok (.invokevirtual 369, 3) := by decide +kernel
theorem dX11_mate_5 : decode cX11_mate 5 = .ok (.aload_n 0, 1) := by decide +kernel
theorem dX11_mate_6 : decode cX11_mate 6 = .ok (.invokevirtual 392, 3) := by decide +kernel
theorem dX11_mate_9 : decode cX11_mate 9 = .ok (.aload_n 0, 1) := by decide +kernel
theorem dX11_mate_10 : decode cX11_mate 10 = .ok (.getfield 80, 3) := by decide +kernel
theorem dX11_mate_13 : decode cX11_mate 13 = .ok (.getfield 406, 3) := by decide +kernel
theorem dX11_mate_16 : decode cX11_mate 16 = .ok (.iload_n 1, 1) := by decide +kernel
theorem dX11_mate_17 : decode cX11_mate 17 = .ok (.invokestatic 164, 3) := by decide +kernel
theorem dX11_mate_20 : decode cX11_mate 20 = .ok (.ireturn, 1) := by decide +kernel
set_option maxRecDepth 20000 in
theorem ggX11_gain_X11_requireGroup : GoodIn wsX11_gain wsX11_requireGroup := goodIn_ca (goodIn_r _ [8, 9, 10, 11, 12, 13, 7, 14, 3, 15, 16, 17, 18, 19, 20, 21, 22, 23, 97, 98, 99, 100, 101, 102, 103, 104, 105, 106, 107, 108, 109, 110, 111, 112, 113, 114, 115, 116, 117, 118, 119, 120, 121] (by decide +kernel) (by decide +kernel)) (goodIn_sub (fun _ h => List.mem_cons_of_mem _ (List.mem_append_right _ h)) (by decide +kernel))
set_option maxRecDepth 20000 in
theorem gX11_gain_X11_requireGroup : GoodIn wsX11_gain (wsV RX11 369 RX11 yX11_requireGroup wsX11_requireGroup) := goodIn_app (goodIn_of _ (by decide +kernel)) ggX11_gain_X11_requireGroup
set_option maxRecDepth 20000 in
theorem ggX11_gain_X11_requirePart : GoodIn wsX11_gain wsX11_requirePart := goodIn_ca (goodIn_r _ [27, 9, 10, 28, 29, 30, 7, 31, 2, 32, 97, 98, 99, 100, 101, 102, 103, 104, 105, 106, 107, 108, 109, 110, 111, 112, 113, 114, 122, 123, 124, 125, 126, 127, 128, 129, 130, 131, 132, 133] (by decide +kernel) (by decide +kernel)) (goodIn_sub (fun _ h => List.mem_cons_of_mem _ (List.mem_append_right _ h)) (by decide +kernel))
set_option maxRecDepth 20000 in
theorem gX11_gain_X11_requirePart : GoodIn wsX11_gain (wsV RX11 330 RX11 yX11_requirePart wsX11_requirePart) := goodIn_app (goodIn_of _ (by decide +kernel)) ggX11_gain_X11_requirePart
set_option maxRecDepth 20000 in
theorem ggX11_gain_X4_take : GoodIn wsX11_gain wsX4_take := goodIn_r _ [37, 38, 39, 40, 41, 42, 43, 44, 45, 46, 16, 17, 18, 19, 20, 21, 22, 7, 23, 47, 48, 49, 50, 51, 52, 53, 54, 55, 56, 57, 36, 58, 59, 60, 61, 62, 63, 64, 65, 66, 67, 68, 69, 70, 71, 72, 73, 74, 75, 76, 77, 78, 79, 80, 81, 82, 83, 84, 85, 86, 87, 88, 89, 90, 91, 92, 134, 135, 136, 137, 138, 139, 140, 141, 142, 143, 144, 145, 122, 123, 124, 125, 126, 127, 128, 129, 130, 131, 132, 133, 115, 116, 117, 118, 119, 120, 121] (by decide +kernel) (by decide +kernel)
set_option maxRecDepth 20000 in
theorem gX11_gain_X4_take : GoodIn wsX11_gain (wsV RX11 333 RX4 yX4_take wsX4_take) := goodIn_app (goodIn_of _ (by decide +kernel)) ggX11_gain_X4_take
set_option maxRecDepth 20000 in
theorem ggX11_gain_X4_gainOf : GoodIn wsX11_gain wsX4_gainOf := goodIn_r _ [96, 83, 66, 22, 7, 23, 134, 135, 136, 137, 138, 139, 140, 141, 142, 143, 144, 145] (by decide +kernel) (by decide +kernel)
set_option maxRecDepth 20000 in
theorem gX11_gain_X4_gainOf : GoodIn wsX11_gain (wsV RX11 409 RX4 yX4_gainOf wsX4_gainOf) := goodIn_app (goodIn_of _ (by decide +kernel)) ggX11_gain_X4_gainOf
theorem dX11_gain_0 : decode cX11_gain 0 = .ok (.aload_n 0, 1) := by decide +kernel
theorem dX11_gain_1 : decode cX11_gain 1 = .ok (.iload_n 1, 1) := by decide +kernel
theorem dX11_gain_2 : decode cX11_gain 2 = .ok (.invokevirtual 369, 3) := by decide +kernel
theorem dX11_gain_5 : decode cX11_gain 5 = .ok (.aload_n 0, 1) := by decide +kernel
theorem dX11_gain_6 : decode cX11_gain 6 = .ok (.iload_n 2, 1) := by decide +kernel
theorem dX11_gain_7 : decode cX11_gain 7 = .ok (.invokevirtual 330, 3) := by decide +kernel
theorem dX11_gain_10 : decode cX11_gain 10 = .ok (.aload_n 0, 1) := by decide +kernel
theorem dX11_gain_11 : decode cX11_gain 11 = .ok (.getfield 73, 3) := by decide +kernel
theorem dX11_gain_14 : decode cX11_gain 14 = .ok (.aload_n 0, 1) := by decide +kernel
theorem dX11_gain_15 : decode cX11_gain 15 = .ok (.getfield 40, 3) := by decide +kernel
theorem dX11_gain_18 : decode cX11_gain 18 = .ok (.aload_n 0, 1) := by decide +kernel
theorem dX11_gain_19 : decode cX11_gain 19 = .ok (.getfield 53, 3) := by decide +kernel
theorem dX11_gain_22 : decode cX11_gain 22 = .ok (.invokevirtual 333, 3) := by decide +kernel
theorem dX11_gain_25 : decode cX11_gain 25 = .ok (.aload_n 0, 1) := by decide +kernel
theorem dX11_gain_26 : decode cX11_gain 26 = .ok (.getfield 73, 3) := by decide +kernel
theorem dX11_gain_29 : decode cX11_gain 29 = .ok (.iload_n 1, 1) := by decide +kernel
theorem dX11_gain_30 : decode cX11_gain 30 = .ok (.iload_n 2, 1) := by decide +kernel
theorem dX11_gain_31 : decode cX11_gain 31 = .ok (.invokevirtual 409, 3) := by decide +kernel
theorem dX11_gain_34 : decode cX11_gain 34 = .ok (.ireturn, 1) := by decide +kernel
set_option maxRecDepth 20000 in
theorem ggX11_whyNotMove_X11_requireGroup : GoodIn wsX11_whyNotMove wsX11_requireGroup := goodIn_ca (goodIn_r _ [8, 9, 10, 11, 12, 13, 7, 14, 3, 15, 16, 17, 18, 19, 20, 21, 22, 23, 105, 106, 107, 108, 109, 110, 111, 112, 113, 114, 115, 116, 117, 118, 119, 120, 121, 122, 123, 124, 125, 126, 127, 128, 129] (by decide +kernel) (by decide +kernel)) (goodIn_sub (fun _ h => List.mem_cons_of_mem _ (List.mem_append_right _ h)) (by decide +kernel))
set_option maxRecDepth 20000 in
theorem gX11_whyNotMove_X11_requireGroup : GoodIn wsX11_whyNotMove (wsV RX11 369 RX11 yX11_requireGroup wsX11_requireGroup) := goodIn_app (goodIn_of _ (by decide +kernel)) ggX11_whyNotMove_X11_requireGroup
set_option maxRecDepth 20000 in
theorem ggX11_whyNotMove_X11_requirePart : GoodIn wsX11_whyNotMove wsX11_requirePart := goodIn_ca (goodIn_r _ [27, 9, 10, 28, 29, 30, 7, 31, 2, 32, 105, 106, 107, 108, 109, 110, 111, 112, 113, 114, 115, 116, 117, 118, 119, 120, 121, 122, 130, 131, 132, 133, 134, 135, 136, 137, 138, 139, 140, 141] (by decide +kernel) (by decide +kernel)) (goodIn_sub (fun _ h => List.mem_cons_of_mem _ (List.mem_append_right _ h)) (by decide +kernel))
set_option maxRecDepth 20000 in
theorem gX11_whyNotMove_X11_requirePart : GoodIn wsX11_whyNotMove (wsV RX11 330 RX11 yX11_requirePart wsX11_requirePart) := goodIn_app (goodIn_of _ (by decide +kernel)) ggX11_whyNotMove_X11_requirePart
set_option maxRecDepth 20000 in
theorem ggX11_whyNotMove_X4_take : GoodIn wsX11_whyNotMove wsX4_take := goodIn_r _ [37, 38, 39, 40, 41, 42, 43, 44, 45, 46, 16, 17, 18, 19, 20, 21, 22, 7, 23, 47, 48, 49, 50, 51, 52, 53, 54, 55, 56, 57, 36, 58, 59, 60, 61, 62, 63, 64, 65, 66, 67, 68, 69, 70, 71, 72, 73, 74, 75, 76, 77, 78, 79, 80, 81, 82, 83, 84, 85, 86, 87, 88, 89, 90, 91, 92, 142, 143, 144, 145, 146, 147, 148, 149, 150, 151, 152, 153, 130, 131, 132, 133, 134, 135, 136, 137, 138, 139, 140, 141, 123, 124, 125, 126, 127, 128, 129] (by decide +kernel) (by decide +kernel)
set_option maxRecDepth 20000 in
theorem gX11_whyNotMove_X4_take : GoodIn wsX11_whyNotMove (wsV RX11 333 RX4 yX4_take wsX4_take) := goodIn_app (goodIn_of _ (by decide +kernel)) ggX11_whyNotMove_X4_take
set_option maxRecDepth 20000 in
theorem ggX11_whyNotMove_X4_reasonAgainst : GoodIn wsX11_whyNotMove wsX4_reasonAgainst := goodIn_r _ [96, 66, 22, 7, 23, 97, 98, 99, 36, 100, 44, 60, 45, 89, 90, 91, 92, 41, 101, 102, 103, 104, 43, 142, 143, 144, 145, 146, 147, 148, 149, 150, 151, 152, 153] (by decide +kernel) (by decide +kernel)
set_option maxRecDepth 20000 in
theorem gX11_whyNotMove_X4_reasonAgainst : GoodIn wsX11_whyNotMove (wsV RX11 412 RX4 yX4_reasonAgainst wsX4_reasonAgainst) := goodIn_app (goodIn_of _ (by decide +kernel)) ggX11_whyNotMove_X4_reasonAgainst
theorem dX11_whyNotMove_0 : decode cX11_whyNotMove 0 = .ok (.aload_n 0, 1) := by decide +kernel
theorem dX11_whyNotMove_1 : decode cX11_whyNotMove 1 = .ok (.iload_n 1, 1) := by decide +kernel
theorem dX11_whyNotMove_2 : decode cX11_whyNotMove 2 = .ok (.invokevirtual 369, 3) := by decide +kernel
theorem dX11_whyNotMove_5 : decode cX11_whyNotMove 5 = .ok (.aload_n 0, 1) := by decide +kernel
theorem dX11_whyNotMove_6 : decode cX11_whyNotMove 6 = .ok (.iload_n 2, 1) := by decide +kernel
theorem dX11_whyNotMove_7 : decode cX11_whyNotMove 7 = .ok (.invokevirtual 330, 3) := by decide +kernel
theorem dX11_whyNotMove_10 : decode cX11_whyNotMove 10 = .ok (.aload_n 0, 1) := by decide +kernel
theorem dX11_whyNotMove_11 : decode cX11_whyNotMove 11 = .ok (.getfield 73, 3) := by decide +kernel
theorem dX11_whyNotMove_14 : decode cX11_whyNotMove 14 = .ok (.aload_n 0, 1) := by decide +kernel
theorem dX11_whyNotMove_15 : decode cX11_whyNotMove 15 = .ok (.getfield 40, 3) := by decide +kernel
theorem dX11_whyNotMove_18 : decode cX11_whyNotMove 18 = .ok (.aload_n 0, 1) := by decide +kernel
theorem dX11_whyNotMove_19 : decode cX11_whyNotMove 19 = .ok (.getfield 53, 3) := by decide +kernel
theorem dX11_whyNotMove_22 : decode cX11_whyNotMove 22 = .ok (.invokevirtual 333, 3) := by decide +kernel
theorem dX11_whyNotMove_25 : decode cX11_whyNotMove 25 = .ok (.aload_n 0, 1) := by decide +kernel
theorem dX11_whyNotMove_26 : decode cX11_whyNotMove 26 = .ok (.getfield 73, 3) := by decide +kernel
theorem dX11_whyNotMove_29 : decode cX11_whyNotMove 29 = .ok (.iload_n 1, 1) := by decide +kernel
theorem dX11_whyNotMove_30 : decode cX11_whyNotMove 30 = .ok (.iload_n 2, 1) := by decide +kernel
theorem dX11_whyNotMove_31 : decode cX11_whyNotMove 31 = .ok (.invokevirtual 412, 3) := by decide +kernel
theorem dX11_whyNotMove_34 : decode cX11_whyNotMove 34 = .ok (.ireturn, 1) := by decide +kernel
set_option maxRecDepth 20000 in
theorem ggX11_debtsIf_X11_requireGroup : GoodIn wsX11_debtsIf wsX11_requireGroup := goodIn_ca (goodIn_r _ [8, 9, 10, 11, 12, 13, 7, 14, 3, 15, 16, 17, 18, 19, 20, 21, 22, 23, 97, 98, 99, 100, 101, 102, 103, 104, 105, 106, 107, 108, 109, 110, 111, 112, 113, 114, 115, 116, 117, 118, 119, 120, 121] (by decide +kernel) (by decide +kernel)) (goodIn_sub (fun _ h => List.mem_cons_of_mem _ (List.mem_append_right _ h)) (by decide +kernel))
set_option maxRecDepth 20000 in
theorem gX11_debtsIf_X11_requireGroup : GoodIn wsX11_debtsIf (wsV RX11 369 RX11 yX11_requireGroup wsX11_requireGroup) := goodIn_app (goodIn_of _ (by decide +kernel)) ggX11_debtsIf_X11_requireGroup
set_option maxRecDepth 20000 in
theorem ggX11_debtsIf_X11_requirePart : GoodIn wsX11_debtsIf wsX11_requirePart := goodIn_ca (goodIn_r _ [27, 9, 10, 28, 29, 30, 7, 31, 2, 32, 97, 98, 99, 100, 101, 102, 103, 104, 105, 106, 107, 108, 109, 110, 111, 112, 113, 114, 122, 123, 124, 125, 126, 127, 128, 129, 130, 131, 132, 133] (by decide +kernel) (by decide +kernel)) (goodIn_sub (fun _ h => List.mem_cons_of_mem _ (List.mem_append_right _ h)) (by decide +kernel))
set_option maxRecDepth 20000 in
theorem gX11_debtsIf_X11_requirePart : GoodIn wsX11_debtsIf (wsV RX11 330 RX11 yX11_requirePart wsX11_requirePart) := goodIn_app (goodIn_of _ (by decide +kernel)) ggX11_debtsIf_X11_requirePart
set_option maxRecDepth 20000 in
theorem ggX11_debtsIf_X4_take : GoodIn wsX11_debtsIf wsX4_take := goodIn_r _ [37, 38, 39, 40, 41, 42, 43, 44, 45, 46, 16, 17, 18, 19, 20, 21, 22, 7, 23, 47, 48, 49, 50, 51, 52, 53, 54, 55, 56, 57, 36, 58, 59, 60, 61, 62, 63, 64, 65, 66, 67, 68, 69, 70, 71, 72, 73, 74, 75, 76, 77, 78, 79, 80, 81, 82, 83, 84, 85, 86, 87, 88, 89, 90, 91, 92, 134, 135, 136, 137, 138, 139, 140, 141, 142, 143, 144, 145, 122, 123, 124, 125, 126, 127, 128, 129, 130, 131, 132, 133, 115, 116, 117, 118, 119, 120, 121] (by decide +kernel) (by decide +kernel)
set_option maxRecDepth 20000 in
theorem gX11_debtsIf_X4_take : GoodIn wsX11_debtsIf (wsV RX11 333 RX4 yX4_take wsX4_take) := goodIn_app (goodIn_of _ (by decide +kernel)) ggX11_debtsIf_X4_take
set_option maxRecDepth 20000 in
theorem ggX11_debtsIf_X4_debtsWith : GoodIn wsX11_debtsIf wsX4_debtsWith := goodIn_r _ [96, 66, 44, 60, 45, 22, 7, 23, 89, 90, 91, 36, 92, 41, 134, 135, 136, 137, 138, 139, 140, 141, 142, 143, 144, 145] (by decide +kernel) (by decide +kernel)
set_option maxRecDepth 20000 in
theorem gX11_debtsIf_X4_debtsWith : GoodIn wsX11_debtsIf (wsV RX11 415 RX4 yX4_debtsWith wsX4_debtsWith) := goodIn_app (goodIn_of _ (by decide +kernel)) ggX11_debtsIf_X4_debtsWith
theorem dX11_debtsIf_0 : decode cX11_debtsIf 0 = .ok (.aload_n 0, 1) := by decide +kernel
theorem dX11_debtsIf_1 : decode cX11_debtsIf 1 = .ok (.iload_n 1, 1) := by decide +kernel
theorem dX11_debtsIf_2 : decode cX11_debtsIf 2 = .ok (.invokevirtual 369, 3) := by decide +kernel
theorem dX11_debtsIf_5 : decode cX11_debtsIf 5 = .ok (.aload_n 0, 1) := by decide +kernel
theorem dX11_debtsIf_6 : decode cX11_debtsIf 6 = .ok (.iload_n 2, 1) := by decide +kernel
theorem dX11_debtsIf_7 : decode cX11_debtsIf 7 = .ok (.invokevirtual 330, 3) := by decide +kernel
theorem dX11_debtsIf_10 : decode cX11_debtsIf 10 = .ok (.aload_n 0, 1) := by decide +kernel
theorem dX11_debtsIf_11 : decode cX11_debtsIf 11 = .ok (.getfield 73, 3) := by decide +kernel
theorem dX11_debtsIf_14 : decode cX11_debtsIf 14 = .ok (.aload_n 0, 1) := by decide +kernel
theorem dX11_debtsIf_15 : decode cX11_debtsIf 15 = .ok (.getfield 40, 3) := by decide +kernel
theorem dX11_debtsIf_18 : decode cX11_debtsIf 18 = .ok (.aload_n 0, 1) := by decide +kernel
theorem dX11_debtsIf_19 : decode cX11_debtsIf 19 = .ok (.getfield 53, 3) := by decide +kernel
theorem dX11_debtsIf_22 : decode cX11_debtsIf 22 = .ok (.invokevirtual 333, 3) := by decide +kernel
theorem dX11_debtsIf_25 : decode cX11_debtsIf 25 = .ok (.aload_n 0, 1) := by decide +kernel
theorem dX11_debtsIf_26 : decode cX11_debtsIf 26 = .ok (.getfield 73, 3) := by decide +kernel
theorem dX11_debtsIf_29 : decode cX11_debtsIf 29 = .ok (.iload_n 1, 1) := by decide +kernel
theorem dX11_debtsIf_30 : decode cX11_debtsIf 30 = .ok (.iload_n 2, 1) := by decide +kernel
theorem dX11_debtsIf_31 : decode cX11_debtsIf 31 = .ok (.invokevirtual 415, 3) := by decide +kernel
theorem dX11_debtsIf_34 : decode cX11_debtsIf 34 = .ok (.ireturn, 1) := by decide +kernel
set_option maxRecDepth 20000 in
theorem ggX11_nextStep_X4_take : GoodIn wsX11_nextStep wsX4_take := goodIn_r _ [8, 9, 10, 11, 12, 13, 14, 15, 16, 17, 18, 19, 20, 21, 22, 23, 24, 25, 26, 27, 28, 29, 30, 31, 32, 33, 34, 35, 36, 37, 7, 38, 39, 40, 41, 42, 43, 44, 45, 46, 47, 48, 49, 50, 51, 52, 53, 54, 55, 56, 57, 58, 59, 60, 61, 62, 63, 64, 65, 66, 67, 68, 69, 70, 71, 72, 111, 112, 113, 114, 115, 116, 117, 118, 119, 120, 121, 122, 123, 124, 125, 126, 127, 128, 129, 130, 131, 132, 133, 134, 135, 136, 137, 138, 139, 140, 141] (by decide +kernel) (by decide +kernel)
set_option maxRecDepth 20000 in
theorem gX11_nextStep_X4_take : GoodIn wsX11_nextStep (wsV RX11 333 RX4 yX4_take wsX4_take) := goodIn_app (goodIn_of _ (by decide +kernel)) ggX11_nextStep_X4_take
set_option maxRecDepth 20000 in
theorem ggX11_nextStep_X4_chosenStep : GoodIn wsX11_nextStep wsX4_chosenStep := goodIn_r _ [76, 15, 77, 78, 79, 7, 80, 9, 11, 81, 82, 83, 84, 63, 46, 24, 25, 26, 85, 86, 87, 88, 40, 16, 69, 70, 71, 72, 12, 89, 90, 91, 92, 14, 111, 112, 113, 114, 115, 116, 117, 118, 119, 120, 121, 122] (by decide +kernel) (by decide +kernel)
set_option maxRecDepth 20000 in
theorem gX11_nextStep_X4_chosenStep : GoodIn wsX11_nextStep (wsV RX11 418 RX4 yX4_chosenStep wsX4_chosenStep) := goodIn_app (goodIn_of _ (by decide +kernel)) ggX11_nextStep_X4_chosenStep
