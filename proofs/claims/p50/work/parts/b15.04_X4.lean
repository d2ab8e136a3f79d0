theorem dX4_init_0 : decode cX4_init 0 = .ok (.aload_n 0, 1) := by decide +kernel
theorem dX4_init_1 : decode cX4_init 1 = .ok (.invokespecial 3, 3) := by decide +kernel
theorem dX4_init_4 : decode cX4_init 4 = .ok (.aload_n 0, 1) := by decide +kernel
theorem dX4_init_5 : decode cX4_init 5 = .ok (.bipush 14, 2) := by decide +kernel
theorem dX4_init_7 : decode cX4_init 7 = .ok (.newarray .int, 2) := by decide +kernel
theorem dX4_init_9 : decode cX4_init 9 = .ok (.putfield 9, 3) := by decide +kernel
theorem dX4_init_12 : decode cX4_init 12 = .ok (.aload_n 0, 1) := by decide +kernel
theorem dX4_init_13 : decode cX4_init 13 = .ok (.bipush 14, 2) := by decide +kernel
theorem dX4_init_15 : decode cX4_init 15 = .ok (.newarray .int, 2) := by decide +kernel
theorem dX4_init_17 : decode cX4_init 17 = .ok (.putfield 15, 3) := by decide +kernel
theorem dX4_init_20 : decode cX4_init 20 = .ok (.aload_n 0, 1) := by decide +kernel
theorem dX4_init_21 : decode cX4_init 21 = .ok (.bipush 14, 2) := by decide +kernel
theorem dX4_init_23 : decode cX4_init 23 = .ok (.newarray .int, 2) := by decide +kernel
theorem dX4_init_25 : decode cX4_init 25 = .ok (.putfield 18, 3) := by decide +kernel
theorem dX4_init_28 : decode cX4_init 28 = .ok (.aload_n 0, 1) := by decide +kernel
theorem dX4_init_29 : decode cX4_init 29 = .ok (.iconst 4, 1) := by decide +kernel
theorem dX4_init_30 : decode cX4_init 30 = .ok (.newarray .int, 2) := by decide +kernel
theorem dX4_init_32 : decode cX4_init 32 = .ok (.putfield 21, 3) := by decide +kernel
theorem dX4_init_35 : decode cX4_init 35 = .ok (.aload_n 0, 1) := by decide +kernel
theorem dX4_init_36 : decode cX4_init 36 = .ok (.iconst 4, 1) := by decide +kernel
theorem dX4_init_37 : decode cX4_init 37 = .ok (.newarray .int, 2) := by decide +kernel
theorem dX4_init_39 : decode cX4_init 39 = .ok (.putfield 24, 3) := by decide +kernel
theorem dX4_init_42 : decode cX4_init 42 = .ok (.aload_n 0, 1) := by decide +kernel
theorem dX4_init_43 : decode cX4_init 43 = .ok (.bipush 56, 2) := by decide +kernel
theorem dX4_init_45 : decode cX4_init 45 = .ok (.newarray .int, 2) := by decide +kernel
theorem dX4_init_47 : decode cX4_init 47 = .ok (.putfield 27, 3) := by decide +kernel
theorem dX4_init_50 : decode cX4_init 50 = .ok (.return_, 1) := by decide +kernel
set_option maxRecDepth 20000 in
theorem ggX4_take_X8_groupCount : GoodIn wsX4_take wsX8_groupCount := goodIn_s _ [(13, 6), (90, 7)] rfl (by decide +kernel)
set_option maxRecDepth 20000 in
theorem gX4_take_X8_groupCount : GoodIn wsX4_take (wsV RX4 30 RX8 yX8_groupCount wsX8_groupCount) := goodIn_app (goodIn_of _ (by decide +kernel)) ggX4_take_X8_groupCount
set_option maxRecDepth 20000 in
theorem ggX4_take_X2_limit : GoodIn wsX4_take wsX2_limit := goodIn_s _ [(23, 4), (78, 12)] rfl (by decide +kernel)
set_option maxRecDepth 20000 in
theorem gX4_take_X2_limit : GoodIn wsX4_take (wsV RX4 46 RX2 yX2_limit wsX2_limit) := goodIn_app (goodIn_of _ (by decide +kernel)) ggX4_take_X2_limit
set_option maxRecDepth 20000 in
theorem ggX4_take_X4_takeVertices : GoodIn wsX4_take wsX4_takeVertices := goodIn_s _ [(31, 4), (8, 1), (35, 12), (12, 1), (47, 1), (15, 4), (48, 4), (66, 31)] rfl (by decide +kernel)
set_option maxRecDepth 20000 in
theorem gX4_take_X4_takeVertices : GoodIn wsX4_take (wsV RX4 55 RX4 yX4_takeVertices wsX4_takeVertices) := goodIn_app (goodIn_of _ (by decide +kernel)) ggX4_take_X4_takeVertices
set_option maxRecDepth 20000 in
theorem ggX4_take_X4_takeEdges : GoodIn wsX4_take wsX4_takeEdges := goodIn_s _ [(55, 4), (36, 1), (59, 3), (39, 8), (12, 1), (47, 1), (15, 4), (48, 2), (66, 31)] rfl (by decide +kernel)
set_option maxRecDepth 20000 in
theorem gX4_take_X4_takeEdges : GoodIn wsX4_take (wsV RX4 59 RX4 yX4_takeEdges wsX4_takeEdges) := goodIn_app (goodIn_of _ (by decide +kernel)) ggX4_take_X4_takeEdges
set_option maxRecDepth 20000 in
theorem ggX4_take_X11_at : GoodIn wsX4_take wsX11_at := goodIn_s _ [(18, 1)] rfl (by decide +kernel)
set_option maxRecDepth 20000 in
theorem gX4_take_X11_at_n65 : GoodIn wsX4_take (wsX11_at) := ggX4_take_X11_at
set_option maxRecDepth 20000 in
theorem ggX4_take_X4_debtAt : GoodIn wsX4_take wsX4_debtAt := goodIn_s _ [(65, 1), (4, 1), (66, 12)] rfl (by decide +kernel)
set_option maxRecDepth 20000 in
theorem gX4_take_X4_debtAt : GoodIn wsX4_take (wsV RX4 69 RX4 yX4_debtAt wsX4_debtAt) := goodIn_app (goodIn_of _ (by decide +kernel)) ggX4_take_X4_debtAt
theorem dX4_take_0 : decode cX4_take 0 = .ok (.aload_n 0, 1) := by decide +kernel
theorem dX4_take_1 : decode cX4_take 1 = .ok (.aload_n 2, 1) := by decide +kernel
theorem dX4_take_2 : decode cX4_take 2 = .ok (.invokevirtual 30, 3) := by decide +kernel
theorem dX4_take_5 : decode cX4_take 5 = .ok (.putfield 36, 3) := by decide +kernel
theorem dX4_take_8 : decode cX4_take 8 = .ok (.aload_n 0, 1) := by decide +kernel
theorem dX4_take_9 : decode cX4_take 9 = .ok (.aload_n 1, 1) := by decide +kernel
theorem dX4_take_10 : decode cX4_take 10 = .ok (.getfield 40, 3) := by decide +kernel
theorem dX4_take_13 : decode cX4_take 13 = .ok (.putfield 45, 3) := by decide +kernel
theorem dX4_take_16 : decode cX4_take 16 = .ok (.aload_n 0, 1) := by decide +kernel
theorem dX4_take_17 : decode cX4_take 17 = .ok (.aload_n 1, 1) := by decide +kernel
theorem dX4_take_18 : decode cX4_take 18 = .ok (.invokevirtual 46, 3) := by decide +kernel
theorem dX4_take_21 : decode cX4_take 21 = .ok (.putfield 49, 3) := by decide +kernel
theorem dX4_take_24 : decode cX4_take 24 = .ok (.aload_n 0, 1) := by decide +kernel
theorem dX4_take_25 : decode cX4_take 25 = .ok (.aload_n 2, 1) := by decide +kernel
theorem dX4_take_26 : decode cX4_take 26 = .ok (.getfield 51, 3) := by decide +kernel
theorem dX4_take_29 : decode cX4_take 29 = .ok (.putfield 54, 3) := by decide +kernel
theorem dX4_take_32 : decode cX4_take 32 = .ok (.aload_n 0, 1) := by decide +kernel
theorem dX4_take_33 : decode cX4_take 33 = .ok (.aload_n 1, 1) := by decide +kernel
theorem dX4_take_34 : decode cX4_take 34 = .ok (.aload_n 2, 1) := by decide +kernel
theorem dX4_take_35 : decode cX4_take 35 = .ok (.invokevirtual 55, 3) := by decide +kernel
theorem dX4_take_38 : decode cX4_take 38 = .ok (.aload_n 0, 1) := by decide +kernel
theorem dX4_take_39 : decode cX4_take 39 = .ok (.aload_n 1, 1) := by decide +kernel
theorem dX4_take_40 : decode cX4_take 40 = .ok (.aload_n 2, 1) := by decide +kernel
theorem dX4_take_41 : decode cX4_take 41 = .ok (.invokevirtual 59, 3) := by decide +kernel
theorem dX4_take_44 : decode cX4_take 44 = .ok (.aload_n 0, 1) := by decide +kernel
theorem dX4_take_45 : decode cX4_take 45 = .ok (.iconst 0, 1) := by decide +kernel
theorem dX4_take_46 : decode cX4_take 46 = .ok (.putfield 62, 3) := by decide +kernel
theorem dX4_take_49 : decode cX4_take 49 = .ok (.iconst 0, 1) := by decide +kernel
theorem dX4_take_50 : decode cX4_take 50 = .ok (.istore_n 3, 1) := by decide +kernel
theorem dX4_take_51 : decode cX4_take 51 = .ok (.iload_n 3, 1) := by decide +kernel
theorem dX4_take_52 : decode cX4_take 52 = .ok (.aload_n 0, 1) := by decide +kernel
theorem dX4_take_53 : decode cX4_take 53 = .ok (.getfield 45, 3) := by decide +kernel
theorem dX4_take_56 : decode cX4_take 56 = .ok (.if_icmp .ge 30, 3) := by decide +kernel
theorem dX4_take_59 : decode cX4_take 59 = .ok (.aload_n 0, 1) := by decide +kernel
theorem dX4_take_60 : decode cX4_take 60 = .ok (.dup, 1) := by decide +kernel
theorem dX4_take_61 : decode cX4_take 61 = .ok (.getfield 62, 3) := by decide +kernel
theorem dX4_take_64 : decode cX4_take 64 = .ok (.aload_n 0, 1) := by decide +kernel
theorem dX4_take_65 : decode cX4_take 65 = .ok (.aload_n 0, 1) := by decide +kernel
theorem dX4_take_66 : decode cX4_take 66 = .ok (.getfield 24, 3) := by decide +kernel
theorem dX4_take_69 : decode cX4_take 69 = .ok (.iload_n 3, 1) := by decide +kernel
theorem dX4_take_70 : decode cX4_take 70 = .ok (.invokestatic 65, 3) := by decide +kernel
theorem dX4_take_73 : decode cX4_take 73 = .ok (.invokevirtual 69, 3) := by decide +kernel
theorem dX4_take_76 : decode cX4_take 76 = .ok (.iadd, 1) := by decide +kernel
theorem dX4_take_77 : decode cX4_take 77 = .ok (.putfield 62, 3) := by decide +kernel
theorem dX4_take_80 : decode cX4_take 80 = .ok (.iinc 3 1, 3) := by decide +kernel
theorem dX4_take_83 : decode cX4_take 83 = .ok (.goto (-32), 3) := by decide +kernel
theorem dX4_take_86 : decode cX4_take 86 = .ok (.return_, 1) := by decide +kernel
set_option maxRecDepth 20000 in
theorem ggX4_takeVertices_J7_fill_53178 : GoodIn wsX4_takeVertices wsJ7_fill_53178 := goodIn_s _ [(13, 1)] rfl (by decide +kernel)
set_option maxRecDepth 20000 in
theorem gX4_takeVertices_J7_fill_53178 : GoodIn wsX4_takeVertices (va_wsS RX4 73 yJ7_fill_53178 wsJ7_fill_53178) := goodIn_app (goodIn_of _ (by decide +kernel)) ggX4_takeVertices_J7_fill_53178
set_option maxRecDepth 20000 in
theorem ggX4_takeVertices_X8_groupRow : GoodIn wsX4_takeVertices wsX8_groupRow := goodIn_s _ [(18, 2), (51, 7)] rfl (by decide +kernel)
set_option maxRecDepth 20000 in
theorem gX4_takeVertices_X8_groupRow : GoodIn wsX4_takeVertices (wsV RX4 79 RX8 yX8_groupRow wsX8_groupRow) := goodIn_app (goodIn_of _ (by decide +kernel)) ggX4_takeVertices_X8_groupRow
set_option maxRecDepth 20000 in
theorem ggX4_takeVertices_X11_at : GoodIn wsX4_takeVertices wsX11_at := goodIn_s _ [(22, 1)] rfl (by decide +kernel)
set_option maxRecDepth 20000 in
theorem gX4_takeVertices_X11_at_n65 : GoodIn wsX4_takeVertices (wsX11_at) := ggX4_takeVertices_X11_at
set_option maxRecDepth 20000 in
theorem ggX4_takeVertices_X11_add : GoodIn wsX4_takeVertices wsX11_add := goodIn_s _ [(24, 1)] rfl (by decide +kernel)
set_option maxRecDepth 20000 in
theorem gX4_takeVertices_X11_add_n90 : GoodIn wsX4_takeVertices (wsX11_add) := ggX4_takeVertices_X11_add
set_option maxRecDepth 20000 in
theorem ggX4_takeVertices_X11_put : GoodIn wsX4_takeVertices wsX11_put := goodIn_s _ [(26, 1)] rfl (by decide +kernel)
set_option maxRecDepth 20000 in
theorem gX4_takeVertices_X11_put_n97 : GoodIn wsX4_takeVertices (wsX11_put) := ggX4_takeVertices_X11_put
theorem dX4_takeVertices_0 : decode cX4_takeVertices 0 = .ok (.aload_n 0, 1) := by decide +kernel
theorem dX4_takeVertices_1 : decode cX4_takeVertices 1 = .ok (.getfield 9, 3) := by decide +kernel
theorem dX4_takeVertices_4 : decode cX4_takeVertices 4 = .ok (.iconst 0, 1) := by decide +kernel
theorem dX4_takeVertices_5 : decode cX4_takeVertices 5 = .ok (.invokestatic 73, 3) := by decide +kernel
theorem dX4_takeVertices_8 : decode cX4_takeVertices 8 = .ok (.aload_n 0, 1) := by decide +kernel
theorem dX4_takeVertices_9 : decode cX4_takeVertices 9 = .ok (.getfield 15, 3) := by decide +kernel
theorem dX4_takeVertices_12 : decode cX4_takeVertices 12 = .ok (.iconst 0, 1) := by decide +kernel
theorem dX4_takeVertices_13 : decode cX4_takeVertices 13 = .ok (.invokestatic 73, 3) := by decide +kernel
theorem dX4_takeVertices_16 : decode cX4_takeVertices 16 = .ok (.aload_n 0, 1) := by decide +kernel
theorem dX4_takeVertices_17 : decode cX4_takeVertices 17 = .ok (.getfield 21, 3) := by decide +kernel
theorem dX4_takeVertices_20 : decode cX4_takeVertices 20 = .ok (.iconst 0, 1) := by decide +kernel
theorem dX4_takeVertices_21 : decode cX4_takeVertices 21 = .ok (.invokestatic 73, 3) := by decide +kernel
theorem dX4_takeVertices_24 : decode cX4_takeVertices 24 = .ok (.aload_n 0, 1) := by decide +kernel
theorem dX4_takeVertices_25 : decode cX4_takeVertices 25 = .ok (.getfield 24, 3) := by decide +kernel
theorem dX4_takeVertices_28 : decode cX4_takeVertices 28 = .ok (.iconst 0, 1) := by decide +kernel
theorem dX4_takeVertices_29 : decode cX4_takeVertices 29 = .ok (.invokestatic 73, 3) := by decide +kernel
theorem dX4_takeVertices_32 : decode cX4_takeVertices 32 = .ok (.aload_n 2, 1) := by decide +kernel
theorem dX4_takeVertices_33 : decode cX4_takeVertices 33 = .ok (.invokevirtual 79, 3) := by decide +kernel
theorem dX4_takeVertices_36 : decode cX4_takeVertices 36 = .ok (.istore_n 3, 1) := by decide +kernel
theorem dX4_takeVertices_37 : decode cX4_takeVertices 37 = .ok (.iconst 0, 1) := by decide +kernel
theorem dX4_takeVertices_38 : decode cX4_takeVertices 38 = .ok (.istore 4, 2) := by decide +kernel
theorem dX4_takeVertices_40 : decode cX4_takeVertices 40 = .ok (.iload 4, 2) := by decide +kernel
theorem dX4_takeVertices_42 : decode cX4_takeVertices 42 = .ok (.aload_n 1, 1) := by decide +kernel
theorem dX4_takeVertices_43 : decode cX4_takeVertices 43 = .ok (.getfield 82, 3) := by decide +kernel
theorem dX4_takeVertices_46 : decode cX4_takeVertices 46 = .ok (.if_icmp .ge 106, 3) := by decide +kernel
theorem dX4_takeVertices_49 : decode cX4_takeVertices 49 = .ok (.aload_n 2, 1) := by decide +kernel
theorem dX4_takeVertices_50 : decode cX4_takeVertices 50 = .ok (.getfield 85, 3) := by decide +kernel
theorem dX4_takeVertices_53 : decode cX4_takeVertices 53 = .ok (.iload_n 3, 1) := by decide +kernel
theorem dX4_takeVertices_54 : decode cX4_takeVertices 54 = .ok (.iload 4, 2) := by decide +kernel
theorem dX4_takeVertices_56 : decode cX4_takeVertices 56 = .ok (.iadd, 1) := by decide +kernel
theorem dX4_takeVertices_57 : decode cX4_takeVertices 57 = .ok (.invokestatic 65, 3) := by decide +kernel
theorem dX4_takeVertices_60 : decode cX4_takeVertices 60 = .ok (.istore 5, 2) := by decide +kernel
theorem dX4_takeVertices_62 : decode cX4_takeVertices 62 = .ok (.aload_n 2, 1) := by decide +kernel
theorem dX4_takeVertices_63 : decode cX4_takeVertices 63 = .ok (.getfield 88, 3) := by decide +kernel
theorem dX4_takeVertices_66 : decode cX4_takeVertices 66 = .ok (.iload 4, 2) := by decide +kernel
theorem dX4_takeVertices_68 : decode cX4_takeVertices 68 = .ok (.invokestatic 65, 3) := by decide +kernel
theorem dX4_takeVertices_71 : decode cX4_takeVertices 71 = .ok (.istore 6, 2) := by decide +kernel
theorem dX4_takeVertices_73 : decode cX4_takeVertices 73 = .ok (.aload_n 0, 1) := by decide +kernel
theorem dX4_takeVertices_74 : decode cX4_takeVertices 74 = .ok (.getfield 9, 3) := by decide +kernel
theorem dX4_takeVertices_77 : decode cX4_takeVertices 77 = .ok (.iload 5, 2) := by decide +kernel
theorem dX4_takeVertices_79 : decode cX4_takeVertices 79 = .ok (.iconst 1, 1) := by decide +kernel
theorem dX4_takeVertices_80 : decode cX4_takeVertices 80 = .ok (.iload 4, 2) := by decide +kernel
theorem dX4_takeVertices_82 : decode cX4_takeVertices 82 = .ok (.ishl, 1) := by decide +kernel
theorem dX4_takeVertices_83 : decode cX4_takeVertices 83 = .ok (.invokestatic 90, 3) := by decide +kernel
theorem dX4_takeVertices_86 : decode cX4_takeVertices 86 = .ok (.aload_n 0, 1) := by decide +kernel
theorem dX4_takeVertices_87 : decode cX4_takeVertices 87 = .ok (.getfield 15, 3) := by decide +kernel
theorem dX4_takeVertices_90 : decode cX4_takeVertices 90 = .ok (.iload 5, 2) := by decide +kernel
theorem dX4_takeVertices_92 : decode cX4_takeVertices 92 = .ok (.aload_n 1, 1) := by decide +kernel
theorem dX4_takeVertices_93 : decode cX4_takeVertices 93 = .ok (.getfield 94, 3) := by decide +kernel
theorem dX4_takeVertices_96 : decode cX4_takeVertices 96 = .ok (.iload 4, 2) := by decide +kernel
theorem dX4_takeVertices_98 : decode cX4_takeVertices 98 = .ok (.invokestatic 65, 3) := by decide +kernel
theorem dX4_takeVertices_101 : decode cX4_takeVertices 101 = .ok (.invokestatic 90, 3) := by decide +kernel
theorem dX4_takeVertices_104 : decode cX4_takeVertices 104 = .ok (.aload_n 0, 1) := by decide +kernel
theorem dX4_takeVertices_105 : decode cX4_takeVertices 105 = .ok (.getfield 18, 3) := by decide +kernel
theorem dX4_takeVertices_108 : decode cX4_takeVertices 108 = .ok (.iload 5, 2) := by decide +kernel
theorem dX4_takeVertices_110 : decode cX4_takeVertices 110 = .ok (.iload 6, 2) := by decide +kernel
theorem dX4_takeVertices_112 : decode cX4_takeVertices 112 = .ok (.invokestatic 97, 3) := by decide +kernel
theorem dX4_takeVertices_115 : decode cX4_takeVertices 115 = .ok (.aload_n 0, 1) := by decide +kernel
theorem dX4_takeVertices_116 : decode cX4_takeVertices 116 = .ok (.getfield 21, 3) := by decide +kernel
theorem dX4_takeVertices_119 : decode cX4_takeVertices 119 = .ok (.iload 6, 2) := by decide +kernel
theorem dX4_takeVertices_121 : decode cX4_takeVertices 121 = .ok (.iconst 1, 1) := by decide +kernel
theorem dX4_takeVertices_122 : decode cX4_takeVertices 122 = .ok (.iload 4, 2) := by decide +kernel
theorem dX4_takeVertices_124 : decode cX4_takeVertices 124 = .ok (.ishl, 1) := by decide +kernel
theorem dX4_takeVertices_125 : decode cX4_takeVertices 125 = .ok (.invokestatic 90, 3) := by decide +kernel
theorem dX4_takeVertices_128 : decode cX4_takeVertices 128 = .ok (.aload_n 0, 1) := by decide +kernel
theorem dX4_takeVertices_129 : decode cX4_takeVertices 129 = .ok (.getfield 24, 3) := by decide +kernel
theorem dX4_takeVertices_132 : decode cX4_takeVertices 132 = .ok (.iload 6, 2) := by decide +kernel
theorem dX4_takeVertices_134 : decode cX4_takeVertices 134 = .ok (.aload_n 1, 1) := by decide +kernel
theorem dX4_takeVertices_135 : decode cX4_takeVertices 135 = .ok (.getfield 94, 3) := by decide +kernel
theorem dX4_takeVertices_138 : decode cX4_takeVertices 138 = .ok (.iload 4, 2) := by decide +kernel
theorem dX4_takeVertices_140 : decode cX4_takeVertices 140 = .ok (.invokestatic 65, 3) := by decide +kernel
theorem dX4_takeVertices_143 : decode cX4_takeVertices 143 = .ok (.invokestatic 90, 3) := by decide +kernel
theorem dX4_takeVertices_146 : decode cX4_takeVertices 146 = .ok (.iinc 4 1, 3) := by decide +kernel
theorem dX4_takeVertices_149 : decode cX4_takeVertices 149 = .ok (.goto (-109), 3) := by decide +kernel
theorem dX4_takeVertices_152 : decode cX4_takeVertices 152 = .ok (.return_, 1) := by decide +kernel
set_option maxRecDepth 20000 in
theorem ggX4_takeEdges_J7_fill_53178 : GoodIn wsX4_takeEdges wsJ7_fill_53178 := goodIn_s _ [(12, 1)] rfl (by decide +kernel)
set_option maxRecDepth 20000 in
theorem gX4_takeEdges_J7_fill_53178 : GoodIn wsX4_takeEdges (va_wsS RX4 73 yJ7_fill_53178 wsJ7_fill_53178) := goodIn_app (goodIn_of _ (by decide +kernel)) ggX4_takeEdges_J7_fill_53178
set_option maxRecDepth 20000 in
theorem ggX4_takeEdges_X8_groupRow : GoodIn wsX4_takeEdges wsX8_groupRow := goodIn_s _ [(17, 2), (48, 7)] rfl (by decide +kernel)
set_option maxRecDepth 20000 in
theorem gX4_takeEdges_X8_groupRow : GoodIn wsX4_takeEdges (wsV RX4 79 RX8 yX8_groupRow wsX8_groupRow) := goodIn_app (goodIn_of _ (by decide +kernel)) ggX4_takeEdges_X8_groupRow
set_option maxRecDepth 20000 in
theorem ggX4_takeEdges_X11_at : GoodIn wsX4_takeEdges wsX11_at := goodIn_s _ [(21, 1)] rfl (by decide +kernel)
set_option maxRecDepth 20000 in
theorem gX4_takeEdges_X11_at_n65 : GoodIn wsX4_takeEdges (wsX11_at) := ggX4_takeEdges_X11_at
set_option maxRecDepth 20000 in
theorem ggX4_takeEdges_X11_add : GoodIn wsX4_takeEdges wsX11_add := goodIn_s _ [(23, 1)] rfl (by decide +kernel)
set_option maxRecDepth 20000 in
theorem gX4_takeEdges_X11_add_n90 : GoodIn wsX4_takeEdges (wsX11_add) := ggX4_takeEdges_X11_add
theorem dX4_takeEdges_0 : decode cX4_takeEdges 0 = .ok (.aload_n 0, 1) := by decide +kernel
theorem dX4_takeEdges_1 : decode cX4_takeEdges 1 = .ok (.getfield 27, 3) := by decide +kernel
theorem dX4_takeEdges_4 : decode cX4_takeEdges 4 = .ok (.iconst 0, 1) := by decide +kernel
theorem dX4_takeEdges_5 : decode cX4_takeEdges 5 = .ok (.invokestatic 73, 3) := by decide +kernel
theorem dX4_takeEdges_8 : decode cX4_takeEdges 8 = .ok (.aload_n 0, 1) := by decide +kernel
theorem dX4_takeEdges_9 : decode cX4_takeEdges 9 = .ok (.iconst 0, 1) := by decide +kernel
theorem dX4_takeEdges_10 : decode cX4_takeEdges 10 = .ok (.putfield 100, 3) := by decide +kernel
theorem dX4_takeEdges_13 : decode cX4_takeEdges 13 = .ok (.aload_n 2, 1) := by decide +kernel
theorem dX4_takeEdges_14 : decode cX4_takeEdges 14 = .ok (.invokevirtual 79, 3) := by decide +kernel
theorem dX4_takeEdges_17 : decode cX4_takeEdges 17 = .ok (.istore_n 3, 1) := by decide +kernel
theorem dX4_takeEdges_18 : decode cX4_takeEdges 18 = .ok (.iconst 0, 1) := by decide +kernel
theorem dX4_takeEdges_19 : decode cX4_takeEdges 19 = .ok (.istore 4, 2) := by decide +kernel
theorem dX4_takeEdges_21 : decode cX4_takeEdges 21 = .ok (.iload 4, 2) := by decide +kernel
theorem dX4_takeEdges_23 : decode cX4_takeEdges 23 = .ok (.aload_n 1, 1) := by decide +kernel
theorem dX4_takeEdges_24 : decode cX4_takeEdges 24 = .ok (.getfield 103, 3) := by decide +kernel
theorem dX4_takeEdges_27 : decode cX4_takeEdges 27 = .ok (.if_icmp .ge 149, 3) := by decide +kernel
theorem dX4_takeEdges_30 : decode cX4_takeEdges 30 = .ok (.aload_n 2, 1) := by decide +kernel
theorem dX4_takeEdges_31 : decode cX4_takeEdges 31 = .ok (.getfield 85, 3) := by decide +kernel
theorem dX4_takeEdges_34 : decode cX4_takeEdges 34 = .ok (.iload_n 3, 1) := by decide +kernel
theorem dX4_takeEdges_35 : decode cX4_takeEdges 35 = .ok (.aload_n 1, 1) := by decide +kernel
theorem dX4_takeEdges_36 : decode cX4_takeEdges 36 = .ok (.getfield 106, 3) := by decide +kernel
theorem dX4_takeEdges_39 : decode cX4_takeEdges 39 = .ok (.iload 4, 2) := by decide +kernel
theorem dX4_takeEdges_41 : decode cX4_takeEdges 41 = .ok (.invokestatic 65, 3) := by decide +kernel
theorem dX4_takeEdges_44 : decode cX4_takeEdges 44 = .ok (.iadd, 1) := by decide +kernel
theorem dX4_takeEdges_45 : decode cX4_takeEdges 45 = .ok (.invokestatic 65, 3) := by decide +kernel
theorem dX4_takeEdges_48 : decode cX4_takeEdges 48 = .ok (.istore 5, 2) := by decide +kernel
theorem dX4_takeEdges_50 : decode cX4_takeEdges 50 = .ok (.aload_n 2, 1) := by decide +kernel
theorem dX4_takeEdges_51 : decode cX4_takeEdges 51 = .ok (.getfield 85, 3) := by decide +kernel
theorem dX4_takeEdges_54 : decode cX4_takeEdges 54 = .ok (.iload_n 3, 1) := by decide +kernel
theorem dX4_takeEdges_55 : decode cX4_takeEdges 55 = .ok (.aload_n 1, 1) := by decide +kernel
theorem dX4_takeEdges_56 : decode cX4_takeEdges 56 = .ok (.getfield 109, 3) := by decide +kernel
theorem dX4_takeEdges_59 : decode cX4_takeEdges 59 = .ok (.iload 4, 2) := by decide +kernel
theorem dX4_takeEdges_61 : decode cX4_takeEdges 61 = .ok (.invokestatic 65, 3) := by decide +kernel
theorem dX4_takeEdges_64 : decode cX4_takeEdges 64 = .ok (.iadd, 1) := by decide +kernel
theorem dX4_takeEdges_65 : decode cX4_takeEdges 65 = .ok (.invokestatic 65, 3) := by decide +kernel
theorem dX4_takeEdges_68 : decode cX4_takeEdges 68 = .ok (.istore 6, 2) := by decide +kernel
theorem dX4_takeEdges_70 : decode cX4_takeEdges 70 = .ok (.iload 5, 2) := by decide +kernel
theorem dX4_takeEdges_72 : decode cX4_takeEdges 72 = .ok (.iload 6, 2) := by decide +kernel
theorem dX4_takeEdges_74 : decode cX4_takeEdges 74 = .ok (.if_icmp .eq 96, 3) := by decide +kernel
theorem dX4_takeEdges_77 : decode cX4_takeEdges 77 = .ok (.aload_n 1, 1) := by decide +kernel
theorem dX4_takeEdges_78 : decode cX4_takeEdges 78 = .ok (.getfield 112, 3) := by decide +kernel
theorem dX4_takeEdges_81 : decode cX4_takeEdges 81 = .ok (.iload 4, 2) := by decide +kernel
theorem dX4_takeEdges_83 : decode cX4_takeEdges 83 = .ok (.invokestatic 65, 3) := by decide +kernel
theorem dX4_takeEdges_86 : decode cX4_takeEdges 86 = .ok (.istore 7, 2) := by decide +kernel
theorem dX4_takeEdges_88 : decode cX4_takeEdges 88 = .ok (.aload_n 0, 1) := by decide +kernel
theorem dX4_takeEdges_89 : decode cX4_takeEdges 89 = .ok (.getfield 27, 3) := by decide +kernel
theorem dX4_takeEdges_92 : decode cX4_takeEdges 92 = .ok (.iload 5, 2) := by decide +kernel
theorem dX4_takeEdges_94 : decode cX4_takeEdges 94 = .ok (.iconst 4, 1) := by decide +kernel
theorem dX4_takeEdges_95 : decode cX4_takeEdges 95 = .ok (.imul, 1) := by decide +kernel
theorem dX4_takeEdges_96 : decode cX4_takeEdges 96 = .ok (.aload_n 0, 1) := by decide +kernel
theorem dX4_takeEdges_97 : decode cX4_takeEdges 97 = .ok (.getfield 18, 3) := by decide +kernel
theorem dX4_takeEdges_100 : decode cX4_takeEdges 100 = .ok (.iload 6, 2) := by decide +kernel
theorem dX4_takeEdges_102 : decode cX4_takeEdges 102 = .ok (.invokestatic 65, 3) := by decide +kernel
theorem dX4_takeEdges_105 : decode cX4_takeEdges 105 = .ok (.iadd, 1) := by decide +kernel
theorem dX4_takeEdges_106 : decode cX4_takeEdges 106 = .ok (.iload 7, 2) := by decide +kernel
theorem dX4_takeEdges_108 : decode cX4_takeEdges 108 = .ok (.invokestatic 90, 3) := by decide +kernel
theorem dX4_takeEdges_111 : decode cX4_takeEdges 111 = .ok (.aload_n 0, 1) := by decide +kernel
theorem dX4_takeEdges_112 : decode cX4_takeEdges 112 = .ok (.getfield 27, 3) := by decide +kernel
theorem dX4_takeEdges_115 : decode cX4_takeEdges 115 = .ok (.iload 6, 2) := by decide +kernel
theorem dX4_takeEdges_117 : decode cX4_takeEdges 117 = .ok (.iconst 4, 1) := by decide +kernel
theorem dX4_takeEdges_118 : decode cX4_takeEdges 118 = .ok (.imul, 1) := by decide +kernel
theorem dX4_takeEdges_119 : decode cX4_takeEdges 119 = .ok (.aload_n 0, 1) := by decide +kernel
theorem dX4_takeEdges_120 : decode cX4_takeEdges 120 = .ok (.getfield 18, 3) := by decide +kernel
theorem dX4_takeEdges_123 : decode cX4_takeEdges 123 = .ok (.iload 5, 2) := by decide +kernel
theorem dX4_takeEdges_125 : decode cX4_takeEdges 125 = .ok (.invokestatic 65, 3) := by decide +kernel
theorem dX4_takeEdges_128 : decode cX4_takeEdges 128 = .ok (.iadd, 1) := by decide +kernel
theorem dX4_takeEdges_129 : decode cX4_takeEdges 129 = .ok (.iload 7, 2) := by decide +kernel
theorem dX4_takeEdges_131 : decode cX4_takeEdges 131 = .ok (.invokestatic 90, 3) := by decide +kernel
theorem dX4_takeEdges_134 : decode cX4_takeEdges 134 = .ok (.aload_n 0, 1) := by decide +kernel
theorem dX4_takeEdges_135 : decode cX4_takeEdges 135 = .ok (.dup, 1) := by decide +kernel
theorem dX4_takeEdges_136 : decode cX4_takeEdges 136 = .ok (.getfield 100, 3) := by decide +kernel
theorem dX4_takeEdges_139 : decode cX4_takeEdges 139 = .ok (.aload_n 0, 1) := by decide +kernel
theorem dX4_takeEdges_140 : decode cX4_takeEdges 140 = .ok (.getfield 18, 3) := by decide +kernel
theorem dX4_takeEdges_143 : decode cX4_takeEdges 143 = .ok (.iload 5, 2) := by decide +kernel
theorem dX4_takeEdges_145 : decode cX4_takeEdges 145 = .ok (.invokestatic 65, 3) := by decide +kernel
theorem dX4_takeEdges_148 : decode cX4_takeEdges 148 = .ok (.aload_n 0, 1) := by decide +kernel
theorem dX4_takeEdges_149 : decode cX4_takeEdges 149 = .ok (.getfield 18, 3) := by decide +kernel
theorem dX4_takeEdges_152 : decode cX4_takeEdges 152 = .ok (.iload 6, 2) := by decide +kernel
theorem dX4_takeEdges_154 : decode cX4_takeEdges 154 = .ok (.invokestatic 65, 3) := by decide +kernel
theorem dX4_takeEdges_157 : decode cX4_takeEdges 157 = .ok (.if_icmp .ne 7, 3) := by decide +kernel
theorem dX4_takeEdges_160 : decode cX4_takeEdges 160 = .ok (.iconst 0, 1) := by decide +kernel
theorem dX4_takeEdges_161 : decode cX4_takeEdges 161 = .ok (.goto 5, 3) := by decide +kernel
theorem dX4_takeEdges_164 : decode cX4_takeEdges 164 = .ok (.iload 7, 2) := by decide +kernel
theorem dX4_takeEdges_166 : decode cX4_takeEdges 166 = .ok (.iadd, 1) := by decide +kernel
theorem dX4_takeEdges_167 : decode cX4_takeEdges 167 = .ok (.putfield 100, 3) := by decide +kernel
theorem dX4_takeEdges_170 : decode cX4_takeEdges 170 = .ok (.iinc 4 1, 3) := by decide +kernel
theorem dX4_takeEdges_173 : decode cX4_takeEdges 173 = .ok (.goto (-152), 3) := by decide +kernel
theorem dX4_takeEdges_176 : decode cX4_takeEdges 176 = .ok (.return_, 1) := by decide +kernel
theorem dX4_debtAt_0 : decode cX4_debtAt 0 = .ok (.iload_n 1, 1) := by decide +kernel
theorem dX4_debtAt_1 : decode cX4_debtAt 1 = .ok (.aload_n 0, 1) := by decide +kernel
theorem dX4_debtAt_2 : decode cX4_debtAt 2 = .ok (.getfield 49, 3) := by decide +kernel
theorem dX4_debtAt_5 : decode cX4_debtAt 5 = .ok (.if_icmp .le 12, 3) := by decide +kernel
theorem dX4_debtAt_8 : decode cX4_debtAt 8 = .ok (.iload_n 1, 1) := by decide +kernel
theorem dX4_debtAt_9 : decode cX4_debtAt 9 = .ok (.aload_n 0, 1) := by decide +kernel
theorem dX4_debtAt_10 : decode cX4_debtAt 10 = .ok (.getfield 49, 3) := by decide +kernel
theorem dX4_debtAt_13 : decode cX4_debtAt 13 = .ok (.isub, 1) := by decide +kernel
theorem dX4_debtAt_14 : decode cX4_debtAt 14 = .ok (.goto 4, 3) := by decide +kernel
theorem dX4_debtAt_17 : decode cX4_debtAt 17 = .ok (.iconst 0, 1) := by decide +kernel
theorem dX4_debtAt_18 : decode cX4_debtAt 18 = .ok (.ireturn, 1) := by decide +kernel
set_option maxRecDepth 20000 in
theorem ggX4_pullOfAll_X11_at : GoodIn wsX4_pullOfAll wsX11_at := goodIn_s _ [(5, 1)] rfl (by decide +kernel)
set_option maxRecDepth 20000 in
theorem gX4_pullOfAll_X11_at_n65 : GoodIn wsX4_pullOfAll (wsX11_at) := ggX4_pullOfAll_X11_at
theorem dX4_pullOfAll_0 : decode cX4_pullOfAll 0 = .ok (.iconst 0, 1) := by decide +kernel
theorem dX4_pullOfAll_1 : decode cX4_pullOfAll 1 = .ok (.istore_n 2, 1) := by decide +kernel
theorem dX4_pullOfAll_2 : decode cX4_pullOfAll 2 = .ok (.iconst 0, 1) := by decide +kernel
theorem dX4_pullOfAll_3 : decode cX4_pullOfAll 3 = .ok (.istore_n 3, 1) := by decide +kernel
theorem dX4_pullOfAll_4 : decode cX4_pullOfAll 4 = .ok (.iload_n 3, 1) := by decide +kernel
theorem dX4_pullOfAll_5 : decode cX4_pullOfAll 5 = .ok (.aload_n 0, 1) := by decide +kernel
theorem dX4_pullOfAll_6 : decode cX4_pullOfAll 6 = .ok (.getfield 45, 3) := by decide +kernel
theorem dX4_pullOfAll_9 : decode cX4_pullOfAll 9 = .ok (.if_icmp .ge 24, 3) := by decide +kernel
theorem dX4_pullOfAll_12 : decode cX4_pullOfAll 12 = .ok (.iload_n 2, 1) := by decide +kernel
theorem dX4_pullOfAll_13 : decode cX4_pullOfAll 13 = .ok (.aload_n 0, 1) := by decide +kernel
theorem dX4_pullOfAll_14 : decode cX4_pullOfAll 14 = .ok (.getfield 27, 3) := by decide +kernel
theorem dX4_pullOfAll_17 : decode cX4_pullOfAll 17 = .ok (.iload_n 1, 1) := by decide +kernel
theorem dX4_pullOfAll_18 : decode cX4_pullOfAll 18 = .ok (.iconst 4, 1) := by decide +kernel
theorem dX4_pullOfAll_19 : decode cX4_pullOfAll 19 = .ok (.imul, 1) := by decide +kernel
theorem dX4_pullOfAll_20 : decode cX4_pullOfAll 20 = .ok (.iload_n 3, 1) := by decide +kernel
theorem dX4_pullOfAll_21 : decode cX4_pullOfAll 21 = .ok (.iadd, 1) := by decide +kernel
theorem dX4_pullOfAll_22 : decode cX4_pullOfAll 22 = .ok (.invokestatic 65, 3) := by decide +kernel
theorem dX4_pullOfAll_25 : decode cX4_pullOfAll 25 = .ok (.iadd, 1) := by decide +kernel
theorem dX4_pullOfAll_26 : decode cX4_pullOfAll 26 = .ok (.istore_n 2, 1) := by decide +kernel
theorem dX4_pullOfAll_27 : decode cX4_pullOfAll 27 = .ok (.iinc 3 1, 3) := by decide +kernel
theorem dX4_pullOfAll_30 : decode cX4_pullOfAll 30 = .ok (.goto (-26), 3) := by decide +kernel
theorem dX4_pullOfAll_33 : decode cX4_pullOfAll 33 = .ok (.iload_n 2, 1) := by decide +kernel
theorem dX4_pullOfAll_34 : decode cX4_pullOfAll 34 = .ok (.ireturn, 1) := by decide +kernel
set_option maxRecDepth 20000 in
theorem ggX4_gainOf_X11_at : GoodIn wsX4_gainOf wsX11_at := goodIn_s _ [(5, 1)] rfl (by decide +kernel)
set_option maxRecDepth 20000 in
theorem gX4_gainOf_X11_at_n65 : GoodIn wsX4_gainOf (wsX11_at) := ggX4_gainOf_X11_at
theorem dX4_gainOf_0 : decode cX4_gainOf 0 = .ok (.iload_n 1, 1) := by decide +kernel
theorem dX4_gainOf_1 : decode cX4_gainOf 1 = .ok (.iconst 4, 1) := by decide +kernel
theorem dX4_gainOf_2 : decode cX4_gainOf 2 = .ok (.imul, 1) := by decide +kernel
theorem dX4_gainOf_3 : decode cX4_gainOf 3 = .ok (.istore_n 3, 1) := by decide +kernel
theorem dX4_gainOf_4 : decode cX4_gainOf 4 = .ok (.aload_n 0, 1) := by decide +kernel
theorem dX4_gainOf_5 : decode cX4_gainOf 5 = .ok (.getfield 27, 3) := by decide +kernel
theorem dX4_gainOf_8 : decode cX4_gainOf 8 = .ok (.iload_n 3, 1) := by decide +kernel
theorem dX4_gainOf_9 : decode cX4_gainOf 9 = .ok (.iload_n 2, 1) := by decide +kernel
theorem dX4_gainOf_10 : decode cX4_gainOf 10 = .ok (.iadd, 1) := by decide +kernel
theorem dX4_gainOf_11 : decode cX4_gainOf 11 = .ok (.invokestatic 65, 3) := by decide +kernel
theorem dX4_gainOf_14 : decode cX4_gainOf 14 = .ok (.aload_n 0, 1) := by decide +kernel
theorem dX4_gainOf_15 : decode cX4_gainOf 15 = .ok (.getfield 27, 3) := by decide +kernel
theorem dX4_gainOf_18 : decode cX4_gainOf 18 = .ok (.iload_n 3, 1) := by decide +kernel
theorem dX4_gainOf_19 : decode cX4_gainOf 19 = .ok (.aload_n 0, 1) := by decide +kernel
theorem dX4_gainOf_20 : decode cX4_gainOf 20 = .ok (.getfield 18, 3) := by decide +kernel
theorem dX4_gainOf_23 : decode cX4_gainOf 23 = .ok (.iload_n 1, 1) := by decide +kernel
theorem dX4_gainOf_24 : decode cX4_gainOf 24 = .ok (.invokestatic 65, 3) := by decide +kernel
theorem dX4_gainOf_27 : decode cX4_gainOf 27 = .ok (.iadd, 1) := by decide +kernel
theorem dX4_gainOf_28 : decode cX4_gainOf 28 = .ok (.invokestatic 65, 3) := by decide +kernel
theorem dX4_gainOf_31 : decode cX4_gainOf 31 = .ok (.isub, 1) := by decide +kernel
theorem dX4_gainOf_32 : decode cX4_gainOf 32 = .ok (.ireturn, 1) := by decide +kernel
set_option maxRecDepth 20000 in
theorem ggX4_debtsWith_X11_at : GoodIn wsX4_debtsWith wsX11_at := goodIn_s _ [(7, 1)] rfl (by decide +kernel)
set_option maxRecDepth 20000 in
theorem gX4_debtsWith_X11_at_n65 : GoodIn wsX4_debtsWith (wsX11_at) := ggX4_debtsWith_X11_at
set_option maxRecDepth 20000 in
theorem ggX4_debtsWith_X4_debtAt : GoodIn wsX4_debtsWith wsX4_debtAt := goodIn_s _ [(12, 14)] rfl (by decide +kernel)
set_option maxRecDepth 20000 in
theorem gX4_debtsWith_X4_debtAt : GoodIn wsX4_debtsWith (wsV RX4 69 RX4 yX4_debtAt wsX4_debtAt) := goodIn_app (goodIn_of _ (by decide +kernel)) ggX4_debtsWith_X4_debtAt
theorem dX4_debtsWith_0 : decode cX4_debtsWith 0 = .ok (.aload_n 0, 1) := by decide +kernel
theorem dX4_debtsWith_1 : decode cX4_debtsWith 1 = .ok (.getfield 18, 3) := by decide +kernel
theorem dX4_debtsWith_4 : decode cX4_debtsWith 4 = .ok (.iload_n 1, 1) := by decide +kernel
theorem dX4_debtsWith_5 : decode cX4_debtsWith 5 = .ok (.invokestatic 65, 3) := by decide +kernel
theorem dX4_debtsWith_8 : decode cX4_debtsWith 8 = .ok (.istore_n 3, 1) := by decide +kernel
theorem dX4_debtsWith_9 : decode cX4_debtsWith 9 = .ok (.iload_n 3, 1) := by decide +kernel
theorem dX4_debtsWith_10 : decode cX4_debtsWith 10 = .ok (.iload_n 2, 1) := by decide +kernel
theorem dX4_debtsWith_11 : decode cX4_debtsWith 11 = .ok (.if_icmp .ne 8, 3) := by decide +kernel
theorem dX4_debtsWith_14 : decode cX4_debtsWith 14 = .ok (.aload_n 0, 1) := by decide +kernel
theorem dX4_debtsWith_15 : decode cX4_debtsWith 15 = .ok (.getfield 62, 3) := by decide +kernel
theorem dX4_debtsWith_18 : decode cX4_debtsWith 18 = .ok (.ireturn, 1) := by decide +kernel
theorem dX4_debtsWith_19 : decode cX4_debtsWith 19 = .ok (.aload_n 0, 1) := by decide +kernel
theorem dX4_debtsWith_20 : decode cX4_debtsWith 20 = .ok (.getfield 15, 3) := by decide +kernel
theorem dX4_debtsWith_23 : decode cX4_debtsWith 23 = .ok (.iload_n 1, 1) := by decide +kernel
theorem dX4_debtsWith_24 : decode cX4_debtsWith 24 = .ok (.invokestatic 65, 3) := by decide +kernel
theorem dX4_debtsWith_27 : decode cX4_debtsWith 27 = .ok (.istore 4, 2) := by decide +kernel
theorem dX4_debtsWith_29 : decode cX4_debtsWith 29 = .ok (.aload_n 0, 1) := by decide +kernel
theorem dX4_debtsWith_30 : decode cX4_debtsWith 30 = .ok (.getfield 24, 3) := by decide +kernel
theorem dX4_debtsWith_33 : decode cX4_debtsWith 33 = .ok (.iload_n 3, 1) := by decide +kernel
theorem dX4_debtsWith_34 : decode cX4_debtsWith 34 = .ok (.invokestatic 65, 3) := by decide +kernel
theorem dX4_debtsWith_37 : decode cX4_debtsWith 37 = .ok (.istore 5, 2) := by decide +kernel
theorem dX4_debtsWith_39 : decode cX4_debtsWith 39 = .ok (.aload_n 0, 1) := by decide +kernel
theorem dX4_debtsWith_40 : decode cX4_debtsWith 40 = .ok (.getfield 24, 3) := by decide +kernel
theorem dX4_debtsWith_43 : decode cX4_debtsWith 43 = .ok (.iload_n 2, 1) := by decide +kernel
theorem dX4_debtsWith_44 : decode cX4_debtsWith 44 = .ok (.invokestatic 65, 3) := by decide +kernel
theorem dX4_debtsWith_47 : decode cX4_debtsWith 47 = .ok (.istore 6, 2) := by decide +kernel
theorem dX4_debtsWith_49 : decode cX4_debtsWith 49 = .ok (.aload_n 0, 1) := by decide +kernel
theorem dX4_debtsWith_50 : decode cX4_debtsWith 50 = .ok (.getfield 62, 3) := by decide +kernel
theorem dX4_debtsWith_53 : decode cX4_debtsWith 53 = .ok (.aload_n 0, 1) := by decide +kernel
theorem dX4_debtsWith_54 : decode cX4_debtsWith 54 = .ok (.iload 5, 2) := by decide +kernel
theorem dX4_debtsWith_56 : decode cX4_debtsWith 56 = .ok (.invokevirtual 69, 3) := by decide +kernel
theorem dX4_debtsWith_59 : decode cX4_debtsWith 59 = .ok (.isub, 1) := by decide +kernel
theorem dX4_debtsWith_60 : decode cX4_debtsWith 60 = .ok (.aload_n 0, 1) := by decide +kernel
theorem dX4_debtsWith_61 : decode cX4_debtsWith 61 = .ok (.iload 6, 2) := by decide +kernel
theorem dX4_debtsWith_63 : decode cX4_debtsWith 63 = .ok (.invokevirtual 69, 3) := by decide +kernel
theorem dX4_debtsWith_66 : decode cX4_debtsWith 66 = .ok (.isub, 1) := by decide +kernel
theorem dX4_debtsWith_67 : decode cX4_debtsWith 67 = .ok (.aload_n 0, 1) := by decide +kernel
theorem dX4_debtsWith_68 : decode cX4_debtsWith 68 = .ok (.iload 5, 2) := by decide +kernel
theorem dX4_debtsWith_70 : decode cX4_debtsWith 70 = .ok (.iload 4, 2) := by decide +kernel
theorem dX4_debtsWith_72 : decode cX4_debtsWith 72 = .ok (.isub, 1) := by decide +kernel
theorem dX4_debtsWith_73 : decode cX4_debtsWith 73 = .ok (.invokevirtual 69, 3) := by decide +kernel
theorem dX4_debtsWith_76 : decode cX4_debtsWith 76 = .ok (.iadd, 1) := by decide +kernel
theorem dX4_debtsWith_77 : decode cX4_debtsWith 77 = .ok (.aload_n 0, 1) := by decide +kernel
theorem dX4_debtsWith_78 : decode cX4_debtsWith 78 = .ok (.iload 6, 2) := by decide +kernel
theorem dX4_debtsWith_80 : decode cX4_debtsWith 80 = .ok (.iload 4, 2) := by decide +kernel
theorem dX4_debtsWith_82 : decode cX4_debtsWith 82 = .ok (.iadd, 1) := by decide +kernel
theorem dX4_debtsWith_83 : decode cX4_debtsWith 83 = .ok (.invokevirtual 69, 3) := by decide +kernel
theorem dX4_debtsWith_86 : decode cX4_debtsWith 86 = .ok (.iadd, 1) := by decide +kernel
theorem dX4_debtsWith_87 : decode cX4_debtsWith 87 = .ok (.ireturn, 1) := by decide +kernel
set_option maxRecDepth 20000 in
theorem ggX4_reasonAgainst_X11_at : GoodIn wsX4_reasonAgainst wsX11_at := goodIn_s _ [(4, 1)] rfl (by decide +kernel)
set_option maxRecDepth 20000 in
theorem gX4_reasonAgainst_X11_at_n65 : GoodIn wsX4_reasonAgainst (wsX11_at) := ggX4_reasonAgainst_X11_at
set_option maxRecDepth 20000 in
theorem ggX4_reasonAgainst_X4_debtsWith : GoodIn wsX4_reasonAgainst wsX4_debtsWith := goodIn_s _ [(9, 1), (1, 1), (10, 3), (2, 3), (13, 3), (8, 1), (16, 2), (23, 12)] rfl (by decide +kernel)
set_option maxRecDepth 20000 in
theorem gX4_reasonAgainst_X4_debtsWith : GoodIn wsX4_reasonAgainst (wsV RX4 115 RX4 yX4_debtsWith wsX4_debtsWith) := goodIn_app (goodIn_of _ (by decide +kernel)) ggX4_reasonAgainst_X4_debtsWith
set_option maxRecDepth 20000 in
theorem ggX4_reasonAgainst_X4_isTooMuch : GoodIn wsX4_reasonAgainst wsX4_isTooMuch := goodIn_s _ [(21, 2), (10, 1), (23, 12)] rfl (by decide +kernel)
set_option maxRecDepth 20000 in
theorem gX4_reasonAgainst_X4_isTooMuch : GoodIn wsX4_reasonAgainst (wsV RX4 119 RX4 yX4_isTooMuch wsX4_isTooMuch) := goodIn_app (goodIn_of _ (by decide +kernel)) ggX4_reasonAgainst_X4_isTooMuch
theorem dX4_reasonAgainst_0 : decode cX4_reasonAgainst 0 = .ok (.aload_n 0, 1) := by decide +kernel
theorem dX4_reasonAgainst_1 : decode cX4_reasonAgainst 1 = .ok (.getfield 18, 3) := by decide +kernel
theorem dX4_reasonAgainst_4 : decode cX4_reasonAgainst 4 = .ok (.iload_n 1, 1) := by decide +kernel
theorem dX4_reasonAgainst_5 : decode cX4_reasonAgainst 5 = .ok (.invokestatic 65, 3) := by decide +kernel
theorem dX4_reasonAgainst_8 : decode cX4_reasonAgainst 8 = .ok (.iload_n 2, 1) := by decide +kernel
theorem dX4_reasonAgainst_9 : decode cX4_reasonAgainst 9 = .ok (.if_icmp .ne 5, 3) := by decide +kernel
theorem dX4_reasonAgainst_12 : decode cX4_reasonAgainst 12 = .ok (.iconst 1, 1) := by decide +kernel
theorem dX4_reasonAgainst_13 : decode cX4_reasonAgainst 13 = .ok (.ireturn, 1) := by decide +kernel
theorem dX4_reasonAgainst_14 : decode cX4_reasonAgainst 14 = .ok (.aload_n 0, 1) := by decide +kernel
theorem dX4_reasonAgainst_15 : decode cX4_reasonAgainst 15 = .ok (.aload_n 0, 1) := by decide +kernel
theorem dX4_reasonAgainst_16 : decode cX4_reasonAgainst 16 = .ok (.iload_n 1, 1) := by decide +kernel
theorem dX4_reasonAgainst_17 : decode cX4_reasonAgainst 17 = .ok (.iload_n 2, 1) := by decide +kernel
theorem dX4_reasonAgainst_18 : decode cX4_reasonAgainst 18 = .ok (.invokevirtual 115, 3) := by decide +kernel
theorem dX4_reasonAgainst_21 : decode cX4_reasonAgainst 21 = .ok (.invokevirtual 119, 3) := by decide +kernel
theorem dX4_reasonAgainst_24 : decode cX4_reasonAgainst 24 = .ok (.ifCond .eq 7, 3) := by decide +kernel
theorem dX4_reasonAgainst_27 : decode cX4_reasonAgainst 27 = .ok (.iconst 2, 1) := by decide +kernel
theorem dX4_reasonAgainst_28 : decode cX4_reasonAgainst 28 = .ok (.goto 4, 3) := by decide +kernel
theorem dX4_reasonAgainst_31 : decode cX4_reasonAgainst 31 = .ok (.iconst 0, 1) := by decide +kernel
theorem dX4_reasonAgainst_32 : decode cX4_reasonAgainst 32 = .ok (.ireturn, 1) := by decide +kernel
theorem dX4_isTooMuch_0 : decode cX4_isTooMuch 0 = .ok (.iload_n 1, 1) := by decide +kernel
theorem dX4_isTooMuch_1 : decode cX4_isTooMuch 1 = .ok (.aload_n 0, 1) := by decide +kernel
theorem dX4_isTooMuch_2 : decode cX4_isTooMuch 2 = .ok (.getfield 54, 3) := by decide +kernel
theorem dX4_isTooMuch_5 : decode cX4_isTooMuch 5 = .ok (.if_icmp .le 15, 3) := by decide +kernel
theorem dX4_isTooMuch_8 : decode cX4_isTooMuch 8 = .ok (.iload_n 1, 1) := by decide +kernel
theorem dX4_isTooMuch_9 : decode cX4_isTooMuch 9 = .ok (.aload_n 0, 1) := by decide +kernel
theorem dX4_isTooMuch_10 : decode cX4_isTooMuch 10 = .ok (.getfield 62, 3) := by decide +kernel
theorem dX4_isTooMuch_13 : decode cX4_isTooMuch 13 = .ok (.if_icmp .le 7, 3) := by decide +kernel
theorem dX4_isTooMuch_16 : decode cX4_isTooMuch 16 = .ok (.iconst 1, 1) := by decide +kernel
theorem dX4_isTooMuch_17 : decode cX4_isTooMuch 17 = .ok (.goto 4, 3) := by decide +kernel
theorem dX4_isTooMuch_20 : decode cX4_isTooMuch 20 = .ok (.iconst 0, 1) := by decide +kernel
theorem dX4_isTooMuch_21 : decode cX4_isTooMuch 21 = .ok (.ireturn, 1) := by decide +kernel
set_option maxRecDepth 20000 in
theorem ggX4_chosenStep_X4_greatestGain : GoodIn wsX4_chosenStep wsX4_greatestGain := goodIn_s _ [(6, 3), (1, 1), (9, 3), (5, 1), (12, 34)] rfl (by decide +kernel)
set_option maxRecDepth 20000 in
theorem gX4_chosenStep_X4_greatestGain : GoodIn wsX4_chosenStep (wsV RX4 123 RX4 yX4_greatestGain wsX4_greatestGain) := goodIn_app (goodIn_of _ (by decide +kernel)) ggX4_chosenStep_X4_greatestGain
theorem dX4_chosenStep_0 : decode cX4_chosenStep 0 = .ok (.aload_n 0, 1) := by decide +kernel
theorem dX4_chosenStep_1 : decode cX4_chosenStep 1 = .ok (.getfield 62, 3) := by decide +kernel
theorem dX4_chosenStep_4 : decode cX4_chosenStep 4 = .ok (.ifCond .le 11, 3) := by decide +kernel
theorem dX4_chosenStep_7 : decode cX4_chosenStep 7 = .ok (.aload_n 0, 1) := by decide +kernel
theorem dX4_chosenStep_8 : decode cX4_chosenStep 8 = .ok (.iconst 1, 1) := by decide +kernel
theorem dX4_chosenStep_9 : decode cX4_chosenStep 9 = .ok (.invokevirtual 123, 3) := by decide +kernel
theorem dX4_chosenStep_12 : decode cX4_chosenStep 12 = .ok (.goto 4, 3) := by decide +kernel
theorem dX4_chosenStep_15 : decode cX4_chosenStep 15 = .ok (.iconst (-1), 1) := by decide +kernel
theorem dX4_chosenStep_16 : decode cX4_chosenStep 16 = .ok (.istore_n 1, 1) := by decide +kernel
theorem dX4_chosenStep_17 : decode cX4_chosenStep 17 = .ok (.iload_n 1, 1) := by decide +kernel
theorem dX4_chosenStep_18 : decode cX4_chosenStep 18 = .ok (.iconst (-1), 1) := by decide +kernel
theorem dX4_chosenStep_19 : decode cX4_chosenStep 19 = .ok (.if_icmp .eq 7, 3) := by decide +kernel
theorem dX4_chosenStep_22 : decode cX4_chosenStep 22 = .ok (.iload_n 1, 1) := by decide +kernel
theorem dX4_chosenStep_23 : decode cX4_chosenStep 23 = .ok (.goto 8, 3) := by decide +kernel
theorem dX4_chosenStep_26 : decode cX4_chosenStep 26 = .ok (.aload_n 0, 1) := by decide +kernel
theorem dX4_chosenStep_27 : decode cX4_chosenStep 27 = .ok (.iconst 0, 1) := by decide +kernel
theorem dX4_chosenStep_28 : decode cX4_chosenStep 28 = .ok (.invokevirtual 123, 3) := by decide +kernel
theorem dX4_chosenStep_31 : decode cX4_chosenStep 31 = .ok (.ireturn, 1) := by decide +kernel
set_option maxRecDepth 20000 in
theorem ggX4_greatestGain_X4_gainOf : GoodIn wsX4_greatestGain wsX4_gainOf := goodIn_s _ [(8, 6), (30, 12)] rfl (by decide +kernel)
set_option maxRecDepth 20000 in
theorem gX4_greatestGain_X4_gainOf : GoodIn wsX4_greatestGain (wsV RX4 127 RX4 yX4_gainOf wsX4_gainOf) := goodIn_app (goodIn_of _ (by decide +kernel)) ggX4_greatestGain_X4_gainOf
set_option maxRecDepth 20000 in
theorem ggX4_greatestGain_X4_debtsWith : GoodIn wsX4_greatestGain wsX4_debtsWith := goodIn_s _ [(17, 1), (10, 1), (3, 1), (18, 2), (11, 3), (20, 3), (7, 1), (23, 2), (30, 12)] rfl (by decide +kernel)
set_option maxRecDepth 20000 in
theorem gX4_greatestGain_X4_debtsWith : GoodIn wsX4_greatestGain (wsV RX4 115 RX4 yX4_debtsWith wsX4_debtsWith) := goodIn_app (goodIn_of _ (by decide +kernel)) ggX4_greatestGain_X4_debtsWith
set_option maxRecDepth 20000 in
theorem ggX4_greatestGain_X4_isTooMuch : GoodIn wsX4_greatestGain wsX4_isTooMuch := goodIn_s _ [(28, 2), (3, 1), (30, 12)] rfl (by decide +kernel)
set_option maxRecDepth 20000 in
theorem gX4_greatestGain_X4_isTooMuch : GoodIn wsX4_greatestGain (wsV RX4 119 RX4 yX4_isTooMuch wsX4_isTooMuch) := goodIn_app (goodIn_of _ (by decide +kernel)) ggX4_greatestGain_X4_isTooMuch
theorem dX4_greatestGain_0 : decode cX4_greatestGain 0 = .ok (.iconst (-1), 1) := by decide +kernel
theorem dX4_greatestGain_1 : decode cX4_greatestGain 1 = .ok (.istore_n 2, 1) := by decide +kernel
theorem dX4_greatestGain_2 : decode cX4_greatestGain 2 = .ok (.iconst 0, 1) := by decide +kernel
theorem dX4_greatestGain_3 : decode cX4_greatestGain 3 = .ok (.istore_n 3, 1) := by decide +kernel
theorem dX4_greatestGain_4 : decode cX4_greatestGain 4 = .ok (.iconst 0, 1) := by decide +kernel
theorem dX4_greatestGain_5 : decode cX4_greatestGain 5 = .ok (.istore 4, 2) := by decide +kernel
theorem dX4_greatestGain_7 : decode cX4_greatestGain 7 = .ok (.iconst 0, 1) := by decide +kernel
theorem dX4_greatestGain_8 : decode cX4_greatestGain 8 = .ok (.istore 5, 2) := by decide +kernel
theorem dX4_greatestGain_10 : decode cX4_greatestGain 10 = .ok (.iload 5, 2) := by decide +kernel
theorem dX4_greatestGain_12 : decode cX4_greatestGain 12 = .ok (.aload_n 0, 1) := by decide +kernel
theorem dX4_greatestGain_13 : decode cX4_greatestGain 13 = .ok (.getfield 36, 3) := by decide +kernel
theorem dX4_greatestGain_16 : decode cX4_greatestGain 16 = .ok (.if_icmp .ge 146, 3) := by decide +kernel
theorem dX4_greatestGain_19 : decode cX4_greatestGain 19 = .ok (.iconst 0, 1) := by decide +kernel
theorem dX4_greatestGain_20 : decode cX4_greatestGain 20 = .ok (.istore 6, 2) := by decide +kernel
theorem dX4_greatestGain_22 : decode cX4_greatestGain 22 = .ok (.iload 6, 2) := by decide +kernel
theorem dX4_greatestGain_24 : decode cX4_greatestGain 24 = .ok (.aload_n 0, 1) := by decide +kernel
theorem dX4_greatestGain_25 : decode cX4_greatestGain 25 = .ok (.getfield 45, 3) := by decide +kernel
theorem dX4_greatestGain_28 : decode cX4_greatestGain 28 = .ok (.if_icmp .ge 128, 3) := by decide +kernel
theorem dX4_greatestGain_31 : decode cX4_greatestGain 31 = .ok (.aload_n 0, 1) := by decide +kernel
theorem dX4_greatestGain_32 : decode cX4_greatestGain 32 = .ok (.iload 5, 2) := by decide +kernel
theorem dX4_greatestGain_34 : decode cX4_greatestGain 34 = .ok (.iload 6, 2) := by decide +kernel
theorem dX4_greatestGain_36 : decode cX4_greatestGain 36 = .ok (.invokevirtual 127, 3) := by decide +kernel
theorem dX4_greatestGain_39 : decode cX4_greatestGain 39 = .ok (.istore 7, 2) := by decide +kernel
theorem dX4_greatestGain_41 : decode cX4_greatestGain 41 = .ok (.aload_n 0, 1) := by decide +kernel
theorem dX4_greatestGain_42 : decode cX4_greatestGain 42 = .ok (.iload 5, 2) := by decide +kernel
theorem dX4_greatestGain_44 : decode cX4_greatestGain 44 = .ok (.iload 6, 2) := by decide +kernel
theorem dX4_greatestGain_46 : decode cX4_greatestGain 46 = .ok (.invokevirtual 115, 3) := by decide +kernel
theorem dX4_greatestGain_49 : decode cX4_greatestGain 49 = .ok (.istore 8, 2) := by decide +kernel
theorem dX4_greatestGain_51 : decode cX4_greatestGain 51 = .ok (.iload_n 1, 1) := by decide +kernel
theorem dX4_greatestGain_52 : decode cX4_greatestGain 52 = .ok (.ifCond .eq 20, 3) := by decide +kernel
theorem dX4_greatestGain_55 : decode cX4_greatestGain 55 = .ok (.iload 8, 2) := by decide +kernel
theorem dX4_greatestGain_57 : decode cX4_greatestGain 57 = .ok (.aload_n 0, 1) := by decide +kernel
theorem dX4_greatestGain_58 : decode cX4_greatestGain 58 = .ok (.getfield 62, 3) := by decide +kernel
theorem dX4_greatestGain_61 : decode cX4_greatestGain 61 = .ok (.if_icmp .ge 7, 3) := by decide +kernel
theorem dX4_greatestGain_64 : decode cX4_greatestGain 64 = .ok (.iconst 1, 1) := by decide +kernel
theorem dX4_greatestGain_65 : decode cX4_greatestGain 65 = .ok (.goto 26, 3) := by decide +kernel
theorem dX4_greatestGain_68 : decode cX4_greatestGain 68 = .ok (.iconst 0, 1) := by decide +kernel
theorem dX4_greatestGain_69 : decode cX4_greatestGain 69 = .ok (.goto 22, 3) := by decide +kernel
theorem dX4_greatestGain_72 : decode cX4_greatestGain 72 = .ok (.iload 7, 2) := by decide +kernel
theorem dX4_greatestGain_74 : decode cX4_greatestGain 74 = .ok (.ifCond .le 16, 3) := by decide +kernel
theorem dX4_greatestGain_77 : decode cX4_greatestGain 77 = .ok (.aload_n 0, 1) := by decide +kernel
theorem dX4_greatestGain_78 : decode cX4_greatestGain 78 = .ok (.iload 8, 2) := by decide +kernel
theorem dX4_greatestGain_80 : decode cX4_greatestGain 80 = .ok (.invokevirtual 119, 3) := by decide +kernel
theorem dX4_greatestGain_83 : decode cX4_greatestGain 83 = .ok (.ifCond .ne 7, 3) := by decide +kernel
theorem dX4_greatestGain_86 : decode cX4_greatestGain 86 = .ok (.iconst 1, 1) := by decide +kernel
theorem dX4_greatestGain_87 : decode cX4_greatestGain 87 = .ok (.goto 4, 3) := by decide +kernel
theorem dX4_greatestGain_90 : decode cX4_greatestGain 90 = .ok (.iconst 0, 1) := by decide +kernel
theorem dX4_greatestGain_91 : decode cX4_greatestGain 91 = .ok (.istore 9, 2) := by decide +kernel
theorem dX4_greatestGain_93 : decode cX4_greatestGain 93 = .ok (.iload_n 2, 1) := by decide +kernel
theorem dX4_greatestGain_94 : decode cX4_greatestGain 94 = .ok (.iconst (-1), 1) := by decide +kernel
theorem dX4_greatestGain_95 : decode cX4_greatestGain 95 = .ok (.if_icmp .eq 22, 3) := by decide +kernel
theorem dX4_greatestGain_98 : decode cX4_greatestGain 98 = .ok (.iload 7, 2) := by decide +kernel
theorem dX4_greatestGain_100 : decode cX4_greatestGain 100 = .ok (.iload_n 3, 1) := by decide +kernel
theorem dX4_greatestGain_101 : decode cX4_greatestGain 101 = .ok (.if_icmp .gt 16, 3) := by decide +kernel
theorem dX4_greatestGain_104 : decode cX4_greatestGain 104 = .ok (.iload 7, 2) := by decide +kernel
theorem dX4_greatestGain_106 : decode cX4_greatestGain 106 = .ok (.iload_n 3, 1) := by decide +kernel
theorem dX4_greatestGain_107 : decode cX4_greatestGain 107 = .ok (.if_icmp .ne 14, 3) := by decide +kernel
theorem dX4_greatestGain_110 : decode cX4_greatestGain 110 = .ok (.iload 8, 2) := by decide +kernel
theorem dX4_greatestGain_112 : decode cX4_greatestGain 112 = .ok (.iload 4, 2) := by decide +kernel
theorem dX4_greatestGain_114 : decode cX4_greatestGain 114 = .ok (.if_icmp .ge 7, 3) := by decide +kernel
theorem dX4_greatestGain_117 : decode cX4_greatestGain 117 = .ok (.iconst 1, 1) := by decide +kernel
theorem dX4_greatestGain_118 : decode cX4_greatestGain 118 = .ok (.goto 4, 3) := by decide +kernel
theorem dX4_greatestGain_121 : decode cX4_greatestGain 121 = .ok (.iconst 0, 1) := by decide +kernel
theorem dX4_greatestGain_122 : decode cX4_greatestGain 122 = .ok (.istore 10, 2) := by decide +kernel
theorem dX4_greatestGain_124 : decode cX4_greatestGain 124 = .ok (.iload 9, 2) := by decide +kernel
theorem dX4_greatestGain_126 : decode cX4_greatestGain 126 = .ok (.ifCond .eq 24, 3) := by decide +kernel
theorem dX4_greatestGain_129 : decode cX4_greatestGain 129 = .ok (.iload 10, 2) := by decide +kernel
theorem dX4_greatestGain_131 : decode cX4_greatestGain 131 = .ok (.ifCond .eq 19, 3) := by decide +kernel
theorem dX4_greatestGain_134 : decode cX4_greatestGain 134 = .ok (.iload 5, 2) := by decide +kernel
theorem dX4_greatestGain_136 : decode cX4_greatestGain 136 = .ok (.bipush 10, 2) := by decide +kernel
theorem dX4_greatestGain_138 : decode cX4_greatestGain 138 = .ok (.imul, 1) := by decide +kernel
theorem dX4_greatestGain_139 : decode cX4_greatestGain 139 = .ok (.iload 6, 2) := by decide +kernel
theorem dX4_greatestGain_141 : decode cX4_greatestGain 141 = .ok (.iadd, 1) := by decide +kernel
theorem dX4_greatestGain_142 : decode cX4_greatestGain 142 = .ok (.istore_n 2, 1) := by decide +kernel
theorem dX4_greatestGain_143 : decode cX4_greatestGain 143 = .ok (.iload 7, 2) := by decide +kernel
theorem dX4_greatestGain_145 : decode cX4_greatestGain 145 = .ok (.istore_n 3, 1) := by decide +kernel
theorem dX4_greatestGain_146 : decode cX4_greatestGain 146 = .ok (.iload 8, 2) := by decide +kernel
theorem dX4_greatestGain_148 : decode cX4_greatestGain 148 = .ok (.istore 4, 2) := by decide +kernel
theorem dX4_greatestGain_150 : decode cX4_greatestGain 150 = .ok (.iinc 6 1, 3) := by decide +kernel
theorem dX4_greatestGain_153 : decode cX4_greatestGain 153 = .ok (.goto (-131), 3) := by decide +kernel
theorem dX4_greatestGain_156 : decode cX4_greatestGain 156 = .ok (.iinc 5 1, 3) := by decide +kernel
theorem dX4_greatestGain_159 : decode cX4_greatestGain 159 = .ok (.goto (-149), 3) := by decide +kernel
theorem dX4_greatestGain_162 : decode cX4_greatestGain 162 = .ok (.iload_n 2, 1) := by decide +kernel
theorem dX4_greatestGain_163 : decode cX4_greatestGain 163 = .ok (.ireturn, 1) := by decide +kernel
