theorem dX1_init_0 : decode cX1_init 0 = .ok (.aload_n 0, 1) := by decide +kernel
theorem dX1_init_1 : decode cX1_init 1 = .ok (.invokespecial 3, 3) := by decide +kernel
theorem dX1_init_4 : decode cX1_init 4 = .ok (.aload_n 0, 1) := by decide +kernel
theorem dX1_init_5 : decode cX1_init 5 = .ok (.sipush 196, 3) := by decide +kernel
theorem dX1_init_8 : decode cX1_init 8 = .ok (.newarray .int, 2) := by decide +kernel
theorem dX1_init_10 : decode cX1_init 10 = .ok (.putfield 9, 3) := by decide +kernel
theorem dX1_init_13 : decode cX1_init 13 = .ok (.aload_n 0, 1) := by decide +kernel
theorem dX1_init_14 : decode cX1_init 14 = .ok (.bipush 14, 2) := by decide +kernel
theorem dX1_init_16 : decode cX1_init 16 = .ok (.newarray .int, 2) := by decide +kernel
theorem dX1_init_18 : decode cX1_init 18 = .ok (.putfield 15, 3) := by decide +kernel
theorem dX1_init_21 : decode cX1_init 21 = .ok (.aload_n 0, 1) := by decide +kernel
theorem dX1_init_22 : decode cX1_init 22 = .ok (.bipush 14, 2) := by decide +kernel
theorem dX1_init_24 : decode cX1_init 24 = .ok (.newarray .int, 2) := by decide +kernel
theorem dX1_init_26 : decode cX1_init 26 = .ok (.putfield 18, 3) := by decide +kernel
theorem dX1_init_29 : decode cX1_init 29 = .ok (.return_, 1) := by decide +kernel
set_option maxRecDepth 20000 in
theorem ggX1_run_X1_fillRooms : GoodIn wsX1_run wsX1_fillRooms := goodIn_s _ [(7, 17), (49, 12), (43, 6)] rfl (by decide +kernel)
set_option maxRecDepth 20000 in
theorem gX1_run_X1_fillRooms : GoodIn wsX1_run (wsV RX1 21 RX1 yX1_fillRooms wsX1_fillRooms) := goodIn_app (goodIn_of _ (by decide +kernel)) ggX1_run_X1_fillRooms
set_option maxRecDepth 20000 in
theorem ggX1_run_X1_findWay : GoodIn wsX1_run wsX1_findWay := goodIn_s _ [(27, 3), (9, 2), (30, 2), (20, 1), (32, 1), (19, 1), (21, 1), (33, 2), (43, 6)] rfl (by decide +kernel)
set_option maxRecDepth 20000 in
theorem gX1_run_X1_findWay : GoodIn wsX1_run (wsV RX1 30 RX1 yX1_findWay wsX1_findWay) := goodIn_app (goodIn_of _ (by decide +kernel)) ggX1_run_X1_findWay
set_option maxRecDepth 20000 in
theorem ggX1_run_X1_useWay : GoodIn wsX1_run wsX1_useWay := goodIn_s _ [(38, 1), (2, 1), (10, 1), (30, 1), (39, 4), (19, 5), (43, 6)] rfl (by decide +kernel)
set_option maxRecDepth 20000 in
theorem gX1_run_X1_useWay : GoodIn wsX1_run (wsV RX1 34 RX1 yX1_useWay wsX1_useWay) := goodIn_app (goodIn_of _ (by decide +kernel)) ggX1_run_X1_useWay
theorem dX1_run_0 : decode cX1_run 0 = .ok (.aload_n 0, 1) := by decide +kernel
theorem dX1_run_1 : decode cX1_run 1 = .ok (.aload_n 1, 1) := by decide +kernel
theorem dX1_run_2 : decode cX1_run 2 = .ok (.invokevirtual 21, 3) := by decide +kernel
theorem dX1_run_5 : decode cX1_run 5 = .ok (.aload_n 0, 1) := by decide +kernel
theorem dX1_run_6 : decode cX1_run 6 = .ok (.iconst 0, 1) := by decide +kernel
theorem dX1_run_7 : decode cX1_run 7 = .ok (.putfield 25, 3) := by decide +kernel
theorem dX1_run_10 : decode cX1_run 10 = .ok (.iconst 0, 1) := by decide +kernel
theorem dX1_run_11 : decode cX1_run 11 = .ok (.istore 4, 2) := by decide +kernel
theorem dX1_run_13 : decode cX1_run 13 = .ok (.iload 4, 2) := by decide +kernel
theorem dX1_run_15 : decode cX1_run 15 = .ok (.ldc 29, 2) := by decide +kernel
theorem dX1_run_17 : decode cX1_run 17 = .ok (.if_icmp .ge 33, 3) := by decide +kernel
theorem dX1_run_20 : decode cX1_run 20 = .ok (.aload_n 0, 1) := by decide +kernel
theorem dX1_run_21 : decode cX1_run 21 = .ok (.iload_n 2, 1) := by decide +kernel
theorem dX1_run_22 : decode cX1_run 22 = .ok (.iload_n 3, 1) := by decide +kernel
theorem dX1_run_23 : decode cX1_run 23 = .ok (.invokevirtual 30, 3) := by decide +kernel
theorem dX1_run_26 : decode cX1_run 26 = .ok (.ifCond .eq 24, 3) := by decide +kernel
theorem dX1_run_29 : decode cX1_run 29 = .ok (.aload_n 0, 1) := by decide +kernel
theorem dX1_run_30 : decode cX1_run 30 = .ok (.dup, 1) := by decide +kernel
theorem dX1_run_31 : decode cX1_run 31 = .ok (.getfield 25, 3) := by decide +kernel
theorem dX1_run_34 : decode cX1_run 34 = .ok (.aload_n 0, 1) := by decide +kernel
theorem dX1_run_35 : decode cX1_run 35 = .ok (.iload_n 2, 1) := by decide +kernel
theorem dX1_run_36 : decode cX1_run 36 = .ok (.iload_n 3, 1) := by decide +kernel
theorem dX1_run_37 : decode cX1_run 37 = .ok (.invokevirtual 34, 3) := by decide +kernel
theorem dX1_run_40 : decode cX1_run 40 = .ok (.iadd, 1) := by decide +kernel
theorem dX1_run_41 : decode cX1_run 41 = .ok (.putfield 25, 3) := by decide +kernel
theorem dX1_run_44 : decode cX1_run 44 = .ok (.iinc 4 1, 3) := by decide +kernel
theorem dX1_run_47 : decode cX1_run 47 = .ok (.goto (-34), 3) := by decide +kernel
theorem dX1_run_50 : decode cX1_run 50 = .ok (.return_, 1) := by decide +kernel
set_option maxRecDepth 20000 in
theorem ggX1_fillRooms_J7_fill_53178 : GoodIn wsX1_fillRooms wsJ7_fill_53178 := goodIn_s _ [(11, 1)] rfl (by decide +kernel)
set_option maxRecDepth 20000 in
theorem gX1_fillRooms_J7_fill_53178 : GoodIn wsX1_fillRooms (va_wsS RX1 44 yJ7_fill_53178 wsJ7_fill_53178) := goodIn_app (goodIn_of _ (by decide +kernel)) ggX1_fillRooms_J7_fill_53178
set_option maxRecDepth 20000 in
theorem ggX1_fillRooms_X11_at : GoodIn wsX1_fillRooms wsX11_at := goodIn_s _ [(14, 1)] rfl (by decide +kernel)
set_option maxRecDepth 20000 in
theorem gX1_fillRooms_X11_at_n56 : GoodIn wsX1_fillRooms (wsX11_at) := ggX1_fillRooms_X11_at
set_option maxRecDepth 20000 in
theorem ggX1_fillRooms_X11_add : GoodIn wsX1_fillRooms wsX11_add := goodIn_s _ [(16, 1)] rfl (by decide +kernel)
set_option maxRecDepth 20000 in
theorem gX1_fillRooms_X11_add_n66 : GoodIn wsX1_fillRooms (wsX11_add) := ggX1_fillRooms_X11_add
theorem dX1_fillRooms_0 : decode cX1_fillRooms 0 = .ok (.aload_n 0, 1) := by decide +kernel
theorem dX1_fillRooms_1 : decode cX1_fillRooms 1 = .ok (.aload_n 1, 1) := by decide +kernel
theorem dX1_fillRooms_2 : decode cX1_fillRooms 2 = .ok (.getfield 38, 3) := by decide +kernel
theorem dX1_fillRooms_5 : decode cX1_fillRooms 5 = .ok (.putfield 43, 3) := by decide +kernel
theorem dX1_fillRooms_8 : decode cX1_fillRooms 8 = .ok (.aload_n 0, 1) := by decide +kernel
theorem dX1_fillRooms_9 : decode cX1_fillRooms 9 = .ok (.getfield 9, 3) := by decide +kernel
theorem dX1_fillRooms_12 : decode cX1_fillRooms 12 = .ok (.iconst 0, 1) := by decide +kernel
theorem dX1_fillRooms_13 : decode cX1_fillRooms 13 = .ok (.invokestatic 44, 3) := by decide +kernel
theorem dX1_fillRooms_16 : decode cX1_fillRooms 16 = .ok (.iconst 0, 1) := by decide +kernel
theorem dX1_fillRooms_17 : decode cX1_fillRooms 17 = .ok (.istore_n 2, 1) := by decide +kernel
theorem dX1_fillRooms_18 : decode cX1_fillRooms 18 = .ok (.iload_n 2, 1) := by decide +kernel
theorem dX1_fillRooms_19 : decode cX1_fillRooms 19 = .ok (.aload_n 1, 1) := by decide +kernel
theorem dX1_fillRooms_20 : decode cX1_fillRooms 20 = .ok (.getfield 50, 3) := by decide +kernel
theorem dX1_fillRooms_23 : decode cX1_fillRooms 23 = .ok (.if_icmp .ge 72, 3) := by decide +kernel
theorem dX1_fillRooms_26 : decode cX1_fillRooms 26 = .ok (.aload_n 1, 1) := by decide +kernel
theorem dX1_fillRooms_27 : decode cX1_fillRooms 27 = .ok (.getfield 53, 3) := by decide +kernel
theorem dX1_fillRooms_30 : decode cX1_fillRooms 30 = .ok (.iload_n 2, 1) := by decide +kernel
theorem dX1_fillRooms_31 : decode cX1_fillRooms 31 = .ok (.invokestatic 56, 3) := by decide +kernel
theorem dX1_fillRooms_34 : decode cX1_fillRooms 34 = .ok (.istore_n 3, 1) := by decide +kernel
theorem dX1_fillRooms_35 : decode cX1_fillRooms 35 = .ok (.aload_n 1, 1) := by decide +kernel
theorem dX1_fillRooms_36 : decode cX1_fillRooms 36 = .ok (.getfield 60, 3) := by decide +kernel
theorem dX1_fillRooms_39 : decode cX1_fillRooms 39 = .ok (.iload_n 2, 1) := by decide +kernel
theorem dX1_fillRooms_40 : decode cX1_fillRooms 40 = .ok (.invokestatic 56, 3) := by decide +kernel
theorem dX1_fillRooms_43 : decode cX1_fillRooms 43 = .ok (.istore 4, 2) := by decide +kernel
theorem dX1_fillRooms_45 : decode cX1_fillRooms 45 = .ok (.aload_n 0, 1) := by decide +kernel
theorem dX1_fillRooms_46 : decode cX1_fillRooms 46 = .ok (.getfield 9, 3) := by decide +kernel
theorem dX1_fillRooms_49 : decode cX1_fillRooms 49 = .ok (.iload_n 3, 1) := by decide +kernel
theorem dX1_fillRooms_50 : decode cX1_fillRooms 50 = .ok (.bipush 14, 2) := by decide +kernel
theorem dX1_fillRooms_52 : decode cX1_fillRooms 52 = .ok (.imul, 1) := by decide +kernel
theorem dX1_fillRooms_53 : decode cX1_fillRooms 53 = .ok (.iload 4, 2) := by decide +kernel
theorem dX1_fillRooms_55 : decode cX1_fillRooms 55 = .ok (.iadd, 1) := by decide +kernel
theorem dX1_fillRooms_56 : decode cX1_fillRooms 56 = .ok (.aload_n 1, 1) := by decide +kernel
theorem dX1_fillRooms_57 : decode cX1_fillRooms 57 = .ok (.getfield 63, 3) := by decide +kernel
theorem dX1_fillRooms_60 : decode cX1_fillRooms 60 = .ok (.iload_n 2, 1) := by decide +kernel
theorem dX1_fillRooms_61 : decode cX1_fillRooms 61 = .ok (.invokestatic 56, 3) := by decide +kernel
theorem dX1_fillRooms_64 : decode cX1_fillRooms 64 = .ok (.invokestatic 66, 3) := by decide +kernel
theorem dX1_fillRooms_67 : decode cX1_fillRooms 67 = .ok (.aload_n 0, 1) := by decide +kernel
theorem dX1_fillRooms_68 : decode cX1_fillRooms 68 = .ok (.getfield 9, 3) := by decide +kernel
theorem dX1_fillRooms_71 : decode cX1_fillRooms 71 = .ok (.iload 4, 2) := by decide +kernel
theorem dX1_fillRooms_73 : decode cX1_fillRooms 73 = .ok (.bipush 14, 2) := by decide +kernel
theorem dX1_fillRooms_75 : decode cX1_fillRooms 75 = .ok (.imul, 1) := by decide +kernel
theorem dX1_fillRooms_76 : decode cX1_fillRooms 76 = .ok (.iload_n 3, 1) := by decide +kernel
theorem dX1_fillRooms_77 : decode cX1_fillRooms 77 = .ok (.iadd, 1) := by decide +kernel
theorem dX1_fillRooms_78 : decode cX1_fillRooms 78 = .ok (.aload_n 1, 1) := by decide +kernel
theorem dX1_fillRooms_79 : decode cX1_fillRooms 79 = .ok (.getfield 63, 3) := by decide +kernel
theorem dX1_fillRooms_82 : decode cX1_fillRooms 82 = .ok (.iload_n 2, 1) := by decide +kernel
theorem dX1_fillRooms_83 : decode cX1_fillRooms 83 = .ok (.invokestatic 56, 3) := by decide +kernel
theorem dX1_fillRooms_86 : decode cX1_fillRooms 86 = .ok (.invokestatic 66, 3) := by decide +kernel
theorem dX1_fillRooms_89 : decode cX1_fillRooms 89 = .ok (.iinc 2 1, 3) := by decide +kernel
theorem dX1_fillRooms_92 : decode cX1_fillRooms 92 = .ok (.goto (-74), 3) := by decide +kernel
theorem dX1_fillRooms_95 : decode cX1_fillRooms 95 = .ok (.return_, 1) := by decide +kernel
set_option maxRecDepth 20000 in
theorem ggX1_findWay_X11_put : GoodIn wsX1_findWay wsX11_put := goodIn_s _ [(8, 1)] rfl (by decide +kernel)
set_option maxRecDepth 20000 in
theorem gX1_findWay_X11_put_n73 : GoodIn wsX1_findWay (wsX11_put) := ggX1_findWay_X11_put
set_option maxRecDepth 20000 in
theorem ggX1_findWay_X11_at : GoodIn wsX1_findWay wsX11_at := goodIn_s _ [(10, 1)] rfl (by decide +kernel)
set_option maxRecDepth 20000 in
theorem gX1_findWay_X11_at_n56 : GoodIn wsX1_findWay (wsX11_at) := ggX1_findWay_X11_at
set_option maxRecDepth 20000 in
theorem ggX1_findWay_X11_isIn : GoodIn wsX1_findWay wsX11_isIn := goodIn_s _ [(12, 1)] rfl (by decide +kernel)
set_option maxRecDepth 20000 in
theorem gX1_findWay_X11_isIn_n76 : GoodIn wsX1_findWay (wsX11_isIn) := ggX1_findWay_X11_isIn
theorem dX1_findWay_0 : decode cX1_findWay 0 = .ok (.aload_n 0, 1) := by decide +kernel
theorem dX1_findWay_1 : decode cX1_findWay 1 = .ok (.iconst 1, 1) := by decide +kernel
theorem dX1_findWay_2 : decode cX1_findWay 2 = .ok (.iload_n 1, 1) := by decide +kernel
theorem dX1_findWay_3 : decode cX1_findWay 3 = .ok (.ishl, 1) := by decide +kernel
theorem dX1_findWay_4 : decode cX1_findWay 4 = .ok (.putfield 70, 3) := by decide +kernel
theorem dX1_findWay_7 : decode cX1_findWay 7 = .ok (.aload_n 0, 1) := by decide +kernel
theorem dX1_findWay_8 : decode cX1_findWay 8 = .ok (.getfield 15, 3) := by decide +kernel
theorem dX1_findWay_11 : decode cX1_findWay 11 = .ok (.iconst 0, 1) := by decide +kernel
theorem dX1_findWay_12 : decode cX1_findWay 12 = .ok (.iload_n 1, 1) := by decide +kernel
theorem dX1_findWay_13 : decode cX1_findWay 13 = .ok (.invokestatic 73, 3) := by decide +kernel
theorem dX1_findWay_16 : decode cX1_findWay 16 = .ok (.iconst 1, 1) := by decide +kernel
theorem dX1_findWay_17 : decode cX1_findWay 17 = .ok (.istore_n 3, 1) := by decide +kernel
theorem dX1_findWay_18 : decode cX1_findWay 18 = .ok (.iconst 0, 1) := by decide +kernel
theorem dX1_findWay_19 : decode cX1_findWay 19 = .ok (.istore 4, 2) := by decide +kernel
theorem dX1_findWay_21 : decode cX1_findWay 21 = .ok (.iload 4, 2) := by decide +kernel
theorem dX1_findWay_23 : decode cX1_findWay 23 = .ok (.iload_n 3, 1) := by decide +kernel
theorem dX1_findWay_24 : decode cX1_findWay 24 = .ok (.if_icmp .ge 112, 3) := by decide +kernel
theorem dX1_findWay_27 : decode cX1_findWay 27 = .ok (.iload 4, 2) := by decide +kernel
theorem dX1_findWay_29 : decode cX1_findWay 29 = .ok (.bipush 14, 2) := by decide +kernel
theorem dX1_findWay_31 : decode cX1_findWay 31 = .ok (.if_icmp .ge 105, 3) := by decide +kernel
theorem dX1_findWay_34 : decode cX1_findWay 34 = .ok (.aload_n 0, 1) := by decide +kernel
theorem dX1_findWay_35 : decode cX1_findWay 35 = .ok (.getfield 15, 3) := by decide +kernel
theorem dX1_findWay_38 : decode cX1_findWay 38 = .ok (.iload 4, 2) := by decide +kernel
theorem dX1_findWay_40 : decode cX1_findWay 40 = .ok (.invokestatic 56, 3) := by decide +kernel
theorem dX1_findWay_43 : decode cX1_findWay 43 = .ok (.istore 5, 2) := by decide +kernel
theorem dX1_findWay_45 : decode cX1_findWay 45 = .ok (.iconst 0, 1) := by decide +kernel
theorem dX1_findWay_46 : decode cX1_findWay 46 = .ok (.istore 6, 2) := by decide +kernel
theorem dX1_findWay_48 : decode cX1_findWay 48 = .ok (.iload 6, 2) := by decide +kernel
theorem dX1_findWay_50 : decode cX1_findWay 50 = .ok (.aload_n 0, 1) := by decide +kernel
theorem dX1_findWay_51 : decode cX1_findWay 51 = .ok (.getfield 43, 3) := by decide +kernel
theorem dX1_findWay_54 : decode cX1_findWay 54 = .ok (.if_icmp .ge 76, 3) := by decide +kernel
theorem dX1_findWay_57 : decode cX1_findWay 57 = .ok (.aload_n 0, 1) := by decide +kernel
theorem dX1_findWay_58 : decode cX1_findWay 58 = .ok (.getfield 70, 3) := by decide +kernel
theorem dX1_findWay_61 : decode cX1_findWay 61 = .ok (.iload 6, 2) := by decide +kernel
theorem dX1_findWay_63 : decode cX1_findWay 63 = .ok (.invokestatic 76, 3) := by decide +kernel
theorem dX1_findWay_66 : decode cX1_findWay 66 = .ok (.ifCond .ne 58, 3) := by decide +kernel
theorem dX1_findWay_69 : decode cX1_findWay 69 = .ok (.aload_n 0, 1) := by decide +kernel
theorem dX1_findWay_70 : decode cX1_findWay 70 = .ok (.getfield 9, 3) := by decide +kernel
theorem dX1_findWay_73 : decode cX1_findWay 73 = .ok (.iload 5, 2) := by decide +kernel
theorem dX1_findWay_75 : decode cX1_findWay 75 = .ok (.bipush 14, 2) := by decide +kernel
theorem dX1_findWay_77 : decode cX1_findWay 77 = .ok (.imul, 1) := by decide +kernel
theorem dX1_findWay_78 : decode cX1_findWay 78 = .ok (.iload 6, 2) := by decide +kernel
theorem dX1_findWay_80 : decode cX1_findWay 80 = .ok (.iadd, 1) := by decide +kernel
theorem dX1_findWay_81 : decode cX1_findWay 81 = .ok (.invokestatic 56, 3) := by decide +kernel
theorem dX1_findWay_84 : decode cX1_findWay 84 = .ok (.ifCond .le 40, 3) := by decide +kernel
theorem dX1_findWay_87 : decode cX1_findWay 87 = .ok (.aload_n 0, 1) := by decide +kernel
theorem dX1_findWay_88 : decode cX1_findWay 88 = .ok (.dup, 1) := by decide +kernel
theorem dX1_findWay_89 : decode cX1_findWay 89 = .ok (.getfield 70, 3) := by decide +kernel
theorem dX1_findWay_92 : decode cX1_findWay 92 = .ok (.iconst 1, 1) := by decide +kernel
theorem dX1_findWay_93 : decode cX1_findWay 93 = .ok (.iload 6, 2) := by decide +kernel
theorem dX1_findWay_95 : decode cX1_findWay 95 = .ok (.ishl, 1) := by decide +kernel
theorem dX1_findWay_96 : decode cX1_findWay 96 = .ok (.ior, 1) := by decide +kernel
theorem dX1_findWay_97 : decode cX1_findWay 97 = .ok (.putfield 70, 3) := by decide +kernel
theorem dX1_findWay_100 : decode cX1_findWay 100 = .ok (.aload_n 0, 1) := by decide +kernel
theorem dX1_findWay_101 : decode cX1_findWay 101 = .ok (.getfield 18, 3) := by decide +kernel
theorem dX1_findWay_104 : decode cX1_findWay 104 = .ok (.iload 6, 2) := by decide +kernel
theorem dX1_findWay_106 : decode cX1_findWay 106 = .ok (.iload 5, 2) := by decide +kernel
theorem dX1_findWay_108 : decode cX1_findWay 108 = .ok (.invokestatic 73, 3) := by decide +kernel
theorem dX1_findWay_111 : decode cX1_findWay 111 = .ok (.aload_n 0, 1) := by decide +kernel
theorem dX1_findWay_112 : decode cX1_findWay 112 = .ok (.getfield 15, 3) := by decide +kernel
theorem dX1_findWay_115 : decode cX1_findWay 115 = .ok (.iload_n 3, 1) := by decide +kernel
theorem dX1_findWay_116 : decode cX1_findWay 116 = .ok (.iload 6, 2) := by decide +kernel
theorem dX1_findWay_118 : decode cX1_findWay 118 = .ok (.invokestatic 73, 3) := by decide +kernel
theorem dX1_findWay_121 : decode cX1_findWay 121 = .ok (.iinc 3 1, 3) := by decide +kernel
theorem dX1_findWay_124 : decode cX1_findWay 124 = .ok (.iinc 6 1, 3) := by decide +kernel
theorem dX1_findWay_127 : decode cX1_findWay 127 = .ok (.goto (-79), 3) := by decide +kernel
theorem dX1_findWay_130 : decode cX1_findWay 130 = .ok (.iinc 4 1, 3) := by decide +kernel
theorem dX1_findWay_133 : decode cX1_findWay 133 = .ok (.goto (-112), 3) := by decide +kernel
theorem dX1_findWay_136 : decode cX1_findWay 136 = .ok (.aload_n 0, 1) := by decide +kernel
theorem dX1_findWay_137 : decode cX1_findWay 137 = .ok (.getfield 70, 3) := by decide +kernel
theorem dX1_findWay_140 : decode cX1_findWay 140 = .ok (.iload_n 2, 1) := by decide +kernel
theorem dX1_findWay_141 : decode cX1_findWay 141 = .ok (.invokestatic 76, 3) := by decide +kernel
theorem dX1_findWay_144 : decode cX1_findWay 144 = .ok (.ireturn, 1) := by decide +kernel
set_option maxRecDepth 20000 in
theorem ggX1_useWay_X11_at : GoodIn wsX1_useWay wsX11_at := goodIn_s _ [(10, 1)] rfl (by decide +kernel)
set_option maxRecDepth 20000 in
theorem gX1_useWay_X11_at_n56 : GoodIn wsX1_useWay (wsX11_at) := ggX1_useWay_X11_at
set_option maxRecDepth 20000 in
theorem ggX1_useWay_X11_add : GoodIn wsX1_useWay wsX11_add := goodIn_s _ [(12, 1)] rfl (by decide +kernel)
set_option maxRecDepth 20000 in
theorem gX1_useWay_X11_add_n66 : GoodIn wsX1_useWay (wsX11_add) := ggX1_useWay_X11_add
theorem dX1_useWay_0 : decode cX1_useWay 0 = .ok (.ldc 29, 2) := by decide +kernel
theorem dX1_useWay_2 : decode cX1_useWay 2 = .ok (.istore_n 3, 1) := by decide +kernel
theorem dX1_useWay_3 : decode cX1_useWay 3 = .ok (.iload_n 2, 1) := by decide +kernel
theorem dX1_useWay_4 : decode cX1_useWay 4 = .ok (.istore 4, 2) := by decide +kernel
theorem dX1_useWay_6 : decode cX1_useWay 6 = .ok (.iconst 0, 1) := by decide +kernel
theorem dX1_useWay_7 : decode cX1_useWay 7 = .ok (.istore 5, 2) := by decide +kernel
theorem dX1_useWay_9 : decode cX1_useWay 9 = .ok (.iload 5, 2) := by decide +kernel
theorem dX1_useWay_11 : decode cX1_useWay 11 = .ok (.bipush 14, 2) := by decide +kernel
theorem dX1_useWay_13 : decode cX1_useWay 13 = .ok (.if_icmp .ge 53, 3) := by decide +kernel
theorem dX1_useWay_16 : decode cX1_useWay 16 = .ok (.iload 4, 2) := by decide +kernel
theorem dX1_useWay_18 : decode cX1_useWay 18 = .ok (.iload_n 1, 1) := by decide +kernel
theorem dX1_useWay_19 : decode cX1_useWay 19 = .ok (.if_icmp .eq 47, 3) := by decide +kernel
theorem dX1_useWay_22 : decode cX1_useWay 22 = .ok (.iload_n 3, 1) := by decide +kernel
theorem dX1_useWay_23 : decode cX1_useWay 23 = .ok (.aload_n 0, 1) := by decide +kernel
theorem dX1_useWay_24 : decode cX1_useWay 24 = .ok (.getfield 9, 3) := by decide +kernel
theorem dX1_useWay_27 : decode cX1_useWay 27 = .ok (.aload_n 0, 1) := by decide +kernel
theorem dX1_useWay_28 : decode cX1_useWay 28 = .ok (.getfield 18, 3) := by decide +kernel
theorem dX1_useWay_31 : decode cX1_useWay 31 = .ok (.iload 4, 2) := by decide +kernel
theorem dX1_useWay_33 : decode cX1_useWay 33 = .ok (.invokestatic 56, 3) := by decide +kernel
theorem dX1_useWay_36 : decode cX1_useWay 36 = .ok (.bipush 14, 2) := by decide +kernel
theorem dX1_useWay_38 : decode cX1_useWay 38 = .ok (.imul, 1) := by decide +kernel
theorem dX1_useWay_39 : decode cX1_useWay 39 = .ok (.iload 4, 2) := by decide +kernel
theorem dX1_useWay_41 : decode cX1_useWay 41 = .ok (.iadd, 1) := by decide +kernel
theorem dX1_useWay_42 : decode cX1_useWay 42 = .ok (.invokestatic 56, 3) := by decide +kernel
theorem dX1_useWay_45 : decode cX1_useWay 45 = .ok (.invokestatic 79, 3) := by decide +kernel
theorem dX1_useWay_48 : decode cX1_useWay 48 = .ok (.istore_n 3, 1) := by decide +kernel
theorem dX1_useWay_49 : decode cX1_useWay 49 = .ok (.aload_n 0, 1) := by decide +kernel
theorem dX1_useWay_50 : decode cX1_useWay 50 = .ok (.getfield 18, 3) := by decide +kernel
theorem dX1_useWay_53 : decode cX1_useWay 53 = .ok (.iload 4, 2) := by decide +kernel
theorem dX1_useWay_55 : decode cX1_useWay 55 = .ok (.invokestatic 56, 3) := by decide +kernel
theorem dX1_useWay_58 : decode cX1_useWay 58 = .ok (.istore 4, 2) := by decide +kernel
theorem dX1_useWay_60 : decode cX1_useWay 60 = .ok (.iinc 5 1, 3) := by decide +kernel
theorem dX1_useWay_63 : decode cX1_useWay 63 = .ok (.goto (-54), 3) := by decide +kernel
theorem dX1_useWay_66 : decode cX1_useWay 66 = .ok (.iload_n 2, 1) := by decide +kernel
theorem dX1_useWay_67 : decode cX1_useWay 67 = .ok (.istore 4, 2) := by decide +kernel
theorem dX1_useWay_69 : decode cX1_useWay 69 = .ok (.iconst 0, 1) := by decide +kernel
theorem dX1_useWay_70 : decode cX1_useWay 70 = .ok (.istore 5, 2) := by decide +kernel
theorem dX1_useWay_72 : decode cX1_useWay 72 = .ok (.iload 5, 2) := by decide +kernel
theorem dX1_useWay_74 : decode cX1_useWay 74 = .ok (.bipush 14, 2) := by decide +kernel
theorem dX1_useWay_76 : decode cX1_useWay 76 = .ok (.if_icmp .ge 73, 3) := by decide +kernel
theorem dX1_useWay_79 : decode cX1_useWay 79 = .ok (.iload 4, 2) := by decide +kernel
theorem dX1_useWay_81 : decode cX1_useWay 81 = .ok (.iload_n 1, 1) := by decide +kernel
theorem dX1_useWay_82 : decode cX1_useWay 82 = .ok (.if_icmp .eq 67, 3) := by decide +kernel
theorem dX1_useWay_85 : decode cX1_useWay 85 = .ok (.aload_n 0, 1) := by decide +kernel
theorem dX1_useWay_86 : decode cX1_useWay 86 = .ok (.getfield 9, 3) := by decide +kernel
theorem dX1_useWay_89 : decode cX1_useWay 89 = .ok (.aload_n 0, 1) := by decide +kernel
theorem dX1_useWay_90 : decode cX1_useWay 90 = .ok (.getfield 18, 3) := by decide +kernel
theorem dX1_useWay_93 : decode cX1_useWay 93 = .ok (.iload 4, 2) := by decide +kernel
theorem dX1_useWay_95 : decode cX1_useWay 95 = .ok (.invokestatic 56, 3) := by decide +kernel
theorem dX1_useWay_98 : decode cX1_useWay 98 = .ok (.bipush 14, 2) := by decide +kernel
theorem dX1_useWay_100 : decode cX1_useWay 100 = .ok (.imul, 1) := by decide +kernel
theorem dX1_useWay_101 : decode cX1_useWay 101 = .ok (.iload 4, 2) := by decide +kernel
theorem dX1_useWay_103 : decode cX1_useWay 103 = .ok (.iadd, 1) := by decide +kernel
theorem dX1_useWay_104 : decode cX1_useWay 104 = .ok (.iload_n 3, 1) := by decide +kernel
theorem dX1_useWay_105 : decode cX1_useWay 105 = .ok (.ineg, 1) := by decide +kernel
theorem dX1_useWay_106 : decode cX1_useWay 106 = .ok (.invokestatic 66, 3) := by decide +kernel
theorem dX1_useWay_109 : decode cX1_useWay 109 = .ok (.aload_n 0, 1) := by decide +kernel
theorem dX1_useWay_110 : decode cX1_useWay 110 = .ok (.getfield 9, 3) := by decide +kernel
theorem dX1_useWay_113 : decode cX1_useWay 113 = .ok (.iload 4, 2) := by decide +kernel
theorem dX1_useWay_115 : decode cX1_useWay 115 = .ok (.bipush 14, 2) := by decide +kernel
theorem dX1_useWay_117 : decode cX1_useWay 117 = .ok (.imul, 1) := by decide +kernel
theorem dX1_useWay_118 : decode cX1_useWay 118 = .ok (.aload_n 0, 1) := by decide +kernel
theorem dX1_useWay_119 : decode cX1_useWay 119 = .ok (.getfield 18, 3) := by decide +kernel
theorem dX1_useWay_122 : decode cX1_useWay 122 = .ok (.iload 4, 2) := by decide +kernel
theorem dX1_useWay_124 : decode cX1_useWay 124 = .ok (.invokestatic 56, 3) := by decide +kernel
theorem dX1_useWay_127 : decode cX1_useWay 127 = .ok (.iadd, 1) := by decide +kernel
theorem dX1_useWay_128 : decode cX1_useWay 128 = .ok (.iload_n 3, 1) := by decide +kernel
theorem dX1_useWay_129 : decode cX1_useWay 129 = .ok (.invokestatic 66, 3) := by decide +kernel
theorem dX1_useWay_132 : decode cX1_useWay 132 = .ok (.aload_n 0, 1) := by decide +kernel
theorem dX1_useWay_133 : decode cX1_useWay 133 = .ok (.getfield 18, 3) := by decide +kernel
theorem dX1_useWay_136 : decode cX1_useWay 136 = .ok (.iload 4, 2) := by decide +kernel
theorem dX1_useWay_138 : decode cX1_useWay 138 = .ok (.invokestatic 56, 3) := by decide +kernel
theorem dX1_useWay_141 : decode cX1_useWay 141 = .ok (.istore 4, 2) := by decide +kernel
theorem dX1_useWay_143 : decode cX1_useWay 143 = .ok (.iinc 5 1, 3) := by decide +kernel
theorem dX1_useWay_146 : decode cX1_useWay 146 = .ok (.goto (-74), 3) := by decide +kernel
theorem dX1_useWay_149 : decode cX1_useWay 149 = .ok (.iload_n 3, 1) := by decide +kernel
theorem dX1_useWay_150 : decode cX1_useWay 150 = .ok (.ireturn, 1) := by decide +kernel
