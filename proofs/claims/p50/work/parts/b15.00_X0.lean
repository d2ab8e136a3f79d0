theorem dX0_init_0 : decode cX0_init 0 = .ok (.aload_n 0, 1) := by decide +kernel
theorem dX0_init_1 : decode cX0_init 1 = .ok (.invokespecial 3, 3) := by decide +kernel
theorem dX0_init_4 : decode cX0_init 4 = .ok (.aload_n 0, 1) := by decide +kernel
theorem dX0_init_5 : decode cX0_init 5 = .ok (.bipush 7, 2) := by decide +kernel
theorem dX0_init_7 : decode cX0_init 7 = .ok (.newarray .int, 2) := by decide +kernel
theorem dX0_init_9 : decode cX0_init 9 = .ok (.putfield 9, 3) := by decide +kernel
theorem dX0_init_12 : decode cX0_init 12 = .ok (.aload_n 0, 1) := by decide +kernel
theorem dX0_init_13 : decode cX0_init 13 = .ok (.bipush 7, 2) := by decide +kernel
theorem dX0_init_15 : decode cX0_init 15 = .ok (.newarray .int, 2) := by decide +kernel
theorem dX0_init_17 : decode cX0_init 17 = .ok (.putfield 15, 3) := by decide +kernel
theorem dX0_init_20 : decode cX0_init 20 = .ok (.aload_n 0, 1) := by decide +kernel
theorem dX0_init_21 : decode cX0_init 21 = .ok (.iconst 4, 1) := by decide +kernel
theorem dX0_init_22 : decode cX0_init 22 = .ok (.newarray .int, 2) := by decide +kernel
theorem dX0_init_24 : decode cX0_init 24 = .ok (.putfield 18, 3) := by decide +kernel
theorem dX0_init_27 : decode cX0_init 27 = .ok (.return_, 1) := by decide +kernel
set_option maxRecDepth 20000 in
theorem ggX0_search_J7_fill_53178 : GoodIn wsX0_search wsJ7_fill_53178 := goodIn_s _ [(10, 1)] rfl (by decide +kernel)
set_option maxRecDepth 20000 in
theorem gX0_search_J7_fill_53178 : GoodIn wsX0_search (va_wsS RX0 21 yJ7_fill_53178 wsJ7_fill_53178) := goodIn_app (goodIn_of _ (by decide +kernel)) ggX0_search_J7_fill_53178
set_option maxRecDepth 20000 in
theorem ggX0_search_X0_triedDebts : GoodIn wsX0_search wsX0_triedDebts := goodIn_s _ [(15, 2), (5, 1), (1, 1), (17, 2), (7, 4), (19, 11), (59, 17)] rfl (by decide +kernel)
set_option maxRecDepth 20000 in
theorem gX0_search_X0_triedDebts : GoodIn wsX0_search (wsV RX0 35 RX0 yX0_triedDebts wsX0_triedDebts) := goodIn_app (goodIn_of _ (by decide +kernel)) ggX0_search_X0_triedDebts
set_option maxRecDepth 20000 in
theorem ggX0_search_X0_triedCut : GoodIn wsX0_search wsX0_triedCut := goodIn_s _ [(33, 1), (1, 1), (34, 1), (19, 3), (59, 5), (76, 5)] rfl (by decide +kernel)
set_option maxRecDepth 20000 in
theorem gX0_search_X0_triedCut : GoodIn wsX0_search (wsV RX0 44 RX0 yX0_triedCut wsX0_triedCut) := goodIn_app (goodIn_of _ (by decide +kernel)) ggX0_search_X0_triedCut
set_option maxRecDepth 20000 in
theorem ggX0_search_X11_copy : GoodIn wsX0_search wsX11_copy := goodIn_s _ [(36, 9)] rfl (by decide +kernel)
set_option maxRecDepth 20000 in
theorem gX0_search_X11_copy_n48 : GoodIn wsX0_search (wsX11_copy) := ggX0_search_X11_copy
set_option maxRecDepth 20000 in
theorem ggX0_search_X0_advance : GoodIn wsX0_search wsX0_advance := goodIn_s _ [(48, 1), (5, 1), (18, 1), (49, 1), (38, 3), (1, 1), (50, 3), (14, 1), (53, 4), (19, 5), (57, 2), (64, 12), (59, 5)] rfl (by decide +kernel)
set_option maxRecDepth 20000 in
theorem gX0_search_X0_advance : GoodIn wsX0_search (wsV RX0 52 RX0 yX0_advance wsX0_advance) := goodIn_app (goodIn_of _ (by decide +kernel)) ggX0_search_X0_advance
theorem dX0_search_0 : decode cX0_search 0 = .ok (.aload_n 0, 1) := by decide +kernel
theorem dX0_search_1 : decode cX0_search 1 = .ok (.getfield 9, 3) := by decide +kernel
theorem dX0_search_4 : decode cX0_search 4 = .ok (.iconst 0, 1) := by decide +kernel
theorem dX0_search_5 : decode cX0_search 5 = .ok (.invokestatic 21, 3) := by decide +kernel
theorem dX0_search_8 : decode cX0_search 8 = .ok (.aload_n 0, 1) := by decide +kernel
theorem dX0_search_9 : decode cX0_search 9 = .ok (.ldc 27, 2) := by decide +kernel
theorem dX0_search_11 : decode cX0_search 11 = .ok (.putfield 28, 3) := by decide +kernel
theorem dX0_search_14 : decode cX0_search 14 = .ok (.aload_n 0, 1) := by decide +kernel
theorem dX0_search_15 : decode cX0_search 15 = .ok (.ldc 27, 2) := by decide +kernel
theorem dX0_search_17 : decode cX0_search 17 = .ok (.putfield 32, 3) := by decide +kernel
theorem dX0_search_20 : decode cX0_search 20 = .ok (.iconst 1, 1) := by decide +kernel
theorem dX0_search_21 : decode cX0_search 21 = .ok (.istore_n 3, 1) := by decide +kernel
theorem dX0_search_22 : decode cX0_search 22 = .ok (.iconst 0, 1) := by decide +kernel
theorem dX0_search_23 : decode cX0_search 23 = .ok (.istore 4, 2) := by decide +kernel
theorem dX0_search_25 : decode cX0_search 25 = .ok (.iload_n 3, 1) := by decide +kernel
theorem dX0_search_26 : decode cX0_search 26 = .ok (.ifCond .eq 95, 3) := by decide +kernel
theorem dX0_search_29 : decode cX0_search 29 = .ok (.iload 4, 2) := by decide +kernel
theorem dX0_search_31 : decode cX0_search 31 = .ok (.ldc 27, 2) := by decide +kernel
theorem dX0_search_33 : decode cX0_search 33 = .ok (.if_icmp .ge 88, 3) := by decide +kernel
theorem dX0_search_36 : decode cX0_search 36 = .ok (.aload_n 0, 1) := by decide +kernel
theorem dX0_search_37 : decode cX0_search 37 = .ok (.aload_n 1, 1) := by decide +kernel
theorem dX0_search_38 : decode cX0_search 38 = .ok (.invokevirtual 35, 3) := by decide +kernel
theorem dX0_search_41 : decode cX0_search 41 = .ok (.istore 5, 2) := by decide +kernel
theorem dX0_search_43 : decode cX0_search 43 = .ok (.iload 5, 2) := by decide +kernel
theorem dX0_search_45 : decode cX0_search 45 = .ok (.aload_n 0, 1) := by decide +kernel
theorem dX0_search_46 : decode cX0_search 46 = .ok (.getfield 28, 3) := by decide +kernel
theorem dX0_search_49 : decode cX0_search 49 = .ok (.if_icmp .le 8, 3) := by decide +kernel
theorem dX0_search_52 : decode cX0_search 52 = .ok (.ldc 27, 2) := by decide +kernel
theorem dX0_search_54 : decode cX0_search 54 = .ok (.goto 12, 3) := by decide +kernel
theorem dX0_search_57 : decode cX0_search 57 = .ok (.aload_n 0, 1) := by decide +kernel
theorem dX0_search_58 : decode cX0_search 58 = .ok (.aload_n 1, 1) := by decide +kernel
theorem dX0_search_59 : decode cX0_search 59 = .ok (.getfield 39, 3) := by decide +kernel
theorem dX0_search_62 : decode cX0_search 62 = .ok (.aload_n 2, 1) := by decide +kernel
theorem dX0_search_63 : decode cX0_search 63 = .ok (.invokevirtual 44, 3) := by decide +kernel
theorem dX0_search_66 : decode cX0_search 66 = .ok (.istore 6, 2) := by decide +kernel
theorem dX0_search_68 : decode cX0_search 68 = .ok (.iload 5, 2) := by decide +kernel
theorem dX0_search_70 : decode cX0_search 70 = .ok (.aload_n 0, 1) := by decide +kernel
theorem dX0_search_71 : decode cX0_search 71 = .ok (.getfield 28, 3) := by decide +kernel
theorem dX0_search_74 : decode cX0_search 74 = .ok (.if_icmp .lt 12, 3) := by decide +kernel
theorem dX0_search_77 : decode cX0_search 77 = .ok (.iload 6, 2) := by decide +kernel
theorem dX0_search_79 : decode cX0_search 79 = .ok (.aload_n 0, 1) := by decide +kernel
theorem dX0_search_80 : decode cX0_search 80 = .ok (.getfield 32, 3) := by decide +kernel
theorem dX0_search_83 : decode cX0_search 83 = .ok (.if_icmp .ge 26, 3) := by decide +kernel
theorem dX0_search_86 : decode cX0_search 86 = .ok (.aload_n 0, 1) := by decide +kernel
theorem dX0_search_87 : decode cX0_search 87 = .ok (.iload 5, 2) := by decide +kernel
theorem dX0_search_89 : decode cX0_search 89 = .ok (.putfield 28, 3) := by decide +kernel
theorem dX0_search_92 : decode cX0_search 92 = .ok (.aload_n 0, 1) := by decide +kernel
theorem dX0_search_93 : decode cX0_search 93 = .ok (.iload 6, 2) := by decide +kernel
theorem dX0_search_95 : decode cX0_search 95 = .ok (.putfield 32, 3) := by decide +kernel
theorem dX0_search_98 : decode cX0_search 98 = .ok (.aload_n 0, 1) := by decide +kernel
theorem dX0_search_99 : decode cX0_search 99 = .ok (.getfield 9, 3) := by decide +kernel
theorem dX0_search_102 : decode cX0_search 102 = .ok (.aload_n 0, 1) := by decide +kernel
theorem dX0_search_103 : decode cX0_search 103 = .ok (.getfield 15, 3) := by decide +kernel
theorem dX0_search_106 : decode cX0_search 106 = .ok (.invokestatic 48, 3) := by decide +kernel
theorem dX0_search_109 : decode cX0_search 109 = .ok (.aload_n 0, 1) := by decide +kernel
theorem dX0_search_110 : decode cX0_search 110 = .ok (.aload_n 1, 1) := by decide +kernel
theorem dX0_search_111 : decode cX0_search 111 = .ok (.invokevirtual 52, 3) := by decide +kernel
theorem dX0_search_114 : decode cX0_search 114 = .ok (.istore_n 3, 1) := by decide +kernel
theorem dX0_search_115 : decode cX0_search 115 = .ok (.iinc 4 1, 3) := by decide +kernel
theorem dX0_search_118 : decode cX0_search 118 = .ok (.goto (-93), 3) := by decide +kernel
theorem dX0_search_121 : decode cX0_search 121 = .ok (.return_, 1) := by decide +kernel
set_option maxRecDepth 20000 in
theorem ggX0_triedDebts_J7_fill_53178 : GoodIn wsX0_triedDebts wsJ7_fill_53178 := goodIn_s _ [(9, 1)] rfl (by decide +kernel)
set_option maxRecDepth 20000 in
theorem gX0_triedDebts_J7_fill_53178 : GoodIn wsX0_triedDebts (va_wsS RX0 21 yJ7_fill_53178 wsJ7_fill_53178) := goodIn_app (goodIn_of _ (by decide +kernel)) ggX0_triedDebts_J7_fill_53178
set_option maxRecDepth 20000 in
theorem ggX0_triedDebts_X11_at : GoodIn wsX0_triedDebts wsX11_at := goodIn_s _ [(12, 1)] rfl (by decide +kernel)
set_option maxRecDepth 20000 in
theorem gX0_triedDebts_X11_at_n56 : GoodIn wsX0_triedDebts (wsX11_at) := ggX0_triedDebts_X11_at
set_option maxRecDepth 20000 in
theorem ggX0_triedDebts_X11_add : GoodIn wsX0_triedDebts wsX11_add := goodIn_s _ [(14, 1)] rfl (by decide +kernel)
set_option maxRecDepth 20000 in
theorem gX0_triedDebts_X11_add_n63 : GoodIn wsX0_triedDebts (wsX11_add) := ggX0_triedDebts_X11_add
set_option maxRecDepth 20000 in
theorem ggX0_triedDebts_X4_debtAt : GoodIn wsX0_triedDebts wsX4_debtAt := goodIn_s _ [(19, 2), (26, 12)] rfl (by decide +kernel)
set_option maxRecDepth 20000 in
theorem gX0_triedDebts_X4_debtAt : GoodIn wsX0_triedDebts (wsV RX0 70 RX4 yX4_debtAt wsX4_debtAt) := goodIn_app (goodIn_of _ (by decide +kernel)) ggX0_triedDebts_X4_debtAt
theorem dX0_triedDebts_0 : decode cX0_triedDebts 0 = .ok (.aload_n 0, 1) := by decide +kernel
theorem dX0_triedDebts_1 : decode cX0_triedDebts 1 = .ok (.getfield 18, 3) := by decide +kernel
theorem dX0_triedDebts_4 : decode cX0_triedDebts 4 = .ok (.iconst 0, 1) := by decide +kernel
theorem dX0_triedDebts_5 : decode cX0_triedDebts 5 = .ok (.invokestatic 21, 3) := by decide +kernel
theorem dX0_triedDebts_8 : decode cX0_triedDebts 8 = .ok (.iconst 0, 1) := by decide +kernel
theorem dX0_triedDebts_9 : decode cX0_triedDebts 9 = .ok (.istore_n 2, 1) := by decide +kernel
theorem dX0_triedDebts_10 : decode cX0_triedDebts 10 = .ok (.iload_n 2, 1) := by decide +kernel
theorem dX0_triedDebts_11 : decode cX0_triedDebts 11 = .ok (.aload_n 1, 1) := by decide +kernel
theorem dX0_triedDebts_12 : decode cX0_triedDebts 12 = .ok (.getfield 39, 3) := by decide +kernel
theorem dX0_triedDebts_15 : decode cX0_triedDebts 15 = .ok (.if_icmp .ge 32, 3) := by decide +kernel
theorem dX0_triedDebts_18 : decode cX0_triedDebts 18 = .ok (.aload_n 0, 1) := by decide +kernel
theorem dX0_triedDebts_19 : decode cX0_triedDebts 19 = .ok (.getfield 18, 3) := by decide +kernel
theorem dX0_triedDebts_22 : decode cX0_triedDebts 22 = .ok (.aload_n 0, 1) := by decide +kernel
theorem dX0_triedDebts_23 : decode cX0_triedDebts 23 = .ok (.getfield 9, 3) := by decide +kernel
theorem dX0_triedDebts_26 : decode cX0_triedDebts 26 = .ok (.iload_n 2, 1) := by decide +kernel
theorem dX0_triedDebts_27 : decode cX0_triedDebts 27 = .ok (.invokestatic 56, 3) := by decide +kernel
theorem dX0_triedDebts_30 : decode cX0_triedDebts 30 = .ok (.aload_n 1, 1) := by decide +kernel
theorem dX0_triedDebts_31 : decode cX0_triedDebts 31 = .ok (.getfield 60, 3) := by decide +kernel
theorem dX0_triedDebts_34 : decode cX0_triedDebts 34 = .ok (.iload_n 2, 1) := by decide +kernel
theorem dX0_triedDebts_35 : decode cX0_triedDebts 35 = .ok (.invokestatic 56, 3) := by decide +kernel
theorem dX0_triedDebts_38 : decode cX0_triedDebts 38 = .ok (.invokestatic 63, 3) := by decide +kernel
theorem dX0_triedDebts_41 : decode cX0_triedDebts 41 = .ok (.iinc 2 1, 3) := by decide +kernel
theorem dX0_triedDebts_44 : decode cX0_triedDebts 44 = .ok (.goto (-34), 3) := by decide +kernel
theorem dX0_triedDebts_47 : decode cX0_triedDebts 47 = .ok (.iconst 0, 1) := by decide +kernel
theorem dX0_triedDebts_48 : decode cX0_triedDebts 48 = .ok (.istore_n 2, 1) := by decide +kernel
theorem dX0_triedDebts_49 : decode cX0_triedDebts 49 = .ok (.iconst 0, 1) := by decide +kernel
theorem dX0_triedDebts_50 : decode cX0_triedDebts 50 = .ok (.istore_n 3, 1) := by decide +kernel
theorem dX0_triedDebts_51 : decode cX0_triedDebts 51 = .ok (.iload_n 3, 1) := by decide +kernel
theorem dX0_triedDebts_52 : decode cX0_triedDebts 52 = .ok (.aload_n 1, 1) := by decide +kernel
theorem dX0_triedDebts_53 : decode cX0_triedDebts 53 = .ok (.getfield 67, 3) := by decide +kernel
theorem dX0_triedDebts_56 : decode cX0_triedDebts 56 = .ok (.if_icmp .ge 24, 3) := by decide +kernel
theorem dX0_triedDebts_59 : decode cX0_triedDebts 59 = .ok (.iload_n 2, 1) := by decide +kernel
theorem dX0_triedDebts_60 : decode cX0_triedDebts 60 = .ok (.aload_n 1, 1) := by decide +kernel
theorem dX0_triedDebts_61 : decode cX0_triedDebts 61 = .ok (.aload_n 0, 1) := by decide +kernel
theorem dX0_triedDebts_62 : decode cX0_triedDebts 62 = .ok (.getfield 18, 3) := by decide +kernel
theorem dX0_triedDebts_65 : decode cX0_triedDebts 65 = .ok (.iload_n 3, 1) := by decide +kernel
theorem dX0_triedDebts_66 : decode cX0_triedDebts 66 = .ok (.invokestatic 56, 3) := by decide +kernel
theorem dX0_triedDebts_69 : decode cX0_triedDebts 69 = .ok (.invokevirtual 70, 3) := by decide +kernel
theorem dX0_triedDebts_72 : decode cX0_triedDebts 72 = .ok (.iadd, 1) := by decide +kernel
theorem dX0_triedDebts_73 : decode cX0_triedDebts 73 = .ok (.istore_n 2, 1) := by decide +kernel
theorem dX0_triedDebts_74 : decode cX0_triedDebts 74 = .ok (.iinc 3 1, 3) := by decide +kernel
theorem dX0_triedDebts_77 : decode cX0_triedDebts 77 = .ok (.goto (-26), 3) := by decide +kernel
theorem dX0_triedDebts_80 : decode cX0_triedDebts 80 = .ok (.iload_n 2, 1) := by decide +kernel
theorem dX0_triedDebts_81 : decode cX0_triedDebts 81 = .ok (.ireturn, 1) := by decide +kernel
set_option maxRecDepth 20000 in
theorem ggX0_triedCut_X11_at : GoodIn wsX0_triedCut wsX11_at := goodIn_s _ [(5, 1)] rfl (by decide +kernel)
set_option maxRecDepth 20000 in
theorem gX0_triedCut_X11_at_n56 : GoodIn wsX0_triedCut (wsX11_at) := ggX0_triedCut_X11_at
theorem dX0_triedCut_0 : decode cX0_triedCut 0 = .ok (.iconst 0, 1) := by decide +kernel
theorem dX0_triedCut_1 : decode cX0_triedCut 1 = .ok (.istore_n 3, 1) := by decide +kernel
theorem dX0_triedCut_2 : decode cX0_triedCut 2 = .ok (.iconst 0, 1) := by decide +kernel
theorem dX0_triedCut_3 : decode cX0_triedCut 3 = .ok (.istore 4, 2) := by decide +kernel
theorem dX0_triedCut_5 : decode cX0_triedCut 5 = .ok (.iload 4, 2) := by decide +kernel
theorem dX0_triedCut_7 : decode cX0_triedCut 7 = .ok (.iload_n 1, 1) := by decide +kernel
theorem dX0_triedCut_8 : decode cX0_triedCut 8 = .ok (.if_icmp .ge 66, 3) := by decide +kernel
theorem dX0_triedCut_11 : decode cX0_triedCut 11 = .ok (.iload 4, 2) := by decide +kernel
theorem dX0_triedCut_13 : decode cX0_triedCut 13 = .ok (.iconst 1, 1) := by decide +kernel
theorem dX0_triedCut_14 : decode cX0_triedCut 14 = .ok (.iadd, 1) := by decide +kernel
theorem dX0_triedCut_15 : decode cX0_triedCut 15 = .ok (.istore 5, 2) := by decide +kernel
theorem dX0_triedCut_17 : decode cX0_triedCut 17 = .ok (.iload 5, 2) := by decide +kernel
theorem dX0_triedCut_19 : decode cX0_triedCut 19 = .ok (.iload_n 1, 1) := by decide +kernel
theorem dX0_triedCut_20 : decode cX0_triedCut 20 = .ok (.if_icmp .ge 48, 3) := by decide +kernel
theorem dX0_triedCut_23 : decode cX0_triedCut 23 = .ok (.aload_n 0, 1) := by decide +kernel
theorem dX0_triedCut_24 : decode cX0_triedCut 24 = .ok (.getfield 9, 3) := by decide +kernel
theorem dX0_triedCut_27 : decode cX0_triedCut 27 = .ok (.iload 4, 2) := by decide +kernel
theorem dX0_triedCut_29 : decode cX0_triedCut 29 = .ok (.invokestatic 56, 3) := by decide +kernel
theorem dX0_triedCut_32 : decode cX0_triedCut 32 = .ok (.aload_n 0, 1) := by decide +kernel
theorem dX0_triedCut_33 : decode cX0_triedCut 33 = .ok (.getfield 9, 3) := by decide +kernel
theorem dX0_triedCut_36 : decode cX0_triedCut 36 = .ok (.iload 5, 2) := by decide +kernel
theorem dX0_triedCut_38 : decode cX0_triedCut 38 = .ok (.invokestatic 56, 3) := by decide +kernel
theorem dX0_triedCut_41 : decode cX0_triedCut 41 = .ok (.if_icmp .eq 21, 3) := by decide +kernel
theorem dX0_triedCut_44 : decode cX0_triedCut 44 = .ok (.iload_n 3, 1) := by decide +kernel
theorem dX0_triedCut_45 : decode cX0_triedCut 45 = .ok (.aload_n 2, 1) := by decide +kernel
theorem dX0_triedCut_46 : decode cX0_triedCut 46 = .ok (.getfield 74, 3) := by decide +kernel
theorem dX0_triedCut_49 : decode cX0_triedCut 49 = .ok (.iload 4, 2) := by decide +kernel
theorem dX0_triedCut_51 : decode cX0_triedCut 51 = .ok (.bipush 14, 2) := by decide +kernel
theorem dX0_triedCut_53 : decode cX0_triedCut 53 = .ok (.imul, 1) := by decide +kernel
theorem dX0_triedCut_54 : decode cX0_triedCut 54 = .ok (.iload 5, 2) := by decide +kernel
theorem dX0_triedCut_56 : decode cX0_triedCut 56 = .ok (.iadd, 1) := by decide +kernel
theorem dX0_triedCut_57 : decode cX0_triedCut 57 = .ok (.invokestatic 56, 3) := by decide +kernel
theorem dX0_triedCut_60 : decode cX0_triedCut 60 = .ok (.iadd, 1) := by decide +kernel
theorem dX0_triedCut_61 : decode cX0_triedCut 61 = .ok (.istore_n 3, 1) := by decide +kernel
theorem dX0_triedCut_62 : decode cX0_triedCut 62 = .ok (.iinc 5 1, 3) := by decide +kernel
theorem dX0_triedCut_65 : decode cX0_triedCut 65 = .ok (.goto (-48), 3) := by decide +kernel
theorem dX0_triedCut_68 : decode cX0_triedCut 68 = .ok (.iinc 4 1, 3) := by decide +kernel
theorem dX0_triedCut_71 : decode cX0_triedCut 71 = .ok (.goto (-66), 3) := by decide +kernel
theorem dX0_triedCut_74 : decode cX0_triedCut 74 = .ok (.iload_n 3, 1) := by decide +kernel
theorem dX0_triedCut_75 : decode cX0_triedCut 75 = .ok (.ireturn, 1) := by decide +kernel
set_option maxRecDepth 20000 in
theorem ggX0_advance_X0_highestBefore : GoodIn wsX0_advance wsX0_highestBefore := goodIn_s _ [(12, 1), (7, 1), (13, 2), (5, 1), (15, 4), (35, 5)] rfl (by decide +kernel)
set_option maxRecDepth 20000 in
theorem gX0_advance_X0_highestBefore : GoodIn wsX0_advance (wsV RX0 79 RX0 yX0_highestBefore wsX0_highestBefore) := goodIn_app (goodIn_of _ (by decide +kernel)) ggX0_advance_X0_highestBefore
set_option maxRecDepth 20000 in
theorem ggX0_advance_X11_at : GoodIn wsX0_advance wsX11_at := goodIn_s _ [(18, 1)] rfl (by decide +kernel)
set_option maxRecDepth 20000 in
theorem gX0_advance_X11_at_n56 : GoodIn wsX0_advance (wsX11_at) := ggX0_advance_X11_at
set_option maxRecDepth 20000 in
theorem ggX0_advance_X11_add : GoodIn wsX0_advance wsX11_add := goodIn_s _ [(20, 1)] rfl (by decide +kernel)
set_option maxRecDepth 20000 in
theorem gX0_advance_X11_add_n63 : GoodIn wsX0_advance (wsX11_add) := ggX0_advance_X11_add
set_option maxRecDepth 20000 in
theorem ggX0_advance_X11_put : GoodIn wsX0_advance wsX11_put := goodIn_s _ [(22, 1)] rfl (by decide +kernel)
set_option maxRecDepth 20000 in
theorem gX0_advance_X11_put_n88 : GoodIn wsX0_advance (wsX11_put) := ggX0_advance_X11_put
theorem dX0_advance_0 : decode cX0_advance 0 = .ok (.aload_n 1, 1) := by decide +kernel
theorem dX0_advance_1 : decode cX0_advance 1 = .ok (.getfield 39, 3) := by decide +kernel
theorem dX0_advance_4 : decode cX0_advance 4 = .ok (.iconst 1, 1) := by decide +kernel
theorem dX0_advance_5 : decode cX0_advance 5 = .ok (.isub, 1) := by decide +kernel
theorem dX0_advance_6 : decode cX0_advance 6 = .ok (.istore_n 2, 1) := by decide +kernel
theorem dX0_advance_7 : decode cX0_advance 7 = .ok (.iload_n 2, 1) := by decide +kernel
theorem dX0_advance_8 : decode cX0_advance 8 = .ok (.ifCond .le 58, 3) := by decide +kernel
theorem dX0_advance_11 : decode cX0_advance 11 = .ok (.aload_n 0, 1) := by decide +kernel
theorem dX0_advance_12 : decode cX0_advance 12 = .ok (.iload_n 2, 1) := by decide +kernel
theorem dX0_advance_13 : decode cX0_advance 13 = .ok (.invokevirtual 79, 3) := by decide +kernel
theorem dX0_advance_16 : decode cX0_advance 16 = .ok (.iconst 1, 1) := by decide +kernel
theorem dX0_advance_17 : decode cX0_advance 17 = .ok (.iadd, 1) := by decide +kernel
theorem dX0_advance_18 : decode cX0_advance 18 = .ok (.aload_n 1, 1) := by decide +kernel
theorem dX0_advance_19 : decode cX0_advance 19 = .ok (.getfield 67, 3) := by decide +kernel
theorem dX0_advance_22 : decode cX0_advance 22 = .ok (.iconst 1, 1) := by decide +kernel
theorem dX0_advance_23 : decode cX0_advance 23 = .ok (.isub, 1) := by decide +kernel
theorem dX0_advance_24 : decode cX0_advance 24 = .ok (.invokestatic 82, 3) := by decide +kernel
theorem dX0_advance_27 : decode cX0_advance 27 = .ok (.istore_n 3, 1) := by decide +kernel
theorem dX0_advance_28 : decode cX0_advance 28 = .ok (.aload_n 0, 1) := by decide +kernel
theorem dX0_advance_29 : decode cX0_advance 29 = .ok (.getfield 9, 3) := by decide +kernel
theorem dX0_advance_32 : decode cX0_advance 32 = .ok (.iload_n 2, 1) := by decide +kernel
theorem dX0_advance_33 : decode cX0_advance 33 = .ok (.invokestatic 56, 3) := by decide +kernel
theorem dX0_advance_36 : decode cX0_advance 36 = .ok (.iload_n 3, 1) := by decide +kernel
theorem dX0_advance_37 : decode cX0_advance 37 = .ok (.if_icmp .ge 14, 3) := by decide +kernel
theorem dX0_advance_40 : decode cX0_advance 40 = .ok (.aload_n 0, 1) := by decide +kernel
theorem dX0_advance_41 : decode cX0_advance 41 = .ok (.getfield 9, 3) := by decide +kernel
theorem dX0_advance_44 : decode cX0_advance 44 = .ok (.iload_n 2, 1) := by decide +kernel
theorem dX0_advance_45 : decode cX0_advance 45 = .ok (.iconst 1, 1) := by decide +kernel
theorem dX0_advance_46 : decode cX0_advance 46 = .ok (.invokestatic 63, 3) := by decide +kernel
theorem dX0_advance_49 : decode cX0_advance 49 = .ok (.iconst 1, 1) := by decide +kernel
theorem dX0_advance_50 : decode cX0_advance 50 = .ok (.ireturn, 1) := by decide +kernel
theorem dX0_advance_51 : decode cX0_advance 51 = .ok (.aload_n 0, 1) := by decide +kernel
theorem dX0_advance_52 : decode cX0_advance 52 = .ok (.getfield 9, 3) := by decide +kernel
theorem dX0_advance_55 : decode cX0_advance 55 = .ok (.iload_n 2, 1) := by decide +kernel
theorem dX0_advance_56 : decode cX0_advance 56 = .ok (.iconst 0, 1) := by decide +kernel
theorem dX0_advance_57 : decode cX0_advance 57 = .ok (.invokestatic 88, 3) := by decide +kernel
theorem dX0_advance_60 : decode cX0_advance 60 = .ok (.iinc 2 (-1), 3) := by decide +kernel
theorem dX0_advance_63 : decode cX0_advance 63 = .ok (.goto (-56), 3) := by decide +kernel
theorem dX0_advance_66 : decode cX0_advance 66 = .ok (.iconst 0, 1) := by decide +kernel
theorem dX0_advance_67 : decode cX0_advance 67 = .ok (.ireturn, 1) := by decide +kernel
set_option maxRecDepth 20000 in
theorem ggX0_highestBefore_X11_at : GoodIn wsX0_highestBefore wsX11_at := goodIn_s _ [(8, 1)] rfl (by decide +kernel)
set_option maxRecDepth 20000 in
theorem gX0_highestBefore_X11_at_n56 : GoodIn wsX0_highestBefore (wsX11_at) := ggX0_highestBefore_X11_at
theorem dX0_highestBefore_0 : decode cX0_highestBefore 0 = .ok (.iconst 0, 1) := by decide +kernel
theorem dX0_highestBefore_1 : decode cX0_highestBefore 1 = .ok (.istore_n 2, 1) := by decide +kernel
theorem dX0_highestBefore_2 : decode cX0_highestBefore 2 = .ok (.iconst 0, 1) := by decide +kernel
theorem dX0_highestBefore_3 : decode cX0_highestBefore 3 = .ok (.istore_n 3, 1) := by decide +kernel
theorem dX0_highestBefore_4 : decode cX0_highestBefore 4 = .ok (.iload_n 3, 1) := by decide +kernel
theorem dX0_highestBefore_5 : decode cX0_highestBefore 5 = .ok (.iload_n 1, 1) := by decide +kernel
theorem dX0_highestBefore_6 : decode cX0_highestBefore 6 = .ok (.if_icmp .ge 22, 3) := by decide +kernel
theorem dX0_highestBefore_9 : decode cX0_highestBefore 9 = .ok (.iload_n 2, 1) := by decide +kernel
theorem dX0_highestBefore_10 : decode cX0_highestBefore 10 = .ok (.aload_n 0, 1) := by decide +kernel
theorem dX0_highestBefore_11 : decode cX0_highestBefore 11 = .ok (.getfield 9, 3) := by decide +kernel
theorem dX0_highestBefore_14 : decode cX0_highestBefore 14 = .ok (.iload_n 3, 1) := by decide +kernel
theorem dX0_highestBefore_15 : decode cX0_highestBefore 15 = .ok (.invokestatic 56, 3) := by decide +kernel
theorem dX0_highestBefore_18 : decode cX0_highestBefore 18 = .ok (.invokestatic 91, 3) := by decide +kernel
theorem dX0_highestBefore_21 : decode cX0_highestBefore 21 = .ok (.istore_n 2, 1) := by decide +kernel
theorem dX0_highestBefore_22 : decode cX0_highestBefore 22 = .ok (.iinc 3 1, 3) := by decide +kernel
theorem dX0_highestBefore_25 : decode cX0_highestBefore 25 = .ok (.goto (-21), 3) := by decide +kernel
theorem dX0_highestBefore_28 : decode cX0_highestBefore 28 = .ok (.iload_n 2, 1) := by decide +kernel
theorem dX0_highestBefore_29 : decode cX0_highestBefore 29 = .ok (.ireturn, 1) := by decide +kernel
