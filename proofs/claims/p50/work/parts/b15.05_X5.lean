theorem dX5_init_0 : decode cX5_init 0 = .ok (.aload_n 0, 1) := by decide +kernel
theorem dX5_init_1 : decode cX5_init 1 = .ok (.invokespecial 3, 3) := by decide +kernel
theorem dX5_init_4 : decode cX5_init 4 = .ok (.aload_n 0, 1) := by decide +kernel
theorem dX5_init_5 : decode cX5_init 5 = .ok (.sipush 196, 3) := by decide +kernel
theorem dX5_init_8 : decode cX5_init 8 = .ok (.newarray .int, 2) := by decide +kernel
theorem dX5_init_10 : decode cX5_init 10 = .ok (.putfield 9, 3) := by decide +kernel
theorem dX5_init_13 : decode cX5_init 13 = .ok (.aload_n 0, 1) := by decide +kernel
theorem dX5_init_14 : decode cX5_init 14 = .ok (.bipush 14, 2) := by decide +kernel
theorem dX5_init_16 : decode cX5_init 16 = .ok (.newarray .int, 2) := by decide +kernel
theorem dX5_init_18 : decode cX5_init 18 = .ok (.putfield 15, 3) := by decide +kernel
theorem dX5_init_21 : decode cX5_init 21 = .ok (.aload_n 0, 1) := by decide +kernel
theorem dX5_init_22 : decode cX5_init 22 = .ok (.bipush 14, 2) := by decide +kernel
theorem dX5_init_24 : decode cX5_init 24 = .ok (.newarray .int, 2) := by decide +kernel
theorem dX5_init_26 : decode cX5_init 26 = .ok (.putfield 18, 3) := by decide +kernel
theorem dX5_init_29 : decode cX5_init 29 = .ok (.return_, 1) := by decide +kernel
set_option maxRecDepth 20000 in
theorem ggX5_join_J7_fill_53178 : GoodIn wsX5_join wsJ7_fill_53178 := goodIn_s _ [(10, 1)] rfl (by decide +kernel)
set_option maxRecDepth 20000 in
theorem gX5_join_J7_fill_53178 : GoodIn wsX5_join (va_wsS RX5 21 yJ7_fill_53178 wsJ7_fill_53178) := goodIn_app (goodIn_of _ (by decide +kernel)) ggX5_join_J7_fill_53178
set_option maxRecDepth 20000 in
theorem ggX5_join_X8_groupRow : GoodIn wsX5_join wsX8_groupRow := goodIn_s _ [(15, 2), (39, 7)] rfl (by decide +kernel)
set_option maxRecDepth 20000 in
theorem gX5_join_X8_groupRow : GoodIn wsX5_join (wsV RX5 27 RX8 yX8_groupRow wsX8_groupRow) := goodIn_app (goodIn_of _ (by decide +kernel)) ggX5_join_X8_groupRow
set_option maxRecDepth 20000 in
theorem ggX5_join_X11_at : GoodIn wsX5_join wsX11_at := goodIn_s _ [(19, 1)] rfl (by decide +kernel)
set_option maxRecDepth 20000 in
theorem gX5_join_X11_at_n45 : GoodIn wsX5_join (wsX11_at) := ggX5_join_X11_at
set_option maxRecDepth 20000 in
theorem ggX5_join_X11_add : GoodIn wsX5_join wsX11_add := goodIn_s _ [(21, 1)] rfl (by decide +kernel)
set_option maxRecDepth 20000 in
theorem gX5_join_X11_add_n55 : GoodIn wsX5_join (wsX11_add) := ggX5_join_X11_add
theorem dX5_join_0 : decode cX5_join 0 = .ok (.aload_n 0, 1) := by decide +kernel
theorem dX5_join_1 : decode cX5_join 1 = .ok (.getfield 9, 3) := by decide +kernel
theorem dX5_join_4 : decode cX5_join 4 = .ok (.iconst 0, 1) := by decide +kernel
theorem dX5_join_5 : decode cX5_join 5 = .ok (.invokestatic 21, 3) := by decide +kernel
theorem dX5_join_8 : decode cX5_join 8 = .ok (.aload_n 2, 1) := by decide +kernel
theorem dX5_join_9 : decode cX5_join 9 = .ok (.invokevirtual 27, 3) := by decide +kernel
theorem dX5_join_12 : decode cX5_join 12 = .ok (.istore_n 3, 1) := by decide +kernel
theorem dX5_join_13 : decode cX5_join 13 = .ok (.iconst 0, 1) := by decide +kernel
theorem dX5_join_14 : decode cX5_join 14 = .ok (.istore 4, 2) := by decide +kernel
theorem dX5_join_16 : decode cX5_join 16 = .ok (.iload 4, 2) := by decide +kernel
theorem dX5_join_18 : decode cX5_join 18 = .ok (.aload_n 1, 1) := by decide +kernel
theorem dX5_join_19 : decode cX5_join 19 = .ok (.getfield 33, 3) := by decide +kernel
theorem dX5_join_22 : decode cX5_join 22 = .ok (.if_icmp .ge 97, 3) := by decide +kernel
theorem dX5_join_25 : decode cX5_join 25 = .ok (.aload_n 2, 1) := by decide +kernel
theorem dX5_join_26 : decode cX5_join 26 = .ok (.getfield 39, 3) := by decide +kernel
theorem dX5_join_29 : decode cX5_join 29 = .ok (.iload_n 3, 1) := by decide +kernel
theorem dX5_join_30 : decode cX5_join 30 = .ok (.aload_n 1, 1) := by decide +kernel
theorem dX5_join_31 : decode cX5_join 31 = .ok (.getfield 42, 3) := by decide +kernel
theorem dX5_join_34 : decode cX5_join 34 = .ok (.iload 4, 2) := by decide +kernel
theorem dX5_join_36 : decode cX5_join 36 = .ok (.invokestatic 45, 3) := by decide +kernel
theorem dX5_join_39 : decode cX5_join 39 = .ok (.iadd, 1) := by decide +kernel
theorem dX5_join_40 : decode cX5_join 40 = .ok (.invokestatic 45, 3) := by decide +kernel
theorem dX5_join_43 : decode cX5_join 43 = .ok (.istore 5, 2) := by decide +kernel
theorem dX5_join_45 : decode cX5_join 45 = .ok (.aload_n 2, 1) := by decide +kernel
theorem dX5_join_46 : decode cX5_join 46 = .ok (.getfield 39, 3) := by decide +kernel
theorem dX5_join_49 : decode cX5_join 49 = .ok (.iload_n 3, 1) := by decide +kernel
theorem dX5_join_50 : decode cX5_join 50 = .ok (.aload_n 1, 1) := by decide +kernel
theorem dX5_join_51 : decode cX5_join 51 = .ok (.getfield 49, 3) := by decide +kernel
theorem dX5_join_54 : decode cX5_join 54 = .ok (.iload 4, 2) := by decide +kernel
theorem dX5_join_56 : decode cX5_join 56 = .ok (.invokestatic 45, 3) := by decide +kernel
theorem dX5_join_59 : decode cX5_join 59 = .ok (.iadd, 1) := by decide +kernel
theorem dX5_join_60 : decode cX5_join 60 = .ok (.invokestatic 45, 3) := by decide +kernel
theorem dX5_join_63 : decode cX5_join 63 = .ok (.istore 6, 2) := by decide +kernel
theorem dX5_join_65 : decode cX5_join 65 = .ok (.aload_n 0, 1) := by decide +kernel
theorem dX5_join_66 : decode cX5_join 66 = .ok (.getfield 9, 3) := by decide +kernel
theorem dX5_join_69 : decode cX5_join 69 = .ok (.iload 5, 2) := by decide +kernel
theorem dX5_join_71 : decode cX5_join 71 = .ok (.bipush 14, 2) := by decide +kernel
theorem dX5_join_73 : decode cX5_join 73 = .ok (.imul, 1) := by decide +kernel
theorem dX5_join_74 : decode cX5_join 74 = .ok (.iload 6, 2) := by decide +kernel
theorem dX5_join_76 : decode cX5_join 76 = .ok (.iadd, 1) := by decide +kernel
theorem dX5_join_77 : decode cX5_join 77 = .ok (.aload_n 1, 1) := by decide +kernel
theorem dX5_join_78 : decode cX5_join 78 = .ok (.getfield 52, 3) := by decide +kernel
theorem dX5_join_81 : decode cX5_join 81 = .ok (.iload 4, 2) := by decide +kernel
theorem dX5_join_83 : decode cX5_join 83 = .ok (.invokestatic 45, 3) := by decide +kernel
theorem dX5_join_86 : decode cX5_join 86 = .ok (.invokestatic 55, 3) := by decide +kernel
theorem dX5_join_89 : decode cX5_join 89 = .ok (.aload_n 0, 1) := by decide +kernel
theorem dX5_join_90 : decode cX5_join 90 = .ok (.getfield 9, 3) := by decide +kernel
theorem dX5_join_93 : decode cX5_join 93 = .ok (.iload 6, 2) := by decide +kernel
theorem dX5_join_95 : decode cX5_join 95 = .ok (.bipush 14, 2) := by decide +kernel
theorem dX5_join_97 : decode cX5_join 97 = .ok (.imul, 1) := by decide +kernel
theorem dX5_join_98 : decode cX5_join 98 = .ok (.iload 5, 2) := by decide +kernel
theorem dX5_join_100 : decode cX5_join 100 = .ok (.iadd, 1) := by decide +kernel
theorem dX5_join_101 : decode cX5_join 101 = .ok (.aload_n 1, 1) := by decide +kernel
theorem dX5_join_102 : decode cX5_join 102 = .ok (.getfield 52, 3) := by decide +kernel
theorem dX5_join_105 : decode cX5_join 105 = .ok (.iload 4, 2) := by decide +kernel
theorem dX5_join_107 : decode cX5_join 107 = .ok (.invokestatic 45, 3) := by decide +kernel
theorem dX5_join_110 : decode cX5_join 110 = .ok (.invokestatic 55, 3) := by decide +kernel
theorem dX5_join_113 : decode cX5_join 113 = .ok (.iinc 4 1, 3) := by decide +kernel
theorem dX5_join_116 : decode cX5_join 116 = .ok (.goto (-100), 3) := by decide +kernel
theorem dX5_join_119 : decode cX5_join 119 = .ok (.return_, 1) := by decide +kernel
set_option maxRecDepth 20000 in
theorem ggX5_findMates_J7_fill_53178 : GoodIn wsX5_findMates wsJ7_fill_53178 := goodIn_s _ [(7, 1)] rfl (by decide +kernel)
set_option maxRecDepth 20000 in
theorem gX5_findMates_J7_fill_53178 : GoodIn wsX5_findMates (va_wsS RX5 21 yJ7_fill_53178 wsJ7_fill_53178) := goodIn_app (goodIn_of _ (by decide +kernel)) ggX5_findMates_J7_fill_53178
set_option maxRecDepth 20000 in
theorem ggX5_findMates_X11_at : GoodIn wsX5_findMates wsX11_at := goodIn_s _ [(10, 1)] rfl (by decide +kernel)
set_option maxRecDepth 20000 in
theorem gX5_findMates_X11_at_n45 : GoodIn wsX5_findMates (wsX11_at) := ggX5_findMates_X11_at
set_option maxRecDepth 20000 in
theorem ggX5_findMates_X5_mateBehind : GoodIn wsX5_findMates wsX5_mateBehind := goodIn_s _ [(15, 1), (3, 1), (16, 1), (1, 1), (17, 3), (8, 3), (27, 12), (22, 5)] rfl (by decide +kernel)
set_option maxRecDepth 20000 in
theorem gX5_findMates_X5_mateBehind : GoodIn wsX5_findMates (wsV RX5 68 RX5 yX5_mateBehind wsX5_mateBehind) := goodIn_app (goodIn_of _ (by decide +kernel)) ggX5_findMates_X5_mateBehind
set_option maxRecDepth 20000 in
theorem ggX5_findMates_X11_put : GoodIn wsX5_findMates wsX11_put := goodIn_s _ [(21, 1)] rfl (by decide +kernel)
set_option maxRecDepth 20000 in
theorem gX5_findMates_X11_put_n72 : GoodIn wsX5_findMates (wsX11_put) := ggX5_findMates_X11_put
theorem dX5_findMates_0 : decode cX5_findMates 0 = .ok (.aload_n 0, 1) := by decide +kernel
theorem dX5_findMates_1 : decode cX5_findMates 1 = .ok (.getfield 15, 3) := by decide +kernel
theorem dX5_findMates_4 : decode cX5_findMates 4 = .ok (.iconst (-1), 1) := by decide +kernel
theorem dX5_findMates_5 : decode cX5_findMates 5 = .ok (.invokestatic 21, 3) := by decide +kernel
theorem dX5_findMates_8 : decode cX5_findMates 8 = .ok (.aload_n 0, 1) := by decide +kernel
theorem dX5_findMates_9 : decode cX5_findMates 9 = .ok (.iconst 0, 1) := by decide +kernel
theorem dX5_findMates_10 : decode cX5_findMates 10 = .ok (.putfield 59, 3) := by decide +kernel
theorem dX5_findMates_13 : decode cX5_findMates 13 = .ok (.iconst 0, 1) := by decide +kernel
theorem dX5_findMates_14 : decode cX5_findMates 14 = .ok (.istore_n 2, 1) := by decide +kernel
theorem dX5_findMates_15 : decode cX5_findMates 15 = .ok (.iload_n 2, 1) := by decide +kernel
theorem dX5_findMates_16 : decode cX5_findMates 16 = .ok (.aload_n 1, 1) := by decide +kernel
theorem dX5_findMates_17 : decode cX5_findMates 17 = .ok (.getfield 63, 3) := by decide +kernel
theorem dX5_findMates_20 : decode cX5_findMates 20 = .ok (.if_icmp .ge 60, 3) := by decide +kernel
theorem dX5_findMates_23 : decode cX5_findMates 23 = .ok (.aload_n 0, 1) := by decide +kernel
theorem dX5_findMates_24 : decode cX5_findMates 24 = .ok (.getfield 15, 3) := by decide +kernel
theorem dX5_findMates_27 : decode cX5_findMates 27 = .ok (.iload_n 2, 1) := by decide +kernel
theorem dX5_findMates_28 : decode cX5_findMates 28 = .ok (.invokestatic 45, 3) := by decide +kernel
theorem dX5_findMates_31 : decode cX5_findMates 31 = .ok (.iconst (-1), 1) := by decide +kernel
theorem dX5_findMates_32 : decode cX5_findMates 32 = .ok (.if_icmp .ne 12, 3) := by decide +kernel
theorem dX5_findMates_35 : decode cX5_findMates 35 = .ok (.aload_n 0, 1) := by decide +kernel
theorem dX5_findMates_36 : decode cX5_findMates 36 = .ok (.iload_n 2, 1) := by decide +kernel
theorem dX5_findMates_37 : decode cX5_findMates 37 = .ok (.aload_n 1, 1) := by decide +kernel
theorem dX5_findMates_38 : decode cX5_findMates 38 = .ok (.invokevirtual 68, 3) := by decide +kernel
theorem dX5_findMates_41 : decode cX5_findMates 41 = .ok (.goto 4, 3) := by decide +kernel
theorem dX5_findMates_44 : decode cX5_findMates 44 = .ok (.iconst (-1), 1) := by decide +kernel
theorem dX5_findMates_45 : decode cX5_findMates 45 = .ok (.istore_n 3, 1) := by decide +kernel
theorem dX5_findMates_46 : decode cX5_findMates 46 = .ok (.iload_n 3, 1) := by decide +kernel
theorem dX5_findMates_47 : decode cX5_findMates 47 = .ok (.iconst (-1), 1) := by decide +kernel
theorem dX5_findMates_48 : decode cX5_findMates 48 = .ok (.if_icmp .eq 26, 3) := by decide +kernel
theorem dX5_findMates_51 : decode cX5_findMates 51 = .ok (.aload_n 0, 1) := by decide +kernel
theorem dX5_findMates_52 : decode cX5_findMates 52 = .ok (.getfield 15, 3) := by decide +kernel
theorem dX5_findMates_55 : decode cX5_findMates 55 = .ok (.iload_n 2, 1) := by decide +kernel
theorem dX5_findMates_56 : decode cX5_findMates 56 = .ok (.iload_n 3, 1) := by decide +kernel
theorem dX5_findMates_57 : decode cX5_findMates 57 = .ok (.invokestatic 72, 3) := by decide +kernel
theorem dX5_findMates_60 : decode cX5_findMates 60 = .ok (.aload_n 0, 1) := by decide +kernel
theorem dX5_findMates_61 : decode cX5_findMates 61 = .ok (.getfield 15, 3) := by decide +kernel
theorem dX5_findMates_64 : decode cX5_findMates 64 = .ok (.iload_n 3, 1) := by decide +kernel
theorem dX5_findMates_65 : decode cX5_findMates 65 = .ok (.iload_n 2, 1) := by decide +kernel
theorem dX5_findMates_66 : decode cX5_findMates 66 = .ok (.invokestatic 72, 3) := by decide +kernel
theorem dX5_findMates_69 : decode cX5_findMates 69 = .ok (.aload_n 0, 1) := by decide +kernel
theorem dX5_findMates_70 : decode cX5_findMates 70 = .ok (.iconst 1, 1) := by decide +kernel
theorem dX5_findMates_71 : decode cX5_findMates 71 = .ok (.putfield 59, 3) := by decide +kernel
theorem dX5_findMates_74 : decode cX5_findMates 74 = .ok (.iinc 2 1, 3) := by decide +kernel
theorem dX5_findMates_77 : decode cX5_findMates 77 = .ok (.goto (-62), 3) := by decide +kernel
theorem dX5_findMates_80 : decode cX5_findMates 80 = .ok (.return_, 1) := by decide +kernel
set_option maxRecDepth 20000 in
theorem ggX5_mateBehind_X11_at : GoodIn wsX5_mateBehind wsX11_at := goodIn_s _ [(9, 1)] rfl (by decide +kernel)
set_option maxRecDepth 20000 in
theorem gX5_mateBehind_X11_at_n45 : GoodIn wsX5_mateBehind (wsX11_at) := ggX5_mateBehind_X11_at
theorem dX5_mateBehind_0 : decode cX5_mateBehind 0 = .ok (.iconst (-1), 1) := by decide +kernel
theorem dX5_mateBehind_1 : decode cX5_mateBehind 1 = .ok (.istore_n 3, 1) := by decide +kernel
theorem dX5_mateBehind_2 : decode cX5_mateBehind 2 = .ok (.iconst 0, 1) := by decide +kernel
theorem dX5_mateBehind_3 : decode cX5_mateBehind 3 = .ok (.istore 4, 2) := by decide +kernel
theorem dX5_mateBehind_5 : decode cX5_mateBehind 5 = .ok (.iload_n 1, 1) := by decide +kernel
theorem dX5_mateBehind_6 : decode cX5_mateBehind 6 = .ok (.iconst 1, 1) := by decide +kernel
theorem dX5_mateBehind_7 : decode cX5_mateBehind 7 = .ok (.iadd, 1) := by decide +kernel
theorem dX5_mateBehind_8 : decode cX5_mateBehind 8 = .ok (.istore 5, 2) := by decide +kernel
theorem dX5_mateBehind_10 : decode cX5_mateBehind 10 = .ok (.iload 5, 2) := by decide +kernel
theorem dX5_mateBehind_12 : decode cX5_mateBehind 12 = .ok (.aload_n 2, 1) := by decide +kernel
theorem dX5_mateBehind_13 : decode cX5_mateBehind 13 = .ok (.getfield 63, 3) := by decide +kernel
theorem dX5_mateBehind_16 : decode cX5_mateBehind 16 = .ok (.if_icmp .ge 109, 3) := by decide +kernel
theorem dX5_mateBehind_19 : decode cX5_mateBehind 19 = .ok (.aload_n 2, 1) := by decide +kernel
theorem dX5_mateBehind_20 : decode cX5_mateBehind 20 = .ok (.getfield 75, 3) := by decide +kernel
theorem dX5_mateBehind_23 : decode cX5_mateBehind 23 = .ok (.iload_n 1, 1) := by decide +kernel
theorem dX5_mateBehind_24 : decode cX5_mateBehind 24 = .ok (.invokestatic 45, 3) := by decide +kernel
theorem dX5_mateBehind_27 : decode cX5_mateBehind 27 = .ok (.aload_n 2, 1) := by decide +kernel
theorem dX5_mateBehind_28 : decode cX5_mateBehind 28 = .ok (.getfield 75, 3) := by decide +kernel
theorem dX5_mateBehind_31 : decode cX5_mateBehind 31 = .ok (.iload 5, 2) := by decide +kernel
theorem dX5_mateBehind_33 : decode cX5_mateBehind 33 = .ok (.invokestatic 45, 3) := by decide +kernel
theorem dX5_mateBehind_36 : decode cX5_mateBehind 36 = .ok (.iadd, 1) := by decide +kernel
theorem dX5_mateBehind_37 : decode cX5_mateBehind 37 = .ok (.istore 6, 2) := by decide +kernel
theorem dX5_mateBehind_39 : decode cX5_mateBehind 39 = .ok (.aload_n 0, 1) := by decide +kernel
theorem dX5_mateBehind_40 : decode cX5_mateBehind 40 = .ok (.getfield 15, 3) := by decide +kernel
theorem dX5_mateBehind_43 : decode cX5_mateBehind 43 = .ok (.iload 5, 2) := by decide +kernel
theorem dX5_mateBehind_45 : decode cX5_mateBehind 45 = .ok (.invokestatic 45, 3) := by decide +kernel
theorem dX5_mateBehind_48 : decode cX5_mateBehind 48 = .ok (.iconst (-1), 1) := by decide +kernel
theorem dX5_mateBehind_49 : decode cX5_mateBehind 49 = .ok (.if_icmp .ne 70, 3) := by decide +kernel
theorem dX5_mateBehind_52 : decode cX5_mateBehind 52 = .ok (.aload_n 2, 1) := by decide +kernel
theorem dX5_mateBehind_53 : decode cX5_mateBehind 53 = .ok (.getfield 78, 3) := by decide +kernel
theorem dX5_mateBehind_56 : decode cX5_mateBehind 56 = .ok (.iload 5, 2) := by decide +kernel
theorem dX5_mateBehind_58 : decode cX5_mateBehind 58 = .ok (.invokestatic 45, 3) := by decide +kernel
theorem dX5_mateBehind_61 : decode cX5_mateBehind 61 = .ok (.aload_n 2, 1) := by decide +kernel
theorem dX5_mateBehind_62 : decode cX5_mateBehind 62 = .ok (.getfield 78, 3) := by decide +kernel
theorem dX5_mateBehind_65 : decode cX5_mateBehind 65 = .ok (.iload_n 1, 1) := by decide +kernel
theorem dX5_mateBehind_66 : decode cX5_mateBehind 66 = .ok (.invokestatic 45, 3) := by decide +kernel
theorem dX5_mateBehind_69 : decode cX5_mateBehind 69 = .ok (.if_icmp .ne 50, 3) := by decide +kernel
theorem dX5_mateBehind_72 : decode cX5_mateBehind 72 = .ok (.iload 6, 2) := by decide +kernel
theorem dX5_mateBehind_74 : decode cX5_mateBehind 74 = .ok (.aload_n 2, 1) := by decide +kernel
theorem dX5_mateBehind_75 : decode cX5_mateBehind 75 = .ok (.getfield 81, 3) := by decide +kernel
theorem dX5_mateBehind_78 : decode cX5_mateBehind 78 = .ok (.if_icmp .gt 41, 3) := by decide +kernel
theorem dX5_mateBehind_81 : decode cX5_mateBehind 81 = .ok (.aload_n 0, 1) := by decide +kernel
theorem dX5_mateBehind_82 : decode cX5_mateBehind 82 = .ok (.getfield 9, 3) := by decide +kernel
theorem dX5_mateBehind_85 : decode cX5_mateBehind 85 = .ok (.iload_n 1, 1) := by decide +kernel
theorem dX5_mateBehind_86 : decode cX5_mateBehind 86 = .ok (.bipush 14, 2) := by decide +kernel
theorem dX5_mateBehind_88 : decode cX5_mateBehind 88 = .ok (.imul, 1) := by decide +kernel
theorem dX5_mateBehind_89 : decode cX5_mateBehind 89 = .ok (.iload 5, 2) := by decide +kernel
theorem dX5_mateBehind_91 : decode cX5_mateBehind 91 = .ok (.iadd, 1) := by decide +kernel
theorem dX5_mateBehind_92 : decode cX5_mateBehind 92 = .ok (.invokestatic 45, 3) := by decide +kernel
theorem dX5_mateBehind_95 : decode cX5_mateBehind 95 = .ok (.iload 4, 2) := by decide +kernel
theorem dX5_mateBehind_97 : decode cX5_mateBehind 97 = .ok (.if_icmp .le 22, 3) := by decide +kernel
theorem dX5_mateBehind_100 : decode cX5_mateBehind 100 = .ok (.iload 5, 2) := by decide +kernel
theorem dX5_mateBehind_102 : decode cX5_mateBehind 102 = .ok (.istore_n 3, 1) := by decide +kernel
theorem dX5_mateBehind_103 : decode cX5_mateBehind 103 = .ok (.aload_n 0, 1) := by decide +kernel
theorem dX5_mateBehind_104 : decode cX5_mateBehind 104 = .ok (.getfield 9, 3) := by decide +kernel
theorem dX5_mateBehind_107 : decode cX5_mateBehind 107 = .ok (.iload_n 1, 1) := by decide +kernel
theorem dX5_mateBehind_108 : decode cX5_mateBehind 108 = .ok (.bipush 14, 2) := by decide +kernel
theorem dX5_mateBehind_110 : decode cX5_mateBehind 110 = .ok (.imul, 1) := by decide +kernel
theorem dX5_mateBehind_111 : decode cX5_mateBehind 111 = .ok (.iload 5, 2) := by decide +kernel
theorem dX5_mateBehind_113 : decode cX5_mateBehind 113 = .ok (.iadd, 1) := by decide +kernel
theorem dX5_mateBehind_114 : decode cX5_mateBehind 114 = .ok (.invokestatic 45, 3) := by decide +kernel
theorem dX5_mateBehind_117 : decode cX5_mateBehind 117 = .ok (.istore 4, 2) := by decide +kernel
theorem dX5_mateBehind_119 : decode cX5_mateBehind 119 = .ok (.iinc 5 1, 3) := by decide +kernel
theorem dX5_mateBehind_122 : decode cX5_mateBehind 122 = .ok (.goto (-112), 3) := by decide +kernel
theorem dX5_mateBehind_125 : decode cX5_mateBehind 125 = .ok (.iload_n 3, 1) := by decide +kernel
theorem dX5_mateBehind_126 : decode cX5_mateBehind 126 = .ok (.ireturn, 1) := by decide +kernel
set_option maxRecDepth 20000 in
theorem ggX5_numberMerged_X11_at : GoodIn wsX5_numberMerged wsX11_at := goodIn_s _ [(7, 1)] rfl (by decide +kernel)
set_option maxRecDepth 20000 in
theorem gX5_numberMerged_X11_at_n45 : GoodIn wsX5_numberMerged (wsX11_at) := ggX5_numberMerged_X11_at
set_option maxRecDepth 20000 in
theorem ggX5_numberMerged_X11_put : GoodIn wsX5_numberMerged wsX11_put := goodIn_s _ [(9, 1)] rfl (by decide +kernel)
set_option maxRecDepth 20000 in
theorem gX5_numberMerged_X11_put_n72 : GoodIn wsX5_numberMerged (wsX11_put) := ggX5_numberMerged_X11_put
theorem dX5_numberMerged_0 : decode cX5_numberMerged 0 = .ok (.aload_n 0, 1) := by decide +kernel
theorem dX5_numberMerged_1 : decode cX5_numberMerged 1 = .ok (.iconst 0, 1) := by decide +kernel
theorem dX5_numberMerged_2 : decode cX5_numberMerged 2 = .ok (.putfield 84, 3) := by decide +kernel
theorem dX5_numberMerged_5 : decode cX5_numberMerged 5 = .ok (.iconst 0, 1) := by decide +kernel
theorem dX5_numberMerged_6 : decode cX5_numberMerged 6 = .ok (.istore_n 2, 1) := by decide +kernel
theorem dX5_numberMerged_7 : decode cX5_numberMerged 7 = .ok (.iload_n 2, 1) := by decide +kernel
theorem dX5_numberMerged_8 : decode cX5_numberMerged 8 = .ok (.aload_n 1, 1) := by decide +kernel
theorem dX5_numberMerged_9 : decode cX5_numberMerged 9 = .ok (.getfield 63, 3) := by decide +kernel
theorem dX5_numberMerged_12 : decode cX5_numberMerged 12 = .ok (.if_icmp .ge 69, 3) := by decide +kernel
theorem dX5_numberMerged_15 : decode cX5_numberMerged 15 = .ok (.aload_n 0, 1) := by decide +kernel
theorem dX5_numberMerged_16 : decode cX5_numberMerged 16 = .ok (.getfield 15, 3) := by decide +kernel
theorem dX5_numberMerged_19 : decode cX5_numberMerged 19 = .ok (.iload_n 2, 1) := by decide +kernel
theorem dX5_numberMerged_20 : decode cX5_numberMerged 20 = .ok (.invokestatic 45, 3) := by decide +kernel
theorem dX5_numberMerged_23 : decode cX5_numberMerged 23 = .ok (.istore_n 3, 1) := by decide +kernel
theorem dX5_numberMerged_24 : decode cX5_numberMerged 24 = .ok (.iload_n 3, 1) := by decide +kernel
theorem dX5_numberMerged_25 : decode cX5_numberMerged 25 = .ok (.iconst (-1), 1) := by decide +kernel
theorem dX5_numberMerged_26 : decode cX5_numberMerged 26 = .ok (.if_icmp .eq 27, 3) := by decide +kernel
theorem dX5_numberMerged_29 : decode cX5_numberMerged 29 = .ok (.iload_n 3, 1) := by decide +kernel
theorem dX5_numberMerged_30 : decode cX5_numberMerged 30 = .ok (.iload_n 2, 1) := by decide +kernel
theorem dX5_numberMerged_31 : decode cX5_numberMerged 31 = .ok (.if_icmp .ge 22, 3) := by decide +kernel
theorem dX5_numberMerged_34 : decode cX5_numberMerged 34 = .ok (.aload_n 0, 1) := by decide +kernel
theorem dX5_numberMerged_35 : decode cX5_numberMerged 35 = .ok (.getfield 18, 3) := by decide +kernel
theorem dX5_numberMerged_38 : decode cX5_numberMerged 38 = .ok (.iload_n 2, 1) := by decide +kernel
theorem dX5_numberMerged_39 : decode cX5_numberMerged 39 = .ok (.aload_n 0, 1) := by decide +kernel
theorem dX5_numberMerged_40 : decode cX5_numberMerged 40 = .ok (.getfield 18, 3) := by decide +kernel
theorem dX5_numberMerged_43 : decode cX5_numberMerged 43 = .ok (.iload_n 3, 1) := by decide +kernel
theorem dX5_numberMerged_44 : decode cX5_numberMerged 44 = .ok (.invokestatic 45, 3) := by decide +kernel
theorem dX5_numberMerged_47 : decode cX5_numberMerged 47 = .ok (.invokestatic 72, 3) := by decide +kernel
theorem dX5_numberMerged_50 : decode cX5_numberMerged 50 = .ok (.goto 25, 3) := by decide +kernel
theorem dX5_numberMerged_53 : decode cX5_numberMerged 53 = .ok (.aload_n 0, 1) := by decide +kernel
theorem dX5_numberMerged_54 : decode cX5_numberMerged 54 = .ok (.getfield 18, 3) := by decide +kernel
theorem dX5_numberMerged_57 : decode cX5_numberMerged 57 = .ok (.iload_n 2, 1) := by decide +kernel
theorem dX5_numberMerged_58 : decode cX5_numberMerged 58 = .ok (.aload_n 0, 1) := by decide +kernel
theorem dX5_numberMerged_59 : decode cX5_numberMerged 59 = .ok (.getfield 84, 3) := by decide +kernel
theorem dX5_numberMerged_62 : decode cX5_numberMerged 62 = .ok (.invokestatic 72, 3) := by decide +kernel
theorem dX5_numberMerged_65 : decode cX5_numberMerged 65 = .ok (.aload_n 0, 1) := by decide +kernel
theorem dX5_numberMerged_66 : decode cX5_numberMerged 66 = .ok (.dup, 1) := by decide +kernel
theorem dX5_numberMerged_67 : decode cX5_numberMerged 67 = .ok (.getfield 84, 3) := by decide +kernel
theorem dX5_numberMerged_70 : decode cX5_numberMerged 70 = .ok (.iconst 1, 1) := by decide +kernel
theorem dX5_numberMerged_71 : decode cX5_numberMerged 71 = .ok (.iadd, 1) := by decide +kernel
theorem dX5_numberMerged_72 : decode cX5_numberMerged 72 = .ok (.putfield 84, 3) := by decide +kernel
theorem dX5_numberMerged_75 : decode cX5_numberMerged 75 = .ok (.iinc 2 1, 3) := by decide +kernel
theorem dX5_numberMerged_78 : decode cX5_numberMerged 78 = .ok (.goto (-71), 3) := by decide +kernel
theorem dX5_numberMerged_81 : decode cX5_numberMerged 81 = .ok (.return_, 1) := by decide +kernel
