theorem dX2_init_0 : decode cX2_init 0 = .ok (.aload_n 0, 1) := by decide +kernel
theorem dX2_init_1 : decode cX2_init 1 = .ok (.invokespecial 3, 3) := by decide +kernel
theorem dX2_init_4 : decode cX2_init 4 = .ok (.aload_n 0, 1) := by decide +kernel
theorem dX2_init_5 : decode cX2_init 5 = .ok (.iconst 2, 1) := by decide +kernel
theorem dX2_init_6 : decode cX2_init 6 = .ok (.putfield 9, 3) := by decide +kernel
theorem dX2_init_9 : decode cX2_init 9 = .ok (.aload_n 0, 1) := by decide +kernel
theorem dX2_init_10 : decode cX2_init 10 = .ok (.bipush 14, 2) := by decide +kernel
theorem dX2_init_12 : decode cX2_init 12 = .ok (.newarray .long, 2) := by decide +kernel
theorem dX2_init_14 : decode cX2_init 14 = .ok (.putfield 15, 3) := by decide +kernel
theorem dX2_init_17 : decode cX2_init 17 = .ok (.aload_n 0, 1) := by decide +kernel
theorem dX2_init_18 : decode cX2_init 18 = .ok (.bipush 14, 2) := by decide +kernel
theorem dX2_init_20 : decode cX2_init 20 = .ok (.newarray .int, 2) := by decide +kernel
theorem dX2_init_22 : decode cX2_init 22 = .ok (.putfield 19, 3) := by decide +kernel
theorem dX2_init_25 : decode cX2_init 25 = .ok (.aload_n 0, 1) := by decide +kernel
theorem dX2_init_26 : decode cX2_init 26 = .ok (.bipush 40, 2) := by decide +kernel
theorem dX2_init_28 : decode cX2_init 28 = .ok (.newarray .int, 2) := by decide +kernel
theorem dX2_init_30 : decode cX2_init 30 = .ok (.putfield 23, 3) := by decide +kernel
theorem dX2_init_33 : decode cX2_init 33 = .ok (.aload_n 0, 1) := by decide +kernel
theorem dX2_init_34 : decode cX2_init 34 = .ok (.bipush 40, 2) := by decide +kernel
theorem dX2_init_36 : decode cX2_init 36 = .ok (.newarray .int, 2) := by decide +kernel
theorem dX2_init_38 : decode cX2_init 38 = .ok (.putfield 26, 3) := by decide +kernel
theorem dX2_init_41 : decode cX2_init 41 = .ok (.aload_n 0, 1) := by decide +kernel
theorem dX2_init_42 : decode cX2_init 42 = .ok (.bipush 40, 2) := by decide +kernel
theorem dX2_init_44 : decode cX2_init 44 = .ok (.newarray .int, 2) := by decide +kernel
theorem dX2_init_46 : decode cX2_init 46 = .ok (.putfield 29, 3) := by decide +kernel
theorem dX2_init_49 : decode cX2_init 49 = .ok (.return_, 1) := by decide +kernel
theorem dX2_clear_0 : decode cX2_clear 0 = .ok (.aload_n 0, 1) := by decide +kernel
theorem dX2_clear_1 : decode cX2_clear 1 = .ok (.iconst 0, 1) := by decide +kernel
theorem dX2_clear_2 : decode cX2_clear 2 = .ok (.putfield 32, 3) := by decide +kernel
theorem dX2_clear_5 : decode cX2_clear 5 = .ok (.aload_n 0, 1) := by decide +kernel
theorem dX2_clear_6 : decode cX2_clear 6 = .ok (.iconst 0, 1) := by decide +kernel
theorem dX2_clear_7 : decode cX2_clear 7 = .ok (.putfield 35, 3) := by decide +kernel
theorem dX2_clear_10 : decode cX2_clear 10 = .ok (.aload_n 0, 1) := by decide +kernel
theorem dX2_clear_11 : decode cX2_clear 11 = .ok (.iconst 2, 1) := by decide +kernel
theorem dX2_clear_12 : decode cX2_clear 12 = .ok (.putfield 9, 3) := by decide +kernel
theorem dX2_clear_15 : decode cX2_clear 15 = .ok (.aload_n 0, 1) := by decide +kernel
theorem dX2_clear_16 : decode cX2_clear 16 = .ok (.iconst 0, 1) := by decide +kernel
theorem dX2_clear_17 : decode cX2_clear 17 = .ok (.putfield 38, 3) := by decide +kernel
theorem dX2_clear_20 : decode cX2_clear 20 = .ok (.aload_n 0, 1) := by decide +kernel
theorem dX2_clear_21 : decode cX2_clear 21 = .ok (.iconst 0, 1) := by decide +kernel
theorem dX2_clear_22 : decode cX2_clear 22 = .ok (.putfield 41, 3) := by decide +kernel
theorem dX2_clear_25 : decode cX2_clear 25 = .ok (.aload_n 0, 1) := by decide +kernel
theorem dX2_clear_26 : decode cX2_clear 26 = .ok (.iconst 0, 1) := by decide +kernel
theorem dX2_clear_27 : decode cX2_clear 27 = .ok (.putfield 44, 3) := by decide +kernel
theorem dX2_clear_30 : decode cX2_clear 30 = .ok (.aload_n 0, 1) := by decide +kernel
theorem dX2_clear_31 : decode cX2_clear 31 = .ok (.iconst 0, 1) := by decide +kernel
theorem dX2_clear_32 : decode cX2_clear 32 = .ok (.putfield 47, 3) := by decide +kernel
theorem dX2_clear_35 : decode cX2_clear 35 = .ok (.return_, 1) := by decide +kernel
set_option maxRecDepth 20000 in
theorem ggX2_copyFrom_X11_copy : GoodIn wsX2_copyFrom wsX11_copy := goodIn_s _ [(19, 6), (10, 3)] rfl (by decide +kernel)
set_option maxRecDepth 20000 in
theorem gX2_copyFrom_X11_copy_n56 : GoodIn wsX2_copyFrom (wsX11_copy) := ggX2_copyFrom_X11_copy
theorem dX2_copyFrom_0 : decode cX2_copyFrom 0 = .ok (.aload_n 0, 1) := by decide +kernel
theorem dX2_copyFrom_1 : decode cX2_copyFrom 1 = .ok (.aload_n 1, 1) := by decide +kernel
theorem dX2_copyFrom_2 : decode cX2_copyFrom 2 = .ok (.getfield 32, 3) := by decide +kernel
theorem dX2_copyFrom_5 : decode cX2_copyFrom 5 = .ok (.putfield 32, 3) := by decide +kernel
theorem dX2_copyFrom_8 : decode cX2_copyFrom 8 = .ok (.aload_n 0, 1) := by decide +kernel
theorem dX2_copyFrom_9 : decode cX2_copyFrom 9 = .ok (.aload_n 1, 1) := by decide +kernel
theorem dX2_copyFrom_10 : decode cX2_copyFrom 10 = .ok (.getfield 35, 3) := by decide +kernel
theorem dX2_copyFrom_13 : decode cX2_copyFrom 13 = .ok (.putfield 35, 3) := by decide +kernel
theorem dX2_copyFrom_16 : decode cX2_copyFrom 16 = .ok (.aload_n 0, 1) := by decide +kernel
theorem dX2_copyFrom_17 : decode cX2_copyFrom 17 = .ok (.aload_n 1, 1) := by decide +kernel
theorem dX2_copyFrom_18 : decode cX2_copyFrom 18 = .ok (.getfield 9, 3) := by decide +kernel
theorem dX2_copyFrom_21 : decode cX2_copyFrom 21 = .ok (.putfield 9, 3) := by decide +kernel
theorem dX2_copyFrom_24 : decode cX2_copyFrom 24 = .ok (.aload_n 0, 1) := by decide +kernel
theorem dX2_copyFrom_25 : decode cX2_copyFrom 25 = .ok (.aload_n 1, 1) := by decide +kernel
theorem dX2_copyFrom_26 : decode cX2_copyFrom 26 = .ok (.getfield 38, 3) := by decide +kernel
theorem dX2_copyFrom_29 : decode cX2_copyFrom 29 = .ok (.putfield 38, 3) := by decide +kernel
theorem dX2_copyFrom_32 : decode cX2_copyFrom 32 = .ok (.aload_n 0, 1) := by decide +kernel
theorem dX2_copyFrom_33 : decode cX2_copyFrom 33 = .ok (.aload_n 1, 1) := by decide +kernel
theorem dX2_copyFrom_34 : decode cX2_copyFrom 34 = .ok (.getfield 41, 3) := by decide +kernel
theorem dX2_copyFrom_37 : decode cX2_copyFrom 37 = .ok (.putfield 41, 3) := by decide +kernel
theorem dX2_copyFrom_40 : decode cX2_copyFrom 40 = .ok (.aload_n 0, 1) := by decide +kernel
theorem dX2_copyFrom_41 : decode cX2_copyFrom 41 = .ok (.aload_n 1, 1) := by decide +kernel
theorem dX2_copyFrom_42 : decode cX2_copyFrom 42 = .ok (.getfield 44, 3) := by decide +kernel
theorem dX2_copyFrom_45 : decode cX2_copyFrom 45 = .ok (.putfield 44, 3) := by decide +kernel
theorem dX2_copyFrom_48 : decode cX2_copyFrom 48 = .ok (.aload_n 0, 1) := by decide +kernel
theorem dX2_copyFrom_49 : decode cX2_copyFrom 49 = .ok (.aload_n 1, 1) := by decide +kernel
theorem dX2_copyFrom_50 : decode cX2_copyFrom 50 = .ok (.getfield 47, 3) := by decide +kernel
theorem dX2_copyFrom_53 : decode cX2_copyFrom 53 = .ok (.putfield 47, 3) := by decide +kernel
theorem dX2_copyFrom_56 : decode cX2_copyFrom 56 = .ok (.aload_n 1, 1) := by decide +kernel
theorem dX2_copyFrom_57 : decode cX2_copyFrom 57 = .ok (.getfield 15, 3) := by decide +kernel
theorem dX2_copyFrom_60 : decode cX2_copyFrom 60 = .ok (.iconst 0, 1) := by decide +kernel
theorem dX2_copyFrom_61 : decode cX2_copyFrom 61 = .ok (.aload_n 0, 1) := by decide +kernel
theorem dX2_copyFrom_62 : decode cX2_copyFrom 62 = .ok (.getfield 15, 3) := by decide +kernel
theorem dX2_copyFrom_65 : decode cX2_copyFrom 65 = .ok (.iconst 0, 1) := by decide +kernel
theorem dX2_copyFrom_66 : decode cX2_copyFrom 66 = .ok (.bipush 14, 2) := by decide +kernel
theorem dX2_copyFrom_68 : decode cX2_copyFrom 68 = .ok (.invokestatic 50, 3) := by decide +kernel
theorem dX2_copyFrom_71 : decode cX2_copyFrom 71 = .ok (.aload_n 1, 1) := by decide +kernel
theorem dX2_copyFrom_72 : decode cX2_copyFrom 72 = .ok (.getfield 19, 3) := by decide +kernel
theorem dX2_copyFrom_75 : decode cX2_copyFrom 75 = .ok (.aload_n 0, 1) := by decide +kernel
theorem dX2_copyFrom_76 : decode cX2_copyFrom 76 = .ok (.getfield 19, 3) := by decide +kernel
theorem dX2_copyFrom_79 : decode cX2_copyFrom 79 = .ok (.invokestatic 56, 3) := by decide +kernel
theorem dX2_copyFrom_82 : decode cX2_copyFrom 82 = .ok (.aload_n 1, 1) := by decide +kernel
theorem dX2_copyFrom_83 : decode cX2_copyFrom 83 = .ok (.getfield 23, 3) := by decide +kernel
theorem dX2_copyFrom_86 : decode cX2_copyFrom 86 = .ok (.aload_n 0, 1) := by decide +kernel
theorem dX2_copyFrom_87 : decode cX2_copyFrom 87 = .ok (.getfield 23, 3) := by decide +kernel
theorem dX2_copyFrom_90 : decode cX2_copyFrom 90 = .ok (.invokestatic 56, 3) := by decide +kernel
theorem dX2_copyFrom_93 : decode cX2_copyFrom 93 = .ok (.aload_n 1, 1) := by decide +kernel
theorem dX2_copyFrom_94 : decode cX2_copyFrom 94 = .ok (.getfield 26, 3) := by decide +kernel
theorem dX2_copyFrom_97 : decode cX2_copyFrom 97 = .ok (.aload_n 0, 1) := by decide +kernel
theorem dX2_copyFrom_98 : decode cX2_copyFrom 98 = .ok (.getfield 26, 3) := by decide +kernel
theorem dX2_copyFrom_101 : decode cX2_copyFrom 101 = .ok (.invokestatic 56, 3) := by decide +kernel
theorem dX2_copyFrom_104 : decode cX2_copyFrom 104 = .ok (.aload_n 1, 1) := by decide +kernel
theorem dX2_copyFrom_105 : decode cX2_copyFrom 105 = .ok (.getfield 29, 3) := by decide +kernel
theorem dX2_copyFrom_108 : decode cX2_copyFrom 108 = .ok (.aload_n 0, 1) := by decide +kernel
theorem dX2_copyFrom_109 : decode cX2_copyFrom 109 = .ok (.getfield 29, 3) := by decide +kernel
theorem dX2_copyFrom_112 : decode cX2_copyFrom 112 = .ok (.invokestatic 56, 3) := by decide +kernel
theorem dX2_copyFrom_115 : decode cX2_copyFrom 115 = .ok (.return_, 1) := by decide +kernel
set_option maxRecDepth 20000 in
theorem ggX2_addVertex_X11_put : GoodIn wsX2_addVertex wsX11_put := goodIn_s _ [(7, 1)] rfl (by decide +kernel)
set_option maxRecDepth 20000 in
theorem gX2_addVertex_X11_put_n60 : GoodIn wsX2_addVertex (wsX11_put) := ggX2_addVertex_X11_put
theorem dX2_addVertex_0 : decode cX2_addVertex 0 = .ok (.aload_n 0, 1) := by decide +kernel
theorem dX2_addVertex_1 : decode cX2_addVertex 1 = .ok (.getfield 32, 3) := by decide +kernel
theorem dX2_addVertex_4 : decode cX2_addVertex 4 = .ok (.ifCond .lt 57, 3) := by decide +kernel
theorem dX2_addVertex_7 : decode cX2_addVertex 7 = .ok (.aload_n 0, 1) := by decide +kernel
theorem dX2_addVertex_8 : decode cX2_addVertex 8 = .ok (.getfield 32, 3) := by decide +kernel
theorem dX2_addVertex_11 : decode cX2_addVertex 11 = .ok (.aload_n 0, 1) := by decide +kernel
theorem dX2_addVertex_12 : decode cX2_addVertex 12 = .ok (.getfield 15, 3) := by decide +kernel
theorem dX2_addVertex_15 : decode cX2_addVertex 15 = .ok (.arraylength, 1) := by decide +kernel
theorem dX2_addVertex_16 : decode cX2_addVertex 16 = .ok (.if_icmp .ge 45, 3) := by decide +kernel
theorem dX2_addVertex_19 : decode cX2_addVertex 19 = .ok (.aload_n 0, 1) := by decide +kernel
theorem dX2_addVertex_20 : decode cX2_addVertex 20 = .ok (.getfield 15, 3) := by decide +kernel
theorem dX2_addVertex_23 : decode cX2_addVertex 23 = .ok (.aload_n 0, 1) := by decide +kernel
theorem dX2_addVertex_24 : decode cX2_addVertex 24 = .ok (.getfield 32, 3) := by decide +kernel
theorem dX2_addVertex_27 : decode cX2_addVertex 27 = .ok (.lload_n 1, 1) := by decide +kernel
theorem dX2_addVertex_28 : decode cX2_addVertex 28 = .ok (.lastore, 1) := by decide +kernel
theorem dX2_addVertex_29 : decode cX2_addVertex 29 = .ok (.aload_n 0, 1) := by decide +kernel
theorem dX2_addVertex_30 : decode cX2_addVertex 30 = .ok (.getfield 19, 3) := by decide +kernel
theorem dX2_addVertex_33 : decode cX2_addVertex 33 = .ok (.aload_n 0, 1) := by decide +kernel
theorem dX2_addVertex_34 : decode cX2_addVertex 34 = .ok (.getfield 32, 3) := by decide +kernel
theorem dX2_addVertex_37 : decode cX2_addVertex 37 = .ok (.iload_n 3, 1) := by decide +kernel
theorem dX2_addVertex_38 : decode cX2_addVertex 38 = .ok (.invokestatic 60, 3) := by decide +kernel
theorem dX2_addVertex_41 : decode cX2_addVertex 41 = .ok (.aload_n 0, 1) := by decide +kernel
theorem dX2_addVertex_42 : decode cX2_addVertex 42 = .ok (.dup, 1) := by decide +kernel
theorem dX2_addVertex_43 : decode cX2_addVertex 43 = .ok (.getfield 44, 3) := by decide +kernel
theorem dX2_addVertex_46 : decode cX2_addVertex 46 = .ok (.iload_n 3, 1) := by decide +kernel
theorem dX2_addVertex_47 : decode cX2_addVertex 47 = .ok (.iadd, 1) := by decide +kernel
theorem dX2_addVertex_48 : decode cX2_addVertex 48 = .ok (.putfield 44, 3) := by decide +kernel
theorem dX2_addVertex_51 : decode cX2_addVertex 51 = .ok (.aload_n 0, 1) := by decide +kernel
theorem dX2_addVertex_52 : decode cX2_addVertex 52 = .ok (.dup, 1) := by decide +kernel
theorem dX2_addVertex_53 : decode cX2_addVertex 53 = .ok (.getfield 32, 3) := by decide +kernel
theorem dX2_addVertex_56 : decode cX2_addVertex 56 = .ok (.iconst 1, 1) := by decide +kernel
theorem dX2_addVertex_57 : decode cX2_addVertex 57 = .ok (.iadd, 1) := by decide +kernel
theorem dX2_addVertex_58 : decode cX2_addVertex 58 = .ok (.putfield 32, 3) := by decide +kernel
theorem dX2_addVertex_61 : decode cX2_addVertex 61 = .ok (.return_, 1) := by decide +kernel
set_option maxRecDepth 20000 in
theorem ggX2_addEdge_X11_put : GoodIn wsX2_addEdge wsX11_put := goodIn_s _ [(8, 1)] rfl (by decide +kernel)
set_option maxRecDepth 20000 in
theorem gX2_addEdge_X11_put_n60 : GoodIn wsX2_addEdge (wsX11_put) := ggX2_addEdge_X11_put
theorem dX2_addEdge_0 : decode cX2_addEdge 0 = .ok (.aload_n 0, 1) := by decide +kernel
theorem dX2_addEdge_1 : decode cX2_addEdge 1 = .ok (.getfield 23, 3) := by decide +kernel
theorem dX2_addEdge_4 : decode cX2_addEdge 4 = .ok (.aload_n 0, 1) := by decide +kernel
theorem dX2_addEdge_5 : decode cX2_addEdge 5 = .ok (.getfield 35, 3) := by decide +kernel
theorem dX2_addEdge_8 : decode cX2_addEdge 8 = .ok (.iload_n 1, 1) := by decide +kernel
theorem dX2_addEdge_9 : decode cX2_addEdge 9 = .ok (.invokestatic 60, 3) := by decide +kernel
theorem dX2_addEdge_12 : decode cX2_addEdge 12 = .ok (.aload_n 0, 1) := by decide +kernel
theorem dX2_addEdge_13 : decode cX2_addEdge 13 = .ok (.getfield 26, 3) := by decide +kernel
theorem dX2_addEdge_16 : decode cX2_addEdge 16 = .ok (.aload_n 0, 1) := by decide +kernel
theorem dX2_addEdge_17 : decode cX2_addEdge 17 = .ok (.getfield 35, 3) := by decide +kernel
theorem dX2_addEdge_20 : decode cX2_addEdge 20 = .ok (.iload_n 2, 1) := by decide +kernel
theorem dX2_addEdge_21 : decode cX2_addEdge 21 = .ok (.invokestatic 60, 3) := by decide +kernel
theorem dX2_addEdge_24 : decode cX2_addEdge 24 = .ok (.aload_n 0, 1) := by decide +kernel
theorem dX2_addEdge_25 : decode cX2_addEdge 25 = .ok (.getfield 29, 3) := by decide +kernel
theorem dX2_addEdge_28 : decode cX2_addEdge 28 = .ok (.aload_n 0, 1) := by decide +kernel
theorem dX2_addEdge_29 : decode cX2_addEdge 29 = .ok (.getfield 35, 3) := by decide +kernel
theorem dX2_addEdge_32 : decode cX2_addEdge 32 = .ok (.iload_n 3, 1) := by decide +kernel
theorem dX2_addEdge_33 : decode cX2_addEdge 33 = .ok (.invokestatic 60, 3) := by decide +kernel
theorem dX2_addEdge_36 : decode cX2_addEdge 36 = .ok (.aload_n 0, 1) := by decide +kernel
theorem dX2_addEdge_37 : decode cX2_addEdge 37 = .ok (.dup, 1) := by decide +kernel
theorem dX2_addEdge_38 : decode cX2_addEdge 38 = .ok (.getfield 47, 3) := by decide +kernel
theorem dX2_addEdge_41 : decode cX2_addEdge 41 = .ok (.iload_n 3, 1) := by decide +kernel
theorem dX2_addEdge_42 : decode cX2_addEdge 42 = .ok (.iadd, 1) := by decide +kernel
theorem dX2_addEdge_43 : decode cX2_addEdge 43 = .ok (.putfield 47, 3) := by decide +kernel
theorem dX2_addEdge_46 : decode cX2_addEdge 46 = .ok (.aload_n 0, 1) := by decide +kernel
theorem dX2_addEdge_47 : decode cX2_addEdge 47 = .ok (.dup, 1) := by decide +kernel
theorem dX2_addEdge_48 : decode cX2_addEdge 48 = .ok (.getfield 35, 3) := by decide +kernel
theorem dX2_addEdge_51 : decode cX2_addEdge 51 = .ok (.iconst 1, 1) := by decide +kernel
theorem dX2_addEdge_52 : decode cX2_addEdge 52 = .ok (.iadd, 1) := by decide +kernel
theorem dX2_addEdge_53 : decode cX2_addEdge 53 = .ok (.putfield 35, 3) := by decide +kernel
theorem dX2_addEdge_56 : decode cX2_addEdge 56 = .ok (.return_, 1) := by decide +kernel
theorem dX2_nameOf_0 : decode cX2_nameOf 0 = .ok (.iload_n 1, 1) := by decide +kernel
theorem dX2_nameOf_1 : decode cX2_nameOf 1 = .ok (.ifCond .lt 21, 3) := by decide +kernel
theorem dX2_nameOf_4 : decode cX2_nameOf 4 = .ok (.iload_n 1, 1) := by decide +kernel
theorem dX2_nameOf_5 : decode cX2_nameOf 5 = .ok (.aload_n 0, 1) := by decide +kernel
theorem dX2_nameOf_6 : decode cX2_nameOf 6 = .ok (.getfield 15, 3) := by decide +kernel
theorem dX2_nameOf_9 : decode cX2_nameOf 9 = .ok (.arraylength, 1) := by decide +kernel
theorem dX2_nameOf_10 : decode cX2_nameOf 10 = .ok (.if_icmp .ge 12, 3) := by decide +kernel
theorem dX2_nameOf_13 : decode cX2_nameOf 13 = .ok (.aload_n 0, 1) := by decide +kernel
theorem dX2_nameOf_14 : decode cX2_nameOf 14 = .ok (.getfield 15, 3) := by decide +kernel
theorem dX2_nameOf_17 : decode cX2_nameOf 17 = .ok (.iload_n 1, 1) := by decide +kernel
theorem dX2_nameOf_18 : decode cX2_nameOf 18 = .ok (.laload, 1) := by decide +kernel
theorem dX2_nameOf_19 : decode cX2_nameOf 19 = .ok (.goto 4, 3) := by decide +kernel
theorem dX2_nameOf_22 : decode cX2_nameOf 22 = .ok (.lconst 0, 1) := by decide +kernel
theorem dX2_nameOf_23 : decode cX2_nameOf 23 = .ok (.lreturn, 1) := by decide +kernel
set_option maxRecDepth 20000 in
theorem ggX2_vertexNamed_X2_nameOf : GoodIn wsX2_vertexNamed wsX2_nameOf := goodIn_s _ [(6, 14)] rfl (by decide +kernel)
set_option maxRecDepth 20000 in
theorem gX2_vertexNamed_X2_nameOf : GoodIn wsX2_vertexNamed (wsV RX2 64 RX2 yX2_nameOf wsX2_nameOf) := goodIn_app (goodIn_of _ (by decide +kernel)) ggX2_vertexNamed_X2_nameOf
theorem dX2_vertexNamed_0 : decode cX2_vertexNamed 0 = .ok (.iconst 0, 1) := by decide +kernel
theorem dX2_vertexNamed_1 : decode cX2_vertexNamed 1 = .ok (.istore_n 3, 1) := by decide +kernel
theorem dX2_vertexNamed_2 : decode cX2_vertexNamed 2 = .ok (.iload_n 3, 1) := by decide +kernel
theorem dX2_vertexNamed_3 : decode cX2_vertexNamed 3 = .ok (.aload_n 0, 1) := by decide +kernel
theorem dX2_vertexNamed_4 : decode cX2_vertexNamed 4 = .ok (.getfield 32, 3) := by decide +kernel
theorem dX2_vertexNamed_7 : decode cX2_vertexNamed 7 = .ok (.if_icmp .ge 21, 3) := by decide +kernel
theorem dX2_vertexNamed_10 : decode cX2_vertexNamed 10 = .ok (.aload_n 0, 1) := by decide +kernel
theorem dX2_vertexNamed_11 : decode cX2_vertexNamed 11 = .ok (.iload_n 3, 1) := by decide +kernel
theorem dX2_vertexNamed_12 : decode cX2_vertexNamed 12 = .ok (.invokevirtual 64, 3) := by decide +kernel
theorem dX2_vertexNamed_15 : decode cX2_vertexNamed 15 = .ok (.lload_n 1, 1) := by decide +kernel
theorem dX2_vertexNamed_16 : decode cX2_vertexNamed 16 = .ok (.lcmp, 1) := by decide +kernel
theorem dX2_vertexNamed_17 : decode cX2_vertexNamed 17 = .ok (.ifCond .ne 5, 3) := by decide +kernel
theorem dX2_vertexNamed_20 : decode cX2_vertexNamed 20 = .ok (.iload_n 3, 1) := by decide +kernel
theorem dX2_vertexNamed_21 : decode cX2_vertexNamed 21 = .ok (.ireturn, 1) := by decide +kernel
theorem dX2_vertexNamed_22 : decode cX2_vertexNamed 22 = .ok (.iinc 3 1, 3) := by decide +kernel
theorem dX2_vertexNamed_25 : decode cX2_vertexNamed 25 = .ok (.goto (-23), 3) := by decide +kernel
theorem dX2_vertexNamed_28 : decode cX2_vertexNamed 28 = .ok (.iconst (-1), 1) := by decide +kernel
theorem dX2_vertexNamed_29 : decode cX2_vertexNamed 29 = .ok (.ireturn, 1) := by decide +kernel
set_option maxRecDepth 20000 in
theorem ggX2_edgeOf_X2_endsOf : GoodIn wsX2_edgeOf wsX2_endsOf := goodIn_s _ [(6, 18)] rfl (by decide +kernel)
set_option maxRecDepth 20000 in
theorem gX2_edgeOf_X2_endsOf : GoodIn wsX2_edgeOf (wsV RX2 68 RX2 yX2_endsOf wsX2_endsOf) := goodIn_app (goodIn_of _ (by decide +kernel)) ggX2_edgeOf_X2_endsOf
theorem dX2_edgeOf_0 : decode cX2_edgeOf 0 = .ok (.iload_n 1, 1) := by decide +kernel
theorem dX2_edgeOf_1 : decode cX2_edgeOf 1 = .ok (.iload_n 2, 1) := by decide +kernel
theorem dX2_edgeOf_2 : decode cX2_edgeOf 2 = .ok (.if_icmp .ne 5, 3) := by decide +kernel
theorem dX2_edgeOf_5 : decode cX2_edgeOf 5 = .ok (.iconst (-1), 1) := by decide +kernel
theorem dX2_edgeOf_6 : decode cX2_edgeOf 6 = .ok (.ireturn, 1) := by decide +kernel
theorem dX2_edgeOf_7 : decode cX2_edgeOf 7 = .ok (.iconst 1, 1) := by decide +kernel
theorem dX2_edgeOf_8 : decode cX2_edgeOf 8 = .ok (.iload_n 1, 1) := by decide +kernel
theorem dX2_edgeOf_9 : decode cX2_edgeOf 9 = .ok (.ishl, 1) := by decide +kernel
theorem dX2_edgeOf_10 : decode cX2_edgeOf 10 = .ok (.iconst 1, 1) := by decide +kernel
theorem dX2_edgeOf_11 : decode cX2_edgeOf 11 = .ok (.iload_n 2, 1) := by decide +kernel
theorem dX2_edgeOf_12 : decode cX2_edgeOf 12 = .ok (.ishl, 1) := by decide +kernel
theorem dX2_edgeOf_13 : decode cX2_edgeOf 13 = .ok (.ior, 1) := by decide +kernel
theorem dX2_edgeOf_14 : decode cX2_edgeOf 14 = .ok (.istore_n 3, 1) := by decide +kernel
theorem dX2_edgeOf_15 : decode cX2_edgeOf 15 = .ok (.iconst 0, 1) := by decide +kernel
theorem dX2_edgeOf_16 : decode cX2_edgeOf 16 = .ok (.istore 4, 2) := by decide +kernel
theorem dX2_edgeOf_18 : decode cX2_edgeOf 18 = .ok (.iload 4, 2) := by decide +kernel
theorem dX2_edgeOf_20 : decode cX2_edgeOf 20 = .ok (.aload_n 0, 1) := by decide +kernel
theorem dX2_edgeOf_21 : decode cX2_edgeOf 21 = .ok (.getfield 35, 3) := by decide +kernel
theorem dX2_edgeOf_24 : decode cX2_edgeOf 24 = .ok (.if_icmp .ge 22, 3) := by decide +kernel
theorem dX2_edgeOf_27 : decode cX2_edgeOf 27 = .ok (.aload_n 0, 1) := by decide +kernel
theorem dX2_edgeOf_28 : decode cX2_edgeOf 28 = .ok (.iload 4, 2) := by decide +kernel
theorem dX2_edgeOf_30 : decode cX2_edgeOf 30 = .ok (.invokevirtual 68, 3) := by decide +kernel
theorem dX2_edgeOf_33 : decode cX2_edgeOf 33 = .ok (.iload_n 3, 1) := by decide +kernel
theorem dX2_edgeOf_34 : decode cX2_edgeOf 34 = .ok (.if_icmp .ne 6, 3) := by decide +kernel
theorem dX2_edgeOf_37 : decode cX2_edgeOf 37 = .ok (.iload 4, 2) := by decide +kernel
theorem dX2_edgeOf_39 : decode cX2_edgeOf 39 = .ok (.ireturn, 1) := by decide +kernel
theorem dX2_edgeOf_40 : decode cX2_edgeOf 40 = .ok (.iinc 4 1, 3) := by decide +kernel
theorem dX2_edgeOf_43 : decode cX2_edgeOf 43 = .ok (.goto (-25), 3) := by decide +kernel
theorem dX2_edgeOf_46 : decode cX2_edgeOf 46 = .ok (.iconst (-1), 1) := by decide +kernel
theorem dX2_edgeOf_47 : decode cX2_edgeOf 47 = .ok (.ireturn, 1) := by decide +kernel
set_option maxRecDepth 20000 in
theorem ggX2_endsOf_X11_at : GoodIn wsX2_endsOf wsX11_at := goodIn_s _ [(5, 1)] rfl (by decide +kernel)
set_option maxRecDepth 20000 in
theorem gX2_endsOf_X11_at_n72 : GoodIn wsX2_endsOf (wsX11_at) := ggX2_endsOf_X11_at
theorem dX2_endsOf_0 : decode cX2_endsOf 0 = .ok (.iconst 1, 1) := by decide +kernel
theorem dX2_endsOf_1 : decode cX2_endsOf 1 = .ok (.aload_n 0, 1) := by decide +kernel
theorem dX2_endsOf_2 : decode cX2_endsOf 2 = .ok (.getfield 23, 3) := by decide +kernel
theorem dX2_endsOf_5 : decode cX2_endsOf 5 = .ok (.iload_n 1, 1) := by decide +kernel
theorem dX2_endsOf_6 : decode cX2_endsOf 6 = .ok (.invokestatic 72, 3) := by decide +kernel
theorem dX2_endsOf_9 : decode cX2_endsOf 9 = .ok (.ishl, 1) := by decide +kernel
theorem dX2_endsOf_10 : decode cX2_endsOf 10 = .ok (.iconst 1, 1) := by decide +kernel
theorem dX2_endsOf_11 : decode cX2_endsOf 11 = .ok (.aload_n 0, 1) := by decide +kernel
theorem dX2_endsOf_12 : decode cX2_endsOf 12 = .ok (.getfield 26, 3) := by decide +kernel
theorem dX2_endsOf_15 : decode cX2_endsOf 15 = .ok (.iload_n 1, 1) := by decide +kernel
theorem dX2_endsOf_16 : decode cX2_endsOf 16 = .ok (.invokestatic 72, 3) := by decide +kernel
theorem dX2_endsOf_19 : decode cX2_endsOf 19 = .ok (.ishl, 1) := by decide +kernel
theorem dX2_endsOf_20 : decode cX2_endsOf 20 = .ok (.ior, 1) := by decide +kernel
theorem dX2_endsOf_21 : decode cX2_endsOf 21 = .ok (.ireturn, 1) := by decide +kernel
theorem dX2_limit_0 : decode cX2_limit 0 = .ok (.aload_n 0, 1) := by decide +kernel
theorem dX2_limit_1 : decode cX2_limit 1 = .ok (.getfield 9, 3) := by decide +kernel
theorem dX2_limit_4 : decode cX2_limit 4 = .ok (.iconst 1, 1) := by decide +kernel
theorem dX2_limit_5 : decode cX2_limit 5 = .ok (.if_icmp .ge 10, 3) := by decide +kernel
theorem dX2_limit_8 : decode cX2_limit 8 = .ok (.aload_n 0, 1) := by decide +kernel
theorem dX2_limit_9 : decode cX2_limit 9 = .ok (.getfield 38, 3) := by decide +kernel
theorem dX2_limit_12 : decode cX2_limit 12 = .ok (.goto 24, 3) := by decide +kernel
theorem dX2_limit_15 : decode cX2_limit 15 = .ok (.aload_n 0, 1) := by decide +kernel
theorem dX2_limit_16 : decode cX2_limit 16 = .ok (.getfield 44, 3) := by decide +kernel
theorem dX2_limit_19 : decode cX2_limit 19 = .ok (.aload_n 0, 1) := by decide +kernel
theorem dX2_limit_20 : decode cX2_limit 20 = .ok (.getfield 9, 3) := by decide +kernel
theorem dX2_limit_23 : decode cX2_limit 23 = .ok (.iadd, 1) := by decide +kernel
theorem dX2_limit_24 : decode cX2_limit 24 = .ok (.iconst 1, 1) := by decide +kernel
theorem dX2_limit_25 : decode cX2_limit 25 = .ok (.isub, 1) := by decide +kernel
theorem dX2_limit_26 : decode cX2_limit 26 = .ok (.aload_n 0, 1) := by decide +kernel
theorem dX2_limit_27 : decode cX2_limit 27 = .ok (.getfield 9, 3) := by decide +kernel
theorem dX2_limit_30 : decode cX2_limit 30 = .ok (.idiv, 1) := by decide +kernel
theorem dX2_limit_31 : decode cX2_limit 31 = .ok (.aload_n 0, 1) := by decide +kernel
theorem dX2_limit_32 : decode cX2_limit 32 = .ok (.getfield 38, 3) := by decide +kernel
theorem dX2_limit_35 : decode cX2_limit 35 = .ok (.iadd, 1) := by decide +kernel
theorem dX2_limit_36 : decode cX2_limit 36 = .ok (.ireturn, 1) := by decide +kernel
set_option maxRecDepth 20000 in
theorem ggX2_spread_X2_endsOf : GoodIn wsX2_spread wsX2_endsOf := goodIn_s _ [(6, 18)] rfl (by decide +kernel)
set_option maxRecDepth 20000 in
theorem gX2_spread_X2_endsOf : GoodIn wsX2_spread (wsV RX2 68 RX2 yX2_endsOf wsX2_endsOf) := goodIn_app (goodIn_of _ (by decide +kernel)) ggX2_spread_X2_endsOf
theorem dX2_spread_0 : decode cX2_spread 0 = .ok (.iload_n 1, 1) := by decide +kernel
theorem dX2_spread_1 : decode cX2_spread 1 = .ok (.istore_n 3, 1) := by decide +kernel
theorem dX2_spread_2 : decode cX2_spread 2 = .ok (.iconst 0, 1) := by decide +kernel
theorem dX2_spread_3 : decode cX2_spread 3 = .ok (.istore 4, 2) := by decide +kernel
theorem dX2_spread_5 : decode cX2_spread 5 = .ok (.iload 4, 2) := by decide +kernel
theorem dX2_spread_7 : decode cX2_spread 7 = .ok (.bipush 14, 2) := by decide +kernel
theorem dX2_spread_9 : decode cX2_spread 9 = .ok (.if_icmp .ge 67, 3) := by decide +kernel
theorem dX2_spread_12 : decode cX2_spread 12 = .ok (.iload_n 3, 1) := by decide +kernel
theorem dX2_spread_13 : decode cX2_spread 13 = .ok (.istore 5, 2) := by decide +kernel
theorem dX2_spread_15 : decode cX2_spread 15 = .ok (.iconst 0, 1) := by decide +kernel
theorem dX2_spread_16 : decode cX2_spread 16 = .ok (.istore 6, 2) := by decide +kernel
theorem dX2_spread_18 : decode cX2_spread 18 = .ok (.iload 6, 2) := by decide +kernel
theorem dX2_spread_20 : decode cX2_spread 20 = .ok (.aload_n 0, 1) := by decide +kernel
theorem dX2_spread_21 : decode cX2_spread 21 = .ok (.getfield 35, 3) := by decide +kernel
theorem dX2_spread_24 : decode cX2_spread 24 = .ok (.if_icmp .ge 38, 3) := by decide +kernel
theorem dX2_spread_27 : decode cX2_spread 27 = .ok (.aload_n 0, 1) := by decide +kernel
theorem dX2_spread_28 : decode cX2_spread 28 = .ok (.iload 6, 2) := by decide +kernel
theorem dX2_spread_30 : decode cX2_spread 30 = .ok (.invokevirtual 68, 3) := by decide +kernel
theorem dX2_spread_33 : decode cX2_spread 33 = .ok (.istore 7, 2) := by decide +kernel
theorem dX2_spread_35 : decode cX2_spread 35 = .ok (.iload 7, 2) := by decide +kernel
theorem dX2_spread_37 : decode cX2_spread 37 = .ok (.iload_n 2, 1) := by decide +kernel
theorem dX2_spread_38 : decode cX2_spread 38 = .ok (.iconst (-1), 1) := by decide +kernel
theorem dX2_spread_39 : decode cX2_spread 39 = .ok (.ixor, 1) := by decide +kernel
theorem dX2_spread_40 : decode cX2_spread 40 = .ok (.iand, 1) := by decide +kernel
theorem dX2_spread_41 : decode cX2_spread 41 = .ok (.ifCond .ne 15, 3) := by decide +kernel
theorem dX2_spread_44 : decode cX2_spread 44 = .ok (.iload 7, 2) := by decide +kernel
theorem dX2_spread_46 : decode cX2_spread 46 = .ok (.iload_n 3, 1) := by decide +kernel
theorem dX2_spread_47 : decode cX2_spread 47 = .ok (.iand, 1) := by decide +kernel
theorem dX2_spread_48 : decode cX2_spread 48 = .ok (.ifCond .eq 8, 3) := by decide +kernel
theorem dX2_spread_51 : decode cX2_spread 51 = .ok (.iload_n 3, 1) := by decide +kernel
theorem dX2_spread_52 : decode cX2_spread 52 = .ok (.iload 7, 2) := by decide +kernel
theorem dX2_spread_54 : decode cX2_spread 54 = .ok (.ior, 1) := by decide +kernel
theorem dX2_spread_55 : decode cX2_spread 55 = .ok (.istore_n 3, 1) := by decide +kernel
theorem dX2_spread_56 : decode cX2_spread 56 = .ok (.iinc 6 1, 3) := by decide +kernel
theorem dX2_spread_59 : decode cX2_spread 59 = .ok (.goto (-41), 3) := by decide +kernel
theorem dX2_spread_62 : decode cX2_spread 62 = .ok (.iload_n 3, 1) := by decide +kernel
theorem dX2_spread_63 : decode cX2_spread 63 = .ok (.iload 5, 2) := by decide +kernel
theorem dX2_spread_65 : decode cX2_spread 65 = .ok (.if_icmp .ne 5, 3) := by decide +kernel
theorem dX2_spread_68 : decode cX2_spread 68 = .ok (.iload_n 3, 1) := by decide +kernel
theorem dX2_spread_69 : decode cX2_spread 69 = .ok (.ireturn, 1) := by decide +kernel
theorem dX2_spread_70 : decode cX2_spread 70 = .ok (.iinc 4 1, 3) := by decide +kernel
theorem dX2_spread_73 : decode cX2_spread 73 = .ok (.goto (-68), 3) := by decide +kernel
theorem dX2_spread_76 : decode cX2_spread 76 = .ok (.iload_n 3, 1) := by decide +kernel
theorem dX2_spread_77 : decode cX2_spread 77 = .ok (.ireturn, 1) := by decide +kernel
set_option maxRecDepth 20000 in
theorem ggX2_pieces_X11_isIn : GoodIn wsX2_pieces wsX11_isIn := goodIn_s _ [(4, 1)] rfl (by decide +kernel)
set_option maxRecDepth 20000 in
theorem gX2_pieces_X11_isIn_n76 : GoodIn wsX2_pieces (wsX11_isIn) := ggX2_pieces_X11_isIn
set_option maxRecDepth 20000 in
theorem ggX2_pieces_X2_spread : GoodIn wsX2_pieces wsX2_spread := goodIn_s _ [(9, 5), (8, 1), (14, 4), (3, 1), (18, 13)] rfl (by decide +kernel)
set_option maxRecDepth 20000 in
theorem gX2_pieces_X2_spread : GoodIn wsX2_pieces (wsV RX2 80 RX2 yX2_spread wsX2_spread) := goodIn_app (goodIn_of _ (by decide +kernel)) ggX2_pieces_X2_spread
theorem dX2_pieces_0 : decode cX2_pieces 0 = .ok (.iload_n 1, 1) := by decide +kernel
theorem dX2_pieces_1 : decode cX2_pieces 1 = .ok (.istore_n 2, 1) := by decide +kernel
theorem dX2_pieces_2 : decode cX2_pieces 2 = .ok (.iconst 0, 1) := by decide +kernel
theorem dX2_pieces_3 : decode cX2_pieces 3 = .ok (.istore_n 3, 1) := by decide +kernel
theorem dX2_pieces_4 : decode cX2_pieces 4 = .ok (.iconst 0, 1) := by decide +kernel
theorem dX2_pieces_5 : decode cX2_pieces 5 = .ok (.istore 4, 2) := by decide +kernel
theorem dX2_pieces_7 : decode cX2_pieces 7 = .ok (.iload 4, 2) := by decide +kernel
theorem dX2_pieces_9 : decode cX2_pieces 9 = .ok (.aload_n 0, 1) := by decide +kernel
theorem dX2_pieces_10 : decode cX2_pieces 10 = .ok (.getfield 32, 3) := by decide +kernel
theorem dX2_pieces_13 : decode cX2_pieces 13 = .ok (.if_icmp .ge 35, 3) := by decide +kernel
theorem dX2_pieces_16 : decode cX2_pieces 16 = .ok (.iload_n 2, 1) := by decide +kernel
theorem dX2_pieces_17 : decode cX2_pieces 17 = .ok (.iload 4, 2) := by decide +kernel
theorem dX2_pieces_19 : decode cX2_pieces 19 = .ok (.invokestatic 76, 3) := by decide +kernel
theorem dX2_pieces_22 : decode cX2_pieces 22 = .ok (.ifCond .eq 20, 3) := by decide +kernel
theorem dX2_pieces_25 : decode cX2_pieces 25 = .ok (.iload_n 2, 1) := by decide +kernel
theorem dX2_pieces_26 : decode cX2_pieces 26 = .ok (.aload_n 0, 1) := by decide +kernel
theorem dX2_pieces_27 : decode cX2_pieces 27 = .ok (.iconst 1, 1) := by decide +kernel
theorem dX2_pieces_28 : decode cX2_pieces 28 = .ok (.iload 4, 2) := by decide +kernel
theorem dX2_pieces_30 : decode cX2_pieces 30 = .ok (.ishl, 1) := by decide +kernel
theorem dX2_pieces_31 : decode cX2_pieces 31 = .ok (.iload_n 1, 1) := by decide +kernel
theorem dX2_pieces_32 : decode cX2_pieces 32 = .ok (.invokevirtual 80, 3) := by decide +kernel
theorem dX2_pieces_35 : decode cX2_pieces 35 = .ok (.iconst (-1), 1) := by decide +kernel
theorem dX2_pieces_36 : decode cX2_pieces 36 = .ok (.ixor, 1) := by decide +kernel
theorem dX2_pieces_37 : decode cX2_pieces 37 = .ok (.iand, 1) := by decide +kernel
theorem dX2_pieces_38 : decode cX2_pieces 38 = .ok (.istore_n 2, 1) := by decide +kernel
theorem dX2_pieces_39 : decode cX2_pieces 39 = .ok (.iinc 3 1, 3) := by decide +kernel
theorem dX2_pieces_42 : decode cX2_pieces 42 = .ok (.iinc 4 1, 3) := by decide +kernel
theorem dX2_pieces_45 : decode cX2_pieces 45 = .ok (.goto (-38), 3) := by decide +kernel
theorem dX2_pieces_48 : decode cX2_pieces 48 = .ok (.iload_n 3, 1) := by decide +kernel
theorem dX2_pieces_49 : decode cX2_pieces 49 = .ok (.ireturn, 1) := by decide +kernel
set_option maxRecDepth 20000 in
theorem ggX2_largestPiece_X2_spread : GoodIn wsX2_largestPiece wsX2_spread := goodIn_s _ [(10, 5), (9, 1), (15, 6), (28, 12)] rfl (by decide +kernel)
set_option maxRecDepth 20000 in
theorem gX2_largestPiece_X2_spread : GoodIn wsX2_largestPiece (wsV RX2 80 RX2 yX2_spread wsX2_spread) := goodIn_app (goodIn_of _ (by decide +kernel)) ggX2_largestPiece_X2_spread
set_option maxRecDepth 20000 in
theorem ggX2_largestPiece_J6_bitCount_0f7a4 : GoodIn wsX2_largestPiece wsJ6_bitCount_0f7a4 := goodIn_s _ [(24, 4)] rfl (by decide +kernel)
set_option maxRecDepth 20000 in
theorem gX2_largestPiece_J6_bitCount_0f7a4 : GoodIn wsX2_largestPiece (va_wsS RX2 84 yJ6_bitCount_0f7a4 wsJ6_bitCount_0f7a4) := goodIn_app (goodIn_of _ (by decide +kernel)) ggX2_largestPiece_J6_bitCount_0f7a4
theorem dX2_largestPiece_0 : decode cX2_largestPiece 0 = .ok (.iconst 1, 1) := by decide +kernel
theorem dX2_largestPiece_1 : decode cX2_largestPiece 1 = .ok (.aload_n 0, 1) := by decide +kernel
theorem dX2_largestPiece_2 : decode cX2_largestPiece 2 = .ok (.getfield 32, 3) := by decide +kernel
theorem dX2_largestPiece_5 : decode cX2_largestPiece 5 = .ok (.ishl, 1) := by decide +kernel
theorem dX2_largestPiece_6 : decode cX2_largestPiece 6 = .ok (.iconst 1, 1) := by decide +kernel
theorem dX2_largestPiece_7 : decode cX2_largestPiece 7 = .ok (.isub, 1) := by decide +kernel
theorem dX2_largestPiece_8 : decode cX2_largestPiece 8 = .ok (.istore_n 1, 1) := by decide +kernel
theorem dX2_largestPiece_9 : decode cX2_largestPiece 9 = .ok (.iconst 0, 1) := by decide +kernel
theorem dX2_largestPiece_10 : decode cX2_largestPiece 10 = .ok (.istore_n 2, 1) := by decide +kernel
theorem dX2_largestPiece_11 : decode cX2_largestPiece 11 = .ok (.iconst 0, 1) := by decide +kernel
theorem dX2_largestPiece_12 : decode cX2_largestPiece 12 = .ok (.istore_n 3, 1) := by decide +kernel
theorem dX2_largestPiece_13 : decode cX2_largestPiece 13 = .ok (.iload_n 3, 1) := by decide +kernel
theorem dX2_largestPiece_14 : decode cX2_largestPiece 14 = .ok (.aload_n 0, 1) := by decide +kernel
theorem dX2_largestPiece_15 : decode cX2_largestPiece 15 = .ok (.getfield 32, 3) := by decide +kernel
theorem dX2_largestPiece_18 : decode cX2_largestPiece 18 = .ok (.if_icmp .ge 25, 3) := by decide +kernel
theorem dX2_largestPiece_21 : decode cX2_largestPiece 21 = .ok (.iload_n 2, 1) := by decide +kernel
theorem dX2_largestPiece_22 : decode cX2_largestPiece 22 = .ok (.aload_n 0, 1) := by decide +kernel
theorem dX2_largestPiece_23 : decode cX2_largestPiece 23 = .ok (.iconst 1, 1) := by decide +kernel
theorem dX2_largestPiece_24 : decode cX2_largestPiece 24 = .ok (.iload_n 3, 1) := by decide +kernel
theorem dX2_largestPiece_25 : decode cX2_largestPiece 25 = .ok (.ishl, 1) := by decide +kernel
theorem dX2_largestPiece_26 : decode cX2_largestPiece 26 = .ok (.iload_n 1, 1) := by decide +kernel
theorem dX2_largestPiece_27 : decode cX2_largestPiece 27 = .ok (.invokevirtual 80, 3) := by decide +kernel
theorem dX2_largestPiece_30 : decode cX2_largestPiece 30 = .ok (.invokestatic 84, 3) := by decide +kernel
theorem dX2_largestPiece_33 : decode cX2_largestPiece 33 = .ok (.invokestatic 89, 3) := by decide +kernel
theorem dX2_largestPiece_36 : decode cX2_largestPiece 36 = .ok (.istore_n 2, 1) := by decide +kernel
theorem dX2_largestPiece_37 : decode cX2_largestPiece 37 = .ok (.iinc 3 1, 3) := by decide +kernel
theorem dX2_largestPiece_40 : decode cX2_largestPiece 40 = .ok (.goto (-27), 3) := by decide +kernel
theorem dX2_largestPiece_43 : decode cX2_largestPiece 43 = .ok (.iload_n 2, 1) := by decide +kernel
theorem dX2_largestPiece_44 : decode cX2_largestPiece 44 = .ok (.ireturn, 1) := by decide +kernel
