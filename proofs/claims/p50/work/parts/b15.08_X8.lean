theorem dX8_init_0 : decode cX8_init 0 = .ok (.aload_n 0, 1) := by decide +kernel
theorem dX8_init_1 : decode cX8_init 1 = .ok (.invokespecial 3, 3) := by decide +kernel
theorem dX8_init_4 : decode cX8_init 4 = .ok (.aload_n 0, 1) := by decide +kernel
theorem dX8_init_5 : decode cX8_init 5 = .ok (.bipush 14, 2) := by decide +kernel
theorem dX8_init_7 : decode cX8_init 7 = .ok (.newarray .int, 2) := by decide +kernel
theorem dX8_init_9 : decode cX8_init 9 = .ok (.putfield 9, 3) := by decide +kernel
theorem dX8_init_12 : decode cX8_init 12 = .ok (.aload_n 0, 1) := by decide +kernel
theorem dX8_init_13 : decode cX8_init 13 = .ok (.iconst 5, 1) := by decide +kernel
theorem dX8_init_14 : decode cX8_init 14 = .ok (.newarray .int, 2) := by decide +kernel
theorem dX8_init_16 : decode cX8_init 16 = .ok (.putfield 15, 3) := by decide +kernel
theorem dX8_init_19 : decode cX8_init 19 = .ok (.aload_n 0, 1) := by decide +kernel
theorem dX8_init_20 : decode cX8_init 20 = .ok (.bipush 70, 2) := by decide +kernel
theorem dX8_init_22 : decode cX8_init 22 = .ok (.newarray .int, 2) := by decide +kernel
theorem dX8_init_24 : decode cX8_init 24 = .ok (.putfield 18, 3) := by decide +kernel
theorem dX8_init_27 : decode cX8_init 27 = .ok (.aload_n 0, 1) := by decide +kernel
theorem dX8_init_28 : decode cX8_init 28 = .ok (.bipush 120, 2) := by decide +kernel
theorem dX8_init_30 : decode cX8_init 30 = .ok (.newarray .int, 2) := by decide +kernel
theorem dX8_init_32 : decode cX8_init 32 = .ok (.putfield 21, 3) := by decide +kernel
theorem dX8_init_35 : decode cX8_init 35 = .ok (.return_, 1) := by decide +kernel
set_option maxRecDepth 20000 in
theorem ggX8_start_J7_fill_53178 : GoodIn wsX8_start wsJ7_fill_53178 := goodIn_s _ [(12, 1)] rfl (by decide +kernel)
set_option maxRecDepth 20000 in
theorem gX8_start_J7_fill_53178 : GoodIn wsX8_start (va_wsS RX8 37 yJ7_fill_53178 wsJ7_fill_53178) := goodIn_app (goodIn_of _ (by decide +kernel)) ggX8_start_J7_fill_53178
set_option maxRecDepth 20000 in
theorem ggX8_start_X11_put : GoodIn wsX8_start wsX11_put := goodIn_s _ [(15, 1)] rfl (by decide +kernel)
set_option maxRecDepth 20000 in
theorem gX8_start_X11_put_n46 : GoodIn wsX8_start (wsX11_put) := ggX8_start_X11_put
theorem dX8_start_0 : decode cX8_start 0 = .ok (.aload_n 0, 1) := by decide +kernel
theorem dX8_start_1 : decode cX8_start 1 = .ok (.iconst 0, 1) := by decide +kernel
theorem dX8_start_2 : decode cX8_start 2 = .ok (.putfield 24, 3) := by decide +kernel
theorem dX8_start_5 : decode cX8_start 5 = .ok (.aload_n 0, 1) := by decide +kernel
theorem dX8_start_6 : decode cX8_start 6 = .ok (.aload_n 1, 1) := by decide +kernel
theorem dX8_start_7 : decode cX8_start 7 = .ok (.getfield 28, 3) := by decide +kernel
theorem dX8_start_10 : decode cX8_start 10 = .ok (.putfield 33, 3) := by decide +kernel
theorem dX8_start_13 : decode cX8_start 13 = .ok (.aload_n 0, 1) := by decide +kernel
theorem dX8_start_14 : decode cX8_start 14 = .ok (.iconst 0, 1) := by decide +kernel
theorem dX8_start_15 : decode cX8_start 15 = .ok (.putfield 34, 3) := by decide +kernel
theorem dX8_start_18 : decode cX8_start 18 = .ok (.aload_n 0, 1) := by decide +kernel
theorem dX8_start_19 : decode cX8_start 19 = .ok (.getfield 9, 3) := by decide +kernel
theorem dX8_start_22 : decode cX8_start 22 = .ok (.iconst 0, 1) := by decide +kernel
theorem dX8_start_23 : decode cX8_start 23 = .ok (.invokestatic 37, 3) := by decide +kernel
theorem dX8_start_26 : decode cX8_start 26 = .ok (.aload_n 0, 1) := by decide +kernel
theorem dX8_start_27 : decode cX8_start 27 = .ok (.getfield 15, 3) := by decide +kernel
theorem dX8_start_30 : decode cX8_start 30 = .ok (.iconst 0, 1) := by decide +kernel
theorem dX8_start_31 : decode cX8_start 31 = .ok (.aload_n 1, 1) := by decide +kernel
theorem dX8_start_32 : decode cX8_start 32 = .ok (.getfield 43, 3) := by decide +kernel
theorem dX8_start_35 : decode cX8_start 35 = .ok (.invokestatic 46, 3) := by decide +kernel
theorem dX8_start_38 : decode cX8_start 38 = .ok (.iconst 0, 1) := by decide +kernel
theorem dX8_start_39 : decode cX8_start 39 = .ok (.istore_n 2, 1) := by decide +kernel
theorem dX8_start_40 : decode cX8_start 40 = .ok (.iload_n 2, 1) := by decide +kernel
theorem dX8_start_41 : decode cX8_start 41 = .ok (.aload_n 1, 1) := by decide +kernel
theorem dX8_start_42 : decode cX8_start 42 = .ok (.getfield 43, 3) := by decide +kernel
theorem dX8_start_45 : decode cX8_start 45 = .ok (.if_icmp .ge 18, 3) := by decide +kernel
theorem dX8_start_48 : decode cX8_start 48 = .ok (.aload_n 0, 1) := by decide +kernel
theorem dX8_start_49 : decode cX8_start 49 = .ok (.getfield 18, 3) := by decide +kernel
theorem dX8_start_52 : decode cX8_start 52 = .ok (.iload_n 2, 1) := by decide +kernel
theorem dX8_start_53 : decode cX8_start 53 = .ok (.iload_n 2, 1) := by decide +kernel
theorem dX8_start_54 : decode cX8_start 54 = .ok (.invokestatic 46, 3) := by decide +kernel
theorem dX8_start_57 : decode cX8_start 57 = .ok (.iinc 2 1, 3) := by decide +kernel
theorem dX8_start_60 : decode cX8_start 60 = .ok (.goto (-20), 3) := by decide +kernel
theorem dX8_start_63 : decode cX8_start 63 = .ok (.return_, 1) := by decide +kernel
set_option maxRecDepth 20000 in
theorem ggX8_copyFrom_X11_copy : GoodIn wsX8_copyFrom wsX11_copy := goodIn_s _ [(10, 9)] rfl (by decide +kernel)
set_option maxRecDepth 20000 in
theorem gX8_copyFrom_X11_copy_n50 : GoodIn wsX8_copyFrom (wsX11_copy) := ggX8_copyFrom_X11_copy
theorem dX8_copyFrom_0 : decode cX8_copyFrom 0 = .ok (.aload_n 0, 1) := by decide +kernel
theorem dX8_copyFrom_1 : decode cX8_copyFrom 1 = .ok (.aload_n 1, 1) := by decide +kernel
theorem dX8_copyFrom_2 : decode cX8_copyFrom 2 = .ok (.getfield 24, 3) := by decide +kernel
theorem dX8_copyFrom_5 : decode cX8_copyFrom 5 = .ok (.putfield 24, 3) := by decide +kernel
theorem dX8_copyFrom_8 : decode cX8_copyFrom 8 = .ok (.aload_n 0, 1) := by decide +kernel
theorem dX8_copyFrom_9 : decode cX8_copyFrom 9 = .ok (.aload_n 1, 1) := by decide +kernel
theorem dX8_copyFrom_10 : decode cX8_copyFrom 10 = .ok (.getfield 33, 3) := by decide +kernel
theorem dX8_copyFrom_13 : decode cX8_copyFrom 13 = .ok (.putfield 33, 3) := by decide +kernel
theorem dX8_copyFrom_16 : decode cX8_copyFrom 16 = .ok (.aload_n 0, 1) := by decide +kernel
theorem dX8_copyFrom_17 : decode cX8_copyFrom 17 = .ok (.aload_n 1, 1) := by decide +kernel
theorem dX8_copyFrom_18 : decode cX8_copyFrom 18 = .ok (.getfield 34, 3) := by decide +kernel
theorem dX8_copyFrom_21 : decode cX8_copyFrom 21 = .ok (.putfield 34, 3) := by decide +kernel
theorem dX8_copyFrom_24 : decode cX8_copyFrom 24 = .ok (.aload_n 1, 1) := by decide +kernel
theorem dX8_copyFrom_25 : decode cX8_copyFrom 25 = .ok (.getfield 9, 3) := by decide +kernel
theorem dX8_copyFrom_28 : decode cX8_copyFrom 28 = .ok (.aload_n 0, 1) := by decide +kernel
theorem dX8_copyFrom_29 : decode cX8_copyFrom 29 = .ok (.getfield 9, 3) := by decide +kernel
theorem dX8_copyFrom_32 : decode cX8_copyFrom 32 = .ok (.invokestatic 50, 3) := by decide +kernel
theorem dX8_copyFrom_35 : decode cX8_copyFrom 35 = .ok (.aload_n 1, 1) := by decide +kernel
theorem dX8_copyFrom_36 : decode cX8_copyFrom 36 = .ok (.getfield 15, 3) := by decide +kernel
theorem dX8_copyFrom_39 : decode cX8_copyFrom 39 = .ok (.aload_n 0, 1) := by decide +kernel
theorem dX8_copyFrom_40 : decode cX8_copyFrom 40 = .ok (.getfield 15, 3) := by decide +kernel
theorem dX8_copyFrom_43 : decode cX8_copyFrom 43 = .ok (.invokestatic 50, 3) := by decide +kernel
theorem dX8_copyFrom_46 : decode cX8_copyFrom 46 = .ok (.aload_n 1, 1) := by decide +kernel
theorem dX8_copyFrom_47 : decode cX8_copyFrom 47 = .ok (.getfield 18, 3) := by decide +kernel
theorem dX8_copyFrom_50 : decode cX8_copyFrom 50 = .ok (.aload_n 0, 1) := by decide +kernel
theorem dX8_copyFrom_51 : decode cX8_copyFrom 51 = .ok (.getfield 18, 3) := by decide +kernel
theorem dX8_copyFrom_54 : decode cX8_copyFrom 54 = .ok (.invokestatic 50, 3) := by decide +kernel
theorem dX8_copyFrom_57 : decode cX8_copyFrom 57 = .ok (.aload_n 1, 1) := by decide +kernel
theorem dX8_copyFrom_58 : decode cX8_copyFrom 58 = .ok (.getfield 21, 3) := by decide +kernel
theorem dX8_copyFrom_61 : decode cX8_copyFrom 61 = .ok (.aload_n 0, 1) := by decide +kernel
theorem dX8_copyFrom_62 : decode cX8_copyFrom 62 = .ok (.getfield 21, 3) := by decide +kernel
theorem dX8_copyFrom_65 : decode cX8_copyFrom 65 = .ok (.invokestatic 50, 3) := by decide +kernel
theorem dX8_copyFrom_68 : decode cX8_copyFrom 68 = .ok (.return_, 1) := by decide +kernel
set_option maxRecDepth 20000 in
theorem ggX8_groupCount_X11_at : GoodIn wsX8_groupCount wsX11_at := goodIn_s _ [(5, 1)] rfl (by decide +kernel)
set_option maxRecDepth 20000 in
theorem gX8_groupCount_X11_at_n54 : GoodIn wsX8_groupCount (wsX11_at) := ggX8_groupCount_X11_at
theorem dX8_groupCount_0 : decode cX8_groupCount 0 = .ok (.aload_n 0, 1) := by decide +kernel
theorem dX8_groupCount_1 : decode cX8_groupCount 1 = .ok (.getfield 15, 3) := by decide +kernel
theorem dX8_groupCount_4 : decode cX8_groupCount 4 = .ok (.aload_n 0, 1) := by decide +kernel
theorem dX8_groupCount_5 : decode cX8_groupCount 5 = .ok (.getfield 24, 3) := by decide +kernel
theorem dX8_groupCount_8 : decode cX8_groupCount 8 = .ok (.invokestatic 54, 3) := by decide +kernel
theorem dX8_groupCount_11 : decode cX8_groupCount 11 = .ok (.ireturn, 1) := by decide +kernel
theorem dX8_groupRow_0 : decode cX8_groupRow 0 = .ok (.aload_n 0, 1) := by decide +kernel
theorem dX8_groupRow_1 : decode cX8_groupRow 1 = .ok (.getfield 24, 3) := by decide +kernel
theorem dX8_groupRow_4 : decode cX8_groupRow 4 = .ok (.bipush 14, 2) := by decide +kernel
theorem dX8_groupRow_6 : decode cX8_groupRow 6 = .ok (.imul, 1) := by decide +kernel
theorem dX8_groupRow_7 : decode cX8_groupRow 7 = .ok (.ireturn, 1) := by decide +kernel
set_option maxRecDepth 20000 in
theorem ggX8_raiseLevel_X8_groupRow : GoodIn wsX8_raiseLevel wsX8_groupRow := goodIn_s _ [(10, 1), (3, 1), (16, 7)] rfl (by decide +kernel)
set_option maxRecDepth 20000 in
theorem gX8_raiseLevel_X8_groupRow : GoodIn wsX8_raiseLevel (wsV RX8 58 RX8 yX8_groupRow wsX8_groupRow) := goodIn_app (goodIn_of _ (by decide +kernel)) ggX8_raiseLevel_X8_groupRow
set_option maxRecDepth 20000 in
theorem ggX8_raiseLevel_X11_at : GoodIn wsX8_raiseLevel wsX11_at := goodIn_s _ [(13, 1)] rfl (by decide +kernel)
set_option maxRecDepth 20000 in
theorem gX8_raiseLevel_X11_at_n54 : GoodIn wsX8_raiseLevel (wsX11_at) := ggX8_raiseLevel_X11_at
set_option maxRecDepth 20000 in
theorem ggX8_raiseLevel_X11_put : GoodIn wsX8_raiseLevel wsX11_put := goodIn_s _ [(15, 1)] rfl (by decide +kernel)
set_option maxRecDepth 20000 in
theorem gX8_raiseLevel_X11_put_n46 : GoodIn wsX8_raiseLevel (wsX11_put) := ggX8_raiseLevel_X11_put
theorem dX8_raiseLevel_0 : decode cX8_raiseLevel 0 = .ok (.aload_n 0, 1) := by decide +kernel
theorem dX8_raiseLevel_1 : decode cX8_raiseLevel 1 = .ok (.invokevirtual 58, 3) := by decide +kernel
theorem dX8_raiseLevel_4 : decode cX8_raiseLevel 4 = .ok (.istore_n 3, 1) := by decide +kernel
theorem dX8_raiseLevel_5 : decode cX8_raiseLevel 5 = .ok (.iconst 0, 1) := by decide +kernel
theorem dX8_raiseLevel_6 : decode cX8_raiseLevel 6 = .ok (.istore 4, 2) := by decide +kernel
theorem dX8_raiseLevel_8 : decode cX8_raiseLevel 8 = .ok (.iload 4, 2) := by decide +kernel
theorem dX8_raiseLevel_10 : decode cX8_raiseLevel 10 = .ok (.iload_n 1, 1) := by decide +kernel
theorem dX8_raiseLevel_11 : decode cX8_raiseLevel 11 = .ok (.if_icmp .ge 45, 3) := by decide +kernel
theorem dX8_raiseLevel_14 : decode cX8_raiseLevel 14 = .ok (.aload_n 0, 1) := by decide +kernel
theorem dX8_raiseLevel_15 : decode cX8_raiseLevel 15 = .ok (.getfield 18, 3) := by decide +kernel
theorem dX8_raiseLevel_18 : decode cX8_raiseLevel 18 = .ok (.iload_n 3, 1) := by decide +kernel
theorem dX8_raiseLevel_19 : decode cX8_raiseLevel 19 = .ok (.iload 4, 2) := by decide +kernel
theorem dX8_raiseLevel_21 : decode cX8_raiseLevel 21 = .ok (.iadd, 1) := by decide +kernel
theorem dX8_raiseLevel_22 : decode cX8_raiseLevel 22 = .ok (.invokestatic 54, 3) := by decide +kernel
theorem dX8_raiseLevel_25 : decode cX8_raiseLevel 25 = .ok (.istore 5, 2) := by decide +kernel
theorem dX8_raiseLevel_27 : decode cX8_raiseLevel 27 = .ok (.aload_n 0, 1) := by decide +kernel
theorem dX8_raiseLevel_28 : decode cX8_raiseLevel 28 = .ok (.getfield 18, 3) := by decide +kernel
theorem dX8_raiseLevel_31 : decode cX8_raiseLevel 31 = .ok (.iload_n 3, 1) := by decide +kernel
theorem dX8_raiseLevel_32 : decode cX8_raiseLevel 32 = .ok (.bipush 14, 2) := by decide +kernel
theorem dX8_raiseLevel_34 : decode cX8_raiseLevel 34 = .ok (.iadd, 1) := by decide +kernel
theorem dX8_raiseLevel_35 : decode cX8_raiseLevel 35 = .ok (.iload 4, 2) := by decide +kernel
theorem dX8_raiseLevel_37 : decode cX8_raiseLevel 37 = .ok (.iadd, 1) := by decide +kernel
theorem dX8_raiseLevel_38 : decode cX8_raiseLevel 38 = .ok (.aload_n 2, 1) := by decide +kernel
theorem dX8_raiseLevel_39 : decode cX8_raiseLevel 39 = .ok (.getfield 62, 3) := by decide +kernel
theorem dX8_raiseLevel_42 : decode cX8_raiseLevel 42 = .ok (.iload 5, 2) := by decide +kernel
theorem dX8_raiseLevel_44 : decode cX8_raiseLevel 44 = .ok (.invokestatic 54, 3) := by decide +kernel
theorem dX8_raiseLevel_47 : decode cX8_raiseLevel 47 = .ok (.invokestatic 46, 3) := by decide +kernel
theorem dX8_raiseLevel_50 : decode cX8_raiseLevel 50 = .ok (.iinc 4 1, 3) := by decide +kernel
theorem dX8_raiseLevel_53 : decode cX8_raiseLevel 53 = .ok (.goto (-45), 3) := by decide +kernel
theorem dX8_raiseLevel_56 : decode cX8_raiseLevel 56 = .ok (.aload_n 0, 1) := by decide +kernel
theorem dX8_raiseLevel_57 : decode cX8_raiseLevel 57 = .ok (.dup, 1) := by decide +kernel
theorem dX8_raiseLevel_58 : decode cX8_raiseLevel 58 = .ok (.getfield 24, 3) := by decide +kernel
theorem dX8_raiseLevel_61 : decode cX8_raiseLevel 61 = .ok (.iconst 1, 1) := by decide +kernel
theorem dX8_raiseLevel_62 : decode cX8_raiseLevel 62 = .ok (.iadd, 1) := by decide +kernel
theorem dX8_raiseLevel_63 : decode cX8_raiseLevel 63 = .ok (.putfield 24, 3) := by decide +kernel
theorem dX8_raiseLevel_66 : decode cX8_raiseLevel 66 = .ok (.aload_n 0, 1) := by decide +kernel
theorem dX8_raiseLevel_67 : decode cX8_raiseLevel 67 = .ok (.getfield 15, 3) := by decide +kernel
theorem dX8_raiseLevel_70 : decode cX8_raiseLevel 70 = .ok (.aload_n 0, 1) := by decide +kernel
theorem dX8_raiseLevel_71 : decode cX8_raiseLevel 71 = .ok (.getfield 24, 3) := by decide +kernel
theorem dX8_raiseLevel_74 : decode cX8_raiseLevel 74 = .ok (.aload_n 2, 1) := by decide +kernel
theorem dX8_raiseLevel_75 : decode cX8_raiseLevel 75 = .ok (.getfield 67, 3) := by decide +kernel
theorem dX8_raiseLevel_78 : decode cX8_raiseLevel 78 = .ok (.invokestatic 46, 3) := by decide +kernel
theorem dX8_raiseLevel_81 : decode cX8_raiseLevel 81 = .ok (.return_, 1) := by decide +kernel
set_option maxRecDepth 20000 in
theorem ggX8_place_X11_isIn : GoodIn wsX8_place wsX11_isIn := goodIn_s _ [(4, 1)] rfl (by decide +kernel)
set_option maxRecDepth 20000 in
theorem gX8_place_X11_isIn_n70 : GoodIn wsX8_place (wsX11_isIn) := ggX8_place_X11_isIn
set_option maxRecDepth 20000 in
theorem ggX8_place_X11_put : GoodIn wsX8_place wsX11_put := goodIn_s _ [(6, 1)] rfl (by decide +kernel)
set_option maxRecDepth 20000 in
theorem gX8_place_X11_put_n46 : GoodIn wsX8_place (wsX11_put) := ggX8_place_X11_put
theorem dX8_place_0 : decode cX8_place 0 = .ok (.iconst 0, 1) := by decide +kernel
theorem dX8_place_1 : decode cX8_place 1 = .ok (.istore_n 3, 1) := by decide +kernel
theorem dX8_place_2 : decode cX8_place 2 = .ok (.iload_n 3, 1) := by decide +kernel
theorem dX8_place_3 : decode cX8_place 3 = .ok (.bipush 14, 2) := by decide +kernel
theorem dX8_place_5 : decode cX8_place 5 = .ok (.if_icmp .ge 26, 3) := by decide +kernel
theorem dX8_place_8 : decode cX8_place 8 = .ok (.iload_n 1, 1) := by decide +kernel
theorem dX8_place_9 : decode cX8_place 9 = .ok (.iload_n 3, 1) := by decide +kernel
theorem dX8_place_10 : decode cX8_place 10 = .ok (.invokestatic 70, 3) := by decide +kernel
theorem dX8_place_13 : decode cX8_place 13 = .ok (.ifCond .eq 12, 3) := by decide +kernel
theorem dX8_place_16 : decode cX8_place 16 = .ok (.aload_n 0, 1) := by decide +kernel
theorem dX8_place_17 : decode cX8_place 17 = .ok (.getfield 9, 3) := by decide +kernel
theorem dX8_place_20 : decode cX8_place 20 = .ok (.iload_n 3, 1) := by decide +kernel
theorem dX8_place_21 : decode cX8_place 21 = .ok (.iload_n 2, 1) := by decide +kernel
theorem dX8_place_22 : decode cX8_place 22 = .ok (.invokestatic 46, 3) := by decide +kernel
theorem dX8_place_25 : decode cX8_place 25 = .ok (.iinc 3 1, 3) := by decide +kernel
theorem dX8_place_28 : decode cX8_place 28 = .ok (.goto (-26), 3) := by decide +kernel
theorem dX8_place_31 : decode cX8_place 31 = .ok (.return_, 1) := by decide +kernel
set_option maxRecDepth 20000 in
theorem ggX8_note_X11_put : GoodIn wsX8_note wsX11_put := goodIn_s _ [(13, 1)] rfl (by decide +kernel)
set_option maxRecDepth 20000 in
theorem gX8_note_X11_put_n46 : GoodIn wsX8_note (wsX11_put) := ggX8_note_X11_put
theorem dX8_note_0 : decode cX8_note 0 = .ok (.aload_n 0, 1) := by decide +kernel
theorem dX8_note_1 : decode cX8_note 1 = .ok (.getfield 21, 3) := by decide +kernel
theorem dX8_note_4 : decode cX8_note 4 = .ok (.iconst 0, 1) := by decide +kernel
theorem dX8_note_5 : decode cX8_note 5 = .ok (.aload_n 0, 1) := by decide +kernel
theorem dX8_note_6 : decode cX8_note 6 = .ok (.getfield 21, 3) := by decide +kernel
theorem dX8_note_9 : decode cX8_note 9 = .ok (.iconst 4, 1) := by decide +kernel
theorem dX8_note_10 : decode cX8_note 10 = .ok (.aload_n 0, 1) := by decide +kernel
theorem dX8_note_11 : decode cX8_note 11 = .ok (.getfield 21, 3) := by decide +kernel
theorem dX8_note_14 : decode cX8_note 14 = .ok (.arraylength, 1) := by decide +kernel
theorem dX8_note_15 : decode cX8_note 15 = .ok (.iconst 4, 1) := by decide +kernel
theorem dX8_note_16 : decode cX8_note 16 = .ok (.isub, 1) := by decide +kernel
theorem dX8_note_17 : decode cX8_note 17 = .ok (.invokestatic 74, 3) := by decide +kernel
theorem dX8_note_20 : decode cX8_note 20 = .ok (.aload_n 0, 1) := by decide +kernel
theorem dX8_note_21 : decode cX8_note 21 = .ok (.getfield 21, 3) := by decide +kernel
theorem dX8_note_24 : decode cX8_note 24 = .ok (.iconst 0, 1) := by decide +kernel
theorem dX8_note_25 : decode cX8_note 25 = .ok (.iload_n 1, 1) := by decide +kernel
theorem dX8_note_26 : decode cX8_note 26 = .ok (.invokestatic 46, 3) := by decide +kernel
theorem dX8_note_29 : decode cX8_note 29 = .ok (.aload_n 0, 1) := by decide +kernel
theorem dX8_note_30 : decode cX8_note 30 = .ok (.getfield 21, 3) := by decide +kernel
theorem dX8_note_33 : decode cX8_note 33 = .ok (.iconst 1, 1) := by decide +kernel
theorem dX8_note_34 : decode cX8_note 34 = .ok (.iload_n 2, 1) := by decide +kernel
theorem dX8_note_35 : decode cX8_note 35 = .ok (.invokestatic 46, 3) := by decide +kernel
theorem dX8_note_38 : decode cX8_note 38 = .ok (.aload_n 0, 1) := by decide +kernel
theorem dX8_note_39 : decode cX8_note 39 = .ok (.getfield 21, 3) := by decide +kernel
theorem dX8_note_42 : decode cX8_note 42 = .ok (.iconst 2, 1) := by decide +kernel
theorem dX8_note_43 : decode cX8_note 43 = .ok (.iload_n 3, 1) := by decide +kernel
theorem dX8_note_44 : decode cX8_note 44 = .ok (.invokestatic 46, 3) := by decide +kernel
theorem dX8_note_47 : decode cX8_note 47 = .ok (.aload_n 0, 1) := by decide +kernel
theorem dX8_note_48 : decode cX8_note 48 = .ok (.getfield 21, 3) := by decide +kernel
theorem dX8_note_51 : decode cX8_note 51 = .ok (.iconst 3, 1) := by decide +kernel
theorem dX8_note_52 : decode cX8_note 52 = .ok (.iload 4, 2) := by decide +kernel
theorem dX8_note_54 : decode cX8_note 54 = .ok (.invokestatic 46, 3) := by decide +kernel
theorem dX8_note_57 : decode cX8_note 57 = .ok (.aload_n 0, 1) := by decide +kernel
theorem dX8_note_58 : decode cX8_note 58 = .ok (.aload_n 0, 1) := by decide +kernel
theorem dX8_note_59 : decode cX8_note 59 = .ok (.getfield 34, 3) := by decide +kernel
theorem dX8_note_62 : decode cX8_note 62 = .ok (.iconst 1, 1) := by decide +kernel
theorem dX8_note_63 : decode cX8_note 63 = .ok (.iadd, 1) := by decide +kernel
theorem dX8_note_64 : decode cX8_note 64 = .ok (.bipush 30, 2) := by decide +kernel
theorem dX8_note_66 : decode cX8_note 66 = .ok (.invokestatic 80, 3) := by decide +kernel
theorem dX8_note_69 : decode cX8_note 69 = .ok (.putfield 34, 3) := by decide +kernel
theorem dX8_note_72 : decode cX8_note 72 = .ok (.return_, 1) := by decide +kernel
