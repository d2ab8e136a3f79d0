theorem dX6_init_0 : decode cX6_init 0 = .ok (.aload_n 0, 1) := by decide +kernel
theorem dX6_init_1 : decode cX6_init 1 = .ok (.invokespecial 3, 3) := by decide +kernel
theorem dX6_init_4 : decode cX6_init 4 = .ok (.aload_n 0, 1) := by decide +kernel
theorem dX6_init_5 : decode cX6_init 5 = .ok (.bipush 60, 2) := by decide +kernel
theorem dX6_init_7 : decode cX6_init 7 = .ok (.newarray .int, 2) := by decide +kernel
theorem dX6_init_9 : decode cX6_init 9 = .ok (.putfield 9, 3) := by decide +kernel
theorem dX6_init_12 : decode cX6_init 12 = .ok (.aload_n 0, 1) := by decide +kernel
theorem dX6_init_13 : decode cX6_init 13 = .ok (.bipush 60, 2) := by decide +kernel
theorem dX6_init_15 : decode cX6_init 15 = .ok (.newarray .int, 2) := by decide +kernel
theorem dX6_init_17 : decode cX6_init 17 = .ok (.putfield 15, 3) := by decide +kernel
theorem dX6_init_20 : decode cX6_init 20 = .ok (.aload_n 0, 1) := by decide +kernel
theorem dX6_init_21 : decode cX6_init 21 = .ok (.bipush 60, 2) := by decide +kernel
theorem dX6_init_23 : decode cX6_init 23 = .ok (.newarray .int, 2) := by decide +kernel
theorem dX6_init_25 : decode cX6_init 25 = .ok (.putfield 18, 3) := by decide +kernel
theorem dX6_init_28 : decode cX6_init 28 = .ok (.aload_n 0, 1) := by decide +kernel
theorem dX6_init_29 : decode cX6_init 29 = .ok (.bipush 60, 2) := by decide +kernel
theorem dX6_init_31 : decode cX6_init 31 = .ok (.newarray .int, 2) := by decide +kernel
theorem dX6_init_33 : decode cX6_init 33 = .ok (.putfield 21, 3) := by decide +kernel
theorem dX6_init_36 : decode cX6_init 36 = .ok (.return_, 1) := by decide +kernel
theorem dX6_clear_0 : decode cX6_clear 0 = .ok (.aload_n 0, 1) := by decide +kernel
theorem dX6_clear_1 : decode cX6_clear 1 = .ok (.iconst 0, 1) := by decide +kernel
theorem dX6_clear_2 : decode cX6_clear 2 = .ok (.putfield 24, 3) := by decide +kernel
theorem dX6_clear_5 : decode cX6_clear 5 = .ok (.aload_n 0, 1) := by decide +kernel
theorem dX6_clear_6 : decode cX6_clear 6 = .ok (.iconst 0, 1) := by decide +kernel
theorem dX6_clear_7 : decode cX6_clear 7 = .ok (.putfield 28, 3) := by decide +kernel
theorem dX6_clear_10 : decode cX6_clear 10 = .ok (.return_, 1) := by decide +kernel
set_option maxRecDepth 20000 in
theorem ggX6_addCommand_X6_append : GoodIn wsX6_addCommand wsX6_append := goodIn_s _ [(6, 14)] rfl (by decide +kernel)
set_option maxRecDepth 20000 in
theorem gX6_addCommand_X6_append : GoodIn wsX6_addCommand (wsV RX6 31 RX6 yX6_append wsX6_append) := goodIn_app (goodIn_of _ (by decide +kernel)) ggX6_addCommand_X6_append
theorem dX6_addCommand_0 : decode cX6_addCommand 0 = .ok (.aload_n 0, 1) := by decide +kernel
theorem dX6_addCommand_1 : decode cX6_addCommand 1 = .ok (.dup, 1) := by decide +kernel
theorem dX6_addCommand_2 : decode cX6_addCommand 2 = .ok (.getfield 28, 3) := by decide +kernel
theorem dX6_addCommand_5 : decode cX6_addCommand 5 = .ok (.iconst 1, 1) := by decide +kernel
theorem dX6_addCommand_6 : decode cX6_addCommand 6 = .ok (.iadd, 1) := by decide +kernel
theorem dX6_addCommand_7 : decode cX6_addCommand 7 = .ok (.putfield 28, 3) := by decide +kernel
theorem dX6_addCommand_10 : decode cX6_addCommand 10 = .ok (.aload_n 0, 1) := by decide +kernel
theorem dX6_addCommand_11 : decode cX6_addCommand 11 = .ok (.iload_n 1, 1) := by decide +kernel
theorem dX6_addCommand_12 : decode cX6_addCommand 12 = .ok (.iload_n 2, 1) := by decide +kernel
theorem dX6_addCommand_13 : decode cX6_addCommand 13 = .ok (.iload_n 3, 1) := by decide +kernel
theorem dX6_addCommand_14 : decode cX6_addCommand 14 = .ok (.invokevirtual 31, 3) := by decide +kernel
theorem dX6_addCommand_17 : decode cX6_addCommand 17 = .ok (.return_, 1) := by decide +kernel
set_option maxRecDepth 20000 in
theorem ggX6_addClose_X6_append : GoodIn wsX6_addClose wsX6_append := goodIn_s _ [(5, 14)] rfl (by decide +kernel)
set_option maxRecDepth 20000 in
theorem gX6_addClose_X6_append : GoodIn wsX6_addClose (wsV RX6 31 RX6 yX6_append wsX6_append) := goodIn_app (goodIn_of _ (by decide +kernel)) ggX6_addClose_X6_append
theorem dX6_addClose_0 : decode cX6_addClose 0 = .ok (.aload_n 0, 1) := by decide +kernel
theorem dX6_addClose_1 : decode cX6_addClose 1 = .ok (.bipush 9, 2) := by decide +kernel
theorem dX6_addClose_3 : decode cX6_addClose 3 = .ok (.iload_n 1, 1) := by decide +kernel
theorem dX6_addClose_4 : decode cX6_addClose 4 = .ok (.iconst 0, 1) := by decide +kernel
theorem dX6_addClose_5 : decode cX6_addClose 5 = .ok (.invokevirtual 31, 3) := by decide +kernel
theorem dX6_addClose_8 : decode cX6_addClose 8 = .ok (.return_, 1) := by decide +kernel
set_option maxRecDepth 20000 in
theorem ggX6_append_X11_put : GoodIn wsX6_append wsX11_put := goodIn_s _ [(7, 1)] rfl (by decide +kernel)
set_option maxRecDepth 20000 in
theorem gX6_append_X11_put_n35 : GoodIn wsX6_append (wsX11_put) := ggX6_append_X11_put
theorem dX6_append_0 : decode cX6_append 0 = .ok (.aload_n 0, 1) := by decide +kernel
theorem dX6_append_1 : decode cX6_append 1 = .ok (.getfield 9, 3) := by decide +kernel
theorem dX6_append_4 : decode cX6_append 4 = .ok (.aload_n 0, 1) := by decide +kernel
theorem dX6_append_5 : decode cX6_append 5 = .ok (.getfield 24, 3) := by decide +kernel
theorem dX6_append_8 : decode cX6_append 8 = .ok (.iload_n 1, 1) := by decide +kernel
theorem dX6_append_9 : decode cX6_append 9 = .ok (.invokestatic 35, 3) := by decide +kernel
theorem dX6_append_12 : decode cX6_append 12 = .ok (.aload_n 0, 1) := by decide +kernel
theorem dX6_append_13 : decode cX6_append 13 = .ok (.getfield 15, 3) := by decide +kernel
theorem dX6_append_16 : decode cX6_append 16 = .ok (.aload_n 0, 1) := by decide +kernel
theorem dX6_append_17 : decode cX6_append 17 = .ok (.getfield 24, 3) := by decide +kernel
theorem dX6_append_20 : decode cX6_append 20 = .ok (.iload_n 2, 1) := by decide +kernel
theorem dX6_append_21 : decode cX6_append 21 = .ok (.invokestatic 35, 3) := by decide +kernel
theorem dX6_append_24 : decode cX6_append 24 = .ok (.aload_n 0, 1) := by decide +kernel
theorem dX6_append_25 : decode cX6_append 25 = .ok (.getfield 18, 3) := by decide +kernel
theorem dX6_append_28 : decode cX6_append 28 = .ok (.aload_n 0, 1) := by decide +kernel
theorem dX6_append_29 : decode cX6_append 29 = .ok (.getfield 24, 3) := by decide +kernel
theorem dX6_append_32 : decode cX6_append 32 = .ok (.iload_n 3, 1) := by decide +kernel
theorem dX6_append_33 : decode cX6_append 33 = .ok (.invokestatic 35, 3) := by decide +kernel
theorem dX6_append_36 : decode cX6_append 36 = .ok (.aload_n 0, 1) := by decide +kernel
theorem dX6_append_37 : decode cX6_append 37 = .ok (.dup, 1) := by decide +kernel
theorem dX6_append_38 : decode cX6_append 38 = .ok (.getfield 24, 3) := by decide +kernel
theorem dX6_append_41 : decode cX6_append 41 = .ok (.iconst 1, 1) := by decide +kernel
theorem dX6_append_42 : decode cX6_append 42 = .ok (.iadd, 1) := by decide +kernel
theorem dX6_append_43 : decode cX6_append 43 = .ok (.putfield 24, 3) := by decide +kernel
theorem dX6_append_46 : decode cX6_append 46 = .ok (.return_, 1) := by decide +kernel
set_option maxRecDepth 20000 in
theorem ggX6_beginRepeat_X11_at : GoodIn wsX6_beginRepeat wsX11_at := goodIn_s _ [(5, 1)] rfl (by decide +kernel)
set_option maxRecDepth 20000 in
theorem gX6_beginRepeat_X11_at_n39 : GoodIn wsX6_beginRepeat (wsX11_at) := ggX6_beginRepeat_X11_at
set_option maxRecDepth 20000 in
theorem ggX6_beginRepeat_X11_put : GoodIn wsX6_beginRepeat wsX11_put := goodIn_s _ [(7, 1)] rfl (by decide +kernel)
set_option maxRecDepth 20000 in
theorem gX6_beginRepeat_X11_put_n35 : GoodIn wsX6_beginRepeat (wsX11_put) := ggX6_beginRepeat_X11_put
theorem dX6_beginRepeat_0 : decode cX6_beginRepeat 0 = .ok (.aload_n 0, 1) := by decide +kernel
theorem dX6_beginRepeat_1 : decode cX6_beginRepeat 1 = .ok (.getfield 21, 3) := by decide +kernel
theorem dX6_beginRepeat_4 : decode cX6_beginRepeat 4 = .ok (.iload_n 1, 1) := by decide +kernel
theorem dX6_beginRepeat_5 : decode cX6_beginRepeat 5 = .ok (.aload_n 0, 1) := by decide +kernel
theorem dX6_beginRepeat_6 : decode cX6_beginRepeat 6 = .ok (.getfield 15, 3) := by decide +kernel
theorem dX6_beginRepeat_9 : decode cX6_beginRepeat 9 = .ok (.iload_n 1, 1) := by decide +kernel
theorem dX6_beginRepeat_10 : decode cX6_beginRepeat 10 = .ok (.invokestatic 39, 3) := by decide +kernel
theorem dX6_beginRepeat_13 : decode cX6_beginRepeat 13 = .ok (.invokestatic 35, 3) := by decide +kernel
theorem dX6_beginRepeat_16 : decode cX6_beginRepeat 16 = .ok (.return_, 1) := by decide +kernel
set_option maxRecDepth 20000 in
theorem ggX6_behindClose_X11_at : GoodIn wsX6_behindClose wsX11_at := goodIn_s _ [(5, 1)] rfl (by decide +kernel)
set_option maxRecDepth 20000 in
theorem gX6_behindClose_X11_at_n39 : GoodIn wsX6_behindClose (wsX11_at) := ggX6_behindClose_X11_at
set_option maxRecDepth 20000 in
theorem ggX6_behindClose_X11_add : GoodIn wsX6_behindClose wsX11_add := goodIn_s _ [(7, 1)] rfl (by decide +kernel)
set_option maxRecDepth 20000 in
theorem gX6_behindClose_X11_add_n43 : GoodIn wsX6_behindClose (wsX11_add) := ggX6_behindClose_X11_add
theorem dX6_behindClose_0 : decode cX6_behindClose 0 = .ok (.aload_n 0, 1) := by decide +kernel
theorem dX6_behindClose_1 : decode cX6_behindClose 1 = .ok (.getfield 15, 3) := by decide +kernel
theorem dX6_behindClose_4 : decode cX6_behindClose 4 = .ok (.iload_n 1, 1) := by decide +kernel
theorem dX6_behindClose_5 : decode cX6_behindClose 5 = .ok (.invokestatic 39, 3) := by decide +kernel
theorem dX6_behindClose_8 : decode cX6_behindClose 8 = .ok (.istore_n 2, 1) := by decide +kernel
theorem dX6_behindClose_9 : decode cX6_behindClose 9 = .ok (.aload_n 0, 1) := by decide +kernel
theorem dX6_behindClose_10 : decode cX6_behindClose 10 = .ok (.getfield 21, 3) := by decide +kernel
theorem dX6_behindClose_13 : decode cX6_behindClose 13 = .ok (.iload_n 2, 1) := by decide +kernel
theorem dX6_behindClose_14 : decode cX6_behindClose 14 = .ok (.iconst (-1), 1) := by decide +kernel
theorem dX6_behindClose_15 : decode cX6_behindClose 15 = .ok (.invokestatic 43, 3) := by decide +kernel
theorem dX6_behindClose_18 : decode cX6_behindClose 18 = .ok (.aload_n 0, 1) := by decide +kernel
theorem dX6_behindClose_19 : decode cX6_behindClose 19 = .ok (.getfield 21, 3) := by decide +kernel
theorem dX6_behindClose_22 : decode cX6_behindClose 22 = .ok (.iload_n 2, 1) := by decide +kernel
theorem dX6_behindClose_23 : decode cX6_behindClose 23 = .ok (.invokestatic 39, 3) := by decide +kernel
theorem dX6_behindClose_26 : decode cX6_behindClose 26 = .ok (.ifCond .le 9, 3) := by decide +kernel
theorem dX6_behindClose_29 : decode cX6_behindClose 29 = .ok (.iload_n 2, 1) := by decide +kernel
theorem dX6_behindClose_30 : decode cX6_behindClose 30 = .ok (.iconst 1, 1) := by decide +kernel
theorem dX6_behindClose_31 : decode cX6_behindClose 31 = .ok (.iadd, 1) := by decide +kernel
theorem dX6_behindClose_32 : decode cX6_behindClose 32 = .ok (.goto 6, 3) := by decide +kernel
theorem dX6_behindClose_35 : decode cX6_behindClose 35 = .ok (.iload_n 1, 1) := by decide +kernel
theorem dX6_behindClose_36 : decode cX6_behindClose 36 = .ok (.iconst 1, 1) := by decide +kernel
theorem dX6_behindClose_37 : decode cX6_behindClose 37 = .ok (.iadd, 1) := by decide +kernel
theorem dX6_behindClose_38 : decode cX6_behindClose 38 = .ok (.ireturn, 1) := by decide +kernel
