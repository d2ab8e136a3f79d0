theorem dX7_init_0 : decode cX7_init 0 = .ok (.aload_n 0, 1) := by decide +kernel
theorem dX7_init_1 : decode cX7_init 1 = .ok (.invokespecial 3, 3) := by decide +kernel
theorem dX7_init_4 : decode cX7_init 4 = .ok (.aload_n 0, 1) := by decide +kernel
theorem dX7_init_5 : decode cX7_init 5 = .ok (.iconst 2, 1) := by decide +kernel
theorem dX7_init_6 : decode cX7_init 6 = .ok (.newarray .int, 2) := by decide +kernel
theorem dX7_init_8 : decode cX7_init 8 = .ok (.putfield 9, 3) := by decide +kernel
theorem dX7_init_11 : decode cX7_init 11 = .ok (.return_, 1) := by decide +kernel
set_option maxRecDepth 20000 in
theorem ggX7_read_X6_clear : GoodIn wsX7_read wsX6_clear := goodIn_s _ [(7, 3), (197, 6)] rfl (by decide +kernel)
set_option maxRecDepth 20000 in
theorem gX7_read_X6_clear : GoodIn wsX7_read (wsV RX7 15 RX6 yX6_clear wsX6_clear) := goodIn_app (goodIn_of _ (by decide +kernel)) ggX7_read_X6_clear
set_option maxRecDepth 20000 in
theorem ggX7_read_X10_advance : GoodIn wsX7_read wsX10_advance := goodIn_s _ [(14, 11), (13, 1), (25, 23), (185, 12)] rfl (by decide +kernel)
set_option maxRecDepth 20000 in
theorem gX7_read_X10_advance : GoodIn wsX7_read (wsV RX7 20 RX10 yX10_advance wsX10_advance) := goodIn_app (goodIn_of _ (by decide +kernel)) ggX7_read_X10_advance
set_option maxRecDepth 20000 in
theorem ggX7_read_X10_fail : GoodIn wsX7_read wsX10_fail := goodIn_s _ [(51, 2), (18, 1), (53, 3), (185, 12)] rfl (by decide +kernel)
set_option maxRecDepth 20000 in
theorem gX7_read_X10_fail : GoodIn wsX7_read (wsV RX7 32 RX10 yX10_fail wsX10_fail) := goodIn_app (goodIn_of _ (by decide +kernel)) ggX7_read_X10_fail
set_option maxRecDepth 20000 in
theorem ggX7_read_X7_readClose : GoodIn wsX7_read wsX7_readClose := goodIn_s _ [(60, 1), (2, 1), (61, 1), (48, 3), (13, 1), (51, 2), (18, 1), (53, 3), (20, 3), (62, 3), (6, 1), (65, 6), (8, 1), (71, 8), (19, 1), (79, 1), (11, 2), (14, 4), (23, 25), (80, 1), (185, 12), (203, 1), (197, 6)] rfl (by decide +kernel)
set_option maxRecDepth 20000 in
theorem gX7_read_X7_readClose : GoodIn wsX7_read (wsV RX7 36 RX7 yX7_readClose wsX7_readClose) := goodIn_app (goodIn_of _ (by decide +kernel)) ggX7_read_X7_readClose
theorem dX7_read_0 : decode cX7_read 0 = .ok (.aload_n 2, 1) := by decide +kernel
theorem dX7_read_1 : decode cX7_read 1 = .ok (.invokevirtual 15, 3) := by decide +kernel
theorem dX7_read_4 : decode cX7_read 4 = .ok (.iconst 0, 1) := by decide +kernel
theorem dX7_read_5 : decode cX7_read 5 = .ok (.istore 4, 2) := by decide +kernel
theorem dX7_read_7 : decode cX7_read 7 = .ok (.iload 4, 2) := by decide +kernel
theorem dX7_read_9 : decode cX7_read 9 = .ok (.sipush 800, 3) := by decide +kernel
theorem dX7_read_12 : decode cX7_read 12 = .ok (.if_icmp .gt 85, 3) := by decide +kernel
theorem dX7_read_15 : decode cX7_read 15 = .ok (.aload_n 1, 1) := by decide +kernel
theorem dX7_read_16 : decode cX7_read 16 = .ok (.invokevirtual 20, 3) := by decide +kernel
theorem dX7_read_19 : decode cX7_read 19 = .ok (.aload_n 1, 1) := by decide +kernel
theorem dX7_read_20 : decode cX7_read 20 = .ok (.getfield 25, 3) := by decide +kernel
theorem dX7_read_23 : decode cX7_read 23 = .ok (.ifCond .ne 24, 3) := by decide +kernel
theorem dX7_read_26 : decode cX7_read 26 = .ok (.aload_n 1, 1) := by decide +kernel
theorem dX7_read_27 : decode cX7_read 27 = .ok (.getfield 29, 3) := by decide +kernel
theorem dX7_read_30 : decode cX7_read 30 = .ok (.ifCond .eq 11, 3) := by decide +kernel
theorem dX7_read_33 : decode cX7_read 33 = .ok (.aload_n 1, 1) := by decide +kernel
theorem dX7_read_34 : decode cX7_read 34 = .ok (.iconst 1, 1) := by decide +kernel
theorem dX7_read_35 : decode cX7_read 35 = .ok (.invokevirtual 32, 3) := by decide +kernel
theorem dX7_read_38 : decode cX7_read 38 = .ok (.ifCond .eq 7, 3) := by decide +kernel
theorem dX7_read_41 : decode cX7_read 41 = .ok (.iconst 1, 1) := by decide +kernel
theorem dX7_read_42 : decode cX7_read 42 = .ok (.goto 4, 3) := by decide +kernel
theorem dX7_read_45 : decode cX7_read 45 = .ok (.iconst 0, 1) := by decide +kernel
theorem dX7_read_46 : decode cX7_read 46 = .ok (.ireturn, 1) := by decide +kernel
theorem dX7_read_47 : decode cX7_read 47 = .ok (.aload_n 1, 1) := by decide +kernel
theorem dX7_read_48 : decode cX7_read 48 = .ok (.getfield 25, 3) := by decide +kernel
theorem dX7_read_51 : decode cX7_read 51 = .ok (.iconst 5, 1) := by decide +kernel
theorem dX7_read_52 : decode cX7_read 52 = .ok (.if_icmp .ne 7, 3) := by decide +kernel
theorem dX7_read_55 : decode cX7_read 55 = .ok (.iconst 1, 1) := by decide +kernel
theorem dX7_read_56 : decode cX7_read 56 = .ok (.goto 4, 3) := by decide +kernel
theorem dX7_read_59 : decode cX7_read 59 = .ok (.iconst 0, 1) := by decide +kernel
theorem dX7_read_60 : decode cX7_read 60 = .ok (.istore 5, 2) := by decide +kernel
theorem dX7_read_62 : decode cX7_read 62 = .ok (.iload 5, 2) := by decide +kernel
theorem dX7_read_64 : decode cX7_read 64 = .ok (.ifCond .eq 15, 3) := by decide +kernel
theorem dX7_read_67 : decode cX7_read 67 = .ok (.aload_n 0, 1) := by decide +kernel
theorem dX7_read_68 : decode cX7_read 68 = .ok (.aload_n 1, 1) := by decide +kernel
theorem dX7_read_69 : decode cX7_read 69 = .ok (.aload_n 2, 1) := by decide +kernel
theorem dX7_read_70 : decode cX7_read 70 = .ok (.invokevirtual 36, 3) := by decide +kernel
theorem dX7_read_73 : decode cX7_read 73 = .ok (.ifCond .eq 16, 3) := by decide +kernel
theorem dX7_read_76 : decode cX7_read 76 = .ok (.goto 15, 3) := by decide +kernel
theorem dX7_read_79 : decode cX7_read 79 = .ok (.aload_n 0, 1) := by decide +kernel
theorem dX7_read_80 : decode cX7_read 80 = .ok (.aload_n 1, 1) := by decide +kernel
theorem dX7_read_81 : decode cX7_read 81 = .ok (.aload_n 2, 1) := by decide +kernel
theorem dX7_read_82 : decode cX7_read 82 = .ok (.aload_n 3, 1) := by decide +kernel
theorem dX7_read_83 : decode cX7_read 83 = .ok (.invokevirtual 40, 3) := by decide +kernel
theorem dX7_read_86 : decode cX7_read 86 = .ok (.ifCond .ne 5, 3) := by decide +kernel
theorem dX7_read_89 : decode cX7_read 89 = .ok (.iconst 0, 1) := by decide +kernel
theorem dX7_read_90 : decode cX7_read 90 = .ok (.ireturn, 1) := by decide +kernel
theorem dX7_read_91 : decode cX7_read 91 = .ok (.iinc 4 1, 3) := by decide +kernel
theorem dX7_read_94 : decode cX7_read 94 = .ok (.goto (-87), 3) := by decide +kernel
theorem dX7_read_97 : decode cX7_read 97 = .ok (.iconst 0, 1) := by decide +kernel
theorem dX7_read_98 : decode cX7_read 98 = .ok (.ireturn, 1) := by decide +kernel
set_option maxRecDepth 20000 in
theorem ggX7_readClose_X10_fail : GoodIn wsX7_readClose wsX10_fail := goodIn_s _ [(7, 6), (69, 12)] rfl (by decide +kernel)
set_option maxRecDepth 20000 in
theorem gX7_readClose_X10_fail : GoodIn wsX7_readClose (wsV RX7 32 RX10 yX10_fail wsX10_fail) := goodIn_app (goodIn_of _ (by decide +kernel)) ggX7_readClose_X10_fail
set_option maxRecDepth 20000 in
theorem ggX7_readClose_X11_at : GoodIn wsX7_readClose wsX11_at := goodIn_s _ [(15, 1)] rfl (by decide +kernel)
set_option maxRecDepth 20000 in
theorem gX7_readClose_X11_at_n44 : GoodIn wsX7_readClose (wsX11_at) := ggX7_readClose_X11_at
set_option maxRecDepth 20000 in
theorem ggX7_readClose_X6_addClose : GoodIn wsX7_readClose wsX6_addClose := goodIn_s _ [(20, 4), (19, 1), (24, 6), (14, 1), (30, 1), (82, 6)] rfl (by decide +kernel)
set_option maxRecDepth 20000 in
theorem gX7_readClose_X6_addClose : GoodIn wsX7_readClose (wsV RX7 48 RX6 yX6_addClose wsX6_addClose) := goodIn_app (goodIn_of _ (by decide +kernel)) ggX7_readClose_X6_addClose
set_option maxRecDepth 20000 in
theorem ggX7_readClose_X10_takes : GoodIn wsX7_readClose wsX10_takes := goodIn_s _ [(34, 5), (6, 1), (39, 4), (9, 1), (13, 3), (43, 26), (4, 2), (7, 2), (10, 3), (69, 12)] rfl (by decide +kernel)
set_option maxRecDepth 20000 in
theorem gX7_readClose_X10_takes : GoodIn wsX7_readClose (wsV RX7 52 RX10 yX10_takes wsX10_takes) := goodIn_app (goodIn_of _ (by decide +kernel)) ggX7_readClose_X10_takes
theorem dX7_readClose_0 : decode cX7_readClose 0 = .ok (.aload_n 1, 1) := by decide +kernel
theorem dX7_readClose_1 : decode cX7_readClose 1 = .ok (.getfield 29, 3) := by decide +kernel
theorem dX7_readClose_4 : decode cX7_readClose 4 = .ok (.ifCond .ne 9, 3) := by decide +kernel
theorem dX7_readClose_7 : decode cX7_readClose 7 = .ok (.aload_n 1, 1) := by decide +kernel
theorem dX7_readClose_8 : decode cX7_readClose 8 = .ok (.iconst 1, 1) := by decide +kernel
theorem dX7_readClose_9 : decode cX7_readClose 9 = .ok (.invokevirtual 32, 3) := by decide +kernel
theorem dX7_readClose_12 : decode cX7_readClose 12 = .ok (.ireturn, 1) := by decide +kernel
theorem dX7_readClose_13 : decode cX7_readClose 13 = .ok (.aload_n 1, 1) := by decide +kernel
theorem dX7_readClose_14 : decode cX7_readClose 14 = .ok (.dup, 1) := by decide +kernel
theorem dX7_readClose_15 : decode cX7_readClose 15 = .ok (.getfield 29, 3) := by decide +kernel
theorem dX7_readClose_18 : decode cX7_readClose 18 = .ok (.iconst 1, 1) := by decide +kernel
theorem dX7_readClose_19 : decode cX7_readClose 19 = .ok (.isub, 1) := by decide +kernel
theorem dX7_readClose_20 : decode cX7_readClose 20 = .ok (.putfield 29, 3) := by decide +kernel
theorem dX7_readClose_23 : decode cX7_readClose 23 = .ok (.aload_n 2, 1) := by decide +kernel
theorem dX7_readClose_24 : decode cX7_readClose 24 = .ok (.aload_n 0, 1) := by decide +kernel
theorem dX7_readClose_25 : decode cX7_readClose 25 = .ok (.getfield 9, 3) := by decide +kernel
theorem dX7_readClose_28 : decode cX7_readClose 28 = .ok (.aload_n 1, 1) := by decide +kernel
theorem dX7_readClose_29 : decode cX7_readClose 29 = .ok (.getfield 29, 3) := by decide +kernel
theorem dX7_readClose_32 : decode cX7_readClose 32 = .ok (.invokestatic 44, 3) := by decide +kernel
theorem dX7_readClose_35 : decode cX7_readClose 35 = .ok (.invokevirtual 48, 3) := by decide +kernel
theorem dX7_readClose_38 : decode cX7_readClose 38 = .ok (.aload_n 1, 1) := by decide +kernel
theorem dX7_readClose_39 : decode cX7_readClose 39 = .ok (.iconst 3, 1) := by decide +kernel
theorem dX7_readClose_40 : decode cX7_readClose 40 = .ok (.invokevirtual 52, 3) := by decide +kernel
theorem dX7_readClose_43 : decode cX7_readClose 43 = .ok (.ireturn, 1) := by decide +kernel
set_option maxRecDepth 20000 in
theorem ggX7_readCommand_X7_kindOfWord : GoodIn wsX7_readCommand wsX7_kindOfWord := goodIn_s _ [(7, 60), (169, 12)] rfl (by decide +kernel)
set_option maxRecDepth 20000 in
theorem gX7_readCommand_X7_kindOfWord : GoodIn wsX7_readCommand (wsV RX7 55 RX7 yX7_kindOfWord wsX7_kindOfWord) := goodIn_app (goodIn_of _ (by decide +kernel)) ggX7_readCommand_X7_kindOfWord
set_option maxRecDepth 20000 in
theorem ggX7_readCommand_X10_fail : GoodIn wsX7_readCommand wsX10_fail := goodIn_s _ [(70, 6), (169, 12)] rfl (by decide +kernel)
set_option maxRecDepth 20000 in
theorem gX7_readCommand_X10_fail : GoodIn wsX7_readCommand (wsV RX7 32 RX10 yX10_fail wsX10_fail) := goodIn_app (goodIn_of _ (by decide +kernel)) ggX7_readCommand_X10_fail
set_option maxRecDepth 20000 in
theorem ggX7_readCommand_X7_readRepeat : GoodIn wsX7_readCommand wsX7_readRepeat := goodIn_s _ [(79, 3), (1, 1), (82, 4), (11, 1), (86, 1), (13, 1), (87, 8), (72, 1), (95, 13), (14, 1), (64, 3), (108, 11), (68, 4), (73, 3), (119, 20), (169, 12), (187, 1), (181, 6)] rfl (by decide +kernel)
set_option maxRecDepth 20000 in
theorem gX7_readCommand_X7_readRepeat : GoodIn wsX7_readCommand (wsV RX7 62 RX7 yX7_readRepeat wsX7_readRepeat) := goodIn_app (goodIn_of _ (by decide +kernel)) ggX7_readCommand_X7_readRepeat
set_option maxRecDepth 20000 in
theorem ggX7_readCommand_X7_readMove : GoodIn wsX7_readCommand wsX7_readMove := goodIn_s _ [(142, 1), (80, 1), (83, 3), (11, 1), (86, 1), (13, 1), (87, 8), (72, 1), (95, 13), (14, 1), (64, 3), (108, 11), (68, 4), (73, 3), (125, 14), (123, 2), (169, 18)] rfl (by decide +kernel)
set_option maxRecDepth 20000 in
theorem gX7_readCommand_X7_readMove : GoodIn wsX7_readCommand (wsV RX7 65 RX7 yX7_readMove wsX7_readMove) := goodIn_app (goodIn_of _ (by decide +kernel)) ggX7_readCommand_X7_readMove
set_option maxRecDepth 20000 in
theorem ggX7_readCommand_X10_takes : GoodIn wsX7_readCommand wsX10_takes := goodIn_s _ [(122, 1), (13, 1), (88, 3), (11, 1), (91, 4), (72, 1), (95, 13), (14, 1), (64, 3), (108, 7), (87, 1), (115, 4), (68, 4), (73, 3), (169, 12)] rfl (by decide +kernel)
set_option maxRecDepth 20000 in
theorem gX7_readCommand_X10_takes : GoodIn wsX7_readCommand (wsV RX7 52 RX10 yX10_takes wsX10_takes) := goodIn_app (goodIn_of _ (by decide +kernel)) ggX7_readCommand_X10_takes
set_option maxRecDepth 20000 in
theorem ggX7_readCommand_X7_readNumbered : GoodIn wsX7_readCommand wsX7_readNumbered := goodIn_s _ [(146, 1), (80, 1), (83, 3), (11, 1), (86, 1), (13, 1), (87, 8), (72, 1), (95, 13), (14, 1), (64, 3), (108, 11), (68, 4), (73, 3), (125, 14), (123, 2), (169, 18)] rfl (by decide +kernel)
set_option maxRecDepth 20000 in
theorem gX7_readCommand_X7_readNumbered : GoodIn wsX7_readCommand (wsV RX7 68 RX7 yX7_readNumbered wsX7_readNumbered) := goodIn_app (goodIn_of _ (by decide +kernel)) ggX7_readCommand_X7_readNumbered
set_option maxRecDepth 20000 in
theorem ggX7_readCommand_X7_readApart : GoodIn wsX7_readCommand wsX7_readApart := goodIn_s _ [(150, 5), (6, 1), (155, 3), (89, 2), (11, 1), (91, 4), (72, 1), (13, 1), (95, 13), (14, 1), (64, 3), (108, 7), (87, 1), (115, 3), (67, 5), (73, 3), (158, 11), (125, 14), (123, 2), (169, 12), (188, 12), (181, 6)] rfl (by decide +kernel)
set_option maxRecDepth 20000 in
theorem gX7_readCommand_X7_readApart : GoodIn wsX7_readCommand (wsV RX7 72 RX7 yX7_readApart wsX7_readApart) := goodIn_app (goodIn_of _ (by decide +kernel)) ggX7_readCommand_X7_readApart
set_option maxRecDepth 20000 in
theorem ggX7_readCommand_X6_addCommand : GoodIn wsX7_readCommand wsX6_addCommand := goodIn_s _ [(129, 5), (128, 1), (134, 5), (123, 1), (96, 1), (124, 1), (181, 6)] rfl (by decide +kernel)
set_option maxRecDepth 20000 in
theorem gX7_readCommand_X6_addCommand : GoodIn wsX7_readCommand (wsV RX7 75 RX6 yX6_addCommand wsX6_addCommand) := goodIn_app (goodIn_of _ (by decide +kernel)) ggX7_readCommand_X6_addCommand
theorem dX7_readCommand_0 : decode cX7_readCommand 0 = .ok (.aload_n 0, 1) := by decide +kernel
theorem dX7_readCommand_1 : decode cX7_readCommand 1 = .ok (.aload_n 1, 1) := by decide +kernel
theorem dX7_readCommand_2 : decode cX7_readCommand 2 = .ok (.invokevirtual 55, 3) := by decide +kernel
theorem dX7_readCommand_5 : decode cX7_readCommand 5 = .ok (.istore 4, 2) := by decide +kernel
theorem dX7_readCommand_7 : decode cX7_readCommand 7 = .ok (.iload 4, 2) := by decide +kernel
theorem dX7_readCommand_9 : decode cX7_readCommand 9 = .ok (.iconst (-1), 1) := by decide +kernel
theorem dX7_readCommand_10 : decode cX7_readCommand 10 = .ok (.if_icmp .ne 9, 3) := by decide +kernel
theorem dX7_readCommand_13 : decode cX7_readCommand 13 = .ok (.aload_n 1, 1) := by decide +kernel
theorem dX7_readCommand_14 : decode cX7_readCommand 14 = .ok (.iconst 1, 1) := by decide +kernel
theorem dX7_readCommand_15 : decode cX7_readCommand 15 = .ok (.invokevirtual 32, 3) := by decide +kernel
theorem dX7_readCommand_18 : decode cX7_readCommand 18 = .ok (.ireturn, 1) := by decide +kernel
theorem dX7_readCommand_19 : decode cX7_readCommand 19 = .ok (.iload 4, 2) := by decide +kernel
theorem dX7_readCommand_21 : decode cX7_readCommand 21 = .ok (.bipush 8, 2) := by decide +kernel
theorem dX7_readCommand_23 : decode cX7_readCommand 23 = .ok (.if_icmp .ne 17, 3) := by decide +kernel
theorem dX7_readCommand_26 : decode cX7_readCommand 26 = .ok (.aload_n 1, 1) := by decide +kernel
theorem dX7_readCommand_27 : decode cX7_readCommand 27 = .ok (.getfield 29, 3) := by decide +kernel
theorem dX7_readCommand_30 : decode cX7_readCommand 30 = .ok (.iconst 2, 1) := by decide +kernel
theorem dX7_readCommand_31 : decode cX7_readCommand 31 = .ok (.if_icmp .lt 9, 3) := by decide +kernel
theorem dX7_readCommand_34 : decode cX7_readCommand 34 = .ok (.aload_n 1, 1) := by decide +kernel
theorem dX7_readCommand_35 : decode cX7_readCommand 35 = .ok (.iconst 4, 1) := by decide +kernel
theorem dX7_readCommand_36 : decode cX7_readCommand 36 = .ok (.invokevirtual 32, 3) := by decide +kernel
theorem dX7_readCommand_39 : decode cX7_readCommand 39 = .ok (.ireturn, 1) := by decide +kernel
theorem dX7_readCommand_40 : decode cX7_readCommand 40 = .ok (.aload_n 2, 1) := by decide +kernel
theorem dX7_readCommand_41 : decode cX7_readCommand 41 = .ok (.getfield 59, 3) := by decide +kernel
theorem dX7_readCommand_44 : decode cX7_readCommand 44 = .ok (.bipush 30, 2) := by decide +kernel
theorem dX7_readCommand_46 : decode cX7_readCommand 46 = .ok (.if_icmp .lt 10, 3) := by decide +kernel
theorem dX7_readCommand_49 : decode cX7_readCommand 49 = .ok (.aload_n 1, 1) := by decide +kernel
theorem dX7_readCommand_50 : decode cX7_readCommand 50 = .ok (.bipush 6, 2) := by decide +kernel
theorem dX7_readCommand_52 : decode cX7_readCommand 52 = .ok (.invokevirtual 32, 3) := by decide +kernel
theorem dX7_readCommand_55 : decode cX7_readCommand 55 = .ok (.ireturn, 1) := by decide +kernel
theorem dX7_readCommand_56 : decode cX7_readCommand 56 = .ok (.iload 4, 2) := by decide +kernel
theorem dX7_readCommand_58 : decode cX7_readCommand 58 = .ok (.tableswitch 121 2 8 #[49, 121, 72, 121, 97, 72, 42], 42) := by decide +kernel
theorem dX7_readCommand_100 : decode cX7_readCommand 100 = .ok (.aload_n 0, 1) := by decide +kernel
theorem dX7_readCommand_101 : decode cX7_readCommand 101 = .ok (.aload_n 1, 1) := by decide +kernel
theorem dX7_readCommand_102 : decode cX7_readCommand 102 = .ok (.aload_n 2, 1) := by decide +kernel
theorem dX7_readCommand_103 : decode cX7_readCommand 103 = .ok (.invokevirtual 62, 3) := by decide +kernel
theorem dX7_readCommand_106 : decode cX7_readCommand 106 = .ok (.ireturn, 1) := by decide +kernel
theorem dX7_readCommand_107 : decode cX7_readCommand 107 = .ok (.aload_n 0, 1) := by decide +kernel
theorem dX7_readCommand_108 : decode cX7_readCommand 108 = .ok (.aload_n 1, 1) := by decide +kernel
theorem dX7_readCommand_109 : decode cX7_readCommand 109 = .ok (.aload_n 2, 1) := by decide +kernel
theorem dX7_readCommand_110 : decode cX7_readCommand 110 = .ok (.invokevirtual 65, 3) := by decide +kernel
theorem dX7_readCommand_113 : decode cX7_readCommand 113 = .ok (.ifCond .eq 15, 3) := by decide +kernel
theorem dX7_readCommand_116 : decode cX7_readCommand 116 = .ok (.aload_n 1, 1) := by decide +kernel
theorem dX7_readCommand_117 : decode cX7_readCommand 117 = .ok (.iconst 3, 1) := by decide +kernel
theorem dX7_readCommand_118 : decode cX7_readCommand 118 = .ok (.invokevirtual 52, 3) := by decide +kernel
theorem dX7_readCommand_121 : decode cX7_readCommand 121 = .ok (.ifCond .eq 7, 3) := by decide +kernel
theorem dX7_readCommand_124 : decode cX7_readCommand 124 = .ok (.iconst 1, 1) := by decide +kernel
theorem dX7_readCommand_125 : decode cX7_readCommand 125 = .ok (.goto 4, 3) := by decide +kernel
theorem dX7_readCommand_128 : decode cX7_readCommand 128 = .ok (.iconst 0, 1) := by decide +kernel
theorem dX7_readCommand_129 : decode cX7_readCommand 129 = .ok (.ireturn, 1) := by decide +kernel
theorem dX7_readCommand_130 : decode cX7_readCommand 130 = .ok (.aload_n 0, 1) := by decide +kernel
theorem dX7_readCommand_131 : decode cX7_readCommand 131 = .ok (.aload_n 1, 1) := by decide +kernel
theorem dX7_readCommand_132 : decode cX7_readCommand 132 = .ok (.aload_n 2, 1) := by decide +kernel
theorem dX7_readCommand_133 : decode cX7_readCommand 133 = .ok (.iload 4, 2) := by decide +kernel
theorem dX7_readCommand_135 : decode cX7_readCommand 135 = .ok (.invokevirtual 68, 3) := by decide +kernel
theorem dX7_readCommand_138 : decode cX7_readCommand 138 = .ok (.ifCond .eq 15, 3) := by decide +kernel
theorem dX7_readCommand_141 : decode cX7_readCommand 141 = .ok (.aload_n 1, 1) := by decide +kernel
theorem dX7_readCommand_142 : decode cX7_readCommand 142 = .ok (.iconst 3, 1) := by decide +kernel
theorem dX7_readCommand_143 : decode cX7_readCommand 143 = .ok (.invokevirtual 52, 3) := by decide +kernel
theorem dX7_readCommand_146 : decode cX7_readCommand 146 = .ok (.ifCond .eq 7, 3) := by decide +kernel
theorem dX7_readCommand_149 : decode cX7_readCommand 149 = .ok (.iconst 1, 1) := by decide +kernel
theorem dX7_readCommand_150 : decode cX7_readCommand 150 = .ok (.goto 4, 3) := by decide +kernel
theorem dX7_readCommand_153 : decode cX7_readCommand 153 = .ok (.iconst 0, 1) := by decide +kernel
theorem dX7_readCommand_154 : decode cX7_readCommand 154 = .ok (.ireturn, 1) := by decide +kernel
theorem dX7_readCommand_155 : decode cX7_readCommand 155 = .ok (.aload_n 0, 1) := by decide +kernel
theorem dX7_readCommand_156 : decode cX7_readCommand 156 = .ok (.aload_n 1, 1) := by decide +kernel
theorem dX7_readCommand_157 : decode cX7_readCommand 157 = .ok (.aload_n 2, 1) := by decide +kernel
theorem dX7_readCommand_158 : decode cX7_readCommand 158 = .ok (.aload_n 3, 1) := by decide +kernel
theorem dX7_readCommand_159 : decode cX7_readCommand 159 = .ok (.invokevirtual 72, 3) := by decide +kernel
theorem dX7_readCommand_162 : decode cX7_readCommand 162 = .ok (.ifCond .eq 15, 3) := by decide +kernel
theorem dX7_readCommand_165 : decode cX7_readCommand 165 = .ok (.aload_n 1, 1) := by decide +kernel
theorem dX7_readCommand_166 : decode cX7_readCommand 166 = .ok (.iconst 3, 1) := by decide +kernel
theorem dX7_readCommand_167 : decode cX7_readCommand 167 = .ok (.invokevirtual 52, 3) := by decide +kernel
theorem dX7_readCommand_170 : decode cX7_readCommand 170 = .ok (.ifCond .eq 7, 3) := by decide +kernel
theorem dX7_readCommand_173 : decode cX7_readCommand 173 = .ok (.iconst 1, 1) := by decide +kernel
theorem dX7_readCommand_174 : decode cX7_readCommand 174 = .ok (.goto 4, 3) := by decide +kernel
theorem dX7_readCommand_177 : decode cX7_readCommand 177 = .ok (.iconst 0, 1) := by decide +kernel
theorem dX7_readCommand_178 : decode cX7_readCommand 178 = .ok (.ireturn, 1) := by decide +kernel
theorem dX7_readCommand_179 : decode cX7_readCommand 179 = .ok (.aload_n 2, 1) := by decide +kernel
theorem dX7_readCommand_180 : decode cX7_readCommand 180 = .ok (.iload 4, 2) := by decide +kernel
theorem dX7_readCommand_182 : decode cX7_readCommand 182 = .ok (.iconst 0, 1) := by decide +kernel
theorem dX7_readCommand_183 : decode cX7_readCommand 183 = .ok (.iconst 0, 1) := by decide +kernel
theorem dX7_readCommand_184 : decode cX7_readCommand 184 = .ok (.invokevirtual 75, 3) := by decide +kernel
theorem dX7_readCommand_187 : decode cX7_readCommand 187 = .ok (.aload_n 1, 1) := by decide +kernel
theorem dX7_readCommand_188 : decode cX7_readCommand 188 = .ok (.iconst 3, 1) := by decide +kernel
theorem dX7_readCommand_189 : decode cX7_readCommand 189 = .ok (.invokevirtual 52, 3) := by decide +kernel
theorem dX7_readCommand_192 : decode cX7_readCommand 192 = .ok (.ireturn, 1) := by decide +kernel
set_option maxRecDepth 20000 in
theorem ggX7_kindOfWord_X10_isWord : GoodIn wsX7_kindOfWord wsX10_isWord := goodIn_s _ [(5, 54), (4, 1), (59, 13)] rfl (by decide +kernel)
set_option maxRecDepth 20000 in
theorem gX7_kindOfWord_X10_isWord : GoodIn wsX7_kindOfWord (wsV RX7 81 RX10 yX10_isWord wsX10_isWord) := goodIn_app (goodIn_of _ (by decide +kernel)) ggX7_kindOfWord_X10_isWord
theorem dX7_kindOfWord_0 : decode cX7_kindOfWord 0 = .ok (.aload_n 1, 1) := by decide +kernel
theorem dX7_kindOfWord_1 : decode cX7_kindOfWord 1 = .ok (.ldc 79, 2) := by decide +kernel
theorem dX7_kindOfWord_3 : decode cX7_kindOfWord 3 = .ok (.invokevirtual 81, 3) := by decide +kernel
theorem dX7_kindOfWord_6 : decode cX7_kindOfWord 6 = .ok (.ifCond .eq 5, 3) := by decide +kernel
theorem dX7_kindOfWord_9 : decode cX7_kindOfWord 9 = .ok (.iconst 0, 1) := by decide +kernel
theorem dX7_kindOfWord_10 : decode cX7_kindOfWord 10 = .ok (.ireturn, 1) := by decide +kernel
theorem dX7_kindOfWord_11 : decode cX7_kindOfWord 11 = .ok (.aload_n 1, 1) := by decide +kernel
theorem dX7_kindOfWord_12 : decode cX7_kindOfWord 12 = .ok (.ldc 85, 2) := by decide +kernel
theorem dX7_kindOfWord_14 : decode cX7_kindOfWord 14 = .ok (.invokevirtual 81, 3) := by decide +kernel
theorem dX7_kindOfWord_17 : decode cX7_kindOfWord 17 = .ok (.ifCond .eq 5, 3) := by decide +kernel
theorem dX7_kindOfWord_20 : decode cX7_kindOfWord 20 = .ok (.iconst 1, 1) := by decide +kernel
theorem dX7_kindOfWord_21 : decode cX7_kindOfWord 21 = .ok (.ireturn, 1) := by decide +kernel
theorem dX7_kindOfWord_22 : decode cX7_kindOfWord 22 = .ok (.aload_n 1, 1) := by decide +kernel
theorem dX7_kindOfWord_23 : decode cX7_kindOfWord 23 = .ok (.ldc 87, 2) := by decide +kernel
theorem dX7_kindOfWord_25 : decode cX7_kindOfWord 25 = .ok (.invokevirtual 81, 3) := by decide +kernel
theorem dX7_kindOfWord_28 : decode cX7_kindOfWord 28 = .ok (.ifCond .eq 5, 3) := by decide +kernel
theorem dX7_kindOfWord_31 : decode cX7_kindOfWord 31 = .ok (.iconst 2, 1) := by decide +kernel
theorem dX7_kindOfWord_32 : decode cX7_kindOfWord 32 = .ok (.ireturn, 1) := by decide +kernel
theorem dX7_kindOfWord_33 : decode cX7_kindOfWord 33 = .ok (.aload_n 1, 1) := by decide +kernel
theorem dX7_kindOfWord_34 : decode cX7_kindOfWord 34 = .ok (.ldc 89, 2) := by decide +kernel
theorem dX7_kindOfWord_36 : decode cX7_kindOfWord 36 = .ok (.invokevirtual 81, 3) := by decide +kernel
theorem dX7_kindOfWord_39 : decode cX7_kindOfWord 39 = .ok (.ifCond .eq 5, 3) := by decide +kernel
theorem dX7_kindOfWord_42 : decode cX7_kindOfWord 42 = .ok (.iconst 3, 1) := by decide +kernel
theorem dX7_kindOfWord_43 : decode cX7_kindOfWord 43 = .ok (.ireturn, 1) := by decide +kernel
theorem dX7_kindOfWord_44 : decode cX7_kindOfWord 44 = .ok (.aload_n 1, 1) := by decide +kernel
theorem dX7_kindOfWord_45 : decode cX7_kindOfWord 45 = .ok (.ldc 91, 2) := by decide +kernel
theorem dX7_kindOfWord_47 : decode cX7_kindOfWord 47 = .ok (.invokevirtual 81, 3) := by decide +kernel
theorem dX7_kindOfWord_50 : decode cX7_kindOfWord 50 = .ok (.ifCond .eq 5, 3) := by decide +kernel
theorem dX7_kindOfWord_53 : decode cX7_kindOfWord 53 = .ok (.iconst 4, 1) := by decide +kernel
theorem dX7_kindOfWord_54 : decode cX7_kindOfWord 54 = .ok (.ireturn, 1) := by decide +kernel
theorem dX7_kindOfWord_55 : decode cX7_kindOfWord 55 = .ok (.aload_n 1, 1) := by decide +kernel
theorem dX7_kindOfWord_56 : decode cX7_kindOfWord 56 = .ok (.ldc 93, 2) := by decide +kernel
theorem dX7_kindOfWord_58 : decode cX7_kindOfWord 58 = .ok (.invokevirtual 81, 3) := by decide +kernel
theorem dX7_kindOfWord_61 : decode cX7_kindOfWord 61 = .ok (.ifCond .eq 5, 3) := by decide +kernel
theorem dX7_kindOfWord_64 : decode cX7_kindOfWord 64 = .ok (.iconst 5, 1) := by decide +kernel
theorem dX7_kindOfWord_65 : decode cX7_kindOfWord 65 = .ok (.ireturn, 1) := by decide +kernel
theorem dX7_kindOfWord_66 : decode cX7_kindOfWord 66 = .ok (.aload_n 1, 1) := by decide +kernel
theorem dX7_kindOfWord_67 : decode cX7_kindOfWord 67 = .ok (.ldc 95, 2) := by decide +kernel
theorem dX7_kindOfWord_69 : decode cX7_kindOfWord 69 = .ok (.invokevirtual 81, 3) := by decide +kernel
theorem dX7_kindOfWord_72 : decode cX7_kindOfWord 72 = .ok (.ifCond .eq 6, 3) := by decide +kernel
theorem dX7_kindOfWord_75 : decode cX7_kindOfWord 75 = .ok (.bipush 6, 2) := by decide +kernel
theorem dX7_kindOfWord_77 : decode cX7_kindOfWord 77 = .ok (.ireturn, 1) := by decide +kernel
theorem dX7_kindOfWord_78 : decode cX7_kindOfWord 78 = .ok (.aload_n 1, 1) := by decide +kernel
theorem dX7_kindOfWord_79 : decode cX7_kindOfWord 79 = .ok (.ldc 97, 2) := by decide +kernel
theorem dX7_kindOfWord_81 : decode cX7_kindOfWord 81 = .ok (.invokevirtual 81, 3) := by decide +kernel
theorem dX7_kindOfWord_84 : decode cX7_kindOfWord 84 = .ok (.ifCond .eq 6, 3) := by decide +kernel
theorem dX7_kindOfWord_87 : decode cX7_kindOfWord 87 = .ok (.bipush 7, 2) := by decide +kernel
theorem dX7_kindOfWord_89 : decode cX7_kindOfWord 89 = .ok (.ireturn, 1) := by decide +kernel
theorem dX7_kindOfWord_90 : decode cX7_kindOfWord 90 = .ok (.aload_n 1, 1) := by decide +kernel
theorem dX7_kindOfWord_91 : decode cX7_kindOfWord 91 = .ok (.ldc 99, 2) := by decide +kernel
theorem dX7_kindOfWord_93 : decode cX7_kindOfWord 93 = .ok (.invokevirtual 81, 3) := by decide +kernel
theorem dX7_kindOfWord_96 : decode cX7_kindOfWord 96 = .ok (.ifCond .eq 8, 3) := by decide +kernel
theorem dX7_kindOfWord_99 : decode cX7_kindOfWord 99 = .ok (.bipush 8, 2) := by decide +kernel
theorem dX7_kindOfWord_101 : decode cX7_kindOfWord 101 = .ok (.goto 4, 3) := by decide +kernel
theorem dX7_kindOfWord_104 : decode cX7_kindOfWord 104 = .ok (.iconst (-1), 1) := by decide +kernel
theorem dX7_kindOfWord_105 : decode cX7_kindOfWord 105 = .ok (.ireturn, 1) := by decide +kernel
set_option maxRecDepth 20000 in
theorem ggX7_readRepeat_X10_takesNumber : GoodIn wsX7_readRepeat wsX10_takesNumber := goodIn_s _ [(9, 6), (8, 1), (15, 40), (75, 12)] rfl (by decide +kernel)
set_option maxRecDepth 20000 in
theorem gX7_readRepeat_X10_takesNumber : GoodIn wsX7_readRepeat (wsV RX7 101 RX10 yX10_takesNumber wsX10_takesNumber) := goodIn_app (goodIn_of _ (by decide +kernel)) ggX7_readRepeat_X10_takesNumber
set_option maxRecDepth 20000 in
theorem ggX7_readRepeat_X10_takes : GoodIn wsX7_readRepeat wsX10_takes := goodIn_s _ [(58, 1), (10, 1), (12, 3), (8, 1), (15, 29), (11, 1), (44, 11), (75, 12)] rfl (by decide +kernel)
set_option maxRecDepth 20000 in
theorem gX7_readRepeat_X10_takes : GoodIn wsX7_readRepeat (wsV RX7 52 RX10 yX10_takes wsX10_takes) := goodIn_app (goodIn_of _ (by decide +kernel)) ggX7_readRepeat_X10_takes
set_option maxRecDepth 20000 in
theorem ggX7_readRepeat_X11_put : GoodIn wsX7_readRepeat wsX11_put := goodIn_s _ [(60, 1)] rfl (by decide +kernel)
set_option maxRecDepth 20000 in
theorem gX7_readRepeat_X11_put_n111 : GoodIn wsX7_readRepeat (wsX11_put) := ggX7_readRepeat_X11_put
set_option maxRecDepth 20000 in
theorem ggX7_readRepeat_X6_addCommand : GoodIn wsX7_readRepeat wsX6_addCommand := goodIn_s _ [(65, 5), (64, 1), (70, 5), (59, 1), (21, 1), (60, 1), (88, 6)] rfl (by decide +kernel)
set_option maxRecDepth 20000 in
theorem gX7_readRepeat_X6_addCommand : GoodIn wsX7_readRepeat (wsV RX7 75 RX6 yX6_addCommand wsX6_addCommand) := goodIn_app (goodIn_of _ (by decide +kernel)) ggX7_readRepeat_X6_addCommand
theorem dX7_readRepeat_0 : decode cX7_readRepeat 0 = .ok (.aload_n 1, 1) := by decide +kernel
theorem dX7_readRepeat_1 : decode cX7_readRepeat 1 = .ok (.iconst 1, 1) := by decide +kernel
theorem dX7_readRepeat_2 : decode cX7_readRepeat 2 = .ok (.bipush 20, 2) := by decide +kernel
theorem dX7_readRepeat_4 : decode cX7_readRepeat 4 = .ok (.invokevirtual 101, 3) := by decide +kernel
theorem dX7_readRepeat_7 : decode cX7_readRepeat 7 = .ok (.ifCond .ne 5, 3) := by decide +kernel
theorem dX7_readRepeat_10 : decode cX7_readRepeat 10 = .ok (.iconst 0, 1) := by decide +kernel
theorem dX7_readRepeat_11 : decode cX7_readRepeat 11 = .ok (.ireturn, 1) := by decide +kernel
theorem dX7_readRepeat_12 : decode cX7_readRepeat 12 = .ok (.aload_n 1, 1) := by decide +kernel
theorem dX7_readRepeat_13 : decode cX7_readRepeat 13 = .ok (.getfield 105, 3) := by decide +kernel
theorem dX7_readRepeat_16 : decode cX7_readRepeat 16 = .ok (.istore_n 3, 1) := by decide +kernel
theorem dX7_readRepeat_17 : decode cX7_readRepeat 17 = .ok (.aload_n 1, 1) := by decide +kernel
theorem dX7_readRepeat_18 : decode cX7_readRepeat 18 = .ok (.iconst 4, 1) := by decide +kernel
theorem dX7_readRepeat_19 : decode cX7_readRepeat 19 = .ok (.invokevirtual 52, 3) := by decide +kernel
theorem dX7_readRepeat_22 : decode cX7_readRepeat 22 = .ok (.ifCond .ne 5, 3) := by decide +kernel
theorem dX7_readRepeat_25 : decode cX7_readRepeat 25 = .ok (.iconst 0, 1) := by decide +kernel
theorem dX7_readRepeat_26 : decode cX7_readRepeat 26 = .ok (.ireturn, 1) := by decide +kernel
theorem dX7_readRepeat_27 : decode cX7_readRepeat 27 = .ok (.aload_n 0, 1) := by decide +kernel
theorem dX7_readRepeat_28 : decode cX7_readRepeat 28 = .ok (.getfield 9, 3) := by decide +kernel
theorem dX7_readRepeat_31 : decode cX7_readRepeat 31 = .ok (.aload_n 1, 1) := by decide +kernel
theorem dX7_readRepeat_32 : decode cX7_readRepeat 32 = .ok (.getfield 29, 3) := by decide +kernel
theorem dX7_readRepeat_35 : decode cX7_readRepeat 35 = .ok (.aload_n 2, 1) := by decide +kernel
theorem dX7_readRepeat_36 : decode cX7_readRepeat 36 = .ok (.getfield 108, 3) := by decide +kernel
theorem dX7_readRepeat_39 : decode cX7_readRepeat 39 = .ok (.invokestatic 111, 3) := by decide +kernel
theorem dX7_readRepeat_42 : decode cX7_readRepeat 42 = .ok (.aload_n 1, 1) := by decide +kernel
theorem dX7_readRepeat_43 : decode cX7_readRepeat 43 = .ok (.dup, 1) := by decide +kernel
theorem dX7_readRepeat_44 : decode cX7_readRepeat 44 = .ok (.getfield 29, 3) := by decide +kernel
theorem dX7_readRepeat_47 : decode cX7_readRepeat 47 = .ok (.iconst 1, 1) := by decide +kernel
theorem dX7_readRepeat_48 : decode cX7_readRepeat 48 = .ok (.iadd, 1) := by decide +kernel
theorem dX7_readRepeat_49 : decode cX7_readRepeat 49 = .ok (.putfield 29, 3) := by decide +kernel
theorem dX7_readRepeat_52 : decode cX7_readRepeat 52 = .ok (.aload_n 2, 1) := by decide +kernel
theorem dX7_readRepeat_53 : decode cX7_readRepeat 53 = .ok (.bipush 8, 2) := by decide +kernel
theorem dX7_readRepeat_55 : decode cX7_readRepeat 55 = .ok (.iload_n 3, 1) := by decide +kernel
theorem dX7_readRepeat_56 : decode cX7_readRepeat 56 = .ok (.iconst 0, 1) := by decide +kernel
theorem dX7_readRepeat_57 : decode cX7_readRepeat 57 = .ok (.invokevirtual 75, 3) := by decide +kernel
theorem dX7_readRepeat_60 : decode cX7_readRepeat 60 = .ok (.iconst 1, 1) := by decide +kernel
theorem dX7_readRepeat_61 : decode cX7_readRepeat 61 = .ok (.ireturn, 1) := by decide +kernel
set_option maxRecDepth 20000 in
theorem ggX7_readMove_X10_takesNumber : GoodIn wsX7_readMove wsX10_takesNumber := goodIn_s _ [(6, 6), (5, 1), (12, 40), (68, 12)] rfl (by decide +kernel)
set_option maxRecDepth 20000 in
theorem gX7_readMove_X10_takesNumber : GoodIn wsX7_readMove (wsV RX7 101 RX10 yX10_takesNumber wsX10_takesNumber) := goodIn_app (goodIn_of _ (by decide +kernel)) ggX7_readMove_X10_takesNumber
set_option maxRecDepth 20000 in
theorem ggX7_readMove_X6_addCommand : GoodIn wsX7_readMove wsX6_addCommand := goodIn_s _ [(56, 5), (55, 1), (61, 6), (18, 1), (67, 1), (80, 6)] rfl (by decide +kernel)
set_option maxRecDepth 20000 in
theorem gX7_readMove_X6_addCommand : GoodIn wsX7_readMove (wsV RX7 75 RX6 yX6_addCommand wsX6_addCommand) := goodIn_app (goodIn_of _ (by decide +kernel)) ggX7_readMove_X6_addCommand
theorem dX7_readMove_0 : decode cX7_readMove 0 = .ok (.aload_n 1, 1) := by decide +kernel
theorem dX7_readMove_1 : decode cX7_readMove 1 = .ok (.iconst 0, 1) := by decide +kernel
theorem dX7_readMove_2 : decode cX7_readMove 2 = .ok (.sipush 999, 3) := by decide +kernel
theorem dX7_readMove_5 : decode cX7_readMove 5 = .ok (.invokevirtual 101, 3) := by decide +kernel
theorem dX7_readMove_8 : decode cX7_readMove 8 = .ok (.ifCond .ne 5, 3) := by decide +kernel
theorem dX7_readMove_11 : decode cX7_readMove 11 = .ok (.iconst 0, 1) := by decide +kernel
theorem dX7_readMove_12 : decode cX7_readMove 12 = .ok (.ireturn, 1) := by decide +kernel
theorem dX7_readMove_13 : decode cX7_readMove 13 = .ok (.aload_n 1, 1) := by decide +kernel
theorem dX7_readMove_14 : decode cX7_readMove 14 = .ok (.getfield 105, 3) := by decide +kernel
theorem dX7_readMove_17 : decode cX7_readMove 17 = .ok (.istore_n 3, 1) := by decide +kernel
theorem dX7_readMove_18 : decode cX7_readMove 18 = .ok (.aload_n 1, 1) := by decide +kernel
theorem dX7_readMove_19 : decode cX7_readMove 19 = .ok (.iconst 0, 1) := by decide +kernel
theorem dX7_readMove_20 : decode cX7_readMove 20 = .ok (.sipush 999, 3) := by decide +kernel
theorem dX7_readMove_23 : decode cX7_readMove 23 = .ok (.invokevirtual 101, 3) := by decide +kernel
theorem dX7_readMove_26 : decode cX7_readMove 26 = .ok (.ifCond .ne 5, 3) := by decide +kernel
theorem dX7_readMove_29 : decode cX7_readMove 29 = .ok (.iconst 0, 1) := by decide +kernel
theorem dX7_readMove_30 : decode cX7_readMove 30 = .ok (.ireturn, 1) := by decide +kernel
theorem dX7_readMove_31 : decode cX7_readMove 31 = .ok (.aload_n 2, 1) := by decide +kernel
theorem dX7_readMove_32 : decode cX7_readMove 32 = .ok (.iconst 2, 1) := by decide +kernel
theorem dX7_readMove_33 : decode cX7_readMove 33 = .ok (.iload_n 3, 1) := by decide +kernel
theorem dX7_readMove_34 : decode cX7_readMove 34 = .ok (.aload_n 1, 1) := by decide +kernel
theorem dX7_readMove_35 : decode cX7_readMove 35 = .ok (.getfield 105, 3) := by decide +kernel
theorem dX7_readMove_38 : decode cX7_readMove 38 = .ok (.invokevirtual 75, 3) := by decide +kernel
theorem dX7_readMove_41 : decode cX7_readMove 41 = .ok (.iconst 1, 1) := by decide +kernel
theorem dX7_readMove_42 : decode cX7_readMove 42 = .ok (.ireturn, 1) := by decide +kernel
set_option maxRecDepth 20000 in
theorem ggX7_readNumbered_X10_takesNumber : GoodIn wsX7_readNumbered wsX10_takesNumber := goodIn_s _ [(6, 6), (5, 1), (12, 40), (68, 12)] rfl (by decide +kernel)
set_option maxRecDepth 20000 in
theorem gX7_readNumbered_X10_takesNumber : GoodIn wsX7_readNumbered (wsV RX7 101 RX10 yX10_takesNumber wsX10_takesNumber) := goodIn_app (goodIn_of _ (by decide +kernel)) ggX7_readNumbered_X10_takesNumber
set_option maxRecDepth 20000 in
theorem ggX7_readNumbered_X6_addCommand : GoodIn wsX7_readNumbered wsX6_addCommand := goodIn_s _ [(56, 5), (55, 1), (61, 6), (18, 1), (67, 1), (80, 6)] rfl (by decide +kernel)
set_option maxRecDepth 20000 in
theorem gX7_readNumbered_X6_addCommand : GoodIn wsX7_readNumbered (wsV RX7 75 RX6 yX6_addCommand wsX6_addCommand) := goodIn_app (goodIn_of _ (by decide +kernel)) ggX7_readNumbered_X6_addCommand
theorem dX7_readNumbered_0 : decode cX7_readNumbered 0 = .ok (.aload_n 1, 1) := by decide +kernel
theorem dX7_readNumbered_1 : decode cX7_readNumbered 1 = .ok (.iconst 0, 1) := by decide +kernel
theorem dX7_readNumbered_2 : decode cX7_readNumbered 2 = .ok (.sipush 999, 3) := by decide +kernel
theorem dX7_readNumbered_5 : decode cX7_readNumbered 5 = .ok (.invokevirtual 101, 3) := by decide +kernel
theorem dX7_readNumbered_8 : decode cX7_readNumbered 8 = .ok (.ifCond .ne 5, 3) := by decide +kernel
theorem dX7_readNumbered_11 : decode cX7_readNumbered 11 = .ok (.iconst 0, 1) := by decide +kernel
theorem dX7_readNumbered_12 : decode cX7_readNumbered 12 = .ok (.ireturn, 1) := by decide +kernel
theorem dX7_readNumbered_13 : decode cX7_readNumbered 13 = .ok (.aload_n 2, 1) := by decide +kernel
theorem dX7_readNumbered_14 : decode cX7_readNumbered 14 = .ok (.iload_n 3, 1) := by decide +kernel
theorem dX7_readNumbered_15 : decode cX7_readNumbered 15 = .ok (.aload_n 1, 1) := by decide +kernel
theorem dX7_readNumbered_16 : decode cX7_readNumbered 16 = .ok (.getfield 105, 3) := by decide +kernel
theorem dX7_readNumbered_19 : decode cX7_readNumbered 19 = .ok (.iconst 0, 1) := by decide +kernel
theorem dX7_readNumbered_20 : decode cX7_readNumbered 20 = .ok (.invokevirtual 75, 3) := by decide +kernel
theorem dX7_readNumbered_23 : decode cX7_readNumbered 23 = .ok (.iconst 1, 1) := by decide +kernel
theorem dX7_readNumbered_24 : decode cX7_readNumbered 24 = .ok (.ireturn, 1) := by decide +kernel
set_option maxRecDepth 20000 in
theorem ggX7_readApart_X7_takesVertex : GoodIn wsX7_readApart wsX7_takesVertex := goodIn_s _ [(6, 2), (1, 1), (8, 57), (81, 24)] rfl (by decide +kernel)
set_option maxRecDepth 20000 in
theorem gX7_readApart_X7_takesVertex : GoodIn wsX7_readApart (wsV RX7 115 RX7 yX7_takesVertex wsX7_takesVertex) := goodIn_app (goodIn_of _ (by decide +kernel)) ggX7_readApart_X7_takesVertex
set_option maxRecDepth 20000 in
theorem ggX7_readApart_X2_vertexNamed : GoodIn wsX7_readApart wsX2_vertexNamed := goodIn_s _ [(58, 5), (57, 1), (63, 2), (93, 12)] rfl (by decide +kernel)
set_option maxRecDepth 20000 in
theorem gX7_readApart_X2_vertexNamed : GoodIn wsX7_readApart (wsV RX7 123 RX2 yX2_vertexNamed wsX2_vertexNamed) := goodIn_app (goodIn_of _ (by decide +kernel)) ggX7_readApart_X2_vertexNamed
set_option maxRecDepth 20000 in
theorem ggX7_readApart_X6_addCommand : GoodIn wsX7_readApart wsX6_addCommand := goodIn_s _ [(69, 5), (68, 1), (74, 6), (19, 1), (80, 1), (105, 6)] rfl (by decide +kernel)
set_option maxRecDepth 20000 in
theorem gX7_readApart_X6_addCommand : GoodIn wsX7_readApart (wsV RX7 75 RX6 yX6_addCommand wsX6_addCommand) := goodIn_app (goodIn_of _ (by decide +kernel)) ggX7_readApart_X6_addCommand
theorem dX7_readApart_0 : decode cX7_readApart 0 = .ok (.aload_n 0, 1) := by decide +kernel
theorem dX7_readApart_1 : decode cX7_readApart 1 = .ok (.aload_n 1, 1) := by decide +kernel
theorem dX7_readApart_2 : decode cX7_readApart 2 = .ok (.aload_n 3, 1) := by decide +kernel
theorem dX7_readApart_3 : decode cX7_readApart 3 = .ok (.invokevirtual 115, 3) := by decide +kernel
theorem dX7_readApart_6 : decode cX7_readApart 6 = .ok (.ifCond .ne 5, 3) := by decide +kernel
theorem dX7_readApart_9 : decode cX7_readApart 9 = .ok (.iconst 0, 1) := by decide +kernel
theorem dX7_readApart_10 : decode cX7_readApart 10 = .ok (.ireturn, 1) := by decide +kernel
theorem dX7_readApart_11 : decode cX7_readApart 11 = .ok (.aload_n 3, 1) := by decide +kernel
theorem dX7_readApart_12 : decode cX7_readApart 12 = .ok (.aload_n 1, 1) := by decide +kernel
theorem dX7_readApart_13 : decode cX7_readApart 13 = .ok (.getfield 119, 3) := by decide +kernel
theorem dX7_readApart_16 : decode cX7_readApart 16 = .ok (.invokevirtual 123, 3) := by decide +kernel
theorem dX7_readApart_19 : decode cX7_readApart 19 = .ok (.istore 4, 2) := by decide +kernel
theorem dX7_readApart_21 : decode cX7_readApart 21 = .ok (.aload_n 0, 1) := by decide +kernel
theorem dX7_readApart_22 : decode cX7_readApart 22 = .ok (.aload_n 1, 1) := by decide +kernel
theorem dX7_readApart_23 : decode cX7_readApart 23 = .ok (.aload_n 3, 1) := by decide +kernel
theorem dX7_readApart_24 : decode cX7_readApart 24 = .ok (.invokevirtual 115, 3) := by decide +kernel
theorem dX7_readApart_27 : decode cX7_readApart 27 = .ok (.ifCond .ne 5, 3) := by decide +kernel
theorem dX7_readApart_30 : decode cX7_readApart 30 = .ok (.iconst 0, 1) := by decide +kernel
theorem dX7_readApart_31 : decode cX7_readApart 31 = .ok (.ireturn, 1) := by decide +kernel
theorem dX7_readApart_32 : decode cX7_readApart 32 = .ok (.aload_n 2, 1) := by decide +kernel
theorem dX7_readApart_33 : decode cX7_readApart 33 = .ok (.bipush 6, 2) := by decide +kernel
theorem dX7_readApart_35 : decode cX7_readApart 35 = .ok (.iload 4, 2) := by decide +kernel
theorem dX7_readApart_37 : decode cX7_readApart 37 = .ok (.aload_n 3, 1) := by decide +kernel
theorem dX7_readApart_38 : decode cX7_readApart 38 = .ok (.aload_n 1, 1) := by decide +kernel
theorem dX7_readApart_39 : decode cX7_readApart 39 = .ok (.getfield 119, 3) := by decide +kernel
theorem dX7_readApart_42 : decode cX7_readApart 42 = .ok (.invokevirtual 123, 3) := by decide +kernel
theorem dX7_readApart_45 : decode cX7_readApart 45 = .ok (.invokevirtual 75, 3) := by decide +kernel
theorem dX7_readApart_48 : decode cX7_readApart 48 = .ok (.iconst 1, 1) := by decide +kernel
theorem dX7_readApart_49 : decode cX7_readApart 49 = .ok (.ireturn, 1) := by decide +kernel
set_option maxRecDepth 20000 in
theorem ggX7_takesVertex_X10_advance : GoodIn wsX7_takesVertex wsX10_advance := goodIn_s _ [(7, 11), (6, 1), (18, 23), (60, 12)] rfl (by decide +kernel)
set_option maxRecDepth 20000 in
theorem gX7_takesVertex_X10_advance : GoodIn wsX7_takesVertex (wsV RX7 20 RX10 yX10_advance wsX10_advance) := goodIn_app (goodIn_of _ (by decide +kernel)) ggX7_takesVertex_X10_advance
set_option maxRecDepth 20000 in
theorem ggX7_takesVertex_X10_fail : GoodIn wsX7_takesVertex wsX10_fail := goodIn_s _ [(44, 2), (11, 1), (46, 3), (60, 12)] rfl (by decide +kernel)
set_option maxRecDepth 20000 in
theorem gX7_takesVertex_X10_fail : GoodIn wsX7_takesVertex (wsV RX7 32 RX10 yX10_fail wsX10_fail) := goodIn_app (goodIn_of _ (by decide +kernel)) ggX7_takesVertex_X10_fail
set_option maxRecDepth 20000 in
theorem ggX7_takesVertex_X2_vertexNamed : GoodIn wsX7_takesVertex wsX2_vertexNamed := goodIn_s _ [(53, 5), (52, 1), (58, 2), (72, 12)] rfl (by decide +kernel)
set_option maxRecDepth 20000 in
theorem gX7_takesVertex_X2_vertexNamed : GoodIn wsX7_takesVertex (wsV RX7 123 RX2 yX2_vertexNamed wsX2_vertexNamed) := goodIn_app (goodIn_of _ (by decide +kernel)) ggX7_takesVertex_X2_vertexNamed
theorem dX7_takesVertex_0 : decode cX7_takesVertex 0 = .ok (.aload_n 1, 1) := by decide +kernel
theorem dX7_takesVertex_1 : decode cX7_takesVertex 1 = .ok (.invokevirtual 20, 3) := by decide +kernel
theorem dX7_takesVertex_4 : decode cX7_takesVertex 4 = .ok (.aload_n 1, 1) := by decide +kernel
theorem dX7_takesVertex_5 : decode cX7_takesVertex 5 = .ok (.getfield 25, 3) := by decide +kernel
theorem dX7_takesVertex_8 : decode cX7_takesVertex 8 = .ok (.iconst 1, 1) := by decide +kernel
theorem dX7_takesVertex_9 : decode cX7_takesVertex 9 = .ok (.if_icmp .eq 9, 3) := by decide +kernel
theorem dX7_takesVertex_12 : decode cX7_takesVertex 12 = .ok (.aload_n 1, 1) := by decide +kernel
theorem dX7_takesVertex_13 : decode cX7_takesVertex 13 = .ok (.iconst 1, 1) := by decide +kernel
theorem dX7_takesVertex_14 : decode cX7_takesVertex 14 = .ok (.invokevirtual 32, 3) := by decide +kernel
theorem dX7_takesVertex_17 : decode cX7_takesVertex 17 = .ok (.ireturn, 1) := by decide +kernel
theorem dX7_takesVertex_18 : decode cX7_takesVertex 18 = .ok (.aload_n 2, 1) := by decide +kernel
theorem dX7_takesVertex_19 : decode cX7_takesVertex 19 = .ok (.aload_n 1, 1) := by decide +kernel
theorem dX7_takesVertex_20 : decode cX7_takesVertex 20 = .ok (.getfield 119, 3) := by decide +kernel
theorem dX7_takesVertex_23 : decode cX7_takesVertex 23 = .ok (.invokevirtual 123, 3) := by decide +kernel
theorem dX7_takesVertex_26 : decode cX7_takesVertex 26 = .ok (.iconst (-1), 1) := by decide +kernel
theorem dX7_takesVertex_27 : decode cX7_takesVertex 27 = .ok (.if_icmp .ne 11, 3) := by decide +kernel
theorem dX7_takesVertex_30 : decode cX7_takesVertex 30 = .ok (.aload_n 1, 1) := by decide +kernel
theorem dX7_takesVertex_31 : decode cX7_takesVertex 31 = .ok (.iconst 3, 1) := by decide +kernel
theorem dX7_takesVertex_32 : decode cX7_takesVertex 32 = .ok (.invokevirtual 32, 3) := by decide +kernel
theorem dX7_takesVertex_35 : decode cX7_takesVertex 35 = .ok (.ifCond .eq 7, 3) := by decide +kernel
theorem dX7_takesVertex_38 : decode cX7_takesVertex 38 = .ok (.iconst 1, 1) := by decide +kernel
theorem dX7_takesVertex_39 : decode cX7_takesVertex 39 = .ok (.goto 4, 3) := by decide +kernel
theorem dX7_takesVertex_42 : decode cX7_takesVertex 42 = .ok (.iconst 0, 1) := by decide +kernel
theorem dX7_takesVertex_43 : decode cX7_takesVertex 43 = .ok (.ireturn, 1) := by decide +kernel
