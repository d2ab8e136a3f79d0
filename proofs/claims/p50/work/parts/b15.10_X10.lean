theorem dX10_init_0 : decode cX10_init 0 = .ok (.aload_n 0, 1) := by decide +kernel
theorem dX10_init_1 : decode cX10_init 1 = .ok (.invokespecial 3, 3) := by decide +kernel
theorem dX10_init_4 : decode cX10_init 4 = .ok (.aload_n 0, 1) := by decide +kernel
theorem dX10_init_5 : decode cX10_init 5 = .ok (.sipush 800, 3) := by decide +kernel
theorem dX10_init_8 : decode cX10_init 8 = .ok (.newarray .int, 2) := by decide +kernel
theorem dX10_init_10 : decode cX10_init 10 = .ok (.putfield 9, 3) := by decide +kernel
theorem dX10_init_13 : decode cX10_init 13 = .ok (.aload_n 0, 1) := by decide +kernel
theorem dX10_init_14 : decode cX10_init 14 = .ok (.iconst (-1), 1) := by decide +kernel
theorem dX10_init_15 : decode cX10_init 15 = .ok (.putfield 15, 3) := by decide +kernel
theorem dX10_init_18 : decode cX10_init 18 = .ok (.aload_n 0, 1) := by decide +kernel
theorem dX10_init_19 : decode cX10_init 19 = .ok (.iconst (-1), 1) := by decide +kernel
theorem dX10_init_20 : decode cX10_init 20 = .ok (.putfield 19, 3) := by decide +kernel
theorem dX10_init_23 : decode cX10_init 23 = .ok (.return_, 1) := by decide +kernel
set_option maxRecDepth 20000 in
theorem ggX10_append_X11_put : GoodIn wsX10_append wsX11_put := goodIn_s _ [(5, 1)] rfl (by decide +kernel)
set_option maxRecDepth 20000 in
theorem gX10_append_X11_put_n25 : GoodIn wsX10_append (wsX11_put) := ggX10_append_X11_put
theorem dX10_append_0 : decode cX10_append 0 = .ok (.bipush 24, 2) := by decide +kernel
theorem dX10_append_2 : decode cX10_append 2 = .ok (.istore_n 2, 1) := by decide +kernel
theorem dX10_append_3 : decode cX10_append 3 = .ok (.iload_n 2, 1) := by decide +kernel
theorem dX10_append_4 : decode cX10_append 4 = .ok (.ifCond .lt 37, 3) := by decide +kernel
theorem dX10_append_7 : decode cX10_append 7 = .ok (.aload_n 0, 1) := by decide +kernel
theorem dX10_append_8 : decode cX10_append 8 = .ok (.getfield 9, 3) := by decide +kernel
theorem dX10_append_11 : decode cX10_append 11 = .ok (.aload_n 0, 1) := by decide +kernel
theorem dX10_append_12 : decode cX10_append 12 = .ok (.getfield 22, 3) := by decide +kernel
theorem dX10_append_15 : decode cX10_append 15 = .ok (.iload_n 1, 1) := by decide +kernel
theorem dX10_append_16 : decode cX10_append 16 = .ok (.iload_n 2, 1) := by decide +kernel
theorem dX10_append_17 : decode cX10_append 17 = .ok (.iushr, 1) := by decide +kernel
theorem dX10_append_18 : decode cX10_append 18 = .ok (.sipush 255, 3) := by decide +kernel
theorem dX10_append_21 : decode cX10_append 21 = .ok (.iand, 1) := by decide +kernel
theorem dX10_append_22 : decode cX10_append 22 = .ok (.invokestatic 25, 3) := by decide +kernel
theorem dX10_append_25 : decode cX10_append 25 = .ok (.aload_n 0, 1) := by decide +kernel
theorem dX10_append_26 : decode cX10_append 26 = .ok (.dup, 1) := by decide +kernel
theorem dX10_append_27 : decode cX10_append 27 = .ok (.getfield 22, 3) := by decide +kernel
theorem dX10_append_30 : decode cX10_append 30 = .ok (.iconst 1, 1) := by decide +kernel
theorem dX10_append_31 : decode cX10_append 31 = .ok (.iadd, 1) := by decide +kernel
theorem dX10_append_32 : decode cX10_append 32 = .ok (.putfield 22, 3) := by decide +kernel
theorem dX10_append_35 : decode cX10_append 35 = .ok (.iinc 2 (-8), 3) := by decide +kernel
theorem dX10_append_38 : decode cX10_append 38 = .ok (.goto (-35), 3) := by decide +kernel
theorem dX10_append_41 : decode cX10_append 41 = .ok (.return_, 1) := by decide +kernel
theorem dX10_begin_0 : decode cX10_begin 0 = .ok (.aload_n 0, 1) := by decide +kernel
theorem dX10_begin_1 : decode cX10_begin 1 = .ok (.aload_n 0, 1) := by decide +kernel
theorem dX10_begin_2 : decode cX10_begin 2 = .ok (.getfield 22, 3) := by decide +kernel
theorem dX10_begin_5 : decode cX10_begin 5 = .ok (.putfield 29, 3) := by decide +kernel
theorem dX10_begin_8 : decode cX10_begin 8 = .ok (.aload_n 0, 1) := by decide +kernel
theorem dX10_begin_9 : decode cX10_begin 9 = .ok (.iconst 0, 1) := by decide +kernel
theorem dX10_begin_10 : decode cX10_begin 10 = .ok (.putfield 22, 3) := by decide +kernel
theorem dX10_begin_13 : decode cX10_begin 13 = .ok (.aload_n 0, 1) := by decide +kernel
theorem dX10_begin_14 : decode cX10_begin 14 = .ok (.iconst 0, 1) := by decide +kernel
theorem dX10_begin_15 : decode cX10_begin 15 = .ok (.putfield 32, 3) := by decide +kernel
theorem dX10_begin_18 : decode cX10_begin 18 = .ok (.aload_n 0, 1) := by decide +kernel
theorem dX10_begin_19 : decode cX10_begin 19 = .ok (.iconst 0, 1) := by decide +kernel
theorem dX10_begin_20 : decode cX10_begin 20 = .ok (.putfield 35, 3) := by decide +kernel
theorem dX10_begin_23 : decode cX10_begin 23 = .ok (.aload_n 0, 1) := by decide +kernel
theorem dX10_begin_24 : decode cX10_begin 24 = .ok (.iconst 0, 1) := by decide +kernel
theorem dX10_begin_25 : decode cX10_begin 25 = .ok (.putfield 38, 3) := by decide +kernel
theorem dX10_begin_28 : decode cX10_begin 28 = .ok (.aload_n 0, 1) := by decide +kernel
theorem dX10_begin_29 : decode cX10_begin 29 = .ok (.iconst 0, 1) := by decide +kernel
theorem dX10_begin_30 : decode cX10_begin 30 = .ok (.putfield 41, 3) := by decide +kernel
theorem dX10_begin_33 : decode cX10_begin 33 = .ok (.aload_n 0, 1) := by decide +kernel
theorem dX10_begin_34 : decode cX10_begin 34 = .ok (.iconst 0, 1) := by decide +kernel
theorem dX10_begin_35 : decode cX10_begin 35 = .ok (.putfield 44, 3) := by decide +kernel
theorem dX10_begin_38 : decode cX10_begin 38 = .ok (.aload_n 0, 1) := by decide +kernel
theorem dX10_begin_39 : decode cX10_begin 39 = .ok (.iconst (-1), 1) := by decide +kernel
theorem dX10_begin_40 : decode cX10_begin 40 = .ok (.putfield 15, 3) := by decide +kernel
theorem dX10_begin_43 : decode cX10_begin 43 = .ok (.aload_n 0, 1) := by decide +kernel
theorem dX10_begin_44 : decode cX10_begin 44 = .ok (.iconst (-1), 1) := by decide +kernel
theorem dX10_begin_45 : decode cX10_begin 45 = .ok (.putfield 19, 3) := by decide +kernel
theorem dX10_begin_48 : decode cX10_begin 48 = .ok (.return_, 1) := by decide +kernel
set_option maxRecDepth 20000 in
theorem ggX10_advance_X11_at : GoodIn wsX10_advance wsX11_at := goodIn_s _ [(8, 1)] rfl (by decide +kernel)
set_option maxRecDepth 20000 in
theorem gX10_advance_X11_at_n47 : GoodIn wsX10_advance (wsX11_at) := ggX10_advance_X11_at
set_option maxRecDepth 20000 in
theorem ggX10_advance_X10_isBlank : GoodIn wsX10_advance wsX10_isBlank := goodIn_s _ [(12, 1)] rfl (by decide +kernel)
set_option maxRecDepth 20000 in
theorem gX10_advance_X10_isBlank : GoodIn wsX10_advance (va_wsS RX10 51 yX10_isBlank wsX10_isBlank) := goodIn_app (goodIn_of _ (by decide +kernel)) ggX10_advance_X10_isBlank
set_option maxRecDepth 20000 in
theorem ggX10_advance_X10_isLetter : GoodIn wsX10_advance wsX10_isLetter := goodIn_s _ [(15, 1)] rfl (by decide +kernel)
set_option maxRecDepth 20000 in
theorem gX10_advance_X10_isLetter : GoodIn wsX10_advance (va_wsS RX10 55 yX10_isLetter wsX10_isLetter) := goodIn_app (goodIn_of _ (by decide +kernel)) ggX10_advance_X10_isLetter
set_option maxRecDepth 20000 in
theorem ggX10_advance_X10_takeWord : GoodIn wsX10_advance wsX10_takeWord := goodIn_s _ [(19, 2), (1, 8), (13, 2), (11, 1), (15, 1), (21, 3), (35, 12)] rfl (by decide +kernel)
set_option maxRecDepth 20000 in
theorem gX10_advance_X10_takeWord : GoodIn wsX10_advance (wsV RX10 58 RX10 yX10_takeWord wsX10_takeWord) := goodIn_app (goodIn_of _ (by decide +kernel)) ggX10_advance_X10_takeWord
set_option maxRecDepth 20000 in
theorem ggX10_advance_X10_isDigit : GoodIn wsX10_advance wsX10_isDigit := goodIn_s _ [(26, 1)] rfl (by decide +kernel)
set_option maxRecDepth 20000 in
theorem gX10_advance_X10_isDigit : GoodIn wsX10_advance (va_wsS RX10 61 yX10_isDigit wsX10_isDigit) := goodIn_app (goodIn_of _ (by decide +kernel)) ggX10_advance_X10_isDigit
set_option maxRecDepth 20000 in
theorem ggX10_advance_X10_takeNumber : GoodIn wsX10_advance wsX10_takeNumber := goodIn_s _ [(30, 2), (1, 8), (24, 2), (11, 1), (26, 1), (35, 12)] rfl (by decide +kernel)
set_option maxRecDepth 20000 in
theorem gX10_advance_X10_takeNumber : GoodIn wsX10_advance (wsV RX10 64 RX10 yX10_takeNumber wsX10_takeNumber) := goodIn_app (goodIn_of _ (by decide +kernel)) ggX10_advance_X10_takeNumber
set_option maxRecDepth 20000 in
theorem ggX10_advance_X10_signKind : GoodIn wsX10_advance wsX10_signKind := goodIn_s _ [(34, 1)] rfl (by decide +kernel)
set_option maxRecDepth 20000 in
theorem gX10_advance_X10_signKind : GoodIn wsX10_advance (va_wsS RX10 67 yX10_signKind wsX10_signKind) := goodIn_app (goodIn_of _ (by decide +kernel)) ggX10_advance_X10_signKind
theorem dX10_advance_0 : decode cX10_advance 0 = .ok (.aload_n 0, 1) := by decide +kernel
theorem dX10_advance_1 : decode cX10_advance 1 = .ok (.getfield 35, 3) := by decide +kernel
theorem dX10_advance_4 : decode cX10_advance 4 = .ok (.aload_n 0, 1) := by decide +kernel
theorem dX10_advance_5 : decode cX10_advance 5 = .ok (.getfield 29, 3) := by decide +kernel
theorem dX10_advance_8 : decode cX10_advance 8 = .ok (.if_icmp .ge 33, 3) := by decide +kernel
theorem dX10_advance_11 : decode cX10_advance 11 = .ok (.aload_n 0, 1) := by decide +kernel
theorem dX10_advance_12 : decode cX10_advance 12 = .ok (.getfield 9, 3) := by decide +kernel
theorem dX10_advance_15 : decode cX10_advance 15 = .ok (.aload_n 0, 1) := by decide +kernel
theorem dX10_advance_16 : decode cX10_advance 16 = .ok (.getfield 35, 3) := by decide +kernel
theorem dX10_advance_19 : decode cX10_advance 19 = .ok (.invokestatic 47, 3) := by decide +kernel
theorem dX10_advance_22 : decode cX10_advance 22 = .ok (.invokestatic 51, 3) := by decide +kernel
theorem dX10_advance_25 : decode cX10_advance 25 = .ok (.ifCond .eq 16, 3) := by decide +kernel
theorem dX10_advance_28 : decode cX10_advance 28 = .ok (.aload_n 0, 1) := by decide +kernel
theorem dX10_advance_29 : decode cX10_advance 29 = .ok (.dup, 1) := by decide +kernel
theorem dX10_advance_30 : decode cX10_advance 30 = .ok (.getfield 35, 3) := by decide +kernel
theorem dX10_advance_33 : decode cX10_advance 33 = .ok (.iconst 1, 1) := by decide +kernel
theorem dX10_advance_34 : decode cX10_advance 34 = .ok (.iadd, 1) := by decide +kernel
theorem dX10_advance_35 : decode cX10_advance 35 = .ok (.putfield 35, 3) := by decide +kernel
theorem dX10_advance_38 : decode cX10_advance 38 = .ok (.goto (-38), 3) := by decide +kernel
theorem dX10_advance_41 : decode cX10_advance 41 = .ok (.aload_n 0, 1) := by decide +kernel
theorem dX10_advance_42 : decode cX10_advance 42 = .ok (.aload_n 0, 1) := by decide +kernel
theorem dX10_advance_43 : decode cX10_advance 43 = .ok (.getfield 35, 3) := by decide +kernel
theorem dX10_advance_46 : decode cX10_advance 46 = .ok (.putfield 32, 3) := by decide +kernel
theorem dX10_advance_49 : decode cX10_advance 49 = .ok (.aload_n 0, 1) := by decide +kernel
theorem dX10_advance_50 : decode cX10_advance 50 = .ok (.getfield 35, 3) := by decide +kernel
theorem dX10_advance_53 : decode cX10_advance 53 = .ok (.aload_n 0, 1) := by decide +kernel
theorem dX10_advance_54 : decode cX10_advance 54 = .ok (.getfield 29, 3) := by decide +kernel
theorem dX10_advance_57 : decode cX10_advance 57 = .ok (.if_icmp .lt 9, 3) := by decide +kernel
theorem dX10_advance_60 : decode cX10_advance 60 = .ok (.aload_n 0, 1) := by decide +kernel
theorem dX10_advance_61 : decode cX10_advance 61 = .ok (.iconst 0, 1) := by decide +kernel
theorem dX10_advance_62 : decode cX10_advance 62 = .ok (.putfield 38, 3) := by decide +kernel
theorem dX10_advance_65 : decode cX10_advance 65 = .ok (.return_, 1) := by decide +kernel
theorem dX10_advance_66 : decode cX10_advance 66 = .ok (.aload_n 0, 1) := by decide +kernel
theorem dX10_advance_67 : decode cX10_advance 67 = .ok (.getfield 9, 3) := by decide +kernel
theorem dX10_advance_70 : decode cX10_advance 70 = .ok (.aload_n 0, 1) := by decide +kernel
theorem dX10_advance_71 : decode cX10_advance 71 = .ok (.getfield 35, 3) := by decide +kernel
theorem dX10_advance_74 : decode cX10_advance 74 = .ok (.invokestatic 47, 3) := by decide +kernel
theorem dX10_advance_77 : decode cX10_advance 77 = .ok (.istore_n 1, 1) := by decide +kernel
theorem dX10_advance_78 : decode cX10_advance 78 = .ok (.iload_n 1, 1) := by decide +kernel
theorem dX10_advance_79 : decode cX10_advance 79 = .ok (.invokestatic 55, 3) := by decide +kernel
theorem dX10_advance_82 : decode cX10_advance 82 = .ok (.ifCond .eq 10, 3) := by decide +kernel
theorem dX10_advance_85 : decode cX10_advance 85 = .ok (.aload_n 0, 1) := by decide +kernel
theorem dX10_advance_86 : decode cX10_advance 86 = .ok (.invokevirtual 58, 3) := by decide +kernel
theorem dX10_advance_89 : decode cX10_advance 89 = .ok (.goto 35, 3) := by decide +kernel
theorem dX10_advance_92 : decode cX10_advance 92 = .ok (.iload_n 1, 1) := by decide +kernel
theorem dX10_advance_93 : decode cX10_advance 93 = .ok (.invokestatic 61, 3) := by decide +kernel
theorem dX10_advance_96 : decode cX10_advance 96 = .ok (.ifCond .eq 10, 3) := by decide +kernel
theorem dX10_advance_99 : decode cX10_advance 99 = .ok (.aload_n 0, 1) := by decide +kernel
theorem dX10_advance_100 : decode cX10_advance 100 = .ok (.invokevirtual 64, 3) := by decide +kernel
theorem dX10_advance_103 : decode cX10_advance 103 = .ok (.goto 21, 3) := by decide +kernel
theorem dX10_advance_106 : decode cX10_advance 106 = .ok (.aload_n 0, 1) := by decide +kernel
theorem dX10_advance_107 : decode cX10_advance 107 = .ok (.iload_n 1, 1) := by decide +kernel
theorem dX10_advance_108 : decode cX10_advance 108 = .ok (.invokestatic 67, 3) := by decide +kernel
theorem dX10_advance_111 : decode cX10_advance 111 = .ok (.putfield 38, 3) := by decide +kernel
theorem dX10_advance_114 : decode cX10_advance 114 = .ok (.aload_n 0, 1) := by decide +kernel
theorem dX10_advance_115 : decode cX10_advance 115 = .ok (.dup, 1) := by decide +kernel
theorem dX10_advance_116 : decode cX10_advance 116 = .ok (.getfield 35, 3) := by decide +kernel
theorem dX10_advance_119 : decode cX10_advance 119 = .ok (.iconst 1, 1) := by decide +kernel
theorem dX10_advance_120 : decode cX10_advance 120 = .ok (.iadd, 1) := by decide +kernel
theorem dX10_advance_121 : decode cX10_advance 121 = .ok (.putfield 35, 3) := by decide +kernel
theorem dX10_advance_124 : decode cX10_advance 124 = .ok (.return_, 1) := by decide +kernel
set_option maxRecDepth 20000 in
theorem ggX10_takeWord_X11_at : GoodIn wsX10_takeWord wsX11_at := goodIn_s _ [(9, 1)] rfl (by decide +kernel)
set_option maxRecDepth 20000 in
theorem gX10_takeWord_X11_at_n47 : GoodIn wsX10_takeWord (wsX11_at) := ggX10_takeWord_X11_at
set_option maxRecDepth 20000 in
theorem ggX10_takeWord_X10_isLetter : GoodIn wsX10_takeWord wsX10_isLetter := goodIn_s _ [(13, 1)] rfl (by decide +kernel)
set_option maxRecDepth 20000 in
theorem gX10_takeWord_X10_isLetter : GoodIn wsX10_takeWord (va_wsS RX10 55 yX10_isLetter wsX10_isLetter) := goodIn_app (goodIn_of _ (by decide +kernel)) ggX10_takeWord_X10_isLetter
set_option maxRecDepth 20000 in
theorem ggX10_takeWord_X10_withLetter : GoodIn wsX10_takeWord wsX10_withLetter := goodIn_s _ [(16, 1)] rfl (by decide +kernel)
set_option maxRecDepth 20000 in
theorem gX10_takeWord_X10_withLetter : GoodIn wsX10_takeWord (va_wsS RX10 75 yX10_withLetter wsX10_withLetter) := goodIn_app (goodIn_of _ (by decide +kernel)) ggX10_takeWord_X10_withLetter
theorem dX10_takeWord_0 : decode cX10_takeWord 0 = .ok (.aload_n 0, 1) := by decide +kernel
theorem dX10_takeWord_1 : decode cX10_takeWord 1 = .ok (.lconst 0, 1) := by decide +kernel
theorem dX10_takeWord_2 : decode cX10_takeWord 2 = .ok (.putfield 71, 3) := by decide +kernel
theorem dX10_takeWord_5 : decode cX10_takeWord 5 = .ok (.aload_n 0, 1) := by decide +kernel
theorem dX10_takeWord_6 : decode cX10_takeWord 6 = .ok (.getfield 35, 3) := by decide +kernel
theorem dX10_takeWord_9 : decode cX10_takeWord 9 = .ok (.aload_n 0, 1) := by decide +kernel
theorem dX10_takeWord_10 : decode cX10_takeWord 10 = .ok (.getfield 29, 3) := by decide +kernel
theorem dX10_takeWord_13 : decode cX10_takeWord 13 = .ok (.if_icmp .ge 55, 3) := by decide +kernel
theorem dX10_takeWord_16 : decode cX10_takeWord 16 = .ok (.aload_n 0, 1) := by decide +kernel
theorem dX10_takeWord_17 : decode cX10_takeWord 17 = .ok (.getfield 9, 3) := by decide +kernel
theorem dX10_takeWord_20 : decode cX10_takeWord 20 = .ok (.aload_n 0, 1) := by decide +kernel
theorem dX10_takeWord_21 : decode cX10_takeWord 21 = .ok (.getfield 35, 3) := by decide +kernel
theorem dX10_takeWord_24 : decode cX10_takeWord 24 = .ok (.invokestatic 47, 3) := by decide +kernel
theorem dX10_takeWord_27 : decode cX10_takeWord 27 = .ok (.invokestatic 55, 3) := by decide +kernel
theorem dX10_takeWord_30 : decode cX10_takeWord 30 = .ok (.ifCond .eq 38, 3) := by decide +kernel
theorem dX10_takeWord_33 : decode cX10_takeWord 33 = .ok (.aload_n 0, 1) := by decide +kernel
theorem dX10_takeWord_34 : decode cX10_takeWord 34 = .ok (.aload_n 0, 1) := by decide +kernel
theorem dX10_takeWord_35 : decode cX10_takeWord 35 = .ok (.getfield 71, 3) := by decide +kernel
theorem dX10_takeWord_38 : decode cX10_takeWord 38 = .ok (.aload_n 0, 1) := by decide +kernel
theorem dX10_takeWord_39 : decode cX10_takeWord 39 = .ok (.getfield 9, 3) := by decide +kernel
theorem dX10_takeWord_42 : decode cX10_takeWord 42 = .ok (.aload_n 0, 1) := by decide +kernel
theorem dX10_takeWord_43 : decode cX10_takeWord 43 = .ok (.getfield 35, 3) := by decide +kernel
theorem dX10_takeWord_46 : decode cX10_takeWord 46 = .ok (.invokestatic 47, 3) := by decide +kernel
theorem dX10_takeWord_49 : decode cX10_takeWord 49 = .ok (.invokestatic 75, 3) := by decide +kernel
theorem dX10_takeWord_52 : decode cX10_takeWord 52 = .ok (.putfield 71, 3) := by decide +kernel
theorem dX10_takeWord_55 : decode cX10_takeWord 55 = .ok (.aload_n 0, 1) := by decide +kernel
theorem dX10_takeWord_56 : decode cX10_takeWord 56 = .ok (.dup, 1) := by decide +kernel
theorem dX10_takeWord_57 : decode cX10_takeWord 57 = .ok (.getfield 35, 3) := by decide +kernel
theorem dX10_takeWord_60 : decode cX10_takeWord 60 = .ok (.iconst 1, 1) := by decide +kernel
theorem dX10_takeWord_61 : decode cX10_takeWord 61 = .ok (.iadd, 1) := by decide +kernel
theorem dX10_takeWord_62 : decode cX10_takeWord 62 = .ok (.putfield 35, 3) := by decide +kernel
theorem dX10_takeWord_65 : decode cX10_takeWord 65 = .ok (.goto (-60), 3) := by decide +kernel
theorem dX10_takeWord_68 : decode cX10_takeWord 68 = .ok (.aload_n 0, 1) := by decide +kernel
theorem dX10_takeWord_69 : decode cX10_takeWord 69 = .ok (.aload_n 0, 1) := by decide +kernel
theorem dX10_takeWord_70 : decode cX10_takeWord 70 = .ok (.getfield 35, 3) := by decide +kernel
theorem dX10_takeWord_73 : decode cX10_takeWord 73 = .ok (.aload_n 0, 1) := by decide +kernel
theorem dX10_takeWord_74 : decode cX10_takeWord 74 = .ok (.getfield 32, 3) := by decide +kernel
theorem dX10_takeWord_77 : decode cX10_takeWord 77 = .ok (.isub, 1) := by decide +kernel
theorem dX10_takeWord_78 : decode cX10_takeWord 78 = .ok (.bipush 8, 2) := by decide +kernel
theorem dX10_takeWord_80 : decode cX10_takeWord 80 = .ok (.if_icmp .gt 7, 3) := by decide +kernel
theorem dX10_takeWord_83 : decode cX10_takeWord 83 = .ok (.iconst 1, 1) := by decide +kernel
theorem dX10_takeWord_84 : decode cX10_takeWord 84 = .ok (.goto 5, 3) := by decide +kernel
theorem dX10_takeWord_87 : decode cX10_takeWord 87 = .ok (.bipush 6, 2) := by decide +kernel
theorem dX10_takeWord_89 : decode cX10_takeWord 89 = .ok (.putfield 38, 3) := by decide +kernel
theorem dX10_takeWord_92 : decode cX10_takeWord 92 = .ok (.return_, 1) := by decide +kernel
set_option maxRecDepth 20000 in
theorem ggX10_takeNumber_X11_at : GoodIn wsX10_takeNumber wsX11_at := goodIn_s _ [(9, 1)] rfl (by decide +kernel)
set_option maxRecDepth 20000 in
theorem gX10_takeNumber_X11_at_n47 : GoodIn wsX10_takeNumber (wsX11_at) := ggX10_takeNumber_X11_at
set_option maxRecDepth 20000 in
theorem ggX10_takeNumber_X10_isDigit : GoodIn wsX10_takeNumber wsX10_isDigit := goodIn_s _ [(13, 1)] rfl (by decide +kernel)
set_option maxRecDepth 20000 in
theorem gX10_takeNumber_X10_isDigit : GoodIn wsX10_takeNumber (va_wsS RX10 61 yX10_isDigit wsX10_isDigit) := goodIn_app (goodIn_of _ (by decide +kernel)) ggX10_takeNumber_X10_isDigit
theorem dX10_takeNumber_0 : decode cX10_takeNumber 0 = .ok (.aload_n 0, 1) := by decide +kernel
theorem dX10_takeNumber_1 : decode cX10_takeNumber 1 = .ok (.iconst 0, 1) := by decide +kernel
theorem dX10_takeNumber_2 : decode cX10_takeNumber 2 = .ok (.putfield 79, 3) := by decide +kernel
theorem dX10_takeNumber_5 : decode cX10_takeNumber 5 = .ok (.aload_n 0, 1) := by decide +kernel
theorem dX10_takeNumber_6 : decode cX10_takeNumber 6 = .ok (.getfield 35, 3) := by decide +kernel
theorem dX10_takeNumber_9 : decode cX10_takeNumber 9 = .ok (.aload_n 0, 1) := by decide +kernel
theorem dX10_takeNumber_10 : decode cX10_takeNumber 10 = .ok (.getfield 29, 3) := by decide +kernel
theorem dX10_takeNumber_13 : decode cX10_takeNumber 13 = .ok (.if_icmp .ge 59, 3) := by decide +kernel
theorem dX10_takeNumber_16 : decode cX10_takeNumber 16 = .ok (.aload_n 0, 1) := by decide +kernel
theorem dX10_takeNumber_17 : decode cX10_takeNumber 17 = .ok (.getfield 9, 3) := by decide +kernel
theorem dX10_takeNumber_20 : decode cX10_takeNumber 20 = .ok (.aload_n 0, 1) := by decide +kernel
theorem dX10_takeNumber_21 : decode cX10_takeNumber 21 = .ok (.getfield 35, 3) := by decide +kernel
theorem dX10_takeNumber_24 : decode cX10_takeNumber 24 = .ok (.invokestatic 47, 3) := by decide +kernel
theorem dX10_takeNumber_27 : decode cX10_takeNumber 27 = .ok (.invokestatic 61, 3) := by decide +kernel
theorem dX10_takeNumber_30 : decode cX10_takeNumber 30 = .ok (.ifCond .eq 42, 3) := by decide +kernel
theorem dX10_takeNumber_33 : decode cX10_takeNumber 33 = .ok (.aload_n 0, 1) := by decide +kernel
theorem dX10_takeNumber_34 : decode cX10_takeNumber 34 = .ok (.aload_n 0, 1) := by decide +kernel
theorem dX10_takeNumber_35 : decode cX10_takeNumber 35 = .ok (.getfield 79, 3) := by decide +kernel
theorem dX10_takeNumber_38 : decode cX10_takeNumber 38 = .ok (.bipush 10, 2) := by decide +kernel
theorem dX10_takeNumber_40 : decode cX10_takeNumber 40 = .ok (.imul, 1) := by decide +kernel
theorem dX10_takeNumber_41 : decode cX10_takeNumber 41 = .ok (.aload_n 0, 1) := by decide +kernel
theorem dX10_takeNumber_42 : decode cX10_takeNumber 42 = .ok (.getfield 9, 3) := by decide +kernel
theorem dX10_takeNumber_45 : decode cX10_takeNumber 45 = .ok (.aload_n 0, 1) := by decide +kernel
theorem dX10_takeNumber_46 : decode cX10_takeNumber 46 = .ok (.getfield 35, 3) := by decide +kernel
theorem dX10_takeNumber_49 : decode cX10_takeNumber 49 = .ok (.invokestatic 47, 3) := by decide +kernel
theorem dX10_takeNumber_52 : decode cX10_takeNumber 52 = .ok (.iadd, 1) := by decide +kernel
theorem dX10_takeNumber_53 : decode cX10_takeNumber 53 = .ok (.bipush 48, 2) := by decide +kernel
theorem dX10_takeNumber_55 : decode cX10_takeNumber 55 = .ok (.isub, 1) := by decide +kernel
theorem dX10_takeNumber_56 : decode cX10_takeNumber 56 = .ok (.putfield 79, 3) := by decide +kernel
theorem dX10_takeNumber_59 : decode cX10_takeNumber 59 = .ok (.aload_n 0, 1) := by decide +kernel
theorem dX10_takeNumber_60 : decode cX10_takeNumber 60 = .ok (.dup, 1) := by decide +kernel
theorem dX10_takeNumber_61 : decode cX10_takeNumber 61 = .ok (.getfield 35, 3) := by decide +kernel
theorem dX10_takeNumber_64 : decode cX10_takeNumber 64 = .ok (.iconst 1, 1) := by decide +kernel
theorem dX10_takeNumber_65 : decode cX10_takeNumber 65 = .ok (.iadd, 1) := by decide +kernel
theorem dX10_takeNumber_66 : decode cX10_takeNumber 66 = .ok (.putfield 35, 3) := by decide +kernel
theorem dX10_takeNumber_69 : decode cX10_takeNumber 69 = .ok (.goto (-64), 3) := by decide +kernel
theorem dX10_takeNumber_72 : decode cX10_takeNumber 72 = .ok (.aload_n 0, 1) := by decide +kernel
theorem dX10_takeNumber_73 : decode cX10_takeNumber 73 = .ok (.aload_n 0, 1) := by decide +kernel
theorem dX10_takeNumber_74 : decode cX10_takeNumber 74 = .ok (.getfield 35, 3) := by decide +kernel
theorem dX10_takeNumber_77 : decode cX10_takeNumber 77 = .ok (.aload_n 0, 1) := by decide +kernel
theorem dX10_takeNumber_78 : decode cX10_takeNumber 78 = .ok (.getfield 32, 3) := by decide +kernel
theorem dX10_takeNumber_81 : decode cX10_takeNumber 81 = .ok (.isub, 1) := by decide +kernel
theorem dX10_takeNumber_82 : decode cX10_takeNumber 82 = .ok (.iconst 3, 1) := by decide +kernel
theorem dX10_takeNumber_83 : decode cX10_takeNumber 83 = .ok (.if_icmp .gt 7, 3) := by decide +kernel
theorem dX10_takeNumber_86 : decode cX10_takeNumber 86 = .ok (.iconst 2, 1) := by decide +kernel
theorem dX10_takeNumber_87 : decode cX10_takeNumber 87 = .ok (.goto 5, 3) := by decide +kernel
theorem dX10_takeNumber_90 : decode cX10_takeNumber 90 = .ok (.bipush 6, 2) := by decide +kernel
theorem dX10_takeNumber_92 : decode cX10_takeNumber 92 = .ok (.putfield 38, 3) := by decide +kernel
theorem dX10_takeNumber_95 : decode cX10_takeNumber 95 = .ok (.return_, 1) := by decide +kernel
theorem dX10_signKind_0 : decode cX10_signKind 0 = .ok (.iload_n 0, 1) := by decide +kernel
theorem dX10_signKind_1 : decode cX10_signKind 1 = .ok (.lookupswitch 41 #[(40, 37), (41, 39), (59, 35)], 35) := by decide +kernel
theorem dX10_signKind_36 : decode cX10_signKind 36 = .ok (.iconst 3, 1) := by decide +kernel
theorem dX10_signKind_37 : decode cX10_signKind 37 = .ok (.ireturn, 1) := by decide +kernel
theorem dX10_signKind_38 : decode cX10_signKind 38 = .ok (.iconst 4, 1) := by decide +kernel
theorem dX10_signKind_39 : decode cX10_signKind 39 = .ok (.ireturn, 1) := by decide +kernel
theorem dX10_signKind_40 : decode cX10_signKind 40 = .ok (.iconst 5, 1) := by decide +kernel
theorem dX10_signKind_41 : decode cX10_signKind 41 = .ok (.ireturn, 1) := by decide +kernel
theorem dX10_signKind_42 : decode cX10_signKind 42 = .ok (.bipush 6, 2) := by decide +kernel
theorem dX10_signKind_44 : decode cX10_signKind 44 = .ok (.ireturn, 1) := by decide +kernel
theorem dX10_isBlank_0 : decode cX10_isBlank 0 = .ok (.iload_n 0, 1) := by decide +kernel
theorem dX10_isBlank_1 : decode cX10_isBlank 1 = .ok (.bipush 32, 2) := by decide +kernel
theorem dX10_isBlank_3 : decode cX10_isBlank 3 = .ok (.if_icmp .eq 9, 3) := by decide +kernel
theorem dX10_isBlank_6 : decode cX10_isBlank 6 = .ok (.iload_n 0, 1) := by decide +kernel
theorem dX10_isBlank_7 : decode cX10_isBlank 7 = .ok (.bipush 10, 2) := by decide +kernel
theorem dX10_isBlank_9 : decode cX10_isBlank 9 = .ok (.if_icmp .ne 7, 3) := by decide +kernel
theorem dX10_isBlank_12 : decode cX10_isBlank 12 = .ok (.iconst 1, 1) := by decide +kernel
theorem dX10_isBlank_13 : decode cX10_isBlank 13 = .ok (.goto 4, 3) := by decide +kernel
theorem dX10_isBlank_16 : decode cX10_isBlank 16 = .ok (.iconst 0, 1) := by decide +kernel
theorem dX10_isBlank_17 : decode cX10_isBlank 17 = .ok (.ireturn, 1) := by decide +kernel
theorem dX10_isLetter_0 : decode cX10_isLetter 0 = .ok (.iload_n 0, 1) := by decide +kernel
theorem dX10_isLetter_1 : decode cX10_isLetter 1 = .ok (.bipush 97, 2) := by decide +kernel
theorem dX10_isLetter_3 : decode cX10_isLetter 3 = .ok (.if_icmp .lt 13, 3) := by decide +kernel
theorem dX10_isLetter_6 : decode cX10_isLetter 6 = .ok (.iload_n 0, 1) := by decide +kernel
theorem dX10_isLetter_7 : decode cX10_isLetter 7 = .ok (.bipush 122, 2) := by decide +kernel
theorem dX10_isLetter_9 : decode cX10_isLetter 9 = .ok (.if_icmp .gt 7, 3) := by decide +kernel
theorem dX10_isLetter_12 : decode cX10_isLetter 12 = .ok (.iconst 1, 1) := by decide +kernel
theorem dX10_isLetter_13 : decode cX10_isLetter 13 = .ok (.goto 4, 3) := by decide +kernel
theorem dX10_isLetter_16 : decode cX10_isLetter 16 = .ok (.iconst 0, 1) := by decide +kernel
theorem dX10_isLetter_17 : decode cX10_isLetter 17 = .ok (.ireturn, 1) := by decide +kernel
theorem dX10_isDigit_0 : decode cX10_isDigit 0 = .ok (.iload_n 0, 1) := by decide +kernel
theorem dX10_isDigit_1 : decode cX10_isDigit 1 = .ok (.bipush 48, 2) := by decide +kernel
theorem dX10_isDigit_3 : decode cX10_isDigit 3 = .ok (.if_icmp .lt 13, 3) := by decide +kernel
theorem dX10_isDigit_6 : decode cX10_isDigit 6 = .ok (.iload_n 0, 1) := by decide +kernel
theorem dX10_isDigit_7 : decode cX10_isDigit 7 = .ok (.bipush 57, 2) := by decide +kernel
theorem dX10_isDigit_9 : decode cX10_isDigit 9 = .ok (.if_icmp .gt 7, 3) := by decide +kernel
theorem dX10_isDigit_12 : decode cX10_isDigit 12 = .ok (.iconst 1, 1) := by decide +kernel
theorem dX10_isDigit_13 : decode cX10_isDigit 13 = .ok (.goto 4, 3) := by decide +kernel
theorem dX10_isDigit_16 : decode cX10_isDigit 16 = .ok (.iconst 0, 1) := by decide +kernel
theorem dX10_isDigit_17 : decode cX10_isDigit 17 = .ok (.ireturn, 1) := by decide +kernel
theorem dX10_withLetter_0 : decode cX10_withLetter 0 = .ok (.lload_n 0, 1) := by decide +kernel
theorem dX10_withLetter_1 : decode cX10_withLetter 1 = .ok (.iconst 5, 1) := by decide +kernel
theorem dX10_withLetter_2 : decode cX10_withLetter 2 = .ok (.lshl, 1) := by decide +kernel
theorem dX10_withLetter_3 : decode cX10_withLetter 3 = .ok (.iload_n 2, 1) := by decide +kernel
theorem dX10_withLetter_4 : decode cX10_withLetter 4 = .ok (.bipush 96, 2) := by decide +kernel
theorem dX10_withLetter_6 : decode cX10_withLetter 6 = .ok (.isub, 1) := by decide +kernel
theorem dX10_withLetter_7 : decode cX10_withLetter 7 = .ok (.i2l, 1) := by decide +kernel
theorem dX10_withLetter_8 : decode cX10_withLetter 8 = .ok (.lor, 1) := by decide +kernel
theorem dX10_withLetter_9 : decode cX10_withLetter 9 = .ok (.lreturn, 1) := by decide +kernel
set_option maxRecDepth 20000 in
theorem ggX10_isWord_J0_length_8abf5 : GoodIn wsX10_isWord wsJ0_length_8abf5 := goodIn_s _ [(7, 5), (6, 1), (12, 3), (68, 4)] rfl (by decide +kernel)
set_option maxRecDepth 20000 in
theorem gX10_isWord_J0_length_8abf5 : GoodIn wsX10_isWord (wsV RX10 84 RJ0 yJ0_length_8abf5 wsJ0_length_8abf5) := goodIn_app (goodIn_of _ (by decide +kernel)) ggX10_isWord_J0_length_8abf5
set_option maxRecDepth 20000 in
theorem ggX10_isWord_J0_charAt_5068e : GoodIn wsX10_isWord wsJ0_charAt_5068e := goodIn_s _ [(18, 1), (8, 1), (19, 3), (6, 1), (22, 1), (13, 2), (23, 29), (68, 4)] rfl (by decide +kernel)
set_option maxRecDepth 20000 in
theorem gX10_isWord_J0_charAt_5068e : GoodIn wsX10_isWord (wsV RX10 89 RJ0 yJ0_charAt_5068e wsJ0_charAt_5068e) := goodIn_app (goodIn_of _ (by decide +kernel)) ggX10_isWord_J0_charAt_5068e
set_option maxRecDepth 20000 in
theorem ggX10_isWord_X10_withLetter : GoodIn wsX10_isWord wsX10_withLetter := goodIn_s _ [(55, 1)] rfl (by decide +kernel)
set_option maxRecDepth 20000 in
theorem gX10_isWord_X10_withLetter : GoodIn wsX10_isWord (va_wsS RX10 75 yX10_withLetter wsX10_withLetter) := goodIn_app (goodIn_of _ (by decide +kernel)) ggX10_isWord_X10_withLetter
theorem dX10_isWord_0 : decode cX10_isWord 0 = .ok (.lconst 0, 1) := by decide +kernel
theorem dX10_isWord_1 : decode cX10_isWord 1 = .ok (.lstore_n 2, 1) := by decide +kernel
theorem dX10_isWord_2 : decode cX10_isWord 2 = .ok (.iconst 0, 1) := by decide +kernel
theorem dX10_isWord_3 : decode cX10_isWord 3 = .ok (.istore 4, 2) := by decide +kernel
theorem dX10_isWord_5 : decode cX10_isWord 5 = .ok (.iload 4, 2) := by decide +kernel
theorem dX10_isWord_7 : decode cX10_isWord 7 = .ok (.aload_n 1, 1) := by decide +kernel
theorem dX10_isWord_8 : decode cX10_isWord 8 = .ok (.invokevirtual 84, 3) := by decide +kernel
theorem dX10_isWord_11 : decode cX10_isWord 11 = .ok (.if_icmp .ge 20, 3) := by decide +kernel
theorem dX10_isWord_14 : decode cX10_isWord 14 = .ok (.lload_n 2, 1) := by decide +kernel
theorem dX10_isWord_15 : decode cX10_isWord 15 = .ok (.aload_n 1, 1) := by decide +kernel
theorem dX10_isWord_16 : decode cX10_isWord 16 = .ok (.iload 4, 2) := by decide +kernel
theorem dX10_isWord_18 : decode cX10_isWord 18 = .ok (.invokevirtual 89, 3) := by decide +kernel
theorem dX10_isWord_21 : decode cX10_isWord 21 = .ok (.invokestatic 75, 3) := by decide +kernel
theorem dX10_isWord_24 : decode cX10_isWord 24 = .ok (.lstore_n 2, 1) := by decide +kernel
theorem dX10_isWord_25 : decode cX10_isWord 25 = .ok (.iinc 4 1, 3) := by decide +kernel
theorem dX10_isWord_28 : decode cX10_isWord 28 = .ok (.goto (-23), 3) := by decide +kernel
theorem dX10_isWord_31 : decode cX10_isWord 31 = .ok (.aload_n 0, 1) := by decide +kernel
theorem dX10_isWord_32 : decode cX10_isWord 32 = .ok (.getfield 38, 3) := by decide +kernel
theorem dX10_isWord_35 : decode cX10_isWord 35 = .ok (.iconst 1, 1) := by decide +kernel
theorem dX10_isWord_36 : decode cX10_isWord 36 = .ok (.if_icmp .ne 16, 3) := by decide +kernel
theorem dX10_isWord_39 : decode cX10_isWord 39 = .ok (.aload_n 0, 1) := by decide +kernel
theorem dX10_isWord_40 : decode cX10_isWord 40 = .ok (.getfield 71, 3) := by decide +kernel
theorem dX10_isWord_43 : decode cX10_isWord 43 = .ok (.lload_n 2, 1) := by decide +kernel
theorem dX10_isWord_44 : decode cX10_isWord 44 = .ok (.lcmp, 1) := by decide +kernel
theorem dX10_isWord_45 : decode cX10_isWord 45 = .ok (.ifCond .ne 7, 3) := by decide +kernel
theorem dX10_isWord_48 : decode cX10_isWord 48 = .ok (.iconst 1, 1) := by decide +kernel
theorem dX10_isWord_49 : decode cX10_isWord 49 = .ok (.goto 4, 3) := by decide +kernel
theorem dX10_isWord_52 : decode cX10_isWord 52 = .ok (.iconst 0, 1) := by decide +kernel
theorem dX10_isWord_53 : decode cX10_isWord 53 = .ok (.ireturn, 1) := by decide +kernel
theorem dX10_fail_0 : decode cX10_fail 0 = .ok (.aload_n 0, 1) := by decide +kernel
theorem dX10_fail_1 : decode cX10_fail 1 = .ok (.iload_n 1, 1) := by decide +kernel
theorem dX10_fail_2 : decode cX10_fail 2 = .ok (.putfield 44, 3) := by decide +kernel
theorem dX10_fail_5 : decode cX10_fail 5 = .ok (.aload_n 0, 1) := by decide +kernel
theorem dX10_fail_6 : decode cX10_fail 6 = .ok (.aload_n 0, 1) := by decide +kernel
theorem dX10_fail_7 : decode cX10_fail 7 = .ok (.getfield 32, 3) := by decide +kernel
theorem dX10_fail_10 : decode cX10_fail 10 = .ok (.putfield 15, 3) := by decide +kernel
theorem dX10_fail_13 : decode cX10_fail 13 = .ok (.aload_n 0, 1) := by decide +kernel
theorem dX10_fail_14 : decode cX10_fail 14 = .ok (.aload_n 0, 1) := by decide +kernel
theorem dX10_fail_15 : decode cX10_fail 15 = .ok (.getfield 41, 3) := by decide +kernel
theorem dX10_fail_18 : decode cX10_fail 18 = .ok (.putfield 19, 3) := by decide +kernel
theorem dX10_fail_21 : decode cX10_fail 21 = .ok (.iconst 0, 1) := by decide +kernel
theorem dX10_fail_22 : decode cX10_fail 22 = .ok (.ireturn, 1) := by decide +kernel
set_option maxRecDepth 20000 in
theorem ggX10_takes_X10_advance : GoodIn wsX10_takes wsX10_advance := goodIn_s _ [(6, 5), (1, 1), (11, 5), (5, 1), (16, 23), (47, 12)] rfl (by decide +kernel)
set_option maxRecDepth 20000 in
theorem gX10_takes_X10_advance : GoodIn wsX10_takes (wsV RX10 93 RX10 yX10_advance wsX10_advance) := goodIn_app (goodIn_of _ (by decide +kernel)) ggX10_takes_X10_advance
set_option maxRecDepth 20000 in
theorem ggX10_takes_X10_fail : GoodIn wsX10_takes wsX10_fail := goodIn_s _ [(42, 2), (10, 1), (44, 15)] rfl (by decide +kernel)
set_option maxRecDepth 20000 in
theorem gX10_takes_X10_fail : GoodIn wsX10_takes (wsV RX10 96 RX10 yX10_fail wsX10_fail) := goodIn_app (goodIn_of _ (by decide +kernel)) ggX10_takes_X10_fail
theorem dX10_takes_0 : decode cX10_takes 0 = .ok (.aload_n 0, 1) := by decide +kernel
theorem dX10_takes_1 : decode cX10_takes 1 = .ok (.invokevirtual 93, 3) := by decide +kernel
theorem dX10_takes_4 : decode cX10_takes 4 = .ok (.aload_n 0, 1) := by decide +kernel
theorem dX10_takes_5 : decode cX10_takes 5 = .ok (.getfield 38, 3) := by decide +kernel
theorem dX10_takes_8 : decode cX10_takes 8 = .ok (.iload_n 1, 1) := by decide +kernel
theorem dX10_takes_9 : decode cX10_takes 9 = .ok (.if_icmp .eq 11, 3) := by decide +kernel
theorem dX10_takes_12 : decode cX10_takes 12 = .ok (.aload_n 0, 1) := by decide +kernel
theorem dX10_takes_13 : decode cX10_takes 13 = .ok (.iconst 1, 1) := by decide +kernel
theorem dX10_takes_14 : decode cX10_takes 14 = .ok (.invokevirtual 96, 3) := by decide +kernel
theorem dX10_takes_17 : decode cX10_takes 17 = .ok (.ifCond .eq 7, 3) := by decide +kernel
theorem dX10_takes_20 : decode cX10_takes 20 = .ok (.iconst 1, 1) := by decide +kernel
theorem dX10_takes_21 : decode cX10_takes 21 = .ok (.goto 4, 3) := by decide +kernel
theorem dX10_takes_24 : decode cX10_takes 24 = .ok (.iconst 0, 1) := by decide +kernel
theorem dX10_takes_25 : decode cX10_takes 25 = .ok (.ireturn, 1) := by decide +kernel
set_option maxRecDepth 20000 in
theorem ggX10_takesNumber_X10_advance : GoodIn wsX10_takesNumber wsX10_advance := goodIn_s _ [(7, 5), (1, 1), (12, 5), (6, 1), (17, 19), (2, 1), (36, 3), (47, 12)] rfl (by decide +kernel)
set_option maxRecDepth 20000 in
theorem gX10_takesNumber_X10_advance : GoodIn wsX10_takesNumber (wsV RX10 93 RX10 yX10_advance wsX10_advance) := goodIn_app (goodIn_of _ (by decide +kernel)) ggX10_takesNumber_X10_advance
set_option maxRecDepth 20000 in
theorem ggX10_takesNumber_X10_fail : GoodIn wsX10_takesNumber wsX10_fail := goodIn_s _ [(42, 2), (11, 1), (44, 15)] rfl (by decide +kernel)
set_option maxRecDepth 20000 in
theorem gX10_takesNumber_X10_fail : GoodIn wsX10_takesNumber (wsV RX10 96 RX10 yX10_fail wsX10_fail) := goodIn_app (goodIn_of _ (by decide +kernel)) ggX10_takesNumber_X10_fail
theorem dX10_takesNumber_0 : decode cX10_takesNumber 0 = .ok (.aload_n 0, 1) := by decide +kernel
theorem dX10_takesNumber_1 : decode cX10_takesNumber 1 = .ok (.invokevirtual 93, 3) := by decide +kernel
theorem dX10_takesNumber_4 : decode cX10_takesNumber 4 = .ok (.aload_n 0, 1) := by decide +kernel
theorem dX10_takesNumber_5 : decode cX10_takesNumber 5 = .ok (.getfield 38, 3) := by decide +kernel
theorem dX10_takesNumber_8 : decode cX10_takesNumber 8 = .ok (.iconst 2, 1) := by decide +kernel
theorem dX10_takesNumber_9 : decode cX10_takesNumber 9 = .ok (.if_icmp .eq 9, 3) := by decide +kernel
theorem dX10_takesNumber_12 : decode cX10_takesNumber 12 = .ok (.aload_n 0, 1) := by decide +kernel
theorem dX10_takesNumber_13 : decode cX10_takesNumber 13 = .ok (.iconst 1, 1) := by decide +kernel
theorem dX10_takesNumber_14 : decode cX10_takesNumber 14 = .ok (.invokevirtual 96, 3) := by decide +kernel
theorem dX10_takesNumber_17 : decode cX10_takesNumber 17 = .ok (.ireturn, 1) := by decide +kernel
theorem dX10_takesNumber_18 : decode cX10_takesNumber 18 = .ok (.aload_n 0, 1) := by decide +kernel
theorem dX10_takesNumber_19 : decode cX10_takesNumber 19 = .ok (.getfield 79, 3) := by decide +kernel
theorem dX10_takesNumber_22 : decode cX10_takesNumber 22 = .ok (.iload_n 1, 1) := by decide +kernel
theorem dX10_takesNumber_23 : decode cX10_takesNumber 23 = .ok (.if_icmp .lt 11, 3) := by decide +kernel
theorem dX10_takesNumber_26 : decode cX10_takesNumber 26 = .ok (.aload_n 0, 1) := by decide +kernel
theorem dX10_takesNumber_27 : decode cX10_takesNumber 27 = .ok (.getfield 79, 3) := by decide +kernel
theorem dX10_takesNumber_30 : decode cX10_takesNumber 30 = .ok (.iload_n 2, 1) := by decide +kernel
theorem dX10_takesNumber_31 : decode cX10_takesNumber 31 = .ok (.if_icmp .le 11, 3) := by decide +kernel
theorem dX10_takesNumber_34 : decode cX10_takesNumber 34 = .ok (.aload_n 0, 1) := by decide +kernel
theorem dX10_takesNumber_35 : decode cX10_takesNumber 35 = .ok (.iconst 2, 1) := by decide +kernel
theorem dX10_takesNumber_36 : decode cX10_takesNumber 36 = .ok (.invokevirtual 96, 3) := by decide +kernel
theorem dX10_takesNumber_39 : decode cX10_takesNumber 39 = .ok (.ifCond .eq 7, 3) := by decide +kernel
theorem dX10_takesNumber_42 : decode cX10_takesNumber 42 = .ok (.iconst 1, 1) := by decide +kernel
theorem dX10_takesNumber_43 : decode cX10_takesNumber 43 = .ok (.goto 4, 3) := by decide +kernel
theorem dX10_takesNumber_46 : decode cX10_takesNumber 46 = .ok (.iconst 0, 1) := by decide +kernel
theorem dX10_takesNumber_47 : decode cX10_takesNumber 47 = .ok (.ireturn, 1) := by decide +kernel
