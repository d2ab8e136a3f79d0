set_option maxRecDepth 20000 in
theorem ggX12_init_X12_clears : GoodIn wsX12_init wsX12_clears := goodIn_s _ [(35, 1), (10, 1), (36, 48)] rfl (by decide +kernel)
set_option maxRecDepth 20000 in
theorem gX12_init_X12_clears : GoodIn wsX12_init (wsV RX12 87 RX12 yX12_clears wsX12_clears) := goodIn_app (goodIn_of _ (by decide +kernel)) ggX12_init_X12_clears
theorem dX12_init_0 : decode cX12_init 0 = .ok (.aload_n 0, 1) := by decide +kernel
theorem dX12_init_1 : decode cX12_init 1 = .ok (.invokespecial 1, 3) := by decide +kernel
theorem dX12_init_4 : decode cX12_init 4 = .ok (.aload_n 0, 1) := by decide +kernel
theorem dX12_init_5 : decode cX12_init 5 = .ok (.sipush 800, 3) := by decide +kernel
theorem dX12_init_8 : decode cX12_init 8 = .ok (.newarray .int, 2) := by decide +kernel
theorem dX12_init_10 : decode cX12_init 10 = .ok (.putfield 7, 3) := by decide +kernel
theorem dX12_init_13 : decode cX12_init 13 = .ok (.aload_n 0, 1) := by decide +kernel
theorem dX12_init_14 : decode cX12_init 14 = .ok (.iconst (-1), 1) := by decide +kernel
theorem dX12_init_15 : decode cX12_init 15 = .ok (.putfield 13, 3) := by decide +kernel
theorem dX12_init_18 : decode cX12_init 18 = .ok (.aload_n 0, 1) := by decide +kernel
theorem dX12_init_19 : decode cX12_init 19 = .ok (.iconst (-1), 1) := by decide +kernel
theorem dX12_init_20 : decode cX12_init 20 = .ok (.putfield 17, 3) := by decide +kernel
theorem dX12_init_23 : decode cX12_init 23 = .ok (.aload_n 0, 1) := by decide +kernel
theorem dX12_init_24 : decode cX12_init 24 = .ok (.iconst (-1), 1) := by decide +kernel
theorem dX12_init_25 : decode cX12_init 25 = .ok (.putfield 20, 3) := by decide +kernel
theorem dX12_init_28 : decode cX12_init 28 = .ok (.aload_n 0, 1) := by decide +kernel
theorem dX12_init_29 : decode cX12_init 29 = .ok (.iconst (-1), 1) := by decide +kernel
theorem dX12_init_30 : decode cX12_init 30 = .ok (.putfield 23, 3) := by decide +kernel
theorem dX12_init_33 : decode cX12_init 33 = .ok (.aload_n 0, 1) := by decide +kernel
theorem dX12_init_34 : decode cX12_init 34 = .ok (.sipush 350, 3) := by decide +kernel
theorem dX12_init_37 : decode cX12_init 37 = .ok (.newarray .int, 2) := by decide +kernel
theorem dX12_init_39 : decode cX12_init 39 = .ok (.putfield 26, 3) := by decide +kernel
theorem dX12_init_42 : decode cX12_init 42 = .ok (.aload_n 0, 1) := by decide +kernel
theorem dX12_init_43 : decode cX12_init 43 = .ok (.sipush 350, 3) := by decide +kernel
theorem dX12_init_46 : decode cX12_init 46 = .ok (.newarray .int, 2) := by decide +kernel
theorem dX12_init_48 : decode cX12_init 48 = .ok (.putfield 29, 3) := by decide +kernel
theorem dX12_init_51 : decode cX12_init 51 = .ok (.aload_n 0, 1) := by decide +kernel
theorem dX12_init_52 : decode cX12_init 52 = .ok (.sipush 2100, 3) := by decide +kernel
theorem dX12_init_55 : decode cX12_init 55 = .ok (.newarray .int, 2) := by decide +kernel
theorem dX12_init_57 : decode cX12_init 57 = .ok (.putfield 32, 3) := by decide +kernel
theorem dX12_init_60 : decode cX12_init 60 = .ok (.aload_n 0, 1) := by decide +kernel
theorem dX12_init_61 : decode cX12_init 61 = .ok (.sipush 350, 3) := by decide +kernel
theorem dX12_init_64 : decode cX12_init 64 = .ok (.newarray .int, 2) := by decide +kernel
theorem dX12_init_66 : decode cX12_init 66 = .ok (.putfield 35, 3) := by decide +kernel
theorem dX12_init_69 : decode cX12_init 69 = .ok (.aload_n 0, 1) := by decide +kernel
theorem dX12_init_70 : decode cX12_init 70 = .ok (.sipush 350, 3) := by decide +kernel
theorem dX12_init_73 : decode cX12_init 73 = .ok (.newarray .int, 2) := by decide +kernel
theorem dX12_init_75 : decode cX12_init 75 = .ok (.putfield 38, 3) := by decide +kernel
theorem dX12_init_78 : decode cX12_init 78 = .ok (.aload_n 0, 1) := by decide +kernel
theorem dX12_init_79 : decode cX12_init 79 = .ok (.bipush 14, 2) := by decide +kernel
theorem dX12_init_81 : decode cX12_init 81 = .ok (.newarray .long, 2) := by decide +kernel
theorem dX12_init_83 : decode cX12_init 83 = .ok (.putfield 41, 3) := by decide +kernel
theorem dX12_init_86 : decode cX12_init 86 = .ok (.aload_n 0, 1) := by decide +kernel
theorem dX12_init_87 : decode cX12_init 87 = .ok (.bipush 14, 2) := by decide +kernel
theorem dX12_init_89 : decode cX12_init 89 = .ok (.newarray .long, 2) := by decide +kernel
theorem dX12_init_91 : decode cX12_init 91 = .ok (.putfield 45, 3) := by decide +kernel
theorem dX12_init_94 : decode cX12_init 94 = .ok (.aload_n 0, 1) := by decide +kernel
theorem dX12_init_95 : decode cX12_init 95 = .ok (.bipush 14, 2) := by decide +kernel
theorem dX12_init_97 : decode cX12_init 97 = .ok (.newarray .long, 2) := by decide +kernel
theorem dX12_init_99 : decode cX12_init 99 = .ok (.putfield 48, 3) := by decide +kernel
theorem dX12_init_102 : decode cX12_init 102 = .ok (.aload_n 0, 1) := by decide +kernel
theorem dX12_init_103 : decode cX12_init 103 = .ok (.bipush 14, 2) := by decide +kernel
theorem dX12_init_105 : decode cX12_init 105 = .ok (.newarray .int, 2) := by decide +kernel
theorem dX12_init_107 : decode cX12_init 107 = .ok (.putfield 51, 3) := by decide +kernel
theorem dX12_init_110 : decode cX12_init 110 = .ok (.aload_n 0, 1) := by decide +kernel
theorem dX12_init_111 : decode cX12_init 111 = .ok (.bipush 49, 2) := by decide +kernel
theorem dX12_init_113 : decode cX12_init 113 = .ok (.newarray .int, 2) := by decide +kernel
theorem dX12_init_115 : decode cX12_init 115 = .ok (.putfield 54, 3) := by decide +kernel
theorem dX12_init_118 : decode cX12_init 118 = .ok (.aload_n 0, 1) := by decide +kernel
theorem dX12_init_119 : decode cX12_init 119 = .ok (.bipush 7, 2) := by decide +kernel
theorem dX12_init_121 : decode cX12_init 121 = .ok (.newarray .int, 2) := by decide +kernel
theorem dX12_init_123 : decode cX12_init 123 = .ok (.putfield 57, 3) := by decide +kernel
theorem dX12_init_126 : decode cX12_init 126 = .ok (.aload_n 0, 1) := by decide +kernel
theorem dX12_init_127 : decode cX12_init 127 = .ok (.bipush 7, 2) := by decide +kernel
theorem dX12_init_129 : decode cX12_init 129 = .ok (.newarray .int, 2) := by decide +kernel
theorem dX12_init_131 : decode cX12_init 131 = .ok (.putfield 60, 3) := by decide +kernel
theorem dX12_init_134 : decode cX12_init 134 = .ok (.aload_n 0, 1) := by decide +kernel
theorem dX12_init_135 : decode cX12_init 135 = .ok (.bipush 7, 2) := by decide +kernel
theorem dX12_init_137 : decode cX12_init 137 = .ok (.newarray .int, 2) := by decide +kernel
theorem dX12_init_139 : decode cX12_init 139 = .ok (.putfield 63, 3) := by decide +kernel
theorem dX12_init_142 : decode cX12_init 142 = .ok (.aload_n 0, 1) := by decide +kernel
theorem dX12_init_143 : decode cX12_init 143 = .ok (.iconst 4, 1) := by decide +kernel
theorem dX12_init_144 : decode cX12_init 144 = .ok (.newarray .int, 2) := by decide +kernel
theorem dX12_init_146 : decode cX12_init 146 = .ok (.putfield 66, 3) := by decide +kernel
theorem dX12_init_149 : decode cX12_init 149 = .ok (.aload_n 0, 1) := by decide +kernel
theorem dX12_init_150 : decode cX12_init 150 = .ok (.bipush 60, 2) := by decide +kernel
theorem dX12_init_152 : decode cX12_init 152 = .ok (.newarray .int, 2) := by decide +kernel
theorem dX12_init_154 : decode cX12_init 154 = .ok (.putfield 69, 3) := by decide +kernel
theorem dX12_init_157 : decode cX12_init 157 = .ok (.aload_n 0, 1) := by decide +kernel
theorem dX12_init_158 : decode cX12_init 158 = .ok (.bipush 60, 2) := by decide +kernel
theorem dX12_init_160 : decode cX12_init 160 = .ok (.newarray .int, 2) := by decide +kernel
theorem dX12_init_162 : decode cX12_init 162 = .ok (.putfield 72, 3) := by decide +kernel
theorem dX12_init_165 : decode cX12_init 165 = .ok (.aload_n 0, 1) := by decide +kernel
theorem dX12_init_166 : decode cX12_init 166 = .ok (.bipush 60, 2) := by decide +kernel
theorem dX12_init_168 : decode cX12_init 168 = .ok (.newarray .int, 2) := by decide +kernel
theorem dX12_init_170 : decode cX12_init 170 = .ok (.putfield 75, 3) := by decide +kernel
theorem dX12_init_173 : decode cX12_init 173 = .ok (.aload_n 0, 1) := by decide +kernel
theorem dX12_init_174 : decode cX12_init 174 = .ok (.iconst 2, 1) := by decide +kernel
theorem dX12_init_175 : decode cX12_init 175 = .ok (.newarray .int, 2) := by decide +kernel
theorem dX12_init_177 : decode cX12_init 177 = .ok (.putfield 78, 3) := by decide +kernel
theorem dX12_init_180 : decode cX12_init 180 = .ok (.aload_n 0, 1) := by decide +kernel
theorem dX12_init_181 : decode cX12_init 181 = .ok (.iconst 2, 1) := by decide +kernel
theorem dX12_init_182 : decode cX12_init 182 = .ok (.newarray .int, 2) := by decide +kernel
theorem dX12_init_184 : decode cX12_init 184 = .ok (.putfield 81, 3) := by decide +kernel
theorem dX12_init_187 : decode cX12_init 187 = .ok (.aload_n 0, 1) := by decide +kernel
theorem dX12_init_188 : decode cX12_init 188 = .ok (.sipush 300, 3) := by decide +kernel
theorem dX12_init_191 : decode cX12_init 191 = .ok (.newarray .int, 2) := by decide +kernel
theorem dX12_init_193 : decode cX12_init 193 = .ok (.putfield 84, 3) := by decide +kernel
theorem dX12_init_196 : decode cX12_init 196 = .ok (.aload_n 0, 1) := by decide +kernel
theorem dX12_init_197 : decode cX12_init 197 = .ok (.invokevirtual 87, 3) := by decide +kernel
theorem dX12_init_200 : decode cX12_init 200 = .ok (.return_, 1) := by decide +kernel
theorem dX12_thrown_0 : decode cX12_thrown 0 = .ok (.aload_n 0, 1) := by decide +kernel
theorem dX12_thrown_1 : decode cX12_thrown 1 = .ok (.getfield 90, 3) := by decide +kernel
theorem dX12_thrown_4 : decode cX12_thrown 4 = .ok (.ireturn, 1) := by decide +kernel
theorem dX12_isIn_0 : decode cX12_isIn 0 = .ok (.lload_n 0, 1) := by decide +kernel
theorem dX12_isIn_1 : decode cX12_isIn 1 = .ok (.lload_n 2, 1) := by decide +kernel
theorem dX12_isIn_2 : decode cX12_isIn 2 = .ok (.lcmp, 1) := by decide +kernel
theorem dX12_isIn_3 : decode cX12_isIn 3 = .ok (.ifCond .lt 14, 3) := by decide +kernel
theorem dX12_isIn_6 : decode cX12_isIn 6 = .ok (.lload_n 0, 1) := by decide +kernel
theorem dX12_isIn_7 : decode cX12_isIn 7 = .ok (.lload 4, 2) := by decide +kernel
theorem dX12_isIn_9 : decode cX12_isIn 9 = .ok (.lcmp, 1) := by decide +kernel
theorem dX12_isIn_10 : decode cX12_isIn 10 = .ok (.ifCond .gt 7, 3) := by decide +kernel
theorem dX12_isIn_13 : decode cX12_isIn 13 = .ok (.iconst 1, 1) := by decide +kernel
theorem dX12_isIn_14 : decode cX12_isIn 14 = .ok (.goto 4, 3) := by decide +kernel
theorem dX12_isIn_17 : decode cX12_isIn 17 = .ok (.iconst 0, 1) := by decide +kernel
theorem dX12_isIn_18 : decode cX12_isIn 18 = .ok (.ireturn, 1) := by decide +kernel
theorem dX12_truth_0 : decode cX12_truth 0 = .ok (.iload_n 0, 1) := by decide +kernel
theorem dX12_truth_1 : decode cX12_truth 1 = .ok (.ifCond .eq 7, 3) := by decide +kernel
theorem dX12_truth_4 : decode cX12_truth 4 = .ok (.iconst 1, 1) := by decide +kernel
theorem dX12_truth_5 : decode cX12_truth 5 = .ok (.goto 4, 3) := by decide +kernel
theorem dX12_truth_8 : decode cX12_truth 8 = .ok (.iconst 0, 1) := by decide +kernel
theorem dX12_truth_9 : decode cX12_truth 9 = .ok (.ireturn, 1) := by decide +kernel
theorem dX12_hasBit_0 : decode cX12_hasBit 0 = .ok (.iload_n 0, 1) := by decide +kernel
theorem dX12_hasBit_1 : decode cX12_hasBit 1 = .ok (.iload_n 1, 1) := by decide +kernel
theorem dX12_hasBit_2 : decode cX12_hasBit 2 = .ok (.ishr, 1) := by decide +kernel
theorem dX12_hasBit_3 : decode cX12_hasBit 3 = .ok (.iconst 1, 1) := by decide +kernel
theorem dX12_hasBit_4 : decode cX12_hasBit 4 = .ok (.iand, 1) := by decide +kernel
theorem dX12_hasBit_5 : decode cX12_hasBit 5 = .ok (.iconst 1, 1) := by decide +kernel
theorem dX12_hasBit_6 : decode cX12_hasBit 6 = .ok (.if_icmp .ne 7, 3) := by decide +kernel
theorem dX12_hasBit_9 : decode cX12_hasBit 9 = .ok (.iconst 1, 1) := by decide +kernel
theorem dX12_hasBit_10 : decode cX12_hasBit 10 = .ok (.goto 4, 3) := by decide +kernel
theorem dX12_hasBit_13 : decode cX12_hasBit 13 = .ok (.iconst 0, 1) := by decide +kernel
theorem dX12_hasBit_14 : decode cX12_hasBit 14 = .ok (.ireturn, 1) := by decide +kernel
set_option maxRecDepth 20000 in
theorem ggX12_goes_X12_truth : GoodIn wsX12_goes wsX12_truth := goodIn_s _ [(5, 1)] rfl (by decide +kernel)
set_option maxRecDepth 20000 in
theorem gX12_goes_X12_truth : GoodIn wsX12_goes (va_wsS RX12 93 yX12_truth wsX12_truth) := goodIn_app (goodIn_of _ (by decide +kernel)) ggX12_goes_X12_truth
theorem dX12_goes_0 : decode cX12_goes 0 = .ok (.aload_n 0, 1) := by decide +kernel
theorem dX12_goes_1 : decode cX12_goes 1 = .ok (.iload_n 1, 1) := by decide +kernel
theorem dX12_goes_2 : decode cX12_goes 2 = .ok (.ifCond .ne 7, 3) := by decide +kernel
theorem dX12_goes_5 : decode cX12_goes 5 = .ok (.iconst 1, 1) := by decide +kernel
theorem dX12_goes_6 : decode cX12_goes 6 = .ok (.goto 4, 3) := by decide +kernel
theorem dX12_goes_9 : decode cX12_goes 9 = .ok (.iconst 0, 1) := by decide +kernel
theorem dX12_goes_10 : decode cX12_goes 10 = .ok (.invokestatic 93, 3) := by decide +kernel
theorem dX12_goes_13 : decode cX12_goes 13 = .ok (.putfield 90, 3) := by decide +kernel
theorem dX12_goes_16 : decode cX12_goes 16 = .ok (.iload_n 1, 1) := by decide +kernel
theorem dX12_goes_17 : decode cX12_goes 17 = .ok (.ireturn, 1) := by decide +kernel
theorem dX12_goesBoth_0 : decode cX12_goesBoth 0 = .ok (.aload_n 0, 1) := by decide +kernel
theorem dX12_goesBoth_1 : decode cX12_goesBoth 1 = .ok (.iload_n 1, 1) := by decide +kernel
theorem dX12_goesBoth_2 : decode cX12_goesBoth 2 = .ok (.ifCond .ne 7, 3) := by decide +kernel
theorem dX12_goesBoth_5 : decode cX12_goesBoth 5 = .ok (.iconst 1, 1) := by decide +kernel
theorem dX12_goesBoth_6 : decode cX12_goesBoth 6 = .ok (.goto 12, 3) := by decide +kernel
theorem dX12_goesBoth_9 : decode cX12_goesBoth 9 = .ok (.iload_n 2, 1) := by decide +kernel
theorem dX12_goesBoth_10 : decode cX12_goesBoth 10 = .ok (.ifCond .ne 7, 3) := by decide +kernel
theorem dX12_goesBoth_13 : decode cX12_goesBoth 13 = .ok (.iconst 2, 1) := by decide +kernel
theorem dX12_goesBoth_14 : decode cX12_goesBoth 14 = .ok (.goto 4, 3) := by decide +kernel
theorem dX12_goesBoth_17 : decode cX12_goesBoth 17 = .ok (.iconst 0, 1) := by decide +kernel
theorem dX12_goesBoth_18 : decode cX12_goesBoth 18 = .ok (.putfield 90, 3) := by decide +kernel
theorem dX12_goesBoth_21 : decode cX12_goesBoth 21 = .ok (.aload_n 0, 1) := by decide +kernel
theorem dX12_goesBoth_22 : decode cX12_goesBoth 22 = .ok (.getfield 90, 3) := by decide +kernel
theorem dX12_goesBoth_25 : decode cX12_goesBoth 25 = .ok (.ifCond .ne 7, 3) := by decide +kernel
theorem dX12_goesBoth_28 : decode cX12_goesBoth 28 = .ok (.iconst 1, 1) := by decide +kernel
theorem dX12_goesBoth_29 : decode cX12_goesBoth 29 = .ok (.goto 4, 3) := by decide +kernel
theorem dX12_goesBoth_32 : decode cX12_goesBoth 32 = .ok (.iconst 0, 1) := by decide +kernel
theorem dX12_goesBoth_33 : decode cX12_goesBoth 33 = .ok (.ireturn, 1) := by decide +kernel
set_option maxRecDepth 20000 in
theorem ggX12_feed_X12_goes : GoodIn wsX12_feed wsX12_goes := goodIn_s _ [(6, 4), (5, 1), (10, 1), (16, 48)] rfl (by decide +kernel)
set_option maxRecDepth 20000 in
theorem gX12_feed_X12_goes : GoodIn wsX12_feed (wsV RX12 100 RX12 yX12_goes wsX12_goes) := goodIn_app (goodIn_of _ (by decide +kernel)) ggX12_feed_X12_goes
set_option maxRecDepth 20000 in
theorem ggX12_feed_X12_four : GoodIn wsX12_feed wsX12_four := goodIn_s _ [(14, 2), (1, 1), (16, 48)] rfl (by decide +kernel)
set_option maxRecDepth 20000 in
theorem gX12_feed_X12_four : GoodIn wsX12_feed (wsV RX12 104 RX12 yX12_four wsX12_four) := goodIn_app (goodIn_of _ (by decide +kernel)) ggX12_feed_X12_four
theorem dX12_feed_0 : decode cX12_feed 0 = .ok (.aload_n 0, 1) := by decide +kernel
theorem dX12_feed_1 : decode cX12_feed 1 = .ok (.aload_n 0, 1) := by decide +kernel
theorem dX12_feed_2 : decode cX12_feed 2 = .ok (.getfield 97, 3) := by decide +kernel
theorem dX12_feed_5 : decode cX12_feed 5 = .ok (.bipush 20, 2) := by decide +kernel
theorem dX12_feed_7 : decode cX12_feed 7 = .ok (.iadd, 1) := by decide +kernel
theorem dX12_feed_8 : decode cX12_feed 8 = .ok (.sipush 800, 3) := by decide +kernel
theorem dX12_feed_11 : decode cX12_feed 11 = .ok (.if_icmp .gt 7, 3) := by decide +kernel
theorem dX12_feed_14 : decode cX12_feed 14 = .ok (.iconst 1, 1) := by decide +kernel
theorem dX12_feed_15 : decode cX12_feed 15 = .ok (.goto 4, 3) := by decide +kernel
theorem dX12_feed_18 : decode cX12_feed 18 = .ok (.iconst 0, 1) := by decide +kernel
theorem dX12_feed_19 : decode cX12_feed 19 = .ok (.invokevirtual 100, 3) := by decide +kernel
theorem dX12_feed_22 : decode cX12_feed 22 = .ok (.ifCond .ne 5, 3) := by decide +kernel
theorem dX12_feed_25 : decode cX12_feed 25 = .ok (.iconst 0, 1) := by decide +kernel
theorem dX12_feed_26 : decode cX12_feed 26 = .ok (.ireturn, 1) := by decide +kernel
theorem dX12_feed_27 : decode cX12_feed 27 = .ok (.aload_n 0, 1) := by decide +kernel
theorem dX12_feed_28 : decode cX12_feed 28 = .ok (.iload_n 1, 1) := by decide +kernel
theorem dX12_feed_29 : decode cX12_feed 29 = .ok (.invokevirtual 104, 3) := by decide +kernel
theorem dX12_feed_32 : decode cX12_feed 32 = .ok (.aload_n 0, 1) := by decide +kernel
theorem dX12_feed_33 : decode cX12_feed 33 = .ok (.iload_n 2, 1) := by decide +kernel
theorem dX12_feed_34 : decode cX12_feed 34 = .ok (.invokevirtual 104, 3) := by decide +kernel
theorem dX12_feed_37 : decode cX12_feed 37 = .ok (.aload_n 0, 1) := by decide +kernel
theorem dX12_feed_38 : decode cX12_feed 38 = .ok (.iload_n 3, 1) := by decide +kernel
theorem dX12_feed_39 : decode cX12_feed 39 = .ok (.invokevirtual 104, 3) := by decide +kernel
theorem dX12_feed_42 : decode cX12_feed 42 = .ok (.aload_n 0, 1) := by decide +kernel
theorem dX12_feed_43 : decode cX12_feed 43 = .ok (.iload 4, 2) := by decide +kernel
theorem dX12_feed_45 : decode cX12_feed 45 = .ok (.invokevirtual 104, 3) := by decide +kernel
theorem dX12_feed_48 : decode cX12_feed 48 = .ok (.aload_n 0, 1) := by decide +kernel
theorem dX12_feed_49 : decode cX12_feed 49 = .ok (.iload 5, 2) := by decide +kernel
theorem dX12_feed_51 : decode cX12_feed 51 = .ok (.invokevirtual 104, 3) := by decide +kernel
theorem dX12_feed_54 : decode cX12_feed 54 = .ok (.aload_n 0, 1) := by decide +kernel
theorem dX12_feed_55 : decode cX12_feed 55 = .ok (.getfield 97, 3) := by decide +kernel
theorem dX12_feed_58 : decode cX12_feed 58 = .ok (.ireturn, 1) := by decide +kernel
theorem dX12_four_0 : decode cX12_four 0 = .ok (.bipush 24, 2) := by decide +kernel
theorem dX12_four_2 : decode cX12_four 2 = .ok (.istore_n 2, 1) := by decide +kernel
theorem dX12_four_3 : decode cX12_four 3 = .ok (.iload_n 2, 1) := by decide +kernel
theorem dX12_four_4 : decode cX12_four 4 = .ok (.ifCond .lt 35, 3) := by decide +kernel
theorem dX12_four_7 : decode cX12_four 7 = .ok (.aload_n 0, 1) := by decide +kernel
theorem dX12_four_8 : decode cX12_four 8 = .ok (.getfield 7, 3) := by decide +kernel
theorem dX12_four_11 : decode cX12_four 11 = .ok (.aload_n 0, 1) := by decide +kernel
theorem dX12_four_12 : decode cX12_four 12 = .ok (.getfield 97, 3) := by decide +kernel
theorem dX12_four_15 : decode cX12_four 15 = .ok (.iload_n 1, 1) := by decide +kernel
theorem dX12_four_16 : decode cX12_four 16 = .ok (.iload_n 2, 1) := by decide +kernel
theorem dX12_four_17 : decode cX12_four 17 = .ok (.ishr, 1) := by decide +kernel
theorem dX12_four_18 : decode cX12_four 18 = .ok (.sipush 255, 3) := by decide +kernel
theorem dX12_four_21 : decode cX12_four 21 = .ok (.iand, 1) := by decide +kernel
theorem dX12_four_22 : decode cX12_four 22 = .ok (.iastore, 1) := by decide +kernel
theorem dX12_four_23 : decode cX12_four 23 = .ok (.aload_n 0, 1) := by decide +kernel
theorem dX12_four_24 : decode cX12_four 24 = .ok (.dup, 1) := by decide +kernel
theorem dX12_four_25 : decode cX12_four 25 = .ok (.getfield 97, 3) := by decide +kernel
theorem dX12_four_28 : decode cX12_four 28 = .ok (.iconst 1, 1) := by decide +kernel
theorem dX12_four_29 : decode cX12_four 29 = .ok (.iadd, 1) := by decide +kernel
theorem dX12_four_30 : decode cX12_four 30 = .ok (.putfield 97, 3) := by decide +kernel
theorem dX12_four_33 : decode cX12_four 33 = .ok (.iinc 2 (-8), 3) := by decide +kernel
theorem dX12_four_36 : decode cX12_four 36 = .ok (.goto (-33), 3) := by decide +kernel
theorem dX12_four_39 : decode cX12_four 39 = .ok (.return_, 1) := by decide +kernel
set_option maxRecDepth 20000 in
theorem ggX12_truncate_X12_isIn : GoodIn wsX12_truncate wsX12_isIn := goodIn_s _ [(5, 1)] rfl (by decide +kernel)
set_option maxRecDepth 20000 in
theorem gX12_truncate_X12_isIn : GoodIn wsX12_truncate (va_wsS RX12 108 yX12_isIn wsX12_isIn) := goodIn_app (goodIn_of _ (by decide +kernel)) ggX12_truncate_X12_isIn
set_option maxRecDepth 20000 in
theorem ggX12_truncate_X12_goes : GoodIn wsX12_truncate wsX12_goes := goodIn_s _ [(9, 4), (4, 1), (13, 49)] rfl (by decide +kernel)
set_option maxRecDepth 20000 in
theorem gX12_truncate_X12_goes : GoodIn wsX12_truncate (wsV RX12 100 RX12 yX12_goes wsX12_goes) := goodIn_app (goodIn_of _ (by decide +kernel)) ggX12_truncate_X12_goes
theorem dX12_truncate_0 : decode cX12_truncate 0 = .ok (.aload_n 0, 1) := by decide +kernel
theorem dX12_truncate_1 : decode cX12_truncate 1 = .ok (.iload_n 1, 1) := by decide +kernel
theorem dX12_truncate_2 : decode cX12_truncate 2 = .ok (.i2l, 1) := by decide +kernel
theorem dX12_truncate_3 : decode cX12_truncate 3 = .ok (.lconst 0, 1) := by decide +kernel
theorem dX12_truncate_4 : decode cX12_truncate 4 = .ok (.aload_n 0, 1) := by decide +kernel
theorem dX12_truncate_5 : decode cX12_truncate 5 = .ok (.getfield 97, 3) := by decide +kernel
theorem dX12_truncate_8 : decode cX12_truncate 8 = .ok (.i2l, 1) := by decide +kernel
theorem dX12_truncate_9 : decode cX12_truncate 9 = .ok (.invokestatic 108, 3) := by decide +kernel
theorem dX12_truncate_12 : decode cX12_truncate 12 = .ok (.invokevirtual 100, 3) := by decide +kernel
theorem dX12_truncate_15 : decode cX12_truncate 15 = .ok (.ifCond .ne 5, 3) := by decide +kernel
theorem dX12_truncate_18 : decode cX12_truncate 18 = .ok (.iconst 0, 1) := by decide +kernel
theorem dX12_truncate_19 : decode cX12_truncate 19 = .ok (.ireturn, 1) := by decide +kernel
theorem dX12_truncate_20 : decode cX12_truncate 20 = .ok (.aload_n 0, 1) := by decide +kernel
theorem dX12_truncate_21 : decode cX12_truncate 21 = .ok (.iload_n 1, 1) := by decide +kernel
theorem dX12_truncate_22 : decode cX12_truncate 22 = .ok (.putfield 97, 3) := by decide +kernel
theorem dX12_truncate_25 : decode cX12_truncate 25 = .ok (.iload_n 1, 1) := by decide +kernel
theorem dX12_truncate_26 : decode cX12_truncate 26 = .ok (.ireturn, 1) := by decide +kernel
theorem dX12_here_0 : decode cX12_here 0 = .ok (.aload_n 0, 1) := by decide +kernel
theorem dX12_here_1 : decode cX12_here 1 = .ok (.getfield 112, 3) := by decide +kernel
theorem dX12_here_4 : decode cX12_here 4 = .ok (.iload_n 1, 1) := by decide +kernel
theorem dX12_here_5 : decode cX12_here 5 = .ok (.iadd, 1) := by decide +kernel
theorem dX12_here_6 : decode cX12_here 6 = .ok (.aload_n 0, 1) := by decide +kernel
theorem dX12_here_7 : decode cX12_here 7 = .ok (.getfield 115, 3) := by decide +kernel
theorem dX12_here_10 : decode cX12_here 10 = .ok (.if_icmp .ge 17, 3) := by decide +kernel
theorem dX12_here_13 : decode cX12_here 13 = .ok (.aload_n 0, 1) := by decide +kernel
theorem dX12_here_14 : decode cX12_here 14 = .ok (.getfield 7, 3) := by decide +kernel
theorem dX12_here_17 : decode cX12_here 17 = .ok (.aload_n 0, 1) := by decide +kernel
theorem dX12_here_18 : decode cX12_here 18 = .ok (.getfield 112, 3) := by decide +kernel
theorem dX12_here_21 : decode cX12_here 21 = .ok (.iload_n 1, 1) := by decide +kernel
theorem dX12_here_22 : decode cX12_here 22 = .ok (.iadd, 1) := by decide +kernel
theorem dX12_here_23 : decode cX12_here 23 = .ok (.iaload, 1) := by decide +kernel
theorem dX12_here_24 : decode cX12_here 24 = .ok (.goto 4, 3) := by decide +kernel
theorem dX12_here_27 : decode cX12_here 27 = .ok (.iconst (-1), 1) := by decide +kernel
theorem dX12_here_28 : decode cX12_here 28 = .ok (.ireturn, 1) := by decide +kernel
theorem dX12_isLetter_0 : decode cX12_isLetter 0 = .ok (.iload_n 0, 1) := by decide +kernel
theorem dX12_isLetter_1 : decode cX12_isLetter 1 = .ok (.bipush 97, 2) := by decide +kernel
theorem dX12_isLetter_3 : decode cX12_isLetter 3 = .ok (.if_icmp .lt 13, 3) := by decide +kernel
theorem dX12_isLetter_6 : decode cX12_isLetter 6 = .ok (.iload_n 0, 1) := by decide +kernel
theorem dX12_isLetter_7 : decode cX12_isLetter 7 = .ok (.bipush 122, 2) := by decide +kernel
theorem dX12_isLetter_9 : decode cX12_isLetter 9 = .ok (.if_icmp .gt 7, 3) := by decide +kernel
theorem dX12_isLetter_12 : decode cX12_isLetter 12 = .ok (.iconst 1, 1) := by decide +kernel
theorem dX12_isLetter_13 : decode cX12_isLetter 13 = .ok (.goto 4, 3) := by decide +kernel
theorem dX12_isLetter_16 : decode cX12_isLetter 16 = .ok (.iconst 0, 1) := by decide +kernel
theorem dX12_isLetter_17 : decode cX12_isLetter 17 = .ok (.ireturn, 1) := by decide +kernel
theorem dX12_isDigit_0 : decode cX12_isDigit 0 = .ok (.iload_n 0, 1) := by decide +kernel
theorem dX12_isDigit_1 : decode cX12_isDigit 1 = .ok (.bipush 48, 2) := by decide +kernel
theorem dX12_isDigit_3 : decode cX12_isDigit 3 = .ok (.if_icmp .lt 13, 3) := by decide +kernel
theorem dX12_isDigit_6 : decode cX12_isDigit 6 = .ok (.iload_n 0, 1) := by decide +kernel
theorem dX12_isDigit_7 : decode cX12_isDigit 7 = .ok (.bipush 57, 2) := by decide +kernel
theorem dX12_isDigit_9 : decode cX12_isDigit 9 = .ok (.if_icmp .gt 7, 3) := by decide +kernel
theorem dX12_isDigit_12 : decode cX12_isDigit 12 = .ok (.iconst 1, 1) := by decide +kernel
theorem dX12_isDigit_13 : decode cX12_isDigit 13 = .ok (.goto 4, 3) := by decide +kernel
theorem dX12_isDigit_16 : decode cX12_isDigit 16 = .ok (.iconst 0, 1) := by decide +kernel
theorem dX12_isDigit_17 : decode cX12_isDigit 17 = .ok (.ireturn, 1) := by decide +kernel
set_option maxRecDepth 20000 in
theorem ggX12_goOn_X12_here : GoodIn wsX12_goOn wsX12_here := goodIn_s _ [(10, 1), (1, 1), (11, 2), (19, 48)] rfl (by decide +kernel)
set_option maxRecDepth 20000 in
theorem gX12_goOn_X12_here : GoodIn wsX12_goOn (wsV RX12 118 RX12 yX12_here wsX12_here) := goodIn_app (goodIn_of _ (by decide +kernel)) ggX12_goOn_X12_here
set_option maxRecDepth 20000 in
theorem ggX12_goOn_X12_isLetter : GoodIn wsX12_goOn wsX12_isLetter := goodIn_s _ [(15, 1)] rfl (by decide +kernel)
set_option maxRecDepth 20000 in
theorem gX12_goOn_X12_isLetter : GoodIn wsX12_goOn (va_wsS RX12 135 yX12_isLetter wsX12_isLetter) := goodIn_app (goodIn_of _ (by decide +kernel)) ggX12_goOn_X12_isLetter
set_option maxRecDepth 20000 in
theorem ggX12_goOn_X12_isDigit : GoodIn wsX12_goOn wsX12_isDigit := goodIn_s _ [(18, 1)] rfl (by decide +kernel)
set_option maxRecDepth 20000 in
theorem gX12_goOn_X12_isDigit : GoodIn wsX12_goOn (va_wsS RX12 139 yX12_isDigit wsX12_isDigit) := goodIn_app (goodIn_of _ (by decide +kernel)) ggX12_goOn_X12_isDigit
theorem dX12_goOn_0 : decode cX12_goOn 0 = .ok (.aload_n 0, 1) := by decide +kernel
theorem dX12_goOn_1 : decode cX12_goOn 1 = .ok (.iconst 0, 1) := by decide +kernel
theorem dX12_goOn_2 : decode cX12_goOn 2 = .ok (.invokevirtual 118, 3) := by decide +kernel
theorem dX12_goOn_5 : decode cX12_goOn 5 = .ok (.bipush 32, 2) := by decide +kernel
theorem dX12_goOn_7 : decode cX12_goOn 7 = .ok (.if_icmp .eq 13, 3) := by decide +kernel
theorem dX12_goOn_10 : decode cX12_goOn 10 = .ok (.aload_n 0, 1) := by decide +kernel
theorem dX12_goOn_11 : decode cX12_goOn 11 = .ok (.iconst 0, 1) := by decide +kernel
theorem dX12_goOn_12 : decode cX12_goOn 12 = .ok (.invokevirtual 118, 3) := by decide +kernel
theorem dX12_goOn_15 : decode cX12_goOn 15 = .ok (.bipush 10, 2) := by decide +kernel
theorem dX12_goOn_17 : decode cX12_goOn 17 = .ok (.if_icmp .ne 16, 3) := by decide +kernel
theorem dX12_goOn_20 : decode cX12_goOn 20 = .ok (.aload_n 0, 1) := by decide +kernel
theorem dX12_goOn_21 : decode cX12_goOn 21 = .ok (.dup, 1) := by decide +kernel
theorem dX12_goOn_22 : decode cX12_goOn 22 = .ok (.getfield 112, 3) := by decide +kernel
theorem dX12_goOn_25 : decode cX12_goOn 25 = .ok (.iconst 1, 1) := by decide +kernel
theorem dX12_goOn_26 : decode cX12_goOn 26 = .ok (.iadd, 1) := by decide +kernel
theorem dX12_goOn_27 : decode cX12_goOn 27 = .ok (.putfield 112, 3) := by decide +kernel
theorem dX12_goOn_30 : decode cX12_goOn 30 = .ok (.goto (-30), 3) := by decide +kernel
theorem dX12_goOn_33 : decode cX12_goOn 33 = .ok (.aload_n 0, 1) := by decide +kernel
theorem dX12_goOn_34 : decode cX12_goOn 34 = .ok (.aload_n 0, 1) := by decide +kernel
theorem dX12_goOn_35 : decode cX12_goOn 35 = .ok (.getfield 112, 3) := by decide +kernel
theorem dX12_goOn_38 : decode cX12_goOn 38 = .ok (.putfield 122, 3) := by decide +kernel
theorem dX12_goOn_41 : decode cX12_goOn 41 = .ok (.aload_n 0, 1) := by decide +kernel
theorem dX12_goOn_42 : decode cX12_goOn 42 = .ok (.lconst 0, 1) := by decide +kernel
theorem dX12_goOn_43 : decode cX12_goOn 43 = .ok (.putfield 125, 3) := by decide +kernel
theorem dX12_goOn_46 : decode cX12_goOn 46 = .ok (.aload_n 0, 1) := by decide +kernel
theorem dX12_goOn_47 : decode cX12_goOn 47 = .ok (.iconst 0, 1) := by decide +kernel
theorem dX12_goOn_48 : decode cX12_goOn 48 = .ok (.putfield 129, 3) := by decide +kernel
theorem dX12_goOn_51 : decode cX12_goOn 51 = .ok (.aload_n 0, 1) := by decide +kernel
theorem dX12_goOn_52 : decode cX12_goOn 52 = .ok (.iconst 0, 1) := by decide +kernel
theorem dX12_goOn_53 : decode cX12_goOn 53 = .ok (.invokevirtual 118, 3) := by decide +kernel
theorem dX12_goOn_56 : decode cX12_goOn 56 = .ok (.istore_n 1, 1) := by decide +kernel
theorem dX12_goOn_57 : decode cX12_goOn 57 = .ok (.iconst 0, 1) := by decide +kernel
theorem dX12_goOn_58 : decode cX12_goOn 58 = .ok (.istore_n 2, 1) := by decide +kernel
theorem dX12_goOn_59 : decode cX12_goOn 59 = .ok (.iload_n 1, 1) := by decide +kernel
theorem dX12_goOn_60 : decode cX12_goOn 60 = .ok (.ifCond .ge 9, 3) := by decide +kernel
theorem dX12_goOn_63 : decode cX12_goOn 63 = .ok (.aload_n 0, 1) := by decide +kernel
theorem dX12_goOn_64 : decode cX12_goOn 64 = .ok (.iconst 0, 1) := by decide +kernel
theorem dX12_goOn_65 : decode cX12_goOn 65 = .ok (.putfield 132, 3) := by decide +kernel
theorem dX12_goOn_68 : decode cX12_goOn 68 = .ok (.return_, 1) := by decide +kernel
theorem dX12_goOn_69 : decode cX12_goOn 69 = .ok (.iload_n 1, 1) := by decide +kernel
theorem dX12_goOn_70 : decode cX12_goOn 70 = .ok (.invokestatic 135, 3) := by decide +kernel
theorem dX12_goOn_73 : decode cX12_goOn 73 = .ok (.ifCond .eq 66, 3) := by decide +kernel
theorem dX12_goOn_76 : decode cX12_goOn 76 = .ok (.aload_n 0, 1) := by decide +kernel
theorem dX12_goOn_77 : decode cX12_goOn 77 = .ok (.iload_n 2, 1) := by decide +kernel
theorem dX12_goOn_78 : decode cX12_goOn 78 = .ok (.invokevirtual 118, 3) := by decide +kernel
theorem dX12_goOn_81 : decode cX12_goOn 81 = .ok (.invokestatic 135, 3) := by decide +kernel
theorem dX12_goOn_84 : decode cX12_goOn 84 = .ok (.ifCond .eq 37, 3) := by decide +kernel
theorem dX12_goOn_87 : decode cX12_goOn 87 = .ok (.iload_n 2, 1) := by decide +kernel
theorem dX12_goOn_88 : decode cX12_goOn 88 = .ok (.bipush 8, 2) := by decide +kernel
theorem dX12_goOn_90 : decode cX12_goOn 90 = .ok (.if_icmp .ge 25, 3) := by decide +kernel
theorem dX12_goOn_93 : decode cX12_goOn 93 = .ok (.aload_n 0, 1) := by decide +kernel
theorem dX12_goOn_94 : decode cX12_goOn 94 = .ok (.aload_n 0, 1) := by decide +kernel
theorem dX12_goOn_95 : decode cX12_goOn 95 = .ok (.getfield 125, 3) := by decide +kernel
theorem dX12_goOn_98 : decode cX12_goOn 98 = .ok (.iconst 5, 1) := by decide +kernel
theorem dX12_goOn_99 : decode cX12_goOn 99 = .ok (.lshl, 1) := by decide +kernel
theorem dX12_goOn_100 : decode cX12_goOn 100 = .ok (.aload_n 0, 1) := by decide +kernel
theorem dX12_goOn_101 : decode cX12_goOn 101 = .ok (.iload_n 2, 1) := by decide +kernel
theorem dX12_goOn_102 : decode cX12_goOn 102 = .ok (.invokevirtual 118, 3) := by decide +kernel
theorem dX12_goOn_105 : decode cX12_goOn 105 = .ok (.bipush 97, 2) := by decide +kernel
theorem dX12_goOn_107 : decode cX12_goOn 107 = .ok (.isub, 1) := by decide +kernel
theorem dX12_goOn_108 : decode cX12_goOn 108 = .ok (.iconst 1, 1) := by decide +kernel
theorem dX12_goOn_109 : decode cX12_goOn 109 = .ok (.iadd, 1) := by decide +kernel
theorem dX12_goOn_110 : decode cX12_goOn 110 = .ok (.i2l, 1) := by decide +kernel
theorem dX12_goOn_111 : decode cX12_goOn 111 = .ok (.lor, 1) := by decide +kernel
theorem dX12_goOn_112 : decode cX12_goOn 112 = .ok (.putfield 125, 3) := by decide +kernel
theorem dX12_goOn_115 : decode cX12_goOn 115 = .ok (.iinc 2 1, 3) := by decide +kernel
theorem dX12_goOn_118 : decode cX12_goOn 118 = .ok (.goto (-42), 3) := by decide +kernel
theorem dX12_goOn_121 : decode cX12_goOn 121 = .ok (.aload_n 0, 1) := by decide +kernel
theorem dX12_goOn_122 : decode cX12_goOn 122 = .ok (.iload_n 2, 1) := by decide +kernel
theorem dX12_goOn_123 : decode cX12_goOn 123 = .ok (.bipush 8, 2) := by decide +kernel
theorem dX12_goOn_125 : decode cX12_goOn 125 = .ok (.if_icmp .le 7, 3) := by decide +kernel
theorem dX12_goOn_128 : decode cX12_goOn 128 = .ok (.iconst 4, 1) := by decide +kernel
theorem dX12_goOn_129 : decode cX12_goOn 129 = .ok (.goto 4, 3) := by decide +kernel
theorem dX12_goOn_132 : decode cX12_goOn 132 = .ok (.iconst 1, 1) := by decide +kernel
theorem dX12_goOn_133 : decode cX12_goOn 133 = .ok (.putfield 132, 3) := by decide +kernel
theorem dX12_goOn_136 : decode cX12_goOn 136 = .ok (.goto 103, 3) := by decide +kernel
theorem dX12_goOn_139 : decode cX12_goOn 139 = .ok (.iload_n 1, 1) := by decide +kernel
theorem dX12_goOn_140 : decode cX12_goOn 140 = .ok (.invokestatic 139, 3) := by decide +kernel
theorem dX12_goOn_143 : decode cX12_goOn 143 = .ok (.ifCond .eq 62, 3) := by decide +kernel
theorem dX12_goOn_146 : decode cX12_goOn 146 = .ok (.aload_n 0, 1) := by decide +kernel
theorem dX12_goOn_147 : decode cX12_goOn 147 = .ok (.iload_n 2, 1) := by decide +kernel
theorem dX12_goOn_148 : decode cX12_goOn 148 = .ok (.invokevirtual 118, 3) := by decide +kernel
theorem dX12_goOn_151 : decode cX12_goOn 151 = .ok (.invokestatic 139, 3) := by decide +kernel
theorem dX12_goOn_154 : decode cX12_goOn 154 = .ok (.ifCond .eq 34, 3) := by decide +kernel
theorem dX12_goOn_157 : decode cX12_goOn 157 = .ok (.iload_n 2, 1) := by decide +kernel
theorem dX12_goOn_158 : decode cX12_goOn 158 = .ok (.iconst 3, 1) := by decide +kernel
theorem dX12_goOn_159 : decode cX12_goOn 159 = .ok (.if_icmp .ge 23, 3) := by decide +kernel
theorem dX12_goOn_162 : decode cX12_goOn 162 = .ok (.aload_n 0, 1) := by decide +kernel
theorem dX12_goOn_163 : decode cX12_goOn 163 = .ok (.bipush 10, 2) := by decide +kernel
theorem dX12_goOn_165 : decode cX12_goOn 165 = .ok (.aload_n 0, 1) := by decide +kernel
theorem dX12_goOn_166 : decode cX12_goOn 166 = .ok (.getfield 129, 3) := by decide +kernel
theorem dX12_goOn_169 : decode cX12_goOn 169 = .ok (.imul, 1) := by decide +kernel
theorem dX12_goOn_170 : decode cX12_goOn 170 = .ok (.aload_n 0, 1) := by decide +kernel
theorem dX12_goOn_171 : decode cX12_goOn 171 = .ok (.iload_n 2, 1) := by decide +kernel
theorem dX12_goOn_172 : decode cX12_goOn 172 = .ok (.invokevirtual 118, 3) := by decide +kernel
theorem dX12_goOn_175 : decode cX12_goOn 175 = .ok (.iadd, 1) := by decide +kernel
theorem dX12_goOn_176 : decode cX12_goOn 176 = .ok (.bipush 48, 2) := by decide +kernel
theorem dX12_goOn_178 : decode cX12_goOn 178 = .ok (.isub, 1) := by decide +kernel
theorem dX12_goOn_179 : decode cX12_goOn 179 = .ok (.putfield 129, 3) := by decide +kernel
theorem dX12_goOn_182 : decode cX12_goOn 182 = .ok (.iinc 2 1, 3) := by decide +kernel
theorem dX12_goOn_185 : decode cX12_goOn 185 = .ok (.goto (-39), 3) := by decide +kernel
theorem dX12_goOn_188 : decode cX12_goOn 188 = .ok (.aload_n 0, 1) := by decide +kernel
theorem dX12_goOn_189 : decode cX12_goOn 189 = .ok (.iload_n 2, 1) := by decide +kernel
theorem dX12_goOn_190 : decode cX12_goOn 190 = .ok (.iconst 3, 1) := by decide +kernel
theorem dX12_goOn_191 : decode cX12_goOn 191 = .ok (.if_icmp .le 7, 3) := by decide +kernel
theorem dX12_goOn_194 : decode cX12_goOn 194 = .ok (.iconst 4, 1) := by decide +kernel
theorem dX12_goOn_195 : decode cX12_goOn 195 = .ok (.goto 4, 3) := by decide +kernel
theorem dX12_goOn_198 : decode cX12_goOn 198 = .ok (.iconst 2, 1) := by decide +kernel
theorem dX12_goOn_199 : decode cX12_goOn 199 = .ok (.putfield 132, 3) := by decide +kernel
theorem dX12_goOn_202 : decode cX12_goOn 202 = .ok (.goto 37, 3) := by decide +kernel
theorem dX12_goOn_205 : decode cX12_goOn 205 = .ok (.aload_n 0, 1) := by decide +kernel
theorem dX12_goOn_206 : decode cX12_goOn 206 = .ok (.iload_n 1, 1) := by decide +kernel
theorem dX12_goOn_207 : decode cX12_goOn 207 = .ok (.bipush 59, 2) := by decide +kernel
theorem dX12_goOn_209 : decode cX12_goOn 209 = .ok (.if_icmp .eq 15, 3) := by decide +kernel
theorem dX12_goOn_212 : decode cX12_goOn 212 = .ok (.iload_n 1, 1) := by decide +kernel
theorem dX12_goOn_213 : decode cX12_goOn 213 = .ok (.bipush 40, 2) := by decide +kernel
theorem dX12_goOn_215 : decode cX12_goOn 215 = .ok (.if_icmp .eq 9, 3) := by decide +kernel
theorem dX12_goOn_218 : decode cX12_goOn 218 = .ok (.iload_n 1, 1) := by decide +kernel
theorem dX12_goOn_219 : decode cX12_goOn 219 = .ok (.bipush 41, 2) := by decide +kernel
theorem dX12_goOn_221 : decode cX12_goOn 221 = .ok (.if_icmp .ne 7, 3) := by decide +kernel
theorem dX12_goOn_224 : decode cX12_goOn 224 = .ok (.iconst 3, 1) := by decide +kernel
theorem dX12_goOn_225 : decode cX12_goOn 225 = .ok (.goto 4, 3) := by decide +kernel
theorem dX12_goOn_228 : decode cX12_goOn 228 = .ok (.iconst 4, 1) := by decide +kernel
theorem dX12_goOn_229 : decode cX12_goOn 229 = .ok (.putfield 132, 3) := by decide +kernel
theorem dX12_goOn_232 : decode cX12_goOn 232 = .ok (.aload_n 0, 1) := by decide +kernel
theorem dX12_goOn_233 : decode cX12_goOn 233 = .ok (.iload_n 1, 1) := by decide +kernel
theorem dX12_goOn_234 : decode cX12_goOn 234 = .ok (.putfield 129, 3) := by decide +kernel
theorem dX12_goOn_237 : decode cX12_goOn 237 = .ok (.iconst 1, 1) := by decide +kernel
theorem dX12_goOn_238 : decode cX12_goOn 238 = .ok (.istore_n 2, 1) := by decide +kernel
theorem dX12_goOn_239 : decode cX12_goOn 239 = .ok (.aload_n 0, 1) := by decide +kernel
theorem dX12_goOn_240 : decode cX12_goOn 240 = .ok (.dup, 1) := by decide +kernel
theorem dX12_goOn_241 : decode cX12_goOn 241 = .ok (.getfield 112, 3) := by decide +kernel
theorem dX12_goOn_244 : decode cX12_goOn 244 = .ok (.iload_n 2, 1) := by decide +kernel
theorem dX12_goOn_245 : decode cX12_goOn 245 = .ok (.iadd, 1) := by decide +kernel
theorem dX12_goOn_246 : decode cX12_goOn 246 = .ok (.putfield 112, 3) := by decide +kernel
theorem dX12_goOn_249 : decode cX12_goOn 249 = .ok (.return_, 1) := by decide +kernel
theorem dX12_wrong_0 : decode cX12_wrong 0 = .ok (.aload_n 0, 1) := by decide +kernel
theorem dX12_wrong_1 : decode cX12_wrong 1 = .ok (.getfield 142, 3) := by decide +kernel
theorem dX12_wrong_4 : decode cX12_wrong 4 = .ok (.ifCond .le 4, 3) := by decide +kernel
theorem dX12_wrong_7 : decode cX12_wrong 7 = .ok (.return_, 1) := by decide +kernel
theorem dX12_wrong_8 : decode cX12_wrong 8 = .ok (.aload_n 0, 1) := by decide +kernel
theorem dX12_wrong_9 : decode cX12_wrong 9 = .ok (.aload_n 0, 1) := by decide +kernel
theorem dX12_wrong_10 : decode cX12_wrong 10 = .ok (.getfield 132, 3) := by decide +kernel
theorem dX12_wrong_13 : decode cX12_wrong 13 = .ok (.iconst 4, 1) := by decide +kernel
theorem dX12_wrong_14 : decode cX12_wrong 14 = .ok (.if_icmp .ne 7, 3) := by decide +kernel
theorem dX12_wrong_17 : decode cX12_wrong 17 = .ok (.iconst 1, 1) := by decide +kernel
theorem dX12_wrong_18 : decode cX12_wrong 18 = .ok (.goto 4, 3) := by decide +kernel
theorem dX12_wrong_21 : decode cX12_wrong 21 = .ok (.iload_n 1, 1) := by decide +kernel
theorem dX12_wrong_22 : decode cX12_wrong 22 = .ok (.putfield 142, 3) := by decide +kernel
theorem dX12_wrong_25 : decode cX12_wrong 25 = .ok (.aload_n 0, 1) := by decide +kernel
theorem dX12_wrong_26 : decode cX12_wrong 26 = .ok (.aload_n 0, 1) := by decide +kernel
theorem dX12_wrong_27 : decode cX12_wrong 27 = .ok (.getfield 122, 3) := by decide +kernel
theorem dX12_wrong_30 : decode cX12_wrong 30 = .ok (.putfield 13, 3) := by decide +kernel
theorem dX12_wrong_33 : decode cX12_wrong 33 = .ok (.aload_n 0, 1) := by decide +kernel
theorem dX12_wrong_34 : decode cX12_wrong 34 = .ok (.aload_n 0, 1) := by decide +kernel
theorem dX12_wrong_35 : decode cX12_wrong 35 = .ok (.getfield 145, 3) := by decide +kernel
theorem dX12_wrong_38 : decode cX12_wrong 38 = .ok (.putfield 17, 3) := by decide +kernel
theorem dX12_wrong_41 : decode cX12_wrong 41 = .ok (.return_, 1) := by decide +kernel
theorem dX12_isGood_0 : decode cX12_isGood 0 = .ok (.aload_n 0, 1) := by decide +kernel
theorem dX12_isGood_1 : decode cX12_isGood 1 = .ok (.getfield 142, 3) := by decide +kernel
theorem dX12_isGood_4 : decode cX12_isGood 4 = .ok (.ifCond .ne 7, 3) := by decide +kernel
theorem dX12_isGood_7 : decode cX12_isGood 7 = .ok (.iconst 1, 1) := by decide +kernel
theorem dX12_isGood_8 : decode cX12_isGood 8 = .ok (.goto 4, 3) := by decide +kernel
theorem dX12_isGood_11 : decode cX12_isGood 11 = .ok (.iconst 0, 1) := by decide +kernel
theorem dX12_isGood_12 : decode cX12_isGood 12 = .ok (.ireturn, 1) := by decide +kernel
set_option maxRecDepth 20000 in
theorem ggX12_isWord_X12_isGood : GoodIn wsX12_isWord wsX12_isGood := goodIn_s _ [(7, 50)] rfl (by decide +kernel)
set_option maxRecDepth 20000 in
theorem gX12_isWord_X12_isGood : GoodIn wsX12_isWord (wsV RX12 148 RX12 yX12_isGood wsX12_isGood) := goodIn_app (goodIn_of _ (by decide +kernel)) ggX12_isWord_X12_isGood
theorem dX12_isWord_0 : decode cX12_isWord 0 = .ok (.aload_n 0, 1) := by decide +kernel
theorem dX12_isWord_1 : decode cX12_isWord 1 = .ok (.invokevirtual 148, 3) := by decide +kernel
theorem dX12_isWord_4 : decode cX12_isWord 4 = .ok (.ifCond .eq 24, 3) := by decide +kernel
theorem dX12_isWord_7 : decode cX12_isWord 7 = .ok (.aload_n 0, 1) := by decide +kernel
theorem dX12_isWord_8 : decode cX12_isWord 8 = .ok (.getfield 132, 3) := by decide +kernel
theorem dX12_isWord_11 : decode cX12_isWord 11 = .ok (.iconst 1, 1) := by decide +kernel
theorem dX12_isWord_12 : decode cX12_isWord 12 = .ok (.if_icmp .ne 16, 3) := by decide +kernel
theorem dX12_isWord_15 : decode cX12_isWord 15 = .ok (.aload_n 0, 1) := by decide +kernel
theorem dX12_isWord_16 : decode cX12_isWord 16 = .ok (.getfield 125, 3) := by decide +kernel
theorem dX12_isWord_19 : decode cX12_isWord 19 = .ok (.lload_n 1, 1) := by decide +kernel
theorem dX12_isWord_20 : decode cX12_isWord 20 = .ok (.lcmp, 1) := by decide +kernel
theorem dX12_isWord_21 : decode cX12_isWord 21 = .ok (.ifCond .ne 7, 3) := by decide +kernel
theorem dX12_isWord_24 : decode cX12_isWord 24 = .ok (.iconst 1, 1) := by decide +kernel
theorem dX12_isWord_25 : decode cX12_isWord 25 = .ok (.goto 4, 3) := by decide +kernel
theorem dX12_isWord_28 : decode cX12_isWord 28 = .ok (.iconst 0, 1) := by decide +kernel
theorem dX12_isWord_29 : decode cX12_isWord 29 = .ok (.ireturn, 1) := by decide +kernel
set_option maxRecDepth 20000 in
theorem ggX12_isSign_X12_isGood : GoodIn wsX12_isSign wsX12_isGood := goodIn_s _ [(7, 50)] rfl (by decide +kernel)
set_option maxRecDepth 20000 in
theorem gX12_isSign_X12_isGood : GoodIn wsX12_isSign (wsV RX12 148 RX12 yX12_isGood wsX12_isGood) := goodIn_app (goodIn_of _ (by decide +kernel)) ggX12_isSign_X12_isGood
theorem dX12_isSign_0 : decode cX12_isSign 0 = .ok (.aload_n 0, 1) := by decide +kernel
theorem dX12_isSign_1 : decode cX12_isSign 1 = .ok (.invokevirtual 148, 3) := by decide +kernel
theorem dX12_isSign_4 : decode cX12_isSign 4 = .ok (.ifCond .eq 23, 3) := by decide +kernel
theorem dX12_isSign_7 : decode cX12_isSign 7 = .ok (.aload_n 0, 1) := by decide +kernel
theorem dX12_isSign_8 : decode cX12_isSign 8 = .ok (.getfield 132, 3) := by decide +kernel
theorem dX12_isSign_11 : decode cX12_isSign 11 = .ok (.iconst 3, 1) := by decide +kernel
theorem dX12_isSign_12 : decode cX12_isSign 12 = .ok (.if_icmp .ne 15, 3) := by decide +kernel
theorem dX12_isSign_15 : decode cX12_isSign 15 = .ok (.aload_n 0, 1) := by decide +kernel
theorem dX12_isSign_16 : decode cX12_isSign 16 = .ok (.getfield 129, 3) := by decide +kernel
theorem dX12_isSign_19 : decode cX12_isSign 19 = .ok (.iload_n 1, 1) := by decide +kernel
theorem dX12_isSign_20 : decode cX12_isSign 20 = .ok (.if_icmp .ne 7, 3) := by decide +kernel
theorem dX12_isSign_23 : decode cX12_isSign 23 = .ok (.iconst 1, 1) := by decide +kernel
theorem dX12_isSign_24 : decode cX12_isSign 24 = .ok (.goto 4, 3) := by decide +kernel
theorem dX12_isSign_27 : decode cX12_isSign 27 = .ok (.iconst 0, 1) := by decide +kernel
theorem dX12_isSign_28 : decode cX12_isSign 28 = .ok (.ireturn, 1) := by decide +kernel
set_option maxRecDepth 20000 in
theorem ggX12_mustSign_X12_isGood : GoodIn wsX12_mustSign wsX12_isGood := goodIn_s _ [(5, 2), (39, 48)] rfl (by decide +kernel)
set_option maxRecDepth 20000 in
theorem gX12_mustSign_X12_isGood : GoodIn wsX12_mustSign (wsV RX12 148 RX12 yX12_isGood wsX12_isGood) := goodIn_app (goodIn_of _ (by decide +kernel)) ggX12_mustSign_X12_isGood
set_option maxRecDepth 20000 in
theorem ggX12_mustSign_X12_isSign : GoodIn wsX12_mustSign wsX12_isSign := goodIn_s _ [(10, 3), (1, 6), (39, 48)] rfl (by decide +kernel)
set_option maxRecDepth 20000 in
theorem gX12_mustSign_X12_isSign : GoodIn wsX12_mustSign (wsV RX12 152 RX12 yX12_isSign wsX12_isSign) := goodIn_app (goodIn_of _ (by decide +kernel)) ggX12_mustSign_X12_isSign
set_option maxRecDepth 20000 in
theorem ggX12_mustSign_X12_wrong : GoodIn wsX12_mustSign wsX12_wrong := goodIn_s _ [(16, 1), (6, 1), (11, 1), (17, 4), (39, 48)] rfl (by decide +kernel)
set_option maxRecDepth 20000 in
theorem gX12_mustSign_X12_wrong : GoodIn wsX12_mustSign (wsV RX12 155 RX12 yX12_wrong wsX12_wrong) := goodIn_app (goodIn_of _ (by decide +kernel)) ggX12_mustSign_X12_wrong
set_option maxRecDepth 20000 in
theorem ggX12_mustSign_X12_goOn : GoodIn wsX12_mustSign wsX12_goOn := goodIn_s _ [(24, 2), (17, 1), (26, 1), (12, 1), (11, 1), (27, 3), (4, 1), (30, 57)] rfl (by decide +kernel)
set_option maxRecDepth 20000 in
theorem gX12_mustSign_X12_goOn : GoodIn wsX12_mustSign (wsV RX12 158 RX12 yX12_goOn wsX12_goOn) := goodIn_app (goodIn_of _ (by decide +kernel)) ggX12_mustSign_X12_goOn
theorem dX12_mustSign_0 : decode cX12_mustSign 0 = .ok (.aload_n 0, 1) := by decide +kernel
theorem dX12_mustSign_1 : decode cX12_mustSign 1 = .ok (.invokevirtual 148, 3) := by decide +kernel
theorem dX12_mustSign_4 : decode cX12_mustSign 4 = .ok (.ifCond .eq 16, 3) := by decide +kernel
theorem dX12_mustSign_7 : decode cX12_mustSign 7 = .ok (.aload_n 0, 1) := by decide +kernel
theorem dX12_mustSign_8 : decode cX12_mustSign 8 = .ok (.iload_n 1, 1) := by decide +kernel
theorem dX12_mustSign_9 : decode cX12_mustSign 9 = .ok (.invokevirtual 152, 3) := by decide +kernel
theorem dX12_mustSign_12 : decode cX12_mustSign 12 = .ok (.ifCond .ne 8, 3) := by decide +kernel
theorem dX12_mustSign_15 : decode cX12_mustSign 15 = .ok (.aload_n 0, 1) := by decide +kernel
theorem dX12_mustSign_16 : decode cX12_mustSign 16 = .ok (.iconst 1, 1) := by decide +kernel
theorem dX12_mustSign_17 : decode cX12_mustSign 17 = .ok (.invokevirtual 155, 3) := by decide +kernel
theorem dX12_mustSign_20 : decode cX12_mustSign 20 = .ok (.aload_n 0, 1) := by decide +kernel
theorem dX12_mustSign_21 : decode cX12_mustSign 21 = .ok (.invokevirtual 148, 3) := by decide +kernel
theorem dX12_mustSign_24 : decode cX12_mustSign 24 = .ok (.ifCond .eq 7, 3) := by decide +kernel
theorem dX12_mustSign_27 : decode cX12_mustSign 27 = .ok (.aload_n 0, 1) := by decide +kernel
theorem dX12_mustSign_28 : decode cX12_mustSign 28 = .ok (.invokevirtual 158, 3) := by decide +kernel
theorem dX12_mustSign_31 : decode cX12_mustSign 31 = .ok (.return_, 1) := by decide +kernel
set_option maxRecDepth 20000 in
theorem ggX12_number_X12_isGood : GoodIn wsX12_number wsX12_isGood := goodIn_s _ [(7, 2), (38, 48)] rfl (by decide +kernel)
set_option maxRecDepth 20000 in
theorem gX12_number_X12_isGood : GoodIn wsX12_number (wsV RX12 148 RX12 yX12_isGood wsX12_isGood) := goodIn_app (goodIn_of _ (by decide +kernel)) ggX12_number_X12_isGood
set_option maxRecDepth 20000 in
theorem ggX12_number_X12_wrong : GoodIn wsX12_number wsX12_wrong := goodIn_s _ [(12, 1), (8, 1), (1, 1), (13, 4), (38, 48)] rfl (by decide +kernel)
set_option maxRecDepth 20000 in
theorem gX12_number_X12_wrong : GoodIn wsX12_number (wsV RX12 155 RX12 yX12_wrong wsX12_wrong) := goodIn_app (goodIn_of _ (by decide +kernel)) ggX12_number_X12_wrong
set_option maxRecDepth 20000 in
theorem ggX12_number_X12_isIn : GoodIn wsX12_number wsX12_isIn := goodIn_s _ [(19, 1)] rfl (by decide +kernel)
set_option maxRecDepth 20000 in
theorem gX12_number_X12_isIn : GoodIn wsX12_number (va_wsS RX12 108 yX12_isIn wsX12_isIn) := goodIn_app (goodIn_of _ (by decide +kernel)) ggX12_number_X12_isIn
set_option maxRecDepth 20000 in
theorem ggX12_number_X12_goOn : GoodIn wsX12_number wsX12_goOn := goodIn_s _ [(23, 2), (13, 1), (25, 1), (2, 1), (1, 1), (26, 3), (6, 1), (29, 57)] rfl (by decide +kernel)
set_option maxRecDepth 20000 in
theorem gX12_number_X12_goOn : GoodIn wsX12_number (wsV RX12 158 RX12 yX12_goOn wsX12_goOn) := goodIn_app (goodIn_of _ (by decide +kernel)) ggX12_number_X12_goOn
theorem dX12_number_0 : decode cX12_number 0 = .ok (.aload_n 0, 1) := by decide +kernel
theorem dX12_number_1 : decode cX12_number 1 = .ok (.invokevirtual 148, 3) := by decide +kernel
theorem dX12_number_4 : decode cX12_number 4 = .ok (.ifCond .eq 16, 3) := by decide +kernel
theorem dX12_number_7 : decode cX12_number 7 = .ok (.aload_n 0, 1) := by decide +kernel
theorem dX12_number_8 : decode cX12_number 8 = .ok (.getfield 132, 3) := by decide +kernel
theorem dX12_number_11 : decode cX12_number 11 = .ok (.iconst 2, 1) := by decide +kernel
theorem dX12_number_12 : decode cX12_number 12 = .ok (.if_icmp .eq 8, 3) := by decide +kernel
theorem dX12_number_15 : decode cX12_number 15 = .ok (.aload_n 0, 1) := by decide +kernel
theorem dX12_number_16 : decode cX12_number 16 = .ok (.iconst 1, 1) := by decide +kernel
theorem dX12_number_17 : decode cX12_number 17 = .ok (.invokevirtual 155, 3) := by decide +kernel
theorem dX12_number_20 : decode cX12_number 20 = .ok (.aload_n 0, 1) := by decide +kernel
theorem dX12_number_21 : decode cX12_number 21 = .ok (.getfield 129, 3) := by decide +kernel
theorem dX12_number_24 : decode cX12_number 24 = .ok (.istore_n 3, 1) := by decide +kernel
theorem dX12_number_25 : decode cX12_number 25 = .ok (.aload_n 0, 1) := by decide +kernel
theorem dX12_number_26 : decode cX12_number 26 = .ok (.invokevirtual 148, 3) := by decide +kernel
theorem dX12_number_29 : decode cX12_number 29 = .ok (.ifCond .eq 20, 3) := by decide +kernel
theorem dX12_number_32 : decode cX12_number 32 = .ok (.iload_n 3, 1) := by decide +kernel
theorem dX12_number_33 : decode cX12_number 33 = .ok (.i2l, 1) := by decide +kernel
theorem dX12_number_34 : decode cX12_number 34 = .ok (.iload_n 1, 1) := by decide +kernel
theorem dX12_number_35 : decode cX12_number 35 = .ok (.i2l, 1) := by decide +kernel
theorem dX12_number_36 : decode cX12_number 36 = .ok (.iload_n 2, 1) := by decide +kernel
theorem dX12_number_37 : decode cX12_number 37 = .ok (.i2l, 1) := by decide +kernel
theorem dX12_number_38 : decode cX12_number 38 = .ok (.invokestatic 108, 3) := by decide +kernel
theorem dX12_number_41 : decode cX12_number 41 = .ok (.ifCond .ne 8, 3) := by decide +kernel
theorem dX12_number_44 : decode cX12_number 44 = .ok (.aload_n 0, 1) := by decide +kernel
theorem dX12_number_45 : decode cX12_number 45 = .ok (.iconst 2, 1) := by decide +kernel
theorem dX12_number_46 : decode cX12_number 46 = .ok (.invokevirtual 155, 3) := by decide +kernel
theorem dX12_number_49 : decode cX12_number 49 = .ok (.aload_n 0, 1) := by decide +kernel
theorem dX12_number_50 : decode cX12_number 50 = .ok (.invokevirtual 148, 3) := by decide +kernel
theorem dX12_number_53 : decode cX12_number 53 = .ok (.ifCond .eq 7, 3) := by decide +kernel
theorem dX12_number_56 : decode cX12_number 56 = .ok (.aload_n 0, 1) := by decide +kernel
theorem dX12_number_57 : decode cX12_number 57 = .ok (.invokevirtual 158, 3) := by decide +kernel
theorem dX12_number_60 : decode cX12_number 60 = .ok (.iload_n 3, 1) := by decide +kernel
theorem dX12_number_61 : decode cX12_number 61 = .ok (.ireturn, 1) := by decide +kernel
set_option maxRecDepth 20000 in
theorem ggX12_beginsText_X12_goOn : GoodIn wsX12_beginsText wsX12_goOn := goodIn_s _ [(12, 1), (3, 1), (13, 7), (11, 1), (20, 1), (2, 1), (21, 55)] rfl (by decide +kernel)
set_option maxRecDepth 20000 in
theorem gX12_beginsText_X12_goOn : GoodIn wsX12_beginsText (wsV RX12 158 RX12 yX12_goOn wsX12_goOn) := goodIn_app (goodIn_of _ (by decide +kernel)) ggX12_beginsText_X12_goOn
theorem dX12_beginsText_0 : decode cX12_beginsText 0 = .ok (.aload_n 0, 1) := by decide +kernel
theorem dX12_beginsText_1 : decode cX12_beginsText 1 = .ok (.aload_n 0, 1) := by decide +kernel
theorem dX12_beginsText_2 : decode cX12_beginsText 2 = .ok (.getfield 97, 3) := by decide +kernel
theorem dX12_beginsText_5 : decode cX12_beginsText 5 = .ok (.putfield 115, 3) := by decide +kernel
theorem dX12_beginsText_8 : decode cX12_beginsText 8 = .ok (.aload_n 0, 1) := by decide +kernel
theorem dX12_beginsText_9 : decode cX12_beginsText 9 = .ok (.iconst 0, 1) := by decide +kernel
theorem dX12_beginsText_10 : decode cX12_beginsText 10 = .ok (.putfield 97, 3) := by decide +kernel
theorem dX12_beginsText_13 : decode cX12_beginsText 13 = .ok (.aload_n 0, 1) := by decide +kernel
theorem dX12_beginsText_14 : decode cX12_beginsText 14 = .ok (.iconst 0, 1) := by decide +kernel
theorem dX12_beginsText_15 : decode cX12_beginsText 15 = .ok (.putfield 112, 3) := by decide +kernel
theorem dX12_beginsText_18 : decode cX12_beginsText 18 = .ok (.aload_n 0, 1) := by decide +kernel
theorem dX12_beginsText_19 : decode cX12_beginsText 19 = .ok (.iconst 0, 1) := by decide +kernel
theorem dX12_beginsText_20 : decode cX12_beginsText 20 = .ok (.putfield 142, 3) := by decide +kernel
theorem dX12_beginsText_23 : decode cX12_beginsText 23 = .ok (.aload_n 0, 1) := by decide +kernel
theorem dX12_beginsText_24 : decode cX12_beginsText 24 = .ok (.iconst (-1), 1) := by decide +kernel
theorem dX12_beginsText_25 : decode cX12_beginsText 25 = .ok (.putfield 13, 3) := by decide +kernel
theorem dX12_beginsText_28 : decode cX12_beginsText 28 = .ok (.aload_n 0, 1) := by decide +kernel
theorem dX12_beginsText_29 : decode cX12_beginsText 29 = .ok (.iconst (-1), 1) := by decide +kernel
theorem dX12_beginsText_30 : decode cX12_beginsText 30 = .ok (.putfield 17, 3) := by decide +kernel
theorem dX12_beginsText_33 : decode cX12_beginsText 33 = .ok (.aload_n 0, 1) := by decide +kernel
theorem dX12_beginsText_34 : decode cX12_beginsText 34 = .ok (.iconst 0, 1) := by decide +kernel
theorem dX12_beginsText_35 : decode cX12_beginsText 35 = .ok (.putfield 145, 3) := by decide +kernel
theorem dX12_beginsText_38 : decode cX12_beginsText 38 = .ok (.aload_n 0, 1) := by decide +kernel
theorem dX12_beginsText_39 : decode cX12_beginsText 39 = .ok (.invokevirtual 158, 3) := by decide +kernel
theorem dX12_beginsText_42 : decode cX12_beginsText 42 = .ok (.return_, 1) := by decide +kernel
set_option maxRecDepth 20000 in
theorem ggX12_endsText_X12_goes : GoodIn wsX12_endsText wsX12_goes := goodIn_s _ [(11, 4), (10, 1), (15, 49)] rfl (by decide +kernel)
set_option maxRecDepth 20000 in
theorem gX12_endsText_X12_goes : GoodIn wsX12_endsText (wsV RX12 100 RX12 yX12_goes wsX12_goes) := goodIn_app (goodIn_of _ (by decide +kernel)) ggX12_endsText_X12_goes
theorem dX12_endsText_0 : decode cX12_endsText 0 = .ok (.aload_n 0, 1) := by decide +kernel
theorem dX12_endsText_1 : decode cX12_endsText 1 = .ok (.aload_n 0, 1) := by decide +kernel
theorem dX12_endsText_2 : decode cX12_endsText 2 = .ok (.getfield 142, 3) := by decide +kernel
theorem dX12_endsText_5 : decode cX12_endsText 5 = .ok (.putfield 161, 3) := by decide +kernel
theorem dX12_endsText_8 : decode cX12_endsText 8 = .ok (.aload_n 0, 1) := by decide +kernel
theorem dX12_endsText_9 : decode cX12_endsText 9 = .ok (.aload_n 0, 1) := by decide +kernel
theorem dX12_endsText_10 : decode cX12_endsText 10 = .ok (.getfield 13, 3) := by decide +kernel
theorem dX12_endsText_13 : decode cX12_endsText 13 = .ok (.putfield 20, 3) := by decide +kernel
theorem dX12_endsText_16 : decode cX12_endsText 16 = .ok (.aload_n 0, 1) := by decide +kernel
theorem dX12_endsText_17 : decode cX12_endsText 17 = .ok (.aload_n 0, 1) := by decide +kernel
theorem dX12_endsText_18 : decode cX12_endsText 18 = .ok (.getfield 17, 3) := by decide +kernel
theorem dX12_endsText_21 : decode cX12_endsText 21 = .ok (.putfield 23, 3) := by decide +kernel
theorem dX12_endsText_24 : decode cX12_endsText 24 = .ok (.aload_n 0, 1) := by decide +kernel
theorem dX12_endsText_25 : decode cX12_endsText 25 = .ok (.aload_n 0, 1) := by decide +kernel
theorem dX12_endsText_26 : decode cX12_endsText 26 = .ok (.getfield 142, 3) := by decide +kernel
theorem dX12_endsText_29 : decode cX12_endsText 29 = .ok (.ifCond .ne 7, 3) := by decide +kernel
theorem dX12_endsText_32 : decode cX12_endsText 32 = .ok (.iconst 1, 1) := by decide +kernel
theorem dX12_endsText_33 : decode cX12_endsText 33 = .ok (.goto 4, 3) := by decide +kernel
theorem dX12_endsText_36 : decode cX12_endsText 36 = .ok (.iconst 0, 1) := by decide +kernel
theorem dX12_endsText_37 : decode cX12_endsText 37 = .ok (.invokevirtual 100, 3) := by decide +kernel
theorem dX12_endsText_40 : decode cX12_endsText 40 = .ok (.ireturn, 1) := by decide +kernel
set_option maxRecDepth 20000 in
theorem ggX12_error_X12_isIn : GoodIn wsX12_error wsX12_isIn := goodIn_s _ [(8, 1)] rfl (by decide +kernel)
set_option maxRecDepth 20000 in
theorem gX12_error_X12_isIn : GoodIn wsX12_error (va_wsS RX12 108 yX12_isIn wsX12_isIn) := goodIn_app (goodIn_of _ (by decide +kernel)) ggX12_error_X12_isIn
set_option maxRecDepth 20000 in
theorem ggX12_error_X12_goes : GoodIn wsX12_error wsX12_goes := goodIn_s _ [(12, 4), (7, 1), (16, 49)] rfl (by decide +kernel)
set_option maxRecDepth 20000 in
theorem gX12_error_X12_goes : GoodIn wsX12_error (wsV RX12 100 RX12 yX12_goes wsX12_goes) := goodIn_app (goodIn_of _ (by decide +kernel)) ggX12_error_X12_goes
theorem dX12_error_0 : decode cX12_error 0 = .ok (.aload_n 0, 1) := by decide +kernel
theorem dX12_error_1 : decode cX12_error 1 = .ok (.iload_n 1, 1) := by decide +kernel
theorem dX12_error_2 : decode cX12_error 2 = .ok (.i2l, 1) := by decide +kernel
theorem dX12_error_3 : decode cX12_error 3 = .ok (.lconst 0, 1) := by decide +kernel
theorem dX12_error_4 : decode cX12_error 4 = .ok (.ldc2_w 164, 3) := by decide +kernel
theorem dX12_error_7 : decode cX12_error 7 = .ok (.invokestatic 108, 3) := by decide +kernel
theorem dX12_error_10 : decode cX12_error 10 = .ok (.invokevirtual 100, 3) := by decide +kernel
theorem dX12_error_13 : decode cX12_error 13 = .ok (.ifCond .ne 5, 3) := by decide +kernel
theorem dX12_error_16 : decode cX12_error 16 = .ok (.iconst 0, 1) := by decide +kernel
theorem dX12_error_17 : decode cX12_error 17 = .ok (.ireturn, 1) := by decide +kernel
theorem dX12_error_18 : decode cX12_error 18 = .ok (.iload_n 1, 1) := by decide +kernel
theorem dX12_error_19 : decode cX12_error 19 = .ok (.ifCond .ne 10, 3) := by decide +kernel
theorem dX12_error_22 : decode cX12_error 22 = .ok (.aload_n 0, 1) := by decide +kernel
theorem dX12_error_23 : decode cX12_error 23 = .ok (.getfield 161, 3) := by decide +kernel
theorem dX12_error_26 : decode cX12_error 26 = .ok (.goto 19, 3) := by decide +kernel
theorem dX12_error_29 : decode cX12_error 29 = .ok (.iload_n 1, 1) := by decide +kernel
theorem dX12_error_30 : decode cX12_error 30 = .ok (.iconst 1, 1) := by decide +kernel
theorem dX12_error_31 : decode cX12_error 31 = .ok (.if_icmp .ne 10, 3) := by decide +kernel
theorem dX12_error_34 : decode cX12_error 34 = .ok (.aload_n 0, 1) := by decide +kernel
theorem dX12_error_35 : decode cX12_error 35 = .ok (.getfield 20, 3) := by decide +kernel
theorem dX12_error_38 : decode cX12_error 38 = .ok (.goto 7, 3) := by decide +kernel
theorem dX12_error_41 : decode cX12_error 41 = .ok (.aload_n 0, 1) := by decide +kernel
theorem dX12_error_42 : decode cX12_error 42 = .ok (.getfield 23, 3) := by decide +kernel
theorem dX12_error_45 : decode cX12_error 45 = .ok (.ireturn, 1) := by decide +kernel
theorem dX12_clears_0 : decode cX12_clears 0 = .ok (.iconst 0, 1) := by decide +kernel
theorem dX12_clears_1 : decode cX12_clears 1 = .ok (.istore_n 1, 1) := by decide +kernel
theorem dX12_clears_2 : decode cX12_clears 2 = .ok (.iload_n 1, 1) := by decide +kernel
theorem dX12_clears_3 : decode cX12_clears 3 = .ok (.sipush 350, 3) := by decide +kernel
theorem dX12_clears_6 : decode cX12_clears 6 = .ok (.if_icmp .ge 16, 3) := by decide +kernel
theorem dX12_clears_9 : decode cX12_clears 9 = .ok (.aload_n 0, 1) := by decide +kernel
theorem dX12_clears_10 : decode cX12_clears 10 = .ok (.getfield 26, 3) := by decide +kernel
theorem dX12_clears_13 : decode cX12_clears 13 = .ok (.iload_n 1, 1) := by decide +kernel
theorem dX12_clears_14 : decode cX12_clears 14 = .ok (.iconst 0, 1) := by decide +kernel
theorem dX12_clears_15 : decode cX12_clears 15 = .ok (.iastore, 1) := by decide +kernel
theorem dX12_clears_16 : decode cX12_clears 16 = .ok (.iinc 1 1, 3) := by decide +kernel
theorem dX12_clears_19 : decode cX12_clears 19 = .ok (.goto (-17), 3) := by decide +kernel
theorem dX12_clears_22 : decode cX12_clears 22 = .ok (.aload_n 0, 1) := by decide +kernel
theorem dX12_clears_23 : decode cX12_clears 23 = .ok (.getfield 26, 3) := by decide +kernel
theorem dX12_clears_26 : decode cX12_clears 26 = .ok (.iconst 2, 1) := by decide +kernel
theorem dX12_clears_27 : decode cX12_clears 27 = .ok (.iconst 2, 1) := by decide +kernel
theorem dX12_clears_28 : decode cX12_clears 28 = .ok (.iastore, 1) := by decide +kernel
theorem dX12_clears_29 : decode cX12_clears 29 = .ok (.return_, 1) := by decide +kernel
theorem dX12_laysAside_0 : decode cX12_laysAside 0 = .ok (.iconst 0, 1) := by decide +kernel
theorem dX12_laysAside_1 : decode cX12_laysAside 1 = .ok (.istore_n 1, 1) := by decide +kernel
theorem dX12_laysAside_2 : decode cX12_laysAside 2 = .ok (.iload_n 1, 1) := by decide +kernel
theorem dX12_laysAside_3 : decode cX12_laysAside 3 = .ok (.sipush 350, 3) := by decide +kernel
theorem dX12_laysAside_6 : decode cX12_laysAside 6 = .ok (.if_icmp .ge 21, 3) := by decide +kernel
theorem dX12_laysAside_9 : decode cX12_laysAside 9 = .ok (.aload_n 0, 1) := by decide +kernel
theorem dX12_laysAside_10 : decode cX12_laysAside 10 = .ok (.getfield 35, 3) := by decide +kernel
theorem dX12_laysAside_13 : decode cX12_laysAside 13 = .ok (.iload_n 1, 1) := by decide +kernel
theorem dX12_laysAside_14 : decode cX12_laysAside 14 = .ok (.aload_n 0, 1) := by decide +kernel
theorem dX12_laysAside_15 : decode cX12_laysAside 15 = .ok (.getfield 26, 3) := by decide +kernel
theorem dX12_laysAside_18 : decode cX12_laysAside 18 = .ok (.iload_n 1, 1) := by decide +kernel
theorem dX12_laysAside_19 : decode cX12_laysAside 19 = .ok (.iaload, 1) := by decide +kernel
theorem dX12_laysAside_20 : decode cX12_laysAside 20 = .ok (.iastore, 1) := by decide +kernel
theorem dX12_laysAside_21 : decode cX12_laysAside 21 = .ok (.iinc 1 1, 3) := by decide +kernel
theorem dX12_laysAside_24 : decode cX12_laysAside 24 = .ok (.goto (-22), 3) := by decide +kernel
theorem dX12_laysAside_27 : decode cX12_laysAside 27 = .ok (.return_, 1) := by decide +kernel
theorem dX12_thinks_0 : decode cX12_thinks 0 = .ok (.iconst 0, 1) := by decide +kernel
theorem dX12_thinks_1 : decode cX12_thinks 1 = .ok (.istore_n 1, 1) := by decide +kernel
theorem dX12_thinks_2 : decode cX12_thinks 2 = .ok (.iload_n 1, 1) := by decide +kernel
theorem dX12_thinks_3 : decode cX12_thinks 3 = .ok (.sipush 350, 3) := by decide +kernel
theorem dX12_thinks_6 : decode cX12_thinks 6 = .ok (.if_icmp .ge 21, 3) := by decide +kernel
theorem dX12_thinks_9 : decode cX12_thinks 9 = .ok (.aload_n 0, 1) := by decide +kernel
theorem dX12_thinks_10 : decode cX12_thinks 10 = .ok (.getfield 38, 3) := by decide +kernel
theorem dX12_thinks_13 : decode cX12_thinks 13 = .ok (.iload_n 1, 1) := by decide +kernel
theorem dX12_thinks_14 : decode cX12_thinks 14 = .ok (.aload_n 0, 1) := by decide +kernel
theorem dX12_thinks_15 : decode cX12_thinks 15 = .ok (.getfield 26, 3) := by decide +kernel
theorem dX12_thinks_18 : decode cX12_thinks 18 = .ok (.iload_n 1, 1) := by decide +kernel
theorem dX12_thinks_19 : decode cX12_thinks 19 = .ok (.iaload, 1) := by decide +kernel
theorem dX12_thinks_20 : decode cX12_thinks 20 = .ok (.iastore, 1) := by decide +kernel
theorem dX12_thinks_21 : decode cX12_thinks 21 = .ok (.iinc 1 1, 3) := by decide +kernel
theorem dX12_thinks_24 : decode cX12_thinks 24 = .ok (.goto (-22), 3) := by decide +kernel
theorem dX12_thinks_27 : decode cX12_thinks 27 = .ok (.return_, 1) := by decide +kernel
theorem dX12_thinksNoMore_0 : decode cX12_thinksNoMore 0 = .ok (.iconst 0, 1) := by decide +kernel
theorem dX12_thinksNoMore_1 : decode cX12_thinksNoMore 1 = .ok (.istore_n 1, 1) := by decide +kernel
theorem dX12_thinksNoMore_2 : decode cX12_thinksNoMore 2 = .ok (.iload_n 1, 1) := by decide +kernel
theorem dX12_thinksNoMore_3 : decode cX12_thinksNoMore 3 = .ok (.sipush 350, 3) := by decide +kernel
theorem dX12_thinksNoMore_6 : decode cX12_thinksNoMore 6 = .ok (.if_icmp .ge 21, 3) := by decide +kernel
theorem dX12_thinksNoMore_9 : decode cX12_thinksNoMore 9 = .ok (.aload_n 0, 1) := by decide +kernel
theorem dX12_thinksNoMore_10 : decode cX12_thinksNoMore 10 = .ok (.getfield 26, 3) := by decide +kernel
theorem dX12_thinksNoMore_13 : decode cX12_thinksNoMore 13 = .ok (.iload_n 1, 1) := by decide +kernel
theorem dX12_thinksNoMore_14 : decode cX12_thinksNoMore 14 = .ok (.aload_n 0, 1) := by decide +kernel
theorem dX12_thinksNoMore_15 : decode cX12_thinksNoMore 15 = .ok (.getfield 38, 3) := by decide +kernel
theorem dX12_thinksNoMore_18 : decode cX12_thinksNoMore 18 = .ok (.iload_n 1, 1) := by decide +kernel
theorem dX12_thinksNoMore_19 : decode cX12_thinksNoMore 19 = .ok (.iaload, 1) := by decide +kernel
theorem dX12_thinksNoMore_20 : decode cX12_thinksNoMore 20 = .ok (.iastore, 1) := by decide +kernel
theorem dX12_thinksNoMore_21 : decode cX12_thinksNoMore 21 = .ok (.iinc 1 1, 3) := by decide +kernel
theorem dX12_thinksNoMore_24 : decode cX12_thinksNoMore 24 = .ok (.goto (-22), 3) := by decide +kernel
theorem dX12_thinksNoMore_27 : decode cX12_thinksNoMore 27 = .ok (.return_, 1) := by decide +kernel
theorem dX12_keeps_0 : decode cX12_keeps 0 = .ok (.aload_n 0, 1) := by decide +kernel
theorem dX12_keeps_1 : decode cX12_keeps 1 = .ok (.getfield 166, 3) := by decide +kernel
theorem dX12_keeps_4 : decode cX12_keeps 4 = .ok (.bipush 6, 2) := by decide +kernel
theorem dX12_keeps_6 : decode cX12_keeps 6 = .ok (.if_icmp .ne 49, 3) := by decide +kernel
theorem dX12_keeps_9 : decode cX12_keeps 9 = .ok (.aload_n 0, 1) := by decide +kernel
theorem dX12_keeps_10 : decode cX12_keeps 10 = .ok (.dup, 1) := by decide +kernel
theorem dX12_keeps_11 : decode cX12_keeps 11 = .ok (.getfield 166, 3) := by decide +kernel
theorem dX12_keeps_14 : decode cX12_keeps 14 = .ok (.iconst 1, 1) := by decide +kernel
theorem dX12_keeps_15 : decode cX12_keeps 15 = .ok (.isub, 1) := by decide +kernel
theorem dX12_keeps_16 : decode cX12_keeps 16 = .ok (.putfield 166, 3) := by decide +kernel
theorem dX12_keeps_19 : decode cX12_keeps 19 = .ok (.iconst 0, 1) := by decide +kernel
theorem dX12_keeps_20 : decode cX12_keeps 20 = .ok (.istore_n 1, 1) := by decide +kernel
theorem dX12_keeps_21 : decode cX12_keeps 21 = .ok (.iload_n 1, 1) := by decide +kernel
theorem dX12_keeps_22 : decode cX12_keeps 22 = .ok (.sipush 350, 3) := by decide +kernel
theorem dX12_keeps_25 : decode cX12_keeps 25 = .ok (.aload_n 0, 1) := by decide +kernel
theorem dX12_keeps_26 : decode cX12_keeps 26 = .ok (.getfield 166, 3) := by decide +kernel
theorem dX12_keeps_29 : decode cX12_keeps 29 = .ok (.imul, 1) := by decide +kernel
theorem dX12_keeps_30 : decode cX12_keeps 30 = .ok (.if_icmp .ge 25, 3) := by decide +kernel
theorem dX12_keeps_33 : decode cX12_keeps 33 = .ok (.aload_n 0, 1) := by decide +kernel
theorem dX12_keeps_34 : decode cX12_keeps 34 = .ok (.getfield 32, 3) := by decide +kernel
theorem dX12_keeps_37 : decode cX12_keeps 37 = .ok (.iload_n 1, 1) := by decide +kernel
theorem dX12_keeps_38 : decode cX12_keeps 38 = .ok (.aload_n 0, 1) := by decide +kernel
theorem dX12_keeps_39 : decode cX12_keeps 39 = .ok (.getfield 32, 3) := by decide +kernel
theorem dX12_keeps_42 : decode cX12_keeps 42 = .ok (.iload_n 1, 1) := by decide +kernel
theorem dX12_keeps_43 : decode cX12_keeps 43 = .ok (.sipush 350, 3) := by decide +kernel
theorem dX12_keeps_46 : decode cX12_keeps 46 = .ok (.iadd, 1) := by decide +kernel
theorem dX12_keeps_47 : decode cX12_keeps 47 = .ok (.iaload, 1) := by decide +kernel
theorem dX12_keeps_48 : decode cX12_keeps 48 = .ok (.iastore, 1) := by decide +kernel
theorem dX12_keeps_49 : decode cX12_keeps 49 = .ok (.iinc 1 1, 3) := by decide +kernel
theorem dX12_keeps_52 : decode cX12_keeps 52 = .ok (.goto (-31), 3) := by decide +kernel
theorem dX12_keeps_55 : decode cX12_keeps 55 = .ok (.iconst 0, 1) := by decide +kernel
theorem dX12_keeps_56 : decode cX12_keeps 56 = .ok (.istore_n 1, 1) := by decide +kernel
theorem dX12_keeps_57 : decode cX12_keeps 57 = .ok (.iload_n 1, 1) := by decide +kernel
theorem dX12_keeps_58 : decode cX12_keeps 58 = .ok (.sipush 350, 3) := by decide +kernel
theorem dX12_keeps_61 : decode cX12_keeps 61 = .ok (.if_icmp .ge 30, 3) := by decide +kernel
theorem dX12_keeps_64 : decode cX12_keeps 64 = .ok (.aload_n 0, 1) := by decide +kernel
theorem dX12_keeps_65 : decode cX12_keeps 65 = .ok (.getfield 32, 3) := by decide +kernel
theorem dX12_keeps_68 : decode cX12_keeps 68 = .ok (.sipush 350, 3) := by decide +kernel
theorem dX12_keeps_71 : decode cX12_keeps 71 = .ok (.aload_n 0, 1) := by decide +kernel
theorem dX12_keeps_72 : decode cX12_keeps 72 = .ok (.getfield 166, 3) := by decide +kernel
theorem dX12_keeps_75 : decode cX12_keeps 75 = .ok (.imul, 1) := by decide +kernel
theorem dX12_keeps_76 : decode cX12_keeps 76 = .ok (.iload_n 1, 1) := by decide +kernel
theorem dX12_keeps_77 : decode cX12_keeps 77 = .ok (.iadd, 1) := by decide +kernel
theorem dX12_keeps_78 : decode cX12_keeps 78 = .ok (.aload_n 0, 1) := by decide +kernel
theorem dX12_keeps_79 : decode cX12_keeps 79 = .ok (.getfield 35, 3) := by decide +kernel
theorem dX12_keeps_82 : decode cX12_keeps 82 = .ok (.iload_n 1, 1) := by decide +kernel
theorem dX12_keeps_83 : decode cX12_keeps 83 = .ok (.iaload, 1) := by decide +kernel
theorem dX12_keeps_84 : decode cX12_keeps 84 = .ok (.iastore, 1) := by decide +kernel
theorem dX12_keeps_85 : decode cX12_keeps 85 = .ok (.iinc 1 1, 3) := by decide +kernel
theorem dX12_keeps_88 : decode cX12_keeps 88 = .ok (.goto (-31), 3) := by decide +kernel
theorem dX12_keeps_91 : decode cX12_keeps 91 = .ok (.aload_n 0, 1) := by decide +kernel
theorem dX12_keeps_92 : decode cX12_keeps 92 = .ok (.dup, 1) := by decide +kernel
theorem dX12_keeps_93 : decode cX12_keeps 93 = .ok (.getfield 166, 3) := by decide +kernel
theorem dX12_keeps_96 : decode cX12_keeps 96 = .ok (.iconst 1, 1) := by decide +kernel
theorem dX12_keeps_97 : decode cX12_keeps 97 = .ok (.iadd, 1) := by decide +kernel
theorem dX12_keeps_98 : decode cX12_keeps 98 = .ok (.putfield 166, 3) := by decide +kernel
theorem dX12_keeps_101 : decode cX12_keeps 101 = .ok (.return_, 1) := by decide +kernel
theorem dX12_undo_0 : decode cX12_undo 0 = .ok (.aload_n 0, 1) := by decide +kernel
theorem dX12_undo_1 : decode cX12_undo 1 = .ok (.iconst 0, 1) := by decide +kernel
theorem dX12_undo_2 : decode cX12_undo 2 = .ok (.putfield 90, 3) := by decide +kernel
theorem dX12_undo_5 : decode cX12_undo 5 = .ok (.aload_n 0, 1) := by decide +kernel
theorem dX12_undo_6 : decode cX12_undo 6 = .ok (.getfield 166, 3) := by decide +kernel
theorem dX12_undo_9 : decode cX12_undo 9 = .ok (.ifCond .ne 5, 3) := by decide +kernel
theorem dX12_undo_12 : decode cX12_undo 12 = .ok (.iconst (-1), 1) := by decide +kernel
theorem dX12_undo_13 : decode cX12_undo 13 = .ok (.ireturn, 1) := by decide +kernel
theorem dX12_undo_14 : decode cX12_undo 14 = .ok (.aload_n 0, 1) := by decide +kernel
theorem dX12_undo_15 : decode cX12_undo 15 = .ok (.dup, 1) := by decide +kernel
theorem dX12_undo_16 : decode cX12_undo 16 = .ok (.getfield 166, 3) := by decide +kernel
theorem dX12_undo_19 : decode cX12_undo 19 = .ok (.iconst 1, 1) := by decide +kernel
theorem dX12_undo_20 : decode cX12_undo 20 = .ok (.isub, 1) := by decide +kernel
theorem dX12_undo_21 : decode cX12_undo 21 = .ok (.putfield 166, 3) := by decide +kernel
theorem dX12_undo_24 : decode cX12_undo 24 = .ok (.iconst 0, 1) := by decide +kernel
theorem dX12_undo_25 : decode cX12_undo 25 = .ok (.istore_n 1, 1) := by decide +kernel
theorem dX12_undo_26 : decode cX12_undo 26 = .ok (.iload_n 1, 1) := by decide +kernel
theorem dX12_undo_27 : decode cX12_undo 27 = .ok (.sipush 350, 3) := by decide +kernel
theorem dX12_undo_30 : decode cX12_undo 30 = .ok (.if_icmp .ge 30, 3) := by decide +kernel
theorem dX12_undo_33 : decode cX12_undo 33 = .ok (.aload_n 0, 1) := by decide +kernel
theorem dX12_undo_34 : decode cX12_undo 34 = .ok (.getfield 26, 3) := by decide +kernel
theorem dX12_undo_37 : decode cX12_undo 37 = .ok (.iload_n 1, 1) := by decide +kernel
theorem dX12_undo_38 : decode cX12_undo 38 = .ok (.aload_n 0, 1) := by decide +kernel
theorem dX12_undo_39 : decode cX12_undo 39 = .ok (.getfield 32, 3) := by decide +kernel
theorem dX12_undo_42 : decode cX12_undo 42 = .ok (.sipush 350, 3) := by decide +kernel
theorem dX12_undo_45 : decode cX12_undo 45 = .ok (.aload_n 0, 1) := by decide +kernel
theorem dX12_undo_46 : decode cX12_undo 46 = .ok (.getfield 166, 3) := by decide +kernel
theorem dX12_undo_49 : decode cX12_undo 49 = .ok (.imul, 1) := by decide +kernel
theorem dX12_undo_50 : decode cX12_undo 50 = .ok (.iload_n 1, 1) := by decide +kernel
theorem dX12_undo_51 : decode cX12_undo 51 = .ok (.iadd, 1) := by decide +kernel
theorem dX12_undo_52 : decode cX12_undo 52 = .ok (.iaload, 1) := by decide +kernel
theorem dX12_undo_53 : decode cX12_undo 53 = .ok (.iastore, 1) := by decide +kernel
theorem dX12_undo_54 : decode cX12_undo 54 = .ok (.iinc 1 1, 3) := by decide +kernel
theorem dX12_undo_57 : decode cX12_undo 57 = .ok (.goto (-31), 3) := by decide +kernel
theorem dX12_undo_60 : decode cX12_undo 60 = .ok (.aload_n 0, 1) := by decide +kernel
theorem dX12_undo_61 : decode cX12_undo 61 = .ok (.getfield 166, 3) := by decide +kernel
theorem dX12_undo_64 : decode cX12_undo 64 = .ok (.ireturn, 1) := by decide +kernel
set_option maxRecDepth 20000 in
theorem ggX12_save_X12_cutNow : GoodIn wsX12_save wsX12_cutNow := goodIn_s _ [(11, 1), (3, 1), (12, 3), (10, 1), (15, 49)] rfl (by decide +kernel)
set_option maxRecDepth 20000 in
theorem gX12_save_X12_cutNow : GoodIn wsX12_save (wsV RX12 173 RX12 yX12_cutNow wsX12_cutNow) := goodIn_app (goodIn_of _ (by decide +kernel)) ggX12_save_X12_cutNow
theorem dX12_save_0 : decode cX12_save 0 = .ok (.aload_n 0, 1) := by decide +kernel
theorem dX12_save_1 : decode cX12_save 1 = .ok (.iconst 0, 1) := by decide +kernel
theorem dX12_save_2 : decode cX12_save 2 = .ok (.putfield 90, 3) := by decide +kernel
theorem dX12_save_5 : decode cX12_save 5 = .ok (.iconst 0, 1) := by decide +kernel
theorem dX12_save_6 : decode cX12_save 6 = .ok (.istore_n 1, 1) := by decide +kernel
theorem dX12_save_7 : decode cX12_save 7 = .ok (.iload_n 1, 1) := by decide +kernel
theorem dX12_save_8 : decode cX12_save 8 = .ok (.sipush 350, 3) := by decide +kernel
theorem dX12_save_11 : decode cX12_save 11 = .ok (.if_icmp .ge 21, 3) := by decide +kernel
theorem dX12_save_14 : decode cX12_save 14 = .ok (.aload_n 0, 1) := by decide +kernel
theorem dX12_save_15 : decode cX12_save 15 = .ok (.getfield 29, 3) := by decide +kernel
theorem dX12_save_18 : decode cX12_save 18 = .ok (.iload_n 1, 1) := by decide +kernel
theorem dX12_save_19 : decode cX12_save 19 = .ok (.aload_n 0, 1) := by decide +kernel
theorem dX12_save_20 : decode cX12_save 20 = .ok (.getfield 26, 3) := by decide +kernel
theorem dX12_save_23 : decode cX12_save 23 = .ok (.iload_n 1, 1) := by decide +kernel
theorem dX12_save_24 : decode cX12_save 24 = .ok (.iaload, 1) := by decide +kernel
theorem dX12_save_25 : decode cX12_save 25 = .ok (.iastore, 1) := by decide +kernel
theorem dX12_save_26 : decode cX12_save 26 = .ok (.iinc 1 1, 3) := by decide +kernel
theorem dX12_save_29 : decode cX12_save 29 = .ok (.goto (-22), 3) := by decide +kernel
theorem dX12_save_32 : decode cX12_save 32 = .ok (.iconst 0, 1) := by decide +kernel
theorem dX12_save_33 : decode cX12_save 33 = .ok (.istore_n 1, 1) := by decide +kernel
theorem dX12_save_34 : decode cX12_save 34 = .ok (.iload_n 1, 1) := by decide +kernel
theorem dX12_save_35 : decode cX12_save 35 = .ok (.bipush 14, 2) := by decide +kernel
theorem dX12_save_37 : decode cX12_save 37 = .ok (.if_icmp .ge 21, 3) := by decide +kernel
theorem dX12_save_40 : decode cX12_save 40 = .ok (.aload_n 0, 1) := by decide +kernel
theorem dX12_save_41 : decode cX12_save 41 = .ok (.getfield 45, 3) := by decide +kernel
theorem dX12_save_44 : decode cX12_save 44 = .ok (.iload_n 1, 1) := by decide +kernel
theorem dX12_save_45 : decode cX12_save 45 = .ok (.aload_n 0, 1) := by decide +kernel
theorem dX12_save_46 : decode cX12_save 46 = .ok (.getfield 41, 3) := by decide +kernel
theorem dX12_save_49 : decode cX12_save 49 = .ok (.iload_n 1, 1) := by decide +kernel
theorem dX12_save_50 : decode cX12_save 50 = .ok (.laload, 1) := by decide +kernel
theorem dX12_save_51 : decode cX12_save 51 = .ok (.lastore, 1) := by decide +kernel
theorem dX12_save_52 : decode cX12_save 52 = .ok (.iinc 1 1, 3) := by decide +kernel
theorem dX12_save_55 : decode cX12_save 55 = .ok (.goto (-21), 3) := by decide +kernel
theorem dX12_save_58 : decode cX12_save 58 = .ok (.aload_n 0, 1) := by decide +kernel
theorem dX12_save_59 : decode cX12_save 59 = .ok (.iconst 1, 1) := by decide +kernel
theorem dX12_save_60 : decode cX12_save 60 = .ok (.putfield 169, 3) := by decide +kernel
theorem dX12_save_63 : decode cX12_save 63 = .ok (.aload_n 0, 1) := by decide +kernel
theorem dX12_save_64 : decode cX12_save 64 = .ok (.invokevirtual 173, 3) := by decide +kernel
theorem dX12_save_67 : decode cX12_save 67 = .ok (.ireturn, 1) := by decide +kernel
set_option maxRecDepth 20000 in
theorem ggX12_restore_X12_goes : GoodIn wsX12_restore wsX12_goes := goodIn_s _ [(11, 4), (10, 1), (15, 1), (24, 48)] rfl (by decide +kernel)
set_option maxRecDepth 20000 in
theorem gX12_restore_X12_goes : GoodIn wsX12_restore (wsV RX12 100 RX12 yX12_goes wsX12_goes) := goodIn_app (goodIn_of _ (by decide +kernel)) ggX12_restore_X12_goes
set_option maxRecDepth 20000 in
theorem ggX12_restore_X12_cutNow : GoodIn wsX12_restore wsX12_cutNow := goodIn_s _ [(19, 1), (2, 1), (20, 3), (10, 1), (23, 49)] rfl (by decide +kernel)
set_option maxRecDepth 20000 in
theorem gX12_restore_X12_cutNow : GoodIn wsX12_restore (wsV RX12 173 RX12 yX12_cutNow wsX12_cutNow) := goodIn_app (goodIn_of _ (by decide +kernel)) ggX12_restore_X12_cutNow
theorem dX12_restore_0 : decode cX12_restore 0 = .ok (.aload_n 0, 1) := by decide +kernel
theorem dX12_restore_1 : decode cX12_restore 1 = .ok (.aload_n 0, 1) := by decide +kernel
theorem dX12_restore_2 : decode cX12_restore 2 = .ok (.getfield 169, 3) := by decide +kernel
theorem dX12_restore_5 : decode cX12_restore 5 = .ok (.invokevirtual 100, 3) := by decide +kernel
theorem dX12_restore_8 : decode cX12_restore 8 = .ok (.ifCond .ne 5, 3) := by decide +kernel
theorem dX12_restore_11 : decode cX12_restore 11 = .ok (.iconst 0, 1) := by decide +kernel
theorem dX12_restore_12 : decode cX12_restore 12 = .ok (.ireturn, 1) := by decide +kernel
theorem dX12_restore_13 : decode cX12_restore 13 = .ok (.iconst 0, 1) := by decide +kernel
theorem dX12_restore_14 : decode cX12_restore 14 = .ok (.istore_n 1, 1) := by decide +kernel
theorem dX12_restore_15 : decode cX12_restore 15 = .ok (.iload_n 1, 1) := by decide +kernel
theorem dX12_restore_16 : decode cX12_restore 16 = .ok (.sipush 350, 3) := by decide +kernel
theorem dX12_restore_19 : decode cX12_restore 19 = .ok (.if_icmp .ge 21, 3) := by decide +kernel
theorem dX12_restore_22 : decode cX12_restore 22 = .ok (.aload_n 0, 1) := by decide +kernel
theorem dX12_restore_23 : decode cX12_restore 23 = .ok (.getfield 26, 3) := by decide +kernel
theorem dX12_restore_26 : decode cX12_restore 26 = .ok (.iload_n 1, 1) := by decide +kernel
theorem dX12_restore_27 : decode cX12_restore 27 = .ok (.aload_n 0, 1) := by decide +kernel
theorem dX12_restore_28 : decode cX12_restore 28 = .ok (.getfield 29, 3) := by decide +kernel
theorem dX12_restore_31 : decode cX12_restore 31 = .ok (.iload_n 1, 1) := by decide +kernel
theorem dX12_restore_32 : decode cX12_restore 32 = .ok (.iaload, 1) := by decide +kernel
theorem dX12_restore_33 : decode cX12_restore 33 = .ok (.iastore, 1) := by decide +kernel
theorem dX12_restore_34 : decode cX12_restore 34 = .ok (.iinc 1 1, 3) := by decide +kernel
theorem dX12_restore_37 : decode cX12_restore 37 = .ok (.goto (-22), 3) := by decide +kernel
theorem dX12_restore_40 : decode cX12_restore 40 = .ok (.iconst 0, 1) := by decide +kernel
theorem dX12_restore_41 : decode cX12_restore 41 = .ok (.istore_n 1, 1) := by decide +kernel
theorem dX12_restore_42 : decode cX12_restore 42 = .ok (.iload_n 1, 1) := by decide +kernel
theorem dX12_restore_43 : decode cX12_restore 43 = .ok (.bipush 14, 2) := by decide +kernel
theorem dX12_restore_45 : decode cX12_restore 45 = .ok (.if_icmp .ge 21, 3) := by decide +kernel
theorem dX12_restore_48 : decode cX12_restore 48 = .ok (.aload_n 0, 1) := by decide +kernel
theorem dX12_restore_49 : decode cX12_restore 49 = .ok (.getfield 41, 3) := by decide +kernel
theorem dX12_restore_52 : decode cX12_restore 52 = .ok (.iload_n 1, 1) := by decide +kernel
theorem dX12_restore_53 : decode cX12_restore 53 = .ok (.aload_n 0, 1) := by decide +kernel
theorem dX12_restore_54 : decode cX12_restore 54 = .ok (.getfield 45, 3) := by decide +kernel
theorem dX12_restore_57 : decode cX12_restore 57 = .ok (.iload_n 1, 1) := by decide +kernel
theorem dX12_restore_58 : decode cX12_restore 58 = .ok (.laload, 1) := by decide +kernel
theorem dX12_restore_59 : decode cX12_restore 59 = .ok (.lastore, 1) := by decide +kernel
theorem dX12_restore_60 : decode cX12_restore 60 = .ok (.iinc 1 1, 3) := by decide +kernel
theorem dX12_restore_63 : decode cX12_restore 63 = .ok (.goto (-21), 3) := by decide +kernel
theorem dX12_restore_66 : decode cX12_restore 66 = .ok (.aload_n 0, 1) := by decide +kernel
theorem dX12_restore_67 : decode cX12_restore 67 = .ok (.iconst 0, 1) := by decide +kernel
theorem dX12_restore_68 : decode cX12_restore 68 = .ok (.putfield 166, 3) := by decide +kernel
theorem dX12_restore_71 : decode cX12_restore 71 = .ok (.aload_n 0, 1) := by decide +kernel
theorem dX12_restore_72 : decode cX12_restore 72 = .ok (.invokevirtual 173, 3) := by decide +kernel
theorem dX12_restore_75 : decode cX12_restore 75 = .ok (.ireturn, 1) := by decide +kernel
set_option maxRecDepth 20000 in
theorem ggX12_isVertex_X12_isIn : GoodIn wsX12_isVertex wsX12_isIn := goodIn_s _ [(5, 1)] rfl (by decide +kernel)
set_option maxRecDepth 20000 in
theorem gX12_isVertex_X12_isIn : GoodIn wsX12_isVertex (va_wsS RX12 108 yX12_isIn wsX12_isIn) := goodIn_app (goodIn_of _ (by decide +kernel)) ggX12_isVertex_X12_isIn
theorem dX12_isVertex_0 : decode cX12_isVertex 0 = .ok (.iload_n 1, 1) := by decide +kernel
theorem dX12_isVertex_1 : decode cX12_isVertex 1 = .ok (.i2l, 1) := by decide +kernel
theorem dX12_isVertex_2 : decode cX12_isVertex 2 = .ok (.lconst 0, 1) := by decide +kernel
theorem dX12_isVertex_3 : decode cX12_isVertex 3 = .ok (.aload_n 0, 1) := by decide +kernel
theorem dX12_isVertex_4 : decode cX12_isVertex 4 = .ok (.getfield 26, 3) := by decide +kernel
theorem dX12_isVertex_7 : decode cX12_isVertex 7 = .ok (.iconst 0, 1) := by decide +kernel
theorem dX12_isVertex_8 : decode cX12_isVertex 8 = .ok (.iaload, 1) := by decide +kernel
theorem dX12_isVertex_9 : decode cX12_isVertex 9 = .ok (.iconst 1, 1) := by decide +kernel
theorem dX12_isVertex_10 : decode cX12_isVertex 10 = .ok (.isub, 1) := by decide +kernel
theorem dX12_isVertex_11 : decode cX12_isVertex 11 = .ok (.i2l, 1) := by decide +kernel
theorem dX12_isVertex_12 : decode cX12_isVertex 12 = .ok (.invokestatic 108, 3) := by decide +kernel
theorem dX12_isVertex_15 : decode cX12_isVertex 15 = .ok (.ireturn, 1) := by decide +kernel
set_option maxRecDepth 20000 in
theorem ggX12_isEdge_X12_isIn : GoodIn wsX12_isEdge wsX12_isIn := goodIn_s _ [(5, 1)] rfl (by decide +kernel)
set_option maxRecDepth 20000 in
theorem gX12_isEdge_X12_isIn : GoodIn wsX12_isEdge (va_wsS RX12 108 yX12_isIn wsX12_isIn) := goodIn_app (goodIn_of _ (by decide +kernel)) ggX12_isEdge_X12_isIn
theorem dX12_isEdge_0 : decode cX12_isEdge 0 = .ok (.iload_n 1, 1) := by decide +kernel
theorem dX12_isEdge_1 : decode cX12_isEdge 1 = .ok (.i2l, 1) := by decide +kernel
theorem dX12_isEdge_2 : decode cX12_isEdge 2 = .ok (.lconst 0, 1) := by decide +kernel
theorem dX12_isEdge_3 : decode cX12_isEdge 3 = .ok (.aload_n 0, 1) := by decide +kernel
theorem dX12_isEdge_4 : decode cX12_isEdge 4 = .ok (.getfield 26, 3) := by decide +kernel
theorem dX12_isEdge_7 : decode cX12_isEdge 7 = .ok (.iconst 1, 1) := by decide +kernel
theorem dX12_isEdge_8 : decode cX12_isEdge 8 = .ok (.iaload, 1) := by decide +kernel
theorem dX12_isEdge_9 : decode cX12_isEdge 9 = .ok (.iconst 1, 1) := by decide +kernel
theorem dX12_isEdge_10 : decode cX12_isEdge 10 = .ok (.isub, 1) := by decide +kernel
theorem dX12_isEdge_11 : decode cX12_isEdge 11 = .ok (.i2l, 1) := by decide +kernel
theorem dX12_isEdge_12 : decode cX12_isEdge 12 = .ok (.invokestatic 108, 3) := by decide +kernel
theorem dX12_isEdge_15 : decode cX12_isEdge 15 = .ok (.ireturn, 1) := by decide +kernel
set_option maxRecDepth 20000 in
theorem ggX12_isPart_X12_isIn : GoodIn wsX12_isPart wsX12_isIn := goodIn_s _ [(5, 1)] rfl (by decide +kernel)
set_option maxRecDepth 20000 in
theorem gX12_isPart_X12_isIn : GoodIn wsX12_isPart (va_wsS RX12 108 yX12_isIn wsX12_isIn) := goodIn_app (goodIn_of _ (by decide +kernel)) ggX12_isPart_X12_isIn
theorem dX12_isPart_0 : decode cX12_isPart 0 = .ok (.iload_n 1, 1) := by decide +kernel
theorem dX12_isPart_1 : decode cX12_isPart 1 = .ok (.i2l, 1) := by decide +kernel
theorem dX12_isPart_2 : decode cX12_isPart 2 = .ok (.lconst 0, 1) := by decide +kernel
theorem dX12_isPart_3 : decode cX12_isPart 3 = .ok (.aload_n 0, 1) := by decide +kernel
theorem dX12_isPart_4 : decode cX12_isPart 4 = .ok (.getfield 26, 3) := by decide +kernel
theorem dX12_isPart_7 : decode cX12_isPart 7 = .ok (.iconst 2, 1) := by decide +kernel
theorem dX12_isPart_8 : decode cX12_isPart 8 = .ok (.iaload, 1) := by decide +kernel
theorem dX12_isPart_9 : decode cX12_isPart 9 = .ok (.iconst 1, 1) := by decide +kernel
theorem dX12_isPart_10 : decode cX12_isPart 10 = .ok (.isub, 1) := by decide +kernel
theorem dX12_isPart_11 : decode cX12_isPart 11 = .ok (.i2l, 1) := by decide +kernel
theorem dX12_isPart_12 : decode cX12_isPart 12 = .ok (.invokestatic 108, 3) := by decide +kernel
theorem dX12_isPart_15 : decode cX12_isPart 15 = .ok (.ireturn, 1) := by decide +kernel
theorem dX12_groups_0 : decode cX12_groups 0 = .ok (.aload_n 0, 1) := by decide +kernel
theorem dX12_groups_1 : decode cX12_groups 1 = .ok (.getfield 26, 3) := by decide +kernel
theorem dX12_groups_4 : decode cX12_groups 4 = .ok (.bipush 105, 2) := by decide +kernel
theorem dX12_groups_6 : decode cX12_groups 6 = .ok (.aload_n 0, 1) := by decide +kernel
theorem dX12_groups_7 : decode cX12_groups 7 = .ok (.getfield 26, 3) := by decide +kernel
theorem dX12_groups_10 : decode cX12_groups 10 = .ok (.iconst 5, 1) := by decide +kernel
theorem dX12_groups_11 : decode cX12_groups 11 = .ok (.iaload, 1) := by decide +kernel
theorem dX12_groups_12 : decode cX12_groups 12 = .ok (.iadd, 1) := by decide +kernel
theorem dX12_groups_13 : decode cX12_groups 13 = .ok (.iaload, 1) := by decide +kernel
theorem dX12_groups_14 : decode cX12_groups 14 = .ok (.ireturn, 1) := by decide +kernel
set_option maxRecDepth 20000 in
theorem ggX12_isGroup_X12_groups : GoodIn wsX12_isGroup wsX12_groups := goodIn_s _ [(5, 2), (10, 48)] rfl (by decide +kernel)
set_option maxRecDepth 20000 in
theorem gX12_isGroup_X12_groups : GoodIn wsX12_isGroup (wsV RX12 177 RX12 yX12_groups wsX12_groups) := goodIn_app (goodIn_of _ (by decide +kernel)) ggX12_isGroup_X12_groups
set_option maxRecDepth 20000 in
theorem ggX12_isGroup_X12_isIn : GoodIn wsX12_isGroup wsX12_isIn := goodIn_s _ [(9, 1)] rfl (by decide +kernel)
set_option maxRecDepth 20000 in
theorem gX12_isGroup_X12_isIn : GoodIn wsX12_isGroup (va_wsS RX12 108 yX12_isIn wsX12_isIn) := goodIn_app (goodIn_of _ (by decide +kernel)) ggX12_isGroup_X12_isIn
theorem dX12_isGroup_0 : decode cX12_isGroup 0 = .ok (.iload_n 1, 1) := by decide +kernel
theorem dX12_isGroup_1 : decode cX12_isGroup 1 = .ok (.i2l, 1) := by decide +kernel
theorem dX12_isGroup_2 : decode cX12_isGroup 2 = .ok (.lconst 0, 1) := by decide +kernel
theorem dX12_isGroup_3 : decode cX12_isGroup 3 = .ok (.aload_n 0, 1) := by decide +kernel
theorem dX12_isGroup_4 : decode cX12_isGroup 4 = .ok (.invokevirtual 177, 3) := by decide +kernel
theorem dX12_isGroup_7 : decode cX12_isGroup 7 = .ok (.iconst 1, 1) := by decide +kernel
theorem dX12_isGroup_8 : decode cX12_isGroup 8 = .ok (.isub, 1) := by decide +kernel
theorem dX12_isGroup_9 : decode cX12_isGroup 9 = .ok (.i2l, 1) := by decide +kernel
theorem dX12_isGroup_10 : decode cX12_isGroup 10 = .ok (.invokestatic 108, 3) := by decide +kernel
theorem dX12_isGroup_13 : decode cX12_isGroup 13 = .ok (.ireturn, 1) := by decide +kernel
theorem dX12_groupAt_0 : decode cX12_groupAt 0 = .ok (.aload_n 0, 1) := by decide +kernel
theorem dX12_groupAt_1 : decode cX12_groupAt 1 = .ok (.getfield 26, 3) := by decide +kernel
theorem dX12_groupAt_4 : decode cX12_groupAt 4 = .ok (.bipush 35, 2) := by decide +kernel
theorem dX12_groupAt_6 : decode cX12_groupAt 6 = .ok (.bipush 14, 2) := by decide +kernel
theorem dX12_groupAt_8 : decode cX12_groupAt 8 = .ok (.aload_n 0, 1) := by decide +kernel
theorem dX12_groupAt_9 : decode cX12_groupAt 9 = .ok (.getfield 26, 3) := by decide +kernel
theorem dX12_groupAt_12 : decode cX12_groupAt 12 = .ok (.iconst 5, 1) := by decide +kernel
theorem dX12_groupAt_13 : decode cX12_groupAt 13 = .ok (.iaload, 1) := by decide +kernel
theorem dX12_groupAt_14 : decode cX12_groupAt 14 = .ok (.imul, 1) := by decide +kernel
theorem dX12_groupAt_15 : decode cX12_groupAt 15 = .ok (.iadd, 1) := by decide +kernel
theorem dX12_groupAt_16 : decode cX12_groupAt 16 = .ok (.iload_n 1, 1) := by decide +kernel
theorem dX12_groupAt_17 : decode cX12_groupAt 17 = .ok (.iadd, 1) := by decide +kernel
theorem dX12_groupAt_18 : decode cX12_groupAt 18 = .ok (.iaload, 1) := by decide +kernel
theorem dX12_groupAt_19 : decode cX12_groupAt 19 = .ok (.ireturn, 1) := by decide +kernel
theorem dX12_named_0 : decode cX12_named 0 = .ok (.iconst (-1), 1) := by decide +kernel
theorem dX12_named_1 : decode cX12_named 1 = .ok (.istore_n 1, 1) := by decide +kernel
theorem dX12_named_2 : decode cX12_named 2 = .ok (.iconst 0, 1) := by decide +kernel
theorem dX12_named_3 : decode cX12_named 3 = .ok (.istore_n 2, 1) := by decide +kernel
theorem dX12_named_4 : decode cX12_named 4 = .ok (.iload_n 2, 1) := by decide +kernel
theorem dX12_named_5 : decode cX12_named 5 = .ok (.aload_n 0, 1) := by decide +kernel
theorem dX12_named_6 : decode cX12_named 6 = .ok (.getfield 26, 3) := by decide +kernel
theorem dX12_named_9 : decode cX12_named 9 = .ok (.iconst 0, 1) := by decide +kernel
theorem dX12_named_10 : decode cX12_named 10 = .ok (.iaload, 1) := by decide +kernel
theorem dX12_named_11 : decode cX12_named 11 = .ok (.if_icmp .ge 29, 3) := by decide +kernel
theorem dX12_named_14 : decode cX12_named 14 = .ok (.aload_n 0, 1) := by decide +kernel
theorem dX12_named_15 : decode cX12_named 15 = .ok (.getfield 41, 3) := by decide +kernel
theorem dX12_named_18 : decode cX12_named 18 = .ok (.iload_n 2, 1) := by decide +kernel
theorem dX12_named_19 : decode cX12_named 19 = .ok (.laload, 1) := by decide +kernel
theorem dX12_named_20 : decode cX12_named 20 = .ok (.aload_n 0, 1) := by decide +kernel
theorem dX12_named_21 : decode cX12_named 21 = .ok (.getfield 125, 3) := by decide +kernel
theorem dX12_named_24 : decode cX12_named 24 = .ok (.lcmp, 1) := by decide +kernel
theorem dX12_named_25 : decode cX12_named 25 = .ok (.ifCond .ne 7, 3) := by decide +kernel
theorem dX12_named_28 : decode cX12_named 28 = .ok (.iload_n 2, 1) := by decide +kernel
theorem dX12_named_29 : decode cX12_named 29 = .ok (.goto 4, 3) := by decide +kernel
theorem dX12_named_32 : decode cX12_named 32 = .ok (.iload_n 1, 1) := by decide +kernel
theorem dX12_named_33 : decode cX12_named 33 = .ok (.istore_n 1, 1) := by decide +kernel
theorem dX12_named_34 : decode cX12_named 34 = .ok (.iinc 2 1, 3) := by decide +kernel
theorem dX12_named_37 : decode cX12_named 37 = .ok (.goto (-33), 3) := by decide +kernel
theorem dX12_named_40 : decode cX12_named 40 = .ok (.iload_n 1, 1) := by decide +kernel
theorem dX12_named_41 : decode cX12_named 41 = .ok (.ireturn, 1) := by decide +kernel
set_option maxRecDepth 20000 in
theorem ggX12_seenVertex_X12_isGood : GoodIn wsX12_seenVertex wsX12_isGood := goodIn_s _ [(6, 2), (23, 48)] rfl (by decide +kernel)
set_option maxRecDepth 20000 in
theorem gX12_seenVertex_X12_isGood : GoodIn wsX12_seenVertex (wsV RX12 148 RX12 yX12_isGood wsX12_isGood) := goodIn_app (goodIn_of _ (by decide +kernel)) ggX12_seenVertex_X12_isGood
set_option maxRecDepth 20000 in
theorem ggX12_seenVertex_X12_wrong : GoodIn wsX12_seenVertex wsX12_wrong := goodIn_s _ [(11, 1), (7, 1), (1, 1), (12, 4), (23, 48)] rfl (by decide +kernel)
set_option maxRecDepth 20000 in
theorem gX12_seenVertex_X12_wrong : GoodIn wsX12_seenVertex (wsV RX12 155 RX12 yX12_wrong wsX12_wrong) := goodIn_app (goodIn_of _ (by decide +kernel)) ggX12_seenVertex_X12_wrong
set_option maxRecDepth 20000 in
theorem ggX12_seenVertex_X12_named : GoodIn wsX12_seenVertex wsX12_named := goodIn_s _ [(19, 52)] rfl (by decide +kernel)
set_option maxRecDepth 20000 in
theorem gX12_seenVertex_X12_named : GoodIn wsX12_seenVertex (wsV RX12 180 RX12 yX12_named wsX12_named) := goodIn_app (goodIn_of _ (by decide +kernel)) ggX12_seenVertex_X12_named
theorem dX12_seenVertex_0 : decode cX12_seenVertex 0 = .ok (.aload_n 0, 1) := by decide +kernel
theorem dX12_seenVertex_1 : decode cX12_seenVertex 1 = .ok (.invokevirtual 148, 3) := by decide +kernel
theorem dX12_seenVertex_4 : decode cX12_seenVertex 4 = .ok (.ifCond .eq 16, 3) := by decide +kernel
theorem dX12_seenVertex_7 : decode cX12_seenVertex 7 = .ok (.aload_n 0, 1) := by decide +kernel
theorem dX12_seenVertex_8 : decode cX12_seenVertex 8 = .ok (.getfield 132, 3) := by decide +kernel
theorem dX12_seenVertex_11 : decode cX12_seenVertex 11 = .ok (.iconst 1, 1) := by decide +kernel
theorem dX12_seenVertex_12 : decode cX12_seenVertex 12 = .ok (.if_icmp .eq 8, 3) := by decide +kernel
theorem dX12_seenVertex_15 : decode cX12_seenVertex 15 = .ok (.aload_n 0, 1) := by decide +kernel
theorem dX12_seenVertex_16 : decode cX12_seenVertex 16 = .ok (.iconst 1, 1) := by decide +kernel
theorem dX12_seenVertex_17 : decode cX12_seenVertex 17 = .ok (.invokevirtual 155, 3) := by decide +kernel
theorem dX12_seenVertex_20 : decode cX12_seenVertex 20 = .ok (.aload_n 0, 1) := by decide +kernel
theorem dX12_seenVertex_21 : decode cX12_seenVertex 21 = .ok (.invokevirtual 180, 3) := by decide +kernel
theorem dX12_seenVertex_24 : decode cX12_seenVertex 24 = .ok (.istore_n 1, 1) := by decide +kernel
theorem dX12_seenVertex_25 : decode cX12_seenVertex 25 = .ok (.aload_n 0, 1) := by decide +kernel
theorem dX12_seenVertex_26 : decode cX12_seenVertex 26 = .ok (.invokevirtual 148, 3) := by decide +kernel
theorem dX12_seenVertex_29 : decode cX12_seenVertex 29 = .ok (.ifCond .eq 13, 3) := by decide +kernel
theorem dX12_seenVertex_32 : decode cX12_seenVertex 32 = .ok (.iload_n 1, 1) := by decide +kernel
theorem dX12_seenVertex_33 : decode cX12_seenVertex 33 = .ok (.iconst (-1), 1) := by decide +kernel
theorem dX12_seenVertex_34 : decode cX12_seenVertex 34 = .ok (.if_icmp .ne 8, 3) := by decide +kernel
theorem dX12_seenVertex_37 : decode cX12_seenVertex 37 = .ok (.aload_n 0, 1) := by decide +kernel
theorem dX12_seenVertex_38 : decode cX12_seenVertex 38 = .ok (.iconst 3, 1) := by decide +kernel
theorem dX12_seenVertex_39 : decode cX12_seenVertex 39 = .ok (.invokevirtual 155, 3) := by decide +kernel
theorem dX12_seenVertex_42 : decode cX12_seenVertex 42 = .ok (.iload_n 1, 1) := by decide +kernel
theorem dX12_seenVertex_43 : decode cX12_seenVertex 43 = .ok (.ireturn, 1) := by decide +kernel
set_option maxRecDepth 20000 in
theorem ggX12_toldVertex_X12_seenVertex : GoodIn wsX12_toldVertex wsX12_seenVertex := goodIn_s _ [(5, 5), (4, 1), (10, 17), (45, 48)] rfl (by decide +kernel)
set_option maxRecDepth 20000 in
theorem gX12_toldVertex_X12_seenVertex : GoodIn wsX12_toldVertex (wsV RX12 183 RX12 yX12_seenVertex wsX12_seenVertex) := goodIn_app (goodIn_of _ (by decide +kernel)) ggX12_toldVertex_X12_seenVertex
set_option maxRecDepth 20000 in
theorem ggX12_toldVertex_X12_isGood : GoodIn wsX12_toldVertex wsX12_isGood := goodIn_s _ [(10, 2), (45, 48)] rfl (by decide +kernel)
set_option maxRecDepth 20000 in
theorem gX12_toldVertex_X12_isGood : GoodIn wsX12_toldVertex (wsV RX12 148 RX12 yX12_isGood wsX12_isGood) := goodIn_app (goodIn_of _ (by decide +kernel)) ggX12_toldVertex_X12_isGood
set_option maxRecDepth 20000 in
theorem ggX12_toldVertex_X12_goOn : GoodIn wsX12_toldVertex wsX12_goOn := goodIn_s _ [(30, 2), (16, 1), (26, 1), (32, 1), (6, 1), (33, 3), (4, 1), (36, 57)] rfl (by decide +kernel)
set_option maxRecDepth 20000 in
theorem gX12_toldVertex_X12_goOn : GoodIn wsX12_toldVertex (wsV RX12 158 RX12 yX12_goOn wsX12_goOn) := goodIn_app (goodIn_of _ (by decide +kernel)) ggX12_toldVertex_X12_goOn
theorem dX12_toldVertex_0 : decode cX12_toldVertex 0 = .ok (.aload_n 0, 1) := by decide +kernel
theorem dX12_toldVertex_1 : decode cX12_toldVertex 1 = .ok (.invokevirtual 183, 3) := by decide +kernel
theorem dX12_toldVertex_4 : decode cX12_toldVertex 4 = .ok (.istore_n 1, 1) := by decide +kernel
theorem dX12_toldVertex_5 : decode cX12_toldVertex 5 = .ok (.aload_n 0, 1) := by decide +kernel
theorem dX12_toldVertex_6 : decode cX12_toldVertex 6 = .ok (.invokevirtual 148, 3) := by decide +kernel
theorem dX12_toldVertex_9 : decode cX12_toldVertex 9 = .ok (.ifCond .eq 7, 3) := by decide +kernel
theorem dX12_toldVertex_12 : decode cX12_toldVertex 12 = .ok (.aload_n 0, 1) := by decide +kernel
theorem dX12_toldVertex_13 : decode cX12_toldVertex 13 = .ok (.invokevirtual 158, 3) := by decide +kernel
theorem dX12_toldVertex_16 : decode cX12_toldVertex 16 = .ok (.iload_n 1, 1) := by decide +kernel
theorem dX12_toldVertex_17 : decode cX12_toldVertex 17 = .ok (.ireturn, 1) := by decide +kernel
set_option maxRecDepth 20000 in
theorem ggX12_readsVertex_X12_wrong : GoodIn wsX12_readsVertex wsX12_wrong := goodIn_s _ [(9, 2), (2, 1), (11, 4), (48, 48)] rfl (by decide +kernel)
set_option maxRecDepth 20000 in
theorem gX12_readsVertex_X12_wrong : GoodIn wsX12_readsVertex (wsV RX12 155 RX12 yX12_wrong wsX12_wrong) := goodIn_app (goodIn_of _ (by decide +kernel)) ggX12_readsVertex_X12_wrong
set_option maxRecDepth 20000 in
theorem ggX12_readsVertex_X12_isGood : GoodIn wsX12_readsVertex wsX12_isGood := goodIn_s _ [(18, 1), (10, 1), (48, 48)] rfl (by decide +kernel)
set_option maxRecDepth 20000 in
theorem gX12_readsVertex_X12_isGood : GoodIn wsX12_readsVertex (wsV RX12 148 RX12 yX12_isGood wsX12_isGood) := goodIn_app (goodIn_of _ (by decide +kernel)) ggX12_readsVertex_X12_isGood
set_option maxRecDepth 20000 in
theorem ggX12_readsVertex_X12_goOn : GoodIn wsX12_readsVertex wsX12_goOn := goodIn_s _ [(22, 2), (11, 1), (4, 1), (24, 1), (2, 1), (25, 3), (8, 1), (28, 9), (48, 48)] rfl (by decide +kernel)
set_option maxRecDepth 20000 in
theorem gX12_readsVertex_X12_goOn : GoodIn wsX12_readsVertex (wsV RX12 158 RX12 yX12_goOn wsX12_goOn) := goodIn_app (goodIn_of _ (by decide +kernel)) ggX12_readsVertex_X12_goOn
set_option maxRecDepth 20000 in
theorem ggX12_readsVertex_X12_named : GoodIn wsX12_readsVertex wsX12_named := goodIn_s _ [(40, 1), (1, 1), (3, 2), (48, 48)] rfl (by decide +kernel)
set_option maxRecDepth 20000 in
theorem gX12_readsVertex_X12_named : GoodIn wsX12_readsVertex (wsV RX12 180 RX12 yX12_named wsX12_named) := goodIn_app (goodIn_of _ (by decide +kernel)) ggX12_readsVertex_X12_named
set_option maxRecDepth 20000 in
theorem ggX12_readsVertex_X12_number : GoodIn wsX12_readsVertex wsX12_number := goodIn_s _ [(44, 1), (2, 1), (24, 1), (15, 3), (8, 1), (18, 1), (10, 1), (5, 3), (9, 1), (11, 4), (45, 3), (19, 5), (4, 1), (25, 12), (48, 48)] rfl (by decide +kernel)
set_option maxRecDepth 20000 in
theorem gX12_readsVertex_X12_number : GoodIn wsX12_readsVertex (wsV RX12 186 RX12 yX12_number wsX12_number) := goodIn_app (goodIn_of _ (by decide +kernel)) ggX12_readsVertex_X12_number
theorem dX12_readsVertex_0 : decode cX12_readsVertex 0 = .ok (.aload_n 0, 1) := by decide +kernel
theorem dX12_readsVertex_1 : decode cX12_readsVertex 1 = .ok (.getfield 26, 3) := by decide +kernel
theorem dX12_readsVertex_4 : decode cX12_readsVertex 4 = .ok (.iconst 0, 1) := by decide +kernel
theorem dX12_readsVertex_5 : decode cX12_readsVertex 5 = .ok (.iaload, 1) := by decide +kernel
theorem dX12_readsVertex_6 : decode cX12_readsVertex 6 = .ok (.istore_n 1, 1) := by decide +kernel
theorem dX12_readsVertex_7 : decode cX12_readsVertex 7 = .ok (.iload_n 1, 1) := by decide +kernel
theorem dX12_readsVertex_8 : decode cX12_readsVertex 8 = .ok (.bipush 14, 2) := by decide +kernel
theorem dX12_readsVertex_10 : decode cX12_readsVertex 10 = .ok (.if_icmp .ne 9, 3) := by decide +kernel
theorem dX12_readsVertex_13 : decode cX12_readsVertex 13 = .ok (.aload_n 0, 1) := by decide +kernel
theorem dX12_readsVertex_14 : decode cX12_readsVertex 14 = .ok (.bipush 6, 2) := by decide +kernel
theorem dX12_readsVertex_16 : decode cX12_readsVertex 16 = .ok (.invokevirtual 155, 3) := by decide +kernel
theorem dX12_readsVertex_19 : decode cX12_readsVertex 19 = .ok (.aload_n 0, 1) := by decide +kernel
theorem dX12_readsVertex_20 : decode cX12_readsVertex 20 = .ok (.invokevirtual 148, 3) := by decide +kernel
theorem dX12_readsVertex_23 : decode cX12_readsVertex 23 = .ok (.ifCond .eq 7, 3) := by decide +kernel
theorem dX12_readsVertex_26 : decode cX12_readsVertex 26 = .ok (.aload_n 0, 1) := by decide +kernel
theorem dX12_readsVertex_27 : decode cX12_readsVertex 27 = .ok (.invokevirtual 158, 3) := by decide +kernel
theorem dX12_readsVertex_30 : decode cX12_readsVertex 30 = .ok (.aload_n 0, 1) := by decide +kernel
theorem dX12_readsVertex_31 : decode cX12_readsVertex 31 = .ok (.invokevirtual 148, 3) := by decide +kernel
theorem dX12_readsVertex_34 : decode cX12_readsVertex 34 = .ok (.ifCond .eq 16, 3) := by decide +kernel
theorem dX12_readsVertex_37 : decode cX12_readsVertex 37 = .ok (.aload_n 0, 1) := by decide +kernel
theorem dX12_readsVertex_38 : decode cX12_readsVertex 38 = .ok (.getfield 132, 3) := by decide +kernel
theorem dX12_readsVertex_41 : decode cX12_readsVertex 41 = .ok (.iconst 1, 1) := by decide +kernel
theorem dX12_readsVertex_42 : decode cX12_readsVertex 42 = .ok (.if_icmp .eq 8, 3) := by decide +kernel
theorem dX12_readsVertex_45 : decode cX12_readsVertex 45 = .ok (.aload_n 0, 1) := by decide +kernel
theorem dX12_readsVertex_46 : decode cX12_readsVertex 46 = .ok (.iconst 1, 1) := by decide +kernel
theorem dX12_readsVertex_47 : decode cX12_readsVertex 47 = .ok (.invokevirtual 155, 3) := by decide +kernel
theorem dX12_readsVertex_50 : decode cX12_readsVertex 50 = .ok (.aload_n 0, 1) := by decide +kernel
theorem dX12_readsVertex_51 : decode cX12_readsVertex 51 = .ok (.invokevirtual 148, 3) := by decide +kernel
theorem dX12_readsVertex_54 : decode cX12_readsVertex 54 = .ok (.ifCond .eq 16, 3) := by decide +kernel
theorem dX12_readsVertex_57 : decode cX12_readsVertex 57 = .ok (.aload_n 0, 1) := by decide +kernel
theorem dX12_readsVertex_58 : decode cX12_readsVertex 58 = .ok (.invokevirtual 180, 3) := by decide +kernel
theorem dX12_readsVertex_61 : decode cX12_readsVertex 61 = .ok (.iconst (-1), 1) := by decide +kernel
theorem dX12_readsVertex_62 : decode cX12_readsVertex 62 = .ok (.if_icmp .eq 8, 3) := by decide +kernel
theorem dX12_readsVertex_65 : decode cX12_readsVertex 65 = .ok (.aload_n 0, 1) := by decide +kernel
theorem dX12_readsVertex_66 : decode cX12_readsVertex 66 = .ok (.iconst 3, 1) := by decide +kernel
theorem dX12_readsVertex_67 : decode cX12_readsVertex 67 = .ok (.invokevirtual 155, 3) := by decide +kernel
theorem dX12_readsVertex_70 : decode cX12_readsVertex 70 = .ok (.aload_n 0, 1) := by decide +kernel
theorem dX12_readsVertex_71 : decode cX12_readsVertex 71 = .ok (.invokevirtual 148, 3) := by decide +kernel
theorem dX12_readsVertex_74 : decode cX12_readsVertex 74 = .ok (.ifCond .ne 4, 3) := by decide +kernel
theorem dX12_readsVertex_77 : decode cX12_readsVertex 77 = .ok (.return_, 1) := by decide +kernel
theorem dX12_readsVertex_78 : decode cX12_readsVertex 78 = .ok (.aload_n 0, 1) := by decide +kernel
theorem dX12_readsVertex_79 : decode cX12_readsVertex 79 = .ok (.getfield 41, 3) := by decide +kernel
theorem dX12_readsVertex_82 : decode cX12_readsVertex 82 = .ok (.iload_n 1, 1) := by decide +kernel
theorem dX12_readsVertex_83 : decode cX12_readsVertex 83 = .ok (.aload_n 0, 1) := by decide +kernel
theorem dX12_readsVertex_84 : decode cX12_readsVertex 84 = .ok (.getfield 125, 3) := by decide +kernel
theorem dX12_readsVertex_87 : decode cX12_readsVertex 87 = .ok (.lastore, 1) := by decide +kernel
theorem dX12_readsVertex_88 : decode cX12_readsVertex 88 = .ok (.aload_n 0, 1) := by decide +kernel
theorem dX12_readsVertex_89 : decode cX12_readsVertex 89 = .ok (.invokevirtual 158, 3) := by decide +kernel
theorem dX12_readsVertex_92 : decode cX12_readsVertex 92 = .ok (.aload_n 0, 1) := by decide +kernel
theorem dX12_readsVertex_93 : decode cX12_readsVertex 93 = .ok (.iconst 1, 1) := by decide +kernel
theorem dX12_readsVertex_94 : decode cX12_readsVertex 94 = .ok (.bipush 99, 2) := by decide +kernel
theorem dX12_readsVertex_96 : decode cX12_readsVertex 96 = .ok (.invokevirtual 186, 3) := by decide +kernel
theorem dX12_readsVertex_99 : decode cX12_readsVertex 99 = .ok (.istore_n 2, 1) := by decide +kernel
theorem dX12_readsVertex_100 : decode cX12_readsVertex 100 = .ok (.aload_n 0, 1) := by decide +kernel
theorem dX12_readsVertex_101 : decode cX12_readsVertex 101 = .ok (.invokevirtual 148, 3) := by decide +kernel
theorem dX12_readsVertex_104 : decode cX12_readsVertex 104 = .ok (.ifCond .ne 4, 3) := by decide +kernel
theorem dX12_readsVertex_107 : decode cX12_readsVertex 107 = .ok (.return_, 1) := by decide +kernel
theorem dX12_readsVertex_108 : decode cX12_readsVertex 108 = .ok (.aload_n 0, 1) := by decide +kernel
theorem dX12_readsVertex_109 : decode cX12_readsVertex 109 = .ok (.getfield 26, 3) := by decide +kernel
theorem dX12_readsVertex_112 : decode cX12_readsVertex 112 = .ok (.bipush 7, 2) := by decide +kernel
theorem dX12_readsVertex_114 : decode cX12_readsVertex 114 = .ok (.iload_n 1, 1) := by decide +kernel
theorem dX12_readsVertex_115 : decode cX12_readsVertex 115 = .ok (.iadd, 1) := by decide +kernel
theorem dX12_readsVertex_116 : decode cX12_readsVertex 116 = .ok (.iload_n 2, 1) := by decide +kernel
theorem dX12_readsVertex_117 : decode cX12_readsVertex 117 = .ok (.iastore, 1) := by decide +kernel
theorem dX12_readsVertex_118 : decode cX12_readsVertex 118 = .ok (.aload_n 0, 1) := by decide +kernel
theorem dX12_readsVertex_119 : decode cX12_readsVertex 119 = .ok (.getfield 26, 3) := by decide +kernel
theorem dX12_readsVertex_122 : decode cX12_readsVertex 122 = .ok (.bipush 35, 2) := by decide +kernel
theorem dX12_readsVertex_124 : decode cX12_readsVertex 124 = .ok (.iload_n 1, 1) := by decide +kernel
theorem dX12_readsVertex_125 : decode cX12_readsVertex 125 = .ok (.iadd, 1) := by decide +kernel
theorem dX12_readsVertex_126 : decode cX12_readsVertex 126 = .ok (.iload_n 1, 1) := by decide +kernel
theorem dX12_readsVertex_127 : decode cX12_readsVertex 127 = .ok (.iastore, 1) := by decide +kernel
theorem dX12_readsVertex_128 : decode cX12_readsVertex 128 = .ok (.aload_n 0, 1) := by decide +kernel
theorem dX12_readsVertex_129 : decode cX12_readsVertex 129 = .ok (.getfield 26, 3) := by decide +kernel
theorem dX12_readsVertex_132 : decode cX12_readsVertex 132 = .ok (.iconst 0, 1) := by decide +kernel
theorem dX12_readsVertex_133 : decode cX12_readsVertex 133 = .ok (.dup2, 1) := by decide +kernel
theorem dX12_readsVertex_134 : decode cX12_readsVertex 134 = .ok (.iaload, 1) := by decide +kernel
theorem dX12_readsVertex_135 : decode cX12_readsVertex 135 = .ok (.iconst 1, 1) := by decide +kernel
theorem dX12_readsVertex_136 : decode cX12_readsVertex 136 = .ok (.iadd, 1) := by decide +kernel
theorem dX12_readsVertex_137 : decode cX12_readsVertex 137 = .ok (.iastore, 1) := by decide +kernel
theorem dX12_readsVertex_138 : decode cX12_readsVertex 138 = .ok (.aload_n 0, 1) := by decide +kernel
theorem dX12_readsVertex_139 : decode cX12_readsVertex 139 = .ok (.getfield 26, 3) := by decide +kernel
theorem dX12_readsVertex_142 : decode cX12_readsVertex 142 = .ok (.bipush 105, 2) := by decide +kernel
theorem dX12_readsVertex_144 : decode cX12_readsVertex 144 = .ok (.dup2, 1) := by decide +kernel
theorem dX12_readsVertex_145 : decode cX12_readsVertex 145 = .ok (.iaload, 1) := by decide +kernel
theorem dX12_readsVertex_146 : decode cX12_readsVertex 146 = .ok (.iconst 1, 1) := by decide +kernel
theorem dX12_readsVertex_147 : decode cX12_readsVertex 147 = .ok (.iadd, 1) := by decide +kernel
theorem dX12_readsVertex_148 : decode cX12_readsVertex 148 = .ok (.iastore, 1) := by decide +kernel
theorem dX12_readsVertex_149 : decode cX12_readsVertex 149 = .ok (.return_, 1) := by decide +kernel
theorem dX12_edgeOf_0 : decode cX12_edgeOf 0 = .ok (.iconst (-1), 1) := by decide +kernel
theorem dX12_edgeOf_1 : decode cX12_edgeOf 1 = .ok (.istore_n 3, 1) := by decide +kernel
theorem dX12_edgeOf_2 : decode cX12_edgeOf 2 = .ok (.iconst 0, 1) := by decide +kernel
theorem dX12_edgeOf_3 : decode cX12_edgeOf 3 = .ok (.istore 4, 2) := by decide +kernel
theorem dX12_edgeOf_5 : decode cX12_edgeOf 5 = .ok (.iload 4, 2) := by decide +kernel
theorem dX12_edgeOf_7 : decode cX12_edgeOf 7 = .ok (.aload_n 0, 1) := by decide +kernel
theorem dX12_edgeOf_8 : decode cX12_edgeOf 8 = .ok (.getfield 26, 3) := by decide +kernel
theorem dX12_edgeOf_11 : decode cX12_edgeOf 11 = .ok (.iconst 1, 1) := by decide +kernel
theorem dX12_edgeOf_12 : decode cX12_edgeOf 12 = .ok (.iaload, 1) := by decide +kernel
theorem dX12_edgeOf_13 : decode cX12_edgeOf 13 = .ok (.if_icmp .ge 74, 3) := by decide +kernel
theorem dX12_edgeOf_16 : decode cX12_edgeOf 16 = .ok (.aload_n 0, 1) := by decide +kernel
theorem dX12_edgeOf_17 : decode cX12_edgeOf 17 = .ok (.getfield 26, 3) := by decide +kernel
theorem dX12_edgeOf_20 : decode cX12_edgeOf 20 = .ok (.bipush 110, 2) := by decide +kernel
theorem dX12_edgeOf_22 : decode cX12_edgeOf 22 = .ok (.iload 4, 2) := by decide +kernel
theorem dX12_edgeOf_24 : decode cX12_edgeOf 24 = .ok (.iadd, 1) := by decide +kernel
theorem dX12_edgeOf_25 : decode cX12_edgeOf 25 = .ok (.iaload, 1) := by decide +kernel
theorem dX12_edgeOf_26 : decode cX12_edgeOf 26 = .ok (.iload_n 1, 1) := by decide +kernel
theorem dX12_edgeOf_27 : decode cX12_edgeOf 27 = .ok (.if_icmp .ne 18, 3) := by decide +kernel
theorem dX12_edgeOf_30 : decode cX12_edgeOf 30 = .ok (.aload_n 0, 1) := by decide +kernel
theorem dX12_edgeOf_31 : decode cX12_edgeOf 31 = .ok (.getfield 26, 3) := by decide +kernel
theorem dX12_edgeOf_34 : decode cX12_edgeOf 34 = .ok (.sipush 150, 3) := by decide +kernel
theorem dX12_edgeOf_37 : decode cX12_edgeOf 37 = .ok (.iload 4, 2) := by decide +kernel
theorem dX12_edgeOf_39 : decode cX12_edgeOf 39 = .ok (.iadd, 1) := by decide +kernel
theorem dX12_edgeOf_40 : decode cX12_edgeOf 40 = .ok (.iaload, 1) := by decide +kernel
theorem dX12_edgeOf_41 : decode cX12_edgeOf 41 = .ok (.iload_n 2, 1) := by decide +kernel
theorem dX12_edgeOf_42 : decode cX12_edgeOf 42 = .ok (.if_icmp .eq 32, 3) := by decide +kernel
theorem dX12_edgeOf_45 : decode cX12_edgeOf 45 = .ok (.aload_n 0, 1) := by decide +kernel
theorem dX12_edgeOf_46 : decode cX12_edgeOf 46 = .ok (.getfield 26, 3) := by decide +kernel
theorem dX12_edgeOf_49 : decode cX12_edgeOf 49 = .ok (.bipush 110, 2) := by decide +kernel
theorem dX12_edgeOf_51 : decode cX12_edgeOf 51 = .ok (.iload 4, 2) := by decide +kernel
theorem dX12_edgeOf_53 : decode cX12_edgeOf 53 = .ok (.iadd, 1) := by decide +kernel
theorem dX12_edgeOf_54 : decode cX12_edgeOf 54 = .ok (.iaload, 1) := by decide +kernel
theorem dX12_edgeOf_55 : decode cX12_edgeOf 55 = .ok (.iload_n 2, 1) := by decide +kernel
theorem dX12_edgeOf_56 : decode cX12_edgeOf 56 = .ok (.if_icmp .ne 23, 3) := by decide +kernel
theorem dX12_edgeOf_59 : decode cX12_edgeOf 59 = .ok (.aload_n 0, 1) := by decide +kernel
theorem dX12_edgeOf_60 : decode cX12_edgeOf 60 = .ok (.getfield 26, 3) := by decide +kernel
theorem dX12_edgeOf_63 : decode cX12_edgeOf 63 = .ok (.sipush 150, 3) := by decide +kernel
theorem dX12_edgeOf_66 : decode cX12_edgeOf 66 = .ok (.iload 4, 2) := by decide +kernel
theorem dX12_edgeOf_68 : decode cX12_edgeOf 68 = .ok (.iadd, 1) := by decide +kernel
theorem dX12_edgeOf_69 : decode cX12_edgeOf 69 = .ok (.iaload, 1) := by decide +kernel
theorem dX12_edgeOf_70 : decode cX12_edgeOf 70 = .ok (.iload_n 1, 1) := by decide +kernel
theorem dX12_edgeOf_71 : decode cX12_edgeOf 71 = .ok (.if_icmp .ne 8, 3) := by decide +kernel
theorem dX12_edgeOf_74 : decode cX12_edgeOf 74 = .ok (.iload 4, 2) := by decide +kernel
theorem dX12_edgeOf_76 : decode cX12_edgeOf 76 = .ok (.goto 4, 3) := by decide +kernel
theorem dX12_edgeOf_79 : decode cX12_edgeOf 79 = .ok (.iload_n 3, 1) := by decide +kernel
theorem dX12_edgeOf_80 : decode cX12_edgeOf 80 = .ok (.istore_n 3, 1) := by decide +kernel
theorem dX12_edgeOf_81 : decode cX12_edgeOf 81 = .ok (.iinc 4 1, 3) := by decide +kernel
theorem dX12_edgeOf_84 : decode cX12_edgeOf 84 = .ok (.goto (-79), 3) := by decide +kernel
theorem dX12_edgeOf_87 : decode cX12_edgeOf 87 = .ok (.iload_n 3, 1) := by decide +kernel
theorem dX12_edgeOf_88 : decode cX12_edgeOf 88 = .ok (.ireturn, 1) := by decide +kernel
set_option maxRecDepth 20000 in
theorem ggX12_readsEdge_X12_wrong : GoodIn wsX12_readsEdge wsX12_wrong := goodIn_s _ [(6, 7), (60, 48)] rfl (by decide +kernel)
set_option maxRecDepth 20000 in
theorem gX12_readsEdge_X12_wrong : GoodIn wsX12_readsEdge (wsV RX12 155 RX12 yX12_wrong wsX12_wrong) := goodIn_app (goodIn_of _ (by decide +kernel)) ggX12_readsEdge_X12_wrong
set_option maxRecDepth 20000 in
theorem ggX12_readsEdge_X12_isGood : GoodIn wsX12_readsEdge wsX12_isGood := goodIn_s _ [(16, 1), (7, 1), (60, 48)] rfl (by decide +kernel)
set_option maxRecDepth 20000 in
theorem gX12_readsEdge_X12_isGood : GoodIn wsX12_readsEdge (wsV RX12 148 RX12 yX12_isGood wsX12_isGood) := goodIn_app (goodIn_of _ (by decide +kernel)) ggX12_readsEdge_X12_isGood
set_option maxRecDepth 20000 in
theorem ggX12_readsEdge_X12_goOn : GoodIn wsX12_readsEdge wsX12_goOn := goodIn_s _ [(20, 2), (9, 1), (22, 2), (8, 1), (24, 3), (5, 1), (27, 9), (60, 48)] rfl (by decide +kernel)
set_option maxRecDepth 20000 in
theorem gX12_readsEdge_X12_goOn : GoodIn wsX12_readsEdge (wsV RX12 158 RX12 yX12_goOn wsX12_goOn) := goodIn_app (goodIn_of _ (by decide +kernel)) ggX12_readsEdge_X12_goOn
set_option maxRecDepth 20000 in
theorem ggX12_readsEdge_X12_toldVertex : GoodIn wsX12_readsEdge wsX12_toldVertex := goodIn_s _ [(39, 4), (5, 1), (43, 1), (8, 1), (13, 4), (7, 1), (2, 3), (6, 1), (9, 4), (44, 4), (1, 1), (48, 1), (22, 1), (17, 5), (23, 13), (60, 48)] rfl (by decide +kernel)
set_option maxRecDepth 20000 in
theorem gX12_readsEdge_X12_toldVertex : GoodIn wsX12_readsEdge (wsV RX12 190 RX12 yX12_toldVertex wsX12_toldVertex) := goodIn_app (goodIn_of _ (by decide +kernel)) ggX12_readsEdge_X12_toldVertex
set_option maxRecDepth 20000 in
theorem ggX12_readsEdge_X12_seenVertex : GoodIn wsX12_readsEdge wsX12_seenVertex := goodIn_s _ [(43, 1), (8, 1), (13, 3), (5, 1), (16, 1), (7, 1), (2, 3), (6, 1), (9, 4), (44, 4), (1, 1), (48, 1), (22, 1), (60, 48)] rfl (by decide +kernel)
set_option maxRecDepth 20000 in
theorem gX12_readsEdge_X12_seenVertex : GoodIn wsX12_readsEdge (wsV RX12 183 RX12 yX12_seenVertex wsX12_seenVertex) := goodIn_app (goodIn_of _ (by decide +kernel)) ggX12_readsEdge_X12_seenVertex
set_option maxRecDepth 20000 in
theorem ggX12_readsEdge_X12_edgeOf : GoodIn wsX12_readsEdge wsX12_edgeOf := goodIn_s _ [(52, 1), (1, 1), (60, 48)] rfl (by decide +kernel)
set_option maxRecDepth 20000 in
theorem gX12_readsEdge_X12_edgeOf : GoodIn wsX12_readsEdge (wsV RX12 193 RX12 yX12_edgeOf wsX12_edgeOf) := goodIn_app (goodIn_of _ (by decide +kernel)) ggX12_readsEdge_X12_edgeOf
set_option maxRecDepth 20000 in
theorem ggX12_readsEdge_X12_number : GoodIn wsX12_readsEdge wsX12_number := goodIn_s _ [(56, 1), (8, 1), (23, 1), (13, 3), (5, 1), (16, 1), (7, 1), (2, 3), (6, 1), (9, 4), (57, 3), (17, 6), (24, 12), (60, 48)] rfl (by decide +kernel)
set_option maxRecDepth 20000 in
theorem gX12_readsEdge_X12_number : GoodIn wsX12_readsEdge (wsV RX12 186 RX12 yX12_number wsX12_number) := goodIn_app (goodIn_of _ (by decide +kernel)) ggX12_readsEdge_X12_number
theorem dX12_readsEdge_0 : decode cX12_readsEdge 0 = .ok (.aload_n 0, 1) := by decide +kernel
theorem dX12_readsEdge_1 : decode cX12_readsEdge 1 = .ok (.getfield 26, 3) := by decide +kernel
theorem dX12_readsEdge_4 : decode cX12_readsEdge 4 = .ok (.iconst 1, 1) := by decide +kernel
theorem dX12_readsEdge_5 : decode cX12_readsEdge 5 = .ok (.iaload, 1) := by decide +kernel
theorem dX12_readsEdge_6 : decode cX12_readsEdge 6 = .ok (.istore_n 1, 1) := by decide +kernel
theorem dX12_readsEdge_7 : decode cX12_readsEdge 7 = .ok (.iload_n 1, 1) := by decide +kernel
theorem dX12_readsEdge_8 : decode cX12_readsEdge 8 = .ok (.bipush 40, 2) := by decide +kernel
theorem dX12_readsEdge_10 : decode cX12_readsEdge 10 = .ok (.if_icmp .ne 9, 3) := by decide +kernel
theorem dX12_readsEdge_13 : decode cX12_readsEdge 13 = .ok (.aload_n 0, 1) := by decide +kernel
theorem dX12_readsEdge_14 : decode cX12_readsEdge 14 = .ok (.bipush 6, 2) := by decide +kernel
theorem dX12_readsEdge_16 : decode cX12_readsEdge 16 = .ok (.invokevirtual 155, 3) := by decide +kernel
theorem dX12_readsEdge_19 : decode cX12_readsEdge 19 = .ok (.aload_n 0, 1) := by decide +kernel
theorem dX12_readsEdge_20 : decode cX12_readsEdge 20 = .ok (.invokevirtual 148, 3) := by decide +kernel
theorem dX12_readsEdge_23 : decode cX12_readsEdge 23 = .ok (.ifCond .eq 7, 3) := by decide +kernel
theorem dX12_readsEdge_26 : decode cX12_readsEdge 26 = .ok (.aload_n 0, 1) := by decide +kernel
theorem dX12_readsEdge_27 : decode cX12_readsEdge 27 = .ok (.invokevirtual 158, 3) := by decide +kernel
theorem dX12_readsEdge_30 : decode cX12_readsEdge 30 = .ok (.aload_n 0, 1) := by decide +kernel
theorem dX12_readsEdge_31 : decode cX12_readsEdge 31 = .ok (.invokevirtual 190, 3) := by decide +kernel
theorem dX12_readsEdge_34 : decode cX12_readsEdge 34 = .ok (.istore_n 2, 1) := by decide +kernel
theorem dX12_readsEdge_35 : decode cX12_readsEdge 35 = .ok (.aload_n 0, 1) := by decide +kernel
theorem dX12_readsEdge_36 : decode cX12_readsEdge 36 = .ok (.invokevirtual 183, 3) := by decide +kernel
theorem dX12_readsEdge_39 : decode cX12_readsEdge 39 = .ok (.istore_n 3, 1) := by decide +kernel
theorem dX12_readsEdge_40 : decode cX12_readsEdge 40 = .ok (.aload_n 0, 1) := by decide +kernel
theorem dX12_readsEdge_41 : decode cX12_readsEdge 41 = .ok (.invokevirtual 148, 3) := by decide +kernel
theorem dX12_readsEdge_44 : decode cX12_readsEdge 44 = .ok (.ifCond .eq 13, 3) := by decide +kernel
theorem dX12_readsEdge_47 : decode cX12_readsEdge 47 = .ok (.iload_n 2, 1) := by decide +kernel
theorem dX12_readsEdge_48 : decode cX12_readsEdge 48 = .ok (.iload_n 3, 1) := by decide +kernel
theorem dX12_readsEdge_49 : decode cX12_readsEdge 49 = .ok (.if_icmp .ne 8, 3) := by decide +kernel
theorem dX12_readsEdge_52 : decode cX12_readsEdge 52 = .ok (.aload_n 0, 1) := by decide +kernel
theorem dX12_readsEdge_53 : decode cX12_readsEdge 53 = .ok (.iconst 3, 1) := by decide +kernel
theorem dX12_readsEdge_54 : decode cX12_readsEdge 54 = .ok (.invokevirtual 155, 3) := by decide +kernel
theorem dX12_readsEdge_57 : decode cX12_readsEdge 57 = .ok (.aload_n 0, 1) := by decide +kernel
theorem dX12_readsEdge_58 : decode cX12_readsEdge 58 = .ok (.invokevirtual 148, 3) := by decide +kernel
theorem dX12_readsEdge_61 : decode cX12_readsEdge 61 = .ok (.ifCond .eq 18, 3) := by decide +kernel
theorem dX12_readsEdge_64 : decode cX12_readsEdge 64 = .ok (.aload_n 0, 1) := by decide +kernel
theorem dX12_readsEdge_65 : decode cX12_readsEdge 65 = .ok (.iload_n 2, 1) := by decide +kernel
theorem dX12_readsEdge_66 : decode cX12_readsEdge 66 = .ok (.iload_n 3, 1) := by decide +kernel
theorem dX12_readsEdge_67 : decode cX12_readsEdge 67 = .ok (.invokevirtual 193, 3) := by decide +kernel
theorem dX12_readsEdge_70 : decode cX12_readsEdge 70 = .ok (.iconst (-1), 1) := by decide +kernel
theorem dX12_readsEdge_71 : decode cX12_readsEdge 71 = .ok (.if_icmp .eq 8, 3) := by decide +kernel
theorem dX12_readsEdge_74 : decode cX12_readsEdge 74 = .ok (.aload_n 0, 1) := by decide +kernel
theorem dX12_readsEdge_75 : decode cX12_readsEdge 75 = .ok (.iconst 4, 1) := by decide +kernel
theorem dX12_readsEdge_76 : decode cX12_readsEdge 76 = .ok (.invokevirtual 155, 3) := by decide +kernel
theorem dX12_readsEdge_79 : decode cX12_readsEdge 79 = .ok (.aload_n 0, 1) := by decide +kernel
theorem dX12_readsEdge_80 : decode cX12_readsEdge 80 = .ok (.invokevirtual 148, 3) := by decide +kernel
theorem dX12_readsEdge_83 : decode cX12_readsEdge 83 = .ok (.ifCond .eq 7, 3) := by decide +kernel
theorem dX12_readsEdge_86 : decode cX12_readsEdge 86 = .ok (.aload_n 0, 1) := by decide +kernel
theorem dX12_readsEdge_87 : decode cX12_readsEdge 87 = .ok (.invokevirtual 158, 3) := by decide +kernel
theorem dX12_readsEdge_90 : decode cX12_readsEdge 90 = .ok (.aload_n 0, 1) := by decide +kernel
theorem dX12_readsEdge_91 : decode cX12_readsEdge 91 = .ok (.iconst 1, 1) := by decide +kernel
theorem dX12_readsEdge_92 : decode cX12_readsEdge 92 = .ok (.bipush 99, 2) := by decide +kernel
theorem dX12_readsEdge_94 : decode cX12_readsEdge 94 = .ok (.invokevirtual 186, 3) := by decide +kernel
theorem dX12_readsEdge_97 : decode cX12_readsEdge 97 = .ok (.istore 4, 2) := by decide +kernel
theorem dX12_readsEdge_99 : decode cX12_readsEdge 99 = .ok (.aload_n 0, 1) := by decide +kernel
theorem dX12_readsEdge_100 : decode cX12_readsEdge 100 = .ok (.invokevirtual 148, 3) := by decide +kernel
theorem dX12_readsEdge_103 : decode cX12_readsEdge 103 = .ok (.ifCond .ne 4, 3) := by decide +kernel
theorem dX12_readsEdge_106 : decode cX12_readsEdge 106 = .ok (.return_, 1) := by decide +kernel
theorem dX12_readsEdge_107 : decode cX12_readsEdge 107 = .ok (.aload_n 0, 1) := by decide +kernel
theorem dX12_readsEdge_108 : decode cX12_readsEdge 108 = .ok (.getfield 26, 3) := by decide +kernel
theorem dX12_readsEdge_111 : decode cX12_readsEdge 111 = .ok (.bipush 110, 2) := by decide +kernel
theorem dX12_readsEdge_113 : decode cX12_readsEdge 113 = .ok (.iload_n 1, 1) := by decide +kernel
theorem dX12_readsEdge_114 : decode cX12_readsEdge 114 = .ok (.iadd, 1) := by decide +kernel
theorem dX12_readsEdge_115 : decode cX12_readsEdge 115 = .ok (.iload_n 2, 1) := by decide +kernel
theorem dX12_readsEdge_116 : decode cX12_readsEdge 116 = .ok (.iastore, 1) := by decide +kernel
theorem dX12_readsEdge_117 : decode cX12_readsEdge 117 = .ok (.aload_n 0, 1) := by decide +kernel
theorem dX12_readsEdge_118 : decode cX12_readsEdge 118 = .ok (.getfield 26, 3) := by decide +kernel
theorem dX12_readsEdge_121 : decode cX12_readsEdge 121 = .ok (.sipush 150, 3) := by decide +kernel
theorem dX12_readsEdge_124 : decode cX12_readsEdge 124 = .ok (.iload_n 1, 1) := by decide +kernel
theorem dX12_readsEdge_125 : decode cX12_readsEdge 125 = .ok (.iadd, 1) := by decide +kernel
theorem dX12_readsEdge_126 : decode cX12_readsEdge 126 = .ok (.iload_n 3, 1) := by decide +kernel
theorem dX12_readsEdge_127 : decode cX12_readsEdge 127 = .ok (.iastore, 1) := by decide +kernel
theorem dX12_readsEdge_128 : decode cX12_readsEdge 128 = .ok (.aload_n 0, 1) := by decide +kernel
theorem dX12_readsEdge_129 : decode cX12_readsEdge 129 = .ok (.getfield 26, 3) := by decide +kernel
theorem dX12_readsEdge_132 : decode cX12_readsEdge 132 = .ok (.sipush 190, 3) := by decide +kernel
theorem dX12_readsEdge_135 : decode cX12_readsEdge 135 = .ok (.iload_n 1, 1) := by decide +kernel
theorem dX12_readsEdge_136 : decode cX12_readsEdge 136 = .ok (.iadd, 1) := by decide +kernel
theorem dX12_readsEdge_137 : decode cX12_readsEdge 137 = .ok (.iload 4, 2) := by decide +kernel
theorem dX12_readsEdge_139 : decode cX12_readsEdge 139 = .ok (.iastore, 1) := by decide +kernel
theorem dX12_readsEdge_140 : decode cX12_readsEdge 140 = .ok (.aload_n 0, 1) := by decide +kernel
theorem dX12_readsEdge_141 : decode cX12_readsEdge 141 = .ok (.getfield 26, 3) := by decide +kernel
theorem dX12_readsEdge_144 : decode cX12_readsEdge 144 = .ok (.iconst 1, 1) := by decide +kernel
theorem dX12_readsEdge_145 : decode cX12_readsEdge 145 = .ok (.dup2, 1) := by decide +kernel
theorem dX12_readsEdge_146 : decode cX12_readsEdge 146 = .ok (.iaload, 1) := by decide +kernel
theorem dX12_readsEdge_147 : decode cX12_readsEdge 147 = .ok (.iconst 1, 1) := by decide +kernel
theorem dX12_readsEdge_148 : decode cX12_readsEdge 148 = .ok (.iadd, 1) := by decide +kernel
theorem dX12_readsEdge_149 : decode cX12_readsEdge 149 = .ok (.iastore, 1) := by decide +kernel
theorem dX12_readsEdge_150 : decode cX12_readsEdge 150 = .ok (.return_, 1) := by decide +kernel
set_option maxRecDepth 20000 in
theorem ggX12_readsOnce_X12_hasBit : GoodIn wsX12_readsOnce wsX12_hasBit := goodIn_s _ [(6, 1)] rfl (by decide +kernel)
set_option maxRecDepth 20000 in
theorem gX12_readsOnce_X12_hasBit : GoodIn wsX12_readsOnce (va_wsS RX12 199 yX12_hasBit wsX12_hasBit) := goodIn_app (goodIn_of _ (by decide +kernel)) ggX12_readsOnce_X12_hasBit
set_option maxRecDepth 20000 in
theorem ggX12_readsOnce_X12_wrong : GoodIn wsX12_readsOnce wsX12_wrong := goodIn_s _ [(10, 7), (47, 48)] rfl (by decide +kernel)
set_option maxRecDepth 20000 in
theorem gX12_readsOnce_X12_wrong : GoodIn wsX12_readsOnce (wsV RX12 155 RX12 yX12_wrong wsX12_wrong) := goodIn_app (goodIn_of _ (by decide +kernel)) ggX12_readsOnce_X12_wrong
set_option maxRecDepth 20000 in
theorem ggX12_readsOnce_X12_isGood : GoodIn wsX12_readsOnce wsX12_isGood := goodIn_s _ [(20, 1), (11, 1), (47, 48)] rfl (by decide +kernel)
set_option maxRecDepth 20000 in
theorem gX12_readsOnce_X12_isGood : GoodIn wsX12_readsOnce (wsV RX12 148 RX12 yX12_isGood wsX12_isGood) := goodIn_app (goodIn_of _ (by decide +kernel)) ggX12_readsOnce_X12_isGood
set_option maxRecDepth 20000 in
theorem ggX12_readsOnce_X12_goOn : GoodIn wsX12_readsOnce wsX12_goOn := goodIn_s _ [(24, 2), (13, 1), (26, 2), (12, 1), (28, 3), (5, 1), (31, 9), (47, 48)] rfl (by decide +kernel)
set_option maxRecDepth 20000 in
theorem gX12_readsOnce_X12_goOn : GoodIn wsX12_readsOnce (wsV RX12 158 RX12 yX12_goOn wsX12_goOn) := goodIn_app (goodIn_of _ (by decide +kernel)) ggX12_readsOnce_X12_goOn
set_option maxRecDepth 20000 in
theorem ggX12_readsOnce_X12_number : GoodIn wsX12_readsOnce wsX12_number := goodIn_s _ [(43, 1), (12, 1), (27, 1), (17, 3), (5, 1), (20, 1), (11, 1), (7, 4), (13, 4), (44, 3), (21, 6), (28, 12), (47, 48)] rfl (by decide +kernel)
set_option maxRecDepth 20000 in
theorem gX12_readsOnce_X12_number : GoodIn wsX12_readsOnce (wsV RX12 186 RX12 yX12_number wsX12_number) := goodIn_app (goodIn_of _ (by decide +kernel)) ggX12_readsOnce_X12_number
theorem dX12_readsOnce_0 : decode cX12_readsOnce 0 = .ok (.aload_n 0, 1) := by decide +kernel
theorem dX12_readsOnce_1 : decode cX12_readsOnce 1 = .ok (.getfield 196, 3) := by decide +kernel
theorem dX12_readsOnce_4 : decode cX12_readsOnce 4 = .ok (.iload_n 1, 1) := by decide +kernel
theorem dX12_readsOnce_5 : decode cX12_readsOnce 5 = .ok (.invokestatic 199, 3) := by decide +kernel
theorem dX12_readsOnce_8 : decode cX12_readsOnce 8 = .ok (.ifCond .eq 8, 3) := by decide +kernel
theorem dX12_readsOnce_11 : decode cX12_readsOnce 11 = .ok (.aload_n 0, 1) := by decide +kernel
theorem dX12_readsOnce_12 : decode cX12_readsOnce 12 = .ok (.iconst 4, 1) := by decide +kernel
theorem dX12_readsOnce_13 : decode cX12_readsOnce 13 = .ok (.invokevirtual 155, 3) := by decide +kernel
theorem dX12_readsOnce_16 : decode cX12_readsOnce 16 = .ok (.aload_n 0, 1) := by decide +kernel
theorem dX12_readsOnce_17 : decode cX12_readsOnce 17 = .ok (.dup, 1) := by decide +kernel
theorem dX12_readsOnce_18 : decode cX12_readsOnce 18 = .ok (.getfield 196, 3) := by decide +kernel
theorem dX12_readsOnce_21 : decode cX12_readsOnce 21 = .ok (.iconst 1, 1) := by decide +kernel
theorem dX12_readsOnce_22 : decode cX12_readsOnce 22 = .ok (.iload_n 1, 1) := by decide +kernel
theorem dX12_readsOnce_23 : decode cX12_readsOnce 23 = .ok (.ishl, 1) := by decide +kernel
theorem dX12_readsOnce_24 : decode cX12_readsOnce 24 = .ok (.ior, 1) := by decide +kernel
theorem dX12_readsOnce_25 : decode cX12_readsOnce 25 = .ok (.putfield 196, 3) := by decide +kernel
theorem dX12_readsOnce_28 : decode cX12_readsOnce 28 = .ok (.aload_n 0, 1) := by decide +kernel
theorem dX12_readsOnce_29 : decode cX12_readsOnce 29 = .ok (.invokevirtual 148, 3) := by decide +kernel
theorem dX12_readsOnce_32 : decode cX12_readsOnce 32 = .ok (.ifCond .eq 7, 3) := by decide +kernel
theorem dX12_readsOnce_35 : decode cX12_readsOnce 35 = .ok (.aload_n 0, 1) := by decide +kernel
theorem dX12_readsOnce_36 : decode cX12_readsOnce 36 = .ok (.invokevirtual 158, 3) := by decide +kernel
theorem dX12_readsOnce_39 : decode cX12_readsOnce 39 = .ok (.aload_n 0, 1) := by decide +kernel
theorem dX12_readsOnce_40 : decode cX12_readsOnce 40 = .ok (.iload_n 2, 1) := by decide +kernel
theorem dX12_readsOnce_41 : decode cX12_readsOnce 41 = .ok (.iload_n 3, 1) := by decide +kernel
theorem dX12_readsOnce_42 : decode cX12_readsOnce 42 = .ok (.invokevirtual 186, 3) := by decide +kernel
theorem dX12_readsOnce_45 : decode cX12_readsOnce 45 = .ok (.istore 4, 2) := by decide +kernel
theorem dX12_readsOnce_47 : decode cX12_readsOnce 47 = .ok (.aload_n 0, 1) := by decide +kernel
theorem dX12_readsOnce_48 : decode cX12_readsOnce 48 = .ok (.invokevirtual 148, 3) := by decide +kernel
theorem dX12_readsOnce_51 : decode cX12_readsOnce 51 = .ok (.ifCond .eq 11, 3) := by decide +kernel
theorem dX12_readsOnce_54 : decode cX12_readsOnce 54 = .ok (.aload_n 0, 1) := by decide +kernel
theorem dX12_readsOnce_55 : decode cX12_readsOnce 55 = .ok (.getfield 26, 3) := by decide +kernel
theorem dX12_readsOnce_58 : decode cX12_readsOnce 58 = .ok (.iload_n 1, 1) := by decide +kernel
theorem dX12_readsOnce_59 : decode cX12_readsOnce 59 = .ok (.iload 4, 2) := by decide +kernel
theorem dX12_readsOnce_61 : decode cX12_readsOnce 61 = .ok (.iastore, 1) := by decide +kernel
theorem dX12_readsOnce_62 : decode cX12_readsOnce 62 = .ok (.return_, 1) := by decide +kernel
set_option maxRecDepth 20000 in
theorem ggX12_statement_X12_isWord : GoodIn wsX12_statement wsX12_isWord := goodIn_s _ [(10, 6), (9, 1), (16, 2), (93, 48)] rfl (by decide +kernel)
set_option maxRecDepth 20000 in
theorem gX12_statement_X12_isWord : GoodIn wsX12_statement (wsV RX12 205 RX12 yX12_isWord wsX12_isWord) := goodIn_app (goodIn_of _ (by decide +kernel)) ggX12_statement_X12_isWord
set_option maxRecDepth 20000 in
theorem ggX12_statement_X12_readsVertex : GoodIn wsX12_statement wsX12_readsVertex := goodIn_s _ [(21, 2), (11, 1), (23, 1), (12, 1), (24, 3), (9, 1), (27, 1), (17, 1), (28, 4), (13, 4), (32, 29), (93, 48)] rfl (by decide +kernel)
set_option maxRecDepth 20000 in
theorem gX12_statement_X12_readsVertex : GoodIn wsX12_statement (wsV RX12 209 RX12 yX12_readsVertex wsX12_readsVertex) := goodIn_app (goodIn_of _ (by decide +kernel)) ggX12_statement_X12_readsVertex
set_option maxRecDepth 20000 in
theorem ggX12_statement_X12_readsEdge : GoodIn wsX12_statement wsX12_readsEdge := goodIn_s _ [(64, 1), (22, 1), (24, 3), (9, 1), (27, 1), (17, 1), (11, 1), (28, 4), (13, 4), (32, 5), (12, 1), (37, 13), (65, 8), (50, 4), (23, 1), (73, 4), (54, 7), (93, 48)] rfl (by decide +kernel)
set_option maxRecDepth 20000 in
theorem gX12_statement_X12_readsEdge : GoodIn wsX12_statement (wsV RX12 214 RX12 yX12_readsEdge wsX12_readsEdge) := goodIn_app (goodIn_of _ (by decide +kernel)) ggX12_statement_X12_readsEdge
set_option maxRecDepth 20000 in
theorem ggX12_statement_X12_readsOnce : GoodIn wsX12_statement wsX12_readsOnce := goodIn_s _ [(80, 2), (22, 1), (82, 2), (9, 1), (84, 1), (24, 4), (17, 1), (11, 1), (28, 4), (13, 4), (32, 5), (12, 1), (37, 13), (54, 7), (93, 48)] rfl (by decide +kernel)
set_option maxRecDepth 20000 in
theorem gX12_statement_X12_readsOnce : GoodIn wsX12_statement (wsV RX12 219 RX12 yX12_readsOnce wsX12_readsOnce) := goodIn_app (goodIn_of _ (by decide +kernel)) ggX12_statement_X12_readsOnce
set_option maxRecDepth 20000 in
theorem ggX12_statement_X12_wrong : GoodIn wsX12_statement wsX12_wrong := goodIn_s _ [(27, 1), (17, 1), (11, 1), (28, 4), (93, 48)] rfl (by decide +kernel)
set_option maxRecDepth 20000 in
theorem gX12_statement_X12_wrong : GoodIn wsX12_statement (wsV RX12 155 RX12 yX12_wrong wsX12_wrong) := goodIn_app (goodIn_of _ (by decide +kernel)) ggX12_statement_X12_wrong
set_option maxRecDepth 20000 in
theorem ggX12_statement_X12_mustSign : GoodIn wsX12_statement wsX12_mustSign := goodIn_s _ [(88, 1), (13, 3), (9, 1), (16, 2), (89, 4), (11, 1), (37, 1), (24, 13), (12, 1), (38, 12), (93, 48)] rfl (by decide +kernel)
set_option maxRecDepth 20000 in
theorem gX12_statement_X12_mustSign : GoodIn wsX12_statement (wsV RX12 227 RX12 yX12_mustSign wsX12_mustSign) := goodIn_app (goodIn_of _ (by decide +kernel)) ggX12_statement_X12_mustSign
theorem dX12_statement_0 : decode cX12_statement 0 = .ok (.aload_n 0, 1) := by decide +kernel
theorem dX12_statement_1 : decode cX12_statement 1 = .ok (.ldc2_w 203, 3) := by decide +kernel
theorem dX12_statement_4 : decode cX12_statement 4 = .ok (.invokevirtual 205, 3) := by decide +kernel
theorem dX12_statement_7 : decode cX12_statement 7 = .ok (.ifCond .eq 10, 3) := by decide +kernel
theorem dX12_statement_10 : decode cX12_statement 10 = .ok (.aload_n 0, 1) := by decide +kernel
theorem dX12_statement_11 : decode cX12_statement 11 = .ok (.invokevirtual 209, 3) := by decide +kernel
theorem dX12_statement_14 : decode cX12_statement 14 = .ok (.goto 87, 3) := by decide +kernel
theorem dX12_statement_17 : decode cX12_statement 17 = .ok (.aload_n 0, 1) := by decide +kernel
theorem dX12_statement_18 : decode cX12_statement 18 = .ok (.ldc2_w 212, 3) := by decide +kernel
theorem dX12_statement_21 : decode cX12_statement 21 = .ok (.invokevirtual 205, 3) := by decide +kernel
theorem dX12_statement_24 : decode cX12_statement 24 = .ok (.ifCond .eq 10, 3) := by decide +kernel
theorem dX12_statement_27 : decode cX12_statement 27 = .ok (.aload_n 0, 1) := by decide +kernel
theorem dX12_statement_28 : decode cX12_statement 28 = .ok (.invokevirtual 214, 3) := by decide +kernel
theorem dX12_statement_31 : decode cX12_statement 31 = .ok (.goto 70, 3) := by decide +kernel
theorem dX12_statement_34 : decode cX12_statement 34 = .ok (.aload_n 0, 1) := by decide +kernel
theorem dX12_statement_35 : decode cX12_statement 35 = .ok (.ldc2_w 217, 3) := by decide +kernel
theorem dX12_statement_38 : decode cX12_statement 38 = .ok (.invokevirtual 205, 3) := by decide +kernel
theorem dX12_statement_41 : decode cX12_statement 41 = .ok (.ifCond .eq 13, 3) := by decide +kernel
theorem dX12_statement_44 : decode cX12_statement 44 = .ok (.aload_n 0, 1) := by decide +kernel
theorem dX12_statement_45 : decode cX12_statement 45 = .ok (.iconst 2, 1) := by decide +kernel
theorem dX12_statement_46 : decode cX12_statement 46 = .ok (.iconst 2, 1) := by decide +kernel
theorem dX12_statement_47 : decode cX12_statement 47 = .ok (.iconst 4, 1) := by decide +kernel
theorem dX12_statement_48 : decode cX12_statement 48 = .ok (.invokevirtual 219, 3) := by decide +kernel
theorem dX12_statement_51 : decode cX12_statement 51 = .ok (.goto 50, 3) := by decide +kernel
theorem dX12_statement_54 : decode cX12_statement 54 = .ok (.aload_n 0, 1) := by decide +kernel
theorem dX12_statement_55 : decode cX12_statement 55 = .ok (.ldc2_w 223, 3) := by decide +kernel
theorem dX12_statement_58 : decode cX12_statement 58 = .ok (.invokevirtual 205, 3) := by decide +kernel
theorem dX12_statement_61 : decode cX12_statement 61 = .ok (.ifCond .eq 14, 3) := by decide +kernel
theorem dX12_statement_64 : decode cX12_statement 64 = .ok (.aload_n 0, 1) := by decide +kernel
theorem dX12_statement_65 : decode cX12_statement 65 = .ok (.iconst 3, 1) := by decide +kernel
theorem dX12_statement_66 : decode cX12_statement 66 = .ok (.iconst 0, 1) := by decide +kernel
theorem dX12_statement_67 : decode cX12_statement 67 = .ok (.bipush 99, 2) := by decide +kernel
theorem dX12_statement_69 : decode cX12_statement 69 = .ok (.invokevirtual 219, 3) := by decide +kernel
theorem dX12_statement_72 : decode cX12_statement 72 = .ok (.goto 29, 3) := by decide +kernel
theorem dX12_statement_75 : decode cX12_statement 75 = .ok (.aload_n 0, 1) := by decide +kernel
theorem dX12_statement_76 : decode cX12_statement 76 = .ok (.ldc2_w 225, 3) := by decide +kernel
theorem dX12_statement_79 : decode cX12_statement 79 = .ok (.invokevirtual 205, 3) := by decide +kernel
theorem dX12_statement_82 : decode cX12_statement 82 = .ok (.ifCond .eq 14, 3) := by decide +kernel
theorem dX12_statement_85 : decode cX12_statement 85 = .ok (.aload_n 0, 1) := by decide +kernel
theorem dX12_statement_86 : decode cX12_statement 86 = .ok (.iconst 4, 1) := by decide +kernel
theorem dX12_statement_87 : decode cX12_statement 87 = .ok (.iconst 0, 1) := by decide +kernel
theorem dX12_statement_88 : decode cX12_statement 88 = .ok (.bipush 99, 2) := by decide +kernel
theorem dX12_statement_90 : decode cX12_statement 90 = .ok (.invokevirtual 219, 3) := by decide +kernel
