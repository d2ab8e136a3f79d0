set_option maxRecDepth 20000 in
theorem gX12_command_X12_number : GoodIn wsX12_command (wsV RX12 186 RX12 yX12_number wsX12_number) := goodIn_app (goodIn_of _ (by decide +kernel)) ggX12_command_X12_number
set_option maxRecDepth 20000 in
theorem ggX12_command_X12_toldVertex : GoodIn wsX12_command wsX12_toldVertex := goodIn_s _ [(67, 4), (10, 1), (71, 1), (25, 1), (27, 11), (1, 1), (38, 1), (72, 6), (26, 1), (39, 18), (89, 48)] rfl (by decide +kernel)
set_option maxRecDepth 20000 in
theorem gX12_command_X12_toldVertex : GoodIn wsX12_command (wsV RX12 190 RX12 yX12_toldVertex wsX12_toldVertex) := goodIn_app (goodIn_of _ (by decide +kernel)) ggX12_command_X12_toldVertex
set_option maxRecDepth 20000 in
theorem ggX12_command_X12_mustSign : GoodIn wsX12_command wsX12_mustSign := goodIn_s _ [(81, 1), (27, 3), (10, 1), (30, 2), (82, 4), (25, 1), (44, 1), (32, 6), (1, 1), (38, 6), (26, 1), (45, 12), (89, 48)] rfl (by decide +kernel)
set_option maxRecDepth 20000 in
theorem gX12_command_X12_mustSign : GoodIn wsX12_command (wsV RX12 227 RX12 yX12_mustSign wsX12_mustSign) := goodIn_app (goodIn_of _ (by decide +kernel)) ggX12_command_X12_mustSign
set_option maxRecDepth 20000 in
theorem ggX12_command_X12_truth : GoodIn wsX12_command wsX12_truth := goodIn_s _ [(88, 1)] rfl (by decide +kernel)
set_option maxRecDepth 20000 in
theorem gX12_command_X12_truth : GoodIn wsX12_command (va_wsS RX12 93 yX12_truth wsX12_truth) := goodIn_app (goodIn_of _ (by decide +kernel)) ggX12_command_X12_truth
theorem dX12_command_0 : decode cX12_command 0 = .ok (.aload_n 0, 1) := by decide +kernel
theorem dX12_command_1 : decode cX12_command 1 = .ok (.invokevirtual 443, 3) := by decide +kernel
theorem dX12_command_4 : decode cX12_command 4 = .ok (.istore_n 1, 1) := by decide +kernel
theorem dX12_command_5 : decode cX12_command 5 = .ok (.iload_n 1, 1) := by decide +kernel
theorem dX12_command_6 : decode cX12_command 6 = .ok (.iconst (-1), 1) := by decide +kernel
theorem dX12_command_7 : decode cX12_command 7 = .ok (.if_icmp .ne 8, 3) := by decide +kernel
theorem dX12_command_10 : decode cX12_command 10 = .ok (.aload_n 0, 1) := by decide +kernel
theorem dX12_command_11 : decode cX12_command 11 = .ok (.iconst 1, 1) := by decide +kernel
theorem dX12_command_12 : decode cX12_command 12 = .ok (.invokevirtual 155, 3) := by decide +kernel
theorem dX12_command_15 : decode cX12_command 15 = .ok (.iload_n 1, 1) := by decide +kernel
theorem dX12_command_16 : decode cX12_command 16 = .ok (.bipush 8, 2) := by decide +kernel
theorem dX12_command_18 : decode cX12_command 18 = .ok (.if_icmp .ne 16, 3) := by decide +kernel
theorem dX12_command_21 : decode cX12_command 21 = .ok (.aload_n 0, 1) := by decide +kernel
theorem dX12_command_22 : decode cX12_command 22 = .ok (.getfield 145, 3) := by decide +kernel
theorem dX12_command_25 : decode cX12_command 25 = .ok (.iconst 2, 1) := by decide +kernel
theorem dX12_command_26 : decode cX12_command 26 = .ok (.if_icmp .ne 8, 3) := by decide +kernel
theorem dX12_command_29 : decode cX12_command 29 = .ok (.aload_n 0, 1) := by decide +kernel
theorem dX12_command_30 : decode cX12_command 30 = .ok (.iconst 4, 1) := by decide +kernel
theorem dX12_command_31 : decode cX12_command 31 = .ok (.invokevirtual 155, 3) := by decide +kernel
theorem dX12_command_34 : decode cX12_command 34 = .ok (.aload_n 0, 1) := by decide +kernel
theorem dX12_command_35 : decode cX12_command 35 = .ok (.getfield 446, 3) := by decide +kernel
theorem dX12_command_38 : decode cX12_command 38 = .ok (.bipush 30, 2) := by decide +kernel
theorem dX12_command_40 : decode cX12_command 40 = .ok (.if_icmp .ne 9, 3) := by decide +kernel
theorem dX12_command_43 : decode cX12_command 43 = .ok (.aload_n 0, 1) := by decide +kernel
theorem dX12_command_44 : decode cX12_command 44 = .ok (.bipush 6, 2) := by decide +kernel
theorem dX12_command_46 : decode cX12_command 46 = .ok (.invokevirtual 155, 3) := by decide +kernel
theorem dX12_command_49 : decode cX12_command 49 = .ok (.aload_n 0, 1) := by decide +kernel
theorem dX12_command_50 : decode cX12_command 50 = .ok (.invokevirtual 148, 3) := by decide +kernel
theorem dX12_command_53 : decode cX12_command 53 = .ok (.ifCond .ne 4, 3) := by decide +kernel
theorem dX12_command_56 : decode cX12_command 56 = .ok (.return_, 1) := by decide +kernel
theorem dX12_command_57 : decode cX12_command 57 = .ok (.aload_n 0, 1) := by decide +kernel
theorem dX12_command_58 : decode cX12_command 58 = .ok (.dup, 1) := by decide +kernel
theorem dX12_command_59 : decode cX12_command 59 = .ok (.getfield 446, 3) := by decide +kernel
theorem dX12_command_62 : decode cX12_command 62 = .ok (.iconst 1, 1) := by decide +kernel
theorem dX12_command_63 : decode cX12_command 63 = .ok (.iadd, 1) := by decide +kernel
theorem dX12_command_64 : decode cX12_command 64 = .ok (.putfield 446, 3) := by decide +kernel
theorem dX12_command_67 : decode cX12_command 67 = .ok (.aload_n 0, 1) := by decide +kernel
theorem dX12_command_68 : decode cX12_command 68 = .ok (.invokevirtual 158, 3) := by decide +kernel
theorem dX12_command_71 : decode cX12_command 71 = .ok (.aload_n 0, 1) := by decide +kernel
theorem dX12_command_72 : decode cX12_command 72 = .ok (.getfield 449, 3) := by decide +kernel
theorem dX12_command_75 : decode cX12_command 75 = .ok (.istore_n 2, 1) := by decide +kernel
theorem dX12_command_76 : decode cX12_command 76 = .ok (.aload_n 0, 1) := by decide +kernel
theorem dX12_command_77 : decode cX12_command 77 = .ok (.getfield 69, 3) := by decide +kernel
theorem dX12_command_80 : decode cX12_command 80 = .ok (.iload_n 2, 1) := by decide +kernel
theorem dX12_command_81 : decode cX12_command 81 = .ok (.iload_n 1, 1) := by decide +kernel
theorem dX12_command_82 : decode cX12_command 82 = .ok (.iastore, 1) := by decide +kernel
theorem dX12_command_83 : decode cX12_command 83 = .ok (.iload_n 1, 1) := by decide +kernel
theorem dX12_command_84 : decode cX12_command 84 = .ok (.iconst 2, 1) := by decide +kernel
theorem dX12_command_85 : decode cX12_command 85 = .ok (.if_icmp .eq 14, 3) := by decide +kernel
theorem dX12_command_88 : decode cX12_command 88 = .ok (.iload_n 1, 1) := by decide +kernel
theorem dX12_command_89 : decode cX12_command 89 = .ok (.iconst 4, 1) := by decide +kernel
theorem dX12_command_90 : decode cX12_command 90 = .ok (.if_icmp .eq 9, 3) := by decide +kernel
theorem dX12_command_93 : decode cX12_command 93 = .ok (.iload_n 1, 1) := by decide +kernel
theorem dX12_command_94 : decode cX12_command 94 = .ok (.bipush 7, 2) := by decide +kernel
theorem dX12_command_96 : decode cX12_command 96 = .ok (.if_icmp .ne 17, 3) := by decide +kernel
theorem dX12_command_99 : decode cX12_command 99 = .ok (.aload_n 0, 1) := by decide +kernel
theorem dX12_command_100 : decode cX12_command 100 = .ok (.getfield 72, 3) := by decide +kernel
theorem dX12_command_103 : decode cX12_command 103 = .ok (.iload_n 2, 1) := by decide +kernel
theorem dX12_command_104 : decode cX12_command 104 = .ok (.aload_n 0, 1) := by decide +kernel
theorem dX12_command_105 : decode cX12_command 105 = .ok (.iconst 0, 1) := by decide +kernel
theorem dX12_command_106 : decode cX12_command 106 = .ok (.sipush 999, 3) := by decide +kernel
theorem dX12_command_109 : decode cX12_command 109 = .ok (.invokevirtual 186, 3) := by decide +kernel
theorem dX12_command_112 : decode cX12_command 112 = .ok (.iastore, 1) := by decide +kernel
theorem dX12_command_113 : decode cX12_command 113 = .ok (.iload_n 1, 1) := by decide +kernel
theorem dX12_command_114 : decode cX12_command 114 = .ok (.iconst 2, 1) := by decide +kernel
theorem dX12_command_115 : decode cX12_command 115 = .ok (.if_icmp .ne 17, 3) := by decide +kernel
theorem dX12_command_118 : decode cX12_command 118 = .ok (.aload_n 0, 1) := by decide +kernel
theorem dX12_command_119 : decode cX12_command 119 = .ok (.getfield 75, 3) := by decide +kernel
theorem dX12_command_122 : decode cX12_command 122 = .ok (.iload_n 2, 1) := by decide +kernel
theorem dX12_command_123 : decode cX12_command 123 = .ok (.aload_n 0, 1) := by decide +kernel
theorem dX12_command_124 : decode cX12_command 124 = .ok (.iconst 0, 1) := by decide +kernel
theorem dX12_command_125 : decode cX12_command 125 = .ok (.sipush 999, 3) := by decide +kernel
theorem dX12_command_128 : decode cX12_command 128 = .ok (.invokevirtual 186, 3) := by decide +kernel
theorem dX12_command_131 : decode cX12_command 131 = .ok (.iastore, 1) := by decide +kernel
theorem dX12_command_132 : decode cX12_command 132 = .ok (.iload_n 1, 1) := by decide +kernel
theorem dX12_command_133 : decode cX12_command 133 = .ok (.bipush 6, 2) := by decide +kernel
theorem dX12_command_135 : decode cX12_command 135 = .ok (.if_icmp .ne 13, 3) := by decide +kernel
theorem dX12_command_138 : decode cX12_command 138 = .ok (.aload_n 0, 1) := by decide +kernel
theorem dX12_command_139 : decode cX12_command 139 = .ok (.getfield 72, 3) := by decide +kernel
theorem dX12_command_142 : decode cX12_command 142 = .ok (.iload_n 2, 1) := by decide +kernel
theorem dX12_command_143 : decode cX12_command 143 = .ok (.aload_n 0, 1) := by decide +kernel
theorem dX12_command_144 : decode cX12_command 144 = .ok (.invokevirtual 190, 3) := by decide +kernel
theorem dX12_command_147 : decode cX12_command 147 = .ok (.iastore, 1) := by decide +kernel
theorem dX12_command_148 : decode cX12_command 148 = .ok (.iload_n 1, 1) := by decide +kernel
theorem dX12_command_149 : decode cX12_command 149 = .ok (.bipush 6, 2) := by decide +kernel
theorem dX12_command_151 : decode cX12_command 151 = .ok (.if_icmp .ne 13, 3) := by decide +kernel
theorem dX12_command_154 : decode cX12_command 154 = .ok (.aload_n 0, 1) := by decide +kernel
theorem dX12_command_155 : decode cX12_command 155 = .ok (.getfield 75, 3) := by decide +kernel
theorem dX12_command_158 : decode cX12_command 158 = .ok (.iload_n 2, 1) := by decide +kernel
theorem dX12_command_159 : decode cX12_command 159 = .ok (.aload_n 0, 1) := by decide +kernel
theorem dX12_command_160 : decode cX12_command 160 = .ok (.invokevirtual 190, 3) := by decide +kernel
theorem dX12_command_163 : decode cX12_command 163 = .ok (.iastore, 1) := by decide +kernel
theorem dX12_command_164 : decode cX12_command 164 = .ok (.iload_n 1, 1) := by decide +kernel
theorem dX12_command_165 : decode cX12_command 165 = .ok (.bipush 8, 2) := by decide +kernel
theorem dX12_command_167 : decode cX12_command 167 = .ok (.if_icmp .ne 16, 3) := by decide +kernel
theorem dX12_command_170 : decode cX12_command 170 = .ok (.aload_n 0, 1) := by decide +kernel
theorem dX12_command_171 : decode cX12_command 171 = .ok (.getfield 72, 3) := by decide +kernel
theorem dX12_command_174 : decode cX12_command 174 = .ok (.iload_n 2, 1) := by decide +kernel
theorem dX12_command_175 : decode cX12_command 175 = .ok (.aload_n 0, 1) := by decide +kernel
theorem dX12_command_176 : decode cX12_command 176 = .ok (.iconst 1, 1) := by decide +kernel
theorem dX12_command_177 : decode cX12_command 177 = .ok (.bipush 20, 2) := by decide +kernel
theorem dX12_command_179 : decode cX12_command 179 = .ok (.invokevirtual 186, 3) := by decide +kernel
theorem dX12_command_182 : decode cX12_command 182 = .ok (.iastore, 1) := by decide +kernel
theorem dX12_command_183 : decode cX12_command 183 = .ok (.iload_n 1, 1) := by decide +kernel
theorem dX12_command_184 : decode cX12_command 184 = .ok (.bipush 8, 2) := by decide +kernel
theorem dX12_command_186 : decode cX12_command 186 = .ok (.if_icmp .ne 9, 3) := by decide +kernel
theorem dX12_command_189 : decode cX12_command 189 = .ok (.aload_n 0, 1) := by decide +kernel
theorem dX12_command_190 : decode cX12_command 190 = .ok (.bipush 40, 2) := by decide +kernel
theorem dX12_command_192 : decode cX12_command 192 = .ok (.invokevirtual 227, 3) := by decide +kernel
theorem dX12_command_195 : decode cX12_command 195 = .ok (.aload_n 0, 1) := by decide +kernel
theorem dX12_command_196 : decode cX12_command 196 = .ok (.invokevirtual 148, 3) := by decide +kernel
theorem dX12_command_199 : decode cX12_command 199 = .ok (.ifCond .ne 4, 3) := by decide +kernel
theorem dX12_command_202 : decode cX12_command 202 = .ok (.return_, 1) := by decide +kernel
theorem dX12_command_203 : decode cX12_command 203 = .ok (.aload_n 0, 1) := by decide +kernel
theorem dX12_command_204 : decode cX12_command 204 = .ok (.dup, 1) := by decide +kernel
theorem dX12_command_205 : decode cX12_command 205 = .ok (.getfield 449, 3) := by decide +kernel
theorem dX12_command_208 : decode cX12_command 208 = .ok (.iconst 1, 1) := by decide +kernel
theorem dX12_command_209 : decode cX12_command 209 = .ok (.iadd, 1) := by decide +kernel
theorem dX12_command_210 : decode cX12_command 210 = .ok (.putfield 449, 3) := by decide +kernel
theorem dX12_command_213 : decode cX12_command 213 = .ok (.aload_n 0, 1) := by decide +kernel
theorem dX12_command_214 : decode cX12_command 214 = .ok (.dup, 1) := by decide +kernel
theorem dX12_command_215 : decode cX12_command 215 = .ok (.getfield 145, 3) := by decide +kernel
theorem dX12_command_218 : decode cX12_command 218 = .ok (.iload_n 1, 1) := by decide +kernel
theorem dX12_command_219 : decode cX12_command 219 = .ok (.bipush 8, 2) := by decide +kernel
theorem dX12_command_221 : decode cX12_command 221 = .ok (.if_icmp .ne 7, 3) := by decide +kernel
theorem dX12_command_224 : decode cX12_command 224 = .ok (.iconst 1, 1) := by decide +kernel
theorem dX12_command_225 : decode cX12_command 225 = .ok (.goto 4, 3) := by decide +kernel
theorem dX12_command_228 : decode cX12_command 228 = .ok (.iconst 0, 1) := by decide +kernel
theorem dX12_command_229 : decode cX12_command 229 = .ok (.invokestatic 93, 3) := by decide +kernel
theorem dX12_command_232 : decode cX12_command 232 = .ok (.iadd, 1) := by decide +kernel
theorem dX12_command_233 : decode cX12_command 233 = .ok (.putfield 145, 3) := by decide +kernel
theorem dX12_command_236 : decode cX12_command 236 = .ok (.return_, 1) := by decide +kernel
set_option maxRecDepth 20000 in
theorem ggX12_closes_X12_isSign : GoodIn wsX12_closes wsX12_isSign := goodIn_s _ [(8, 6), (7, 1), (14, 2), (45, 48)] rfl (by decide +kernel)
set_option maxRecDepth 20000 in
theorem gX12_closes_X12_isSign : GoodIn wsX12_closes (wsV RX12 152 RX12 yX12_isSign wsX12_isSign) := goodIn_app (goodIn_of _ (by decide +kernel)) ggX12_closes_X12_isSign
set_option maxRecDepth 20000 in
theorem ggX12_closes_X12_goOn : GoodIn wsX12_closes wsX12_goOn := goodIn_s _ [(19, 4), (10, 1), (9, 1), (23, 3), (7, 1), (26, 9), (45, 48)] rfl (by decide +kernel)
set_option maxRecDepth 20000 in
theorem gX12_closes_X12_goOn : GoodIn wsX12_closes (wsV RX12 158 RX12 yX12_goOn wsX12_goOn) := goodIn_app (goodIn_of _ (by decide +kernel)) ggX12_closes_X12_goOn
set_option maxRecDepth 20000 in
theorem ggX12_closes_X12_mustSign : GoodIn wsX12_closes wsX12_mustSign := goodIn_s _ [(38, 1), (11, 3), (7, 1), (14, 2), (4, 3), (8, 3), (39, 4), (21, 1), (43, 1), (1, 1), (44, 1), (16, 5), (22, 13), (45, 48)] rfl (by decide +kernel)
set_option maxRecDepth 20000 in
theorem gX12_closes_X12_mustSign : GoodIn wsX12_closes (wsV RX12 227 RX12 yX12_mustSign wsX12_mustSign) := goodIn_app (goodIn_of _ (by decide +kernel)) ggX12_closes_X12_mustSign
theorem dX12_closes_0 : decode cX12_closes 0 = .ok (.aload_n 0, 1) := by decide +kernel
theorem dX12_closes_1 : decode cX12_closes 1 = .ok (.getfield 145, 3) := by decide +kernel
theorem dX12_closes_4 : decode cX12_closes 4 = .ok (.ifCond .le 56, 3) := by decide +kernel
theorem dX12_closes_7 : decode cX12_closes 7 = .ok (.aload_n 0, 1) := by decide +kernel
theorem dX12_closes_8 : decode cX12_closes 8 = .ok (.bipush 41, 2) := by decide +kernel
theorem dX12_closes_10 : decode cX12_closes 10 = .ok (.invokevirtual 152, 3) := by decide +kernel
theorem dX12_closes_13 : decode cX12_closes 13 = .ok (.ifCond .eq 47, 3) := by decide +kernel
theorem dX12_closes_16 : decode cX12_closes 16 = .ok (.aload_n 0, 1) := by decide +kernel
theorem dX12_closes_17 : decode cX12_closes 17 = .ok (.dup, 1) := by decide +kernel
theorem dX12_closes_18 : decode cX12_closes 18 = .ok (.getfield 145, 3) := by decide +kernel
theorem dX12_closes_21 : decode cX12_closes 21 = .ok (.iconst 1, 1) := by decide +kernel
theorem dX12_closes_22 : decode cX12_closes 22 = .ok (.isub, 1) := by decide +kernel
theorem dX12_closes_23 : decode cX12_closes 23 = .ok (.putfield 145, 3) := by decide +kernel
theorem dX12_closes_26 : decode cX12_closes 26 = .ok (.aload_n 0, 1) := by decide +kernel
theorem dX12_closes_27 : decode cX12_closes 27 = .ok (.getfield 69, 3) := by decide +kernel
theorem dX12_closes_30 : decode cX12_closes 30 = .ok (.aload_n 0, 1) := by decide +kernel
theorem dX12_closes_31 : decode cX12_closes 31 = .ok (.getfield 449, 3) := by decide +kernel
theorem dX12_closes_34 : decode cX12_closes 34 = .ok (.bipush 9, 2) := by decide +kernel
theorem dX12_closes_36 : decode cX12_closes 36 = .ok (.iastore, 1) := by decide +kernel
theorem dX12_closes_37 : decode cX12_closes 37 = .ok (.aload_n 0, 1) := by decide +kernel
theorem dX12_closes_38 : decode cX12_closes 38 = .ok (.dup, 1) := by decide +kernel
theorem dX12_closes_39 : decode cX12_closes 39 = .ok (.getfield 449, 3) := by decide +kernel
theorem dX12_closes_42 : decode cX12_closes 42 = .ok (.iconst 1, 1) := by decide +kernel
theorem dX12_closes_43 : decode cX12_closes 43 = .ok (.iadd, 1) := by decide +kernel
theorem dX12_closes_44 : decode cX12_closes 44 = .ok (.putfield 449, 3) := by decide +kernel
theorem dX12_closes_47 : decode cX12_closes 47 = .ok (.aload_n 0, 1) := by decide +kernel
theorem dX12_closes_48 : decode cX12_closes 48 = .ok (.invokevirtual 158, 3) := by decide +kernel
theorem dX12_closes_51 : decode cX12_closes 51 = .ok (.aload_n 0, 1) := by decide +kernel
theorem dX12_closes_52 : decode cX12_closes 52 = .ok (.bipush 59, 2) := by decide +kernel
theorem dX12_closes_54 : decode cX12_closes 54 = .ok (.invokevirtual 227, 3) := by decide +kernel
theorem dX12_closes_57 : decode cX12_closes 57 = .ok (.goto (-57), 3) := by decide +kernel
theorem dX12_closes_60 : decode cX12_closes 60 = .ok (.return_, 1) := by decide +kernel
set_option maxRecDepth 20000 in
theorem ggX12_may_X12_whyShrink : GoodIn wsX12_may wsX12_whyShrink := goodIn_s _ [(7, 1), (1, 1), (8, 3), (6, 1), (11, 34), (99, 48)] rfl (by decide +kernel)
set_option maxRecDepth 20000 in
theorem gX12_may_X12_whyShrink : GoodIn wsX12_may (wsV RX12 346 RX12 yX12_whyShrink wsX12_whyShrink) := goodIn_app (goodIn_of _ (by decide +kernel)) ggX12_may_X12_whyShrink
set_option maxRecDepth 20000 in
theorem ggX12_may_X12_areThere : GoodIn wsX12_may wsX12_areThere := goodIn_s _ [(48, 4), (6, 1), (52, 1), (13, 4), (1, 1), (53, 7), (99, 48)] rfl (by decide +kernel)
set_option maxRecDepth 20000 in
theorem gX12_may_X12_areThere : GoodIn wsX12_may (wsV RX12 352 RX12 yX12_areThere wsX12_areThere) := goodIn_app (goodIn_of _ (by decide +kernel)) ggX12_may_X12_areThere
set_option maxRecDepth 20000 in
theorem ggX12_may_X12_whyMove : GoodIn wsX12_may wsX12_whyMove := goodIn_s _ [(63, 1), (1, 1), (29, 3), (6, 1), (32, 1), (25, 4), (64, 4), (33, 4), (68, 7), (37, 8), (75, 8), (99, 48)] rfl (by decide +kernel)
set_option maxRecDepth 20000 in
theorem gX12_may_X12_whyMove : GoodIn wsX12_may (wsV RX12 358 RX12 yX12_whyMove wsX12_whyMove) := goodIn_app (goodIn_of _ (by decide +kernel)) ggX12_may_X12_whyMove
set_option maxRecDepth 20000 in
theorem ggX12_may_X12_nextNow : GoodIn wsX12_may wsX12_nextNow := goodIn_s _ [(86, 1), (75, 3), (6, 1), (78, 1), (1, 1), (79, 4), (68, 4), (37, 8), (87, 4), (13, 4), (91, 4), (29, 4), (25, 4), (64, 4), (33, 4), (72, 3), (60, 4), (99, 48)] rfl (by decide +kernel)
set_option maxRecDepth 20000 in
theorem gX12_may_X12_nextNow : GoodIn wsX12_may (wsV RX12 364 RX12 yX12_nextNow wsX12_nextNow) := goodIn_app (goodIn_of _ (by decide +kernel)) ggX12_may_X12_nextNow
set_option maxRecDepth 20000 in
theorem ggX12_may_X12_isIn : GoodIn wsX12_may wsX12_isIn := goodIn_s _ [(55, 1)] rfl (by decide +kernel)
set_option maxRecDepth 20000 in
theorem gX12_may_X12_isIn : GoodIn wsX12_may (va_wsS RX12 108 yX12_isIn wsX12_isIn) := goodIn_app (goodIn_of _ (by decide +kernel)) ggX12_may_X12_isIn
set_option maxRecDepth 20000 in
theorem ggX12_may_X12_groups : GoodIn wsX12_may wsX12_groups := goodIn_s _ [(16, 1), (1, 1), (99, 48)] rfl (by decide +kernel)
set_option maxRecDepth 20000 in
theorem gX12_may_X12_groups : GoodIn wsX12_may (wsV RX12 177 RX12 yX12_groups wsX12_groups) := goodIn_app (goodIn_of _ (by decide +kernel)) ggX12_may_X12_groups
set_option maxRecDepth 20000 in
theorem ggX12_may_X12_mayApart : GoodIn wsX12_may wsX12_mayApart := goodIn_s _ [(98, 1), (1, 1), (99, 48)] rfl (by decide +kernel)
set_option maxRecDepth 20000 in
theorem gX12_may_X12_mayApart : GoodIn wsX12_may (wsV RX12 418 RX12 yX12_mayApart wsX12_mayApart) := goodIn_app (goodIn_of _ (by decide +kernel)) ggX12_may_X12_mayApart
theorem dX12_may_0 : decode cX12_may 0 = .ok (.iload_n 1, 1) := by decide +kernel
theorem dX12_may_1 : decode cX12_may 1 = .ok (.tableswitch 152 0 6 #[43, 56, 71, 95, 109, 119, 134], 43) := by decide +kernel
theorem dX12_may_44 : decode cX12_may 44 = .ok (.aload_n 0, 1) := by decide +kernel
theorem dX12_may_45 : decode cX12_may 45 = .ok (.invokevirtual 346, 3) := by decide +kernel
theorem dX12_may_48 : decode cX12_may 48 = .ok (.ifCond .ne 7, 3) := by decide +kernel
theorem dX12_may_51 : decode cX12_may 51 = .ok (.iconst 1, 1) := by decide +kernel
theorem dX12_may_52 : decode cX12_may 52 = .ok (.goto 4, 3) := by decide +kernel
theorem dX12_may_55 : decode cX12_may 55 = .ok (.iconst 0, 1) := by decide +kernel
theorem dX12_may_56 : decode cX12_may 56 = .ok (.ireturn, 1) := by decide +kernel
theorem dX12_may_57 : decode cX12_may 57 = .ok (.aload_n 0, 1) := by decide +kernel
theorem dX12_may_58 : decode cX12_may 58 = .ok (.getfield 26, 3) := by decide +kernel
theorem dX12_may_61 : decode cX12_may 61 = .ok (.iconst 5, 1) := by decide +kernel
theorem dX12_may_62 : decode cX12_may 62 = .ok (.iaload, 1) := by decide +kernel
theorem dX12_may_63 : decode cX12_may 63 = .ok (.ifCond .le 7, 3) := by decide +kernel
theorem dX12_may_66 : decode cX12_may 66 = .ok (.iconst 1, 1) := by decide +kernel
theorem dX12_may_67 : decode cX12_may 67 = .ok (.goto 4, 3) := by decide +kernel
theorem dX12_may_70 : decode cX12_may 70 = .ok (.iconst 0, 1) := by decide +kernel
theorem dX12_may_71 : decode cX12_may 71 = .ok (.ireturn, 1) := by decide +kernel
theorem dX12_may_72 : decode cX12_may 72 = .ok (.aload_n 0, 1) := by decide +kernel
theorem dX12_may_73 : decode cX12_may 73 = .ok (.iload_n 2, 1) := by decide +kernel
theorem dX12_may_74 : decode cX12_may 74 = .ok (.iload_n 3, 1) := by decide +kernel
theorem dX12_may_75 : decode cX12_may 75 = .ok (.invokevirtual 352, 3) := by decide +kernel
theorem dX12_may_78 : decode cX12_may 78 = .ok (.ifCond .eq 16, 3) := by decide +kernel
theorem dX12_may_81 : decode cX12_may 81 = .ok (.aload_n 0, 1) := by decide +kernel
theorem dX12_may_82 : decode cX12_may 82 = .ok (.iload_n 2, 1) := by decide +kernel
theorem dX12_may_83 : decode cX12_may 83 = .ok (.iload_n 3, 1) := by decide +kernel
theorem dX12_may_84 : decode cX12_may 84 = .ok (.invokevirtual 358, 3) := by decide +kernel
theorem dX12_may_87 : decode cX12_may 87 = .ok (.ifCond .ne 7, 3) := by decide +kernel
theorem dX12_may_90 : decode cX12_may 90 = .ok (.iconst 1, 1) := by decide +kernel
theorem dX12_may_91 : decode cX12_may 91 = .ok (.goto 4, 3) := by decide +kernel
theorem dX12_may_94 : decode cX12_may 94 = .ok (.iconst 0, 1) := by decide +kernel
theorem dX12_may_95 : decode cX12_may 95 = .ok (.ireturn, 1) := by decide +kernel
theorem dX12_may_96 : decode cX12_may 96 = .ok (.aload_n 0, 1) := by decide +kernel
theorem dX12_may_97 : decode cX12_may 97 = .ok (.invokevirtual 364, 3) := by decide +kernel
theorem dX12_may_100 : decode cX12_may 100 = .ok (.iconst (-1), 1) := by decide +kernel
theorem dX12_may_101 : decode cX12_may 101 = .ok (.if_icmp .eq 7, 3) := by decide +kernel
theorem dX12_may_104 : decode cX12_may 104 = .ok (.iconst 1, 1) := by decide +kernel
theorem dX12_may_105 : decode cX12_may 105 = .ok (.goto 4, 3) := by decide +kernel
theorem dX12_may_108 : decode cX12_may 108 = .ok (.iconst 0, 1) := by decide +kernel
theorem dX12_may_109 : decode cX12_may 109 = .ok (.ireturn, 1) := by decide +kernel
theorem dX12_may_110 : decode cX12_may 110 = .ok (.iload_n 2, 1) := by decide +kernel
theorem dX12_may_111 : decode cX12_may 111 = .ok (.i2l, 1) := by decide +kernel
theorem dX12_may_112 : decode cX12_may 112 = .ok (.lconst 1, 1) := by decide +kernel
theorem dX12_may_113 : decode cX12_may 113 = .ok (.ldc2_w 413, 3) := by decide +kernel
theorem dX12_may_116 : decode cX12_may 116 = .ok (.invokestatic 108, 3) := by decide +kernel
theorem dX12_may_119 : decode cX12_may 119 = .ok (.ireturn, 1) := by decide +kernel
theorem dX12_may_120 : decode cX12_may 120 = .ok (.aload_n 0, 1) := by decide +kernel
theorem dX12_may_121 : decode cX12_may 121 = .ok (.invokevirtual 177, 3) := by decide +kernel
theorem dX12_may_124 : decode cX12_may 124 = .ok (.bipush 7, 2) := by decide +kernel
theorem dX12_may_126 : decode cX12_may 126 = .ok (.if_icmp .gt 7, 3) := by decide +kernel
theorem dX12_may_129 : decode cX12_may 129 = .ok (.iconst 1, 1) := by decide +kernel
theorem dX12_may_130 : decode cX12_may 130 = .ok (.goto 4, 3) := by decide +kernel
theorem dX12_may_133 : decode cX12_may 133 = .ok (.iconst 0, 1) := by decide +kernel
theorem dX12_may_134 : decode cX12_may 134 = .ok (.ireturn, 1) := by decide +kernel
theorem dX12_may_135 : decode cX12_may 135 = .ok (.iload_n 2, 1) := by decide +kernel
theorem dX12_may_136 : decode cX12_may 136 = .ok (.iload_n 3, 1) := by decide +kernel
theorem dX12_may_137 : decode cX12_may 137 = .ok (.if_icmp .eq 14, 3) := by decide +kernel
theorem dX12_may_140 : decode cX12_may 140 = .ok (.aload_n 0, 1) := by decide +kernel
theorem dX12_may_141 : decode cX12_may 141 = .ok (.invokevirtual 418, 3) := by decide +kernel
theorem dX12_may_144 : decode cX12_may 144 = .ok (.ifCond .eq 7, 3) := by decide +kernel
theorem dX12_may_147 : decode cX12_may 147 = .ok (.iconst 1, 1) := by decide +kernel
theorem dX12_may_148 : decode cX12_may 148 = .ok (.goto 4, 3) := by decide +kernel
theorem dX12_may_151 : decode cX12_may 151 = .ok (.iconst 0, 1) := by decide +kernel
theorem dX12_may_152 : decode cX12_may 152 = .ok (.ireturn, 1) := by decide +kernel
theorem dX12_may_153 : decode cX12_may 153 = .ok (.iload_n 2, 1) := by decide +kernel
theorem dX12_may_154 : decode cX12_may 154 = .ok (.i2l, 1) := by decide +kernel
theorem dX12_may_155 : decode cX12_may 155 = .ok (.lconst 0, 1) := by decide +kernel
theorem dX12_may_156 : decode cX12_may 156 = .ok (.ldc2_w 413, 3) := by decide +kernel
theorem dX12_may_159 : decode cX12_may 159 = .ok (.invokestatic 108, 3) := by decide +kernel
theorem dX12_may_162 : decode cX12_may 162 = .ok (.ireturn, 1) := by decide +kernel
set_option maxRecDepth 20000 in
theorem ggX12_does_X12_may : GoodIn wsX12_does wsX12_may := goodIn_s _ [(6, 6), (5, 1), (12, 92), (180, 48)] rfl (by decide +kernel)
set_option maxRecDepth 20000 in
theorem gX12_does_X12_may : GoodIn wsX12_does (wsV RX12 452 RX12 yX12_may wsX12_may) := goodIn_app (goodIn_of _ (by decide +kernel)) ggX12_does_X12_may
set_option maxRecDepth 20000 in
theorem ggX12_does_X12_shrinks : GoodIn wsX12_does wsX12_shrinks := goodIn_s _ [(107, 1), (7, 1), (17, 1), (13, 3), (5, 1), (16, 1), (18, 32), (180, 48)] rfl (by decide +kernel)
set_option maxRecDepth 20000 in
theorem gX12_does_X12_shrinks : GoodIn wsX12_does (wsV RX12 405 RX12 yX12_shrinks wsX12_shrinks) := goodIn_app (goodIn_of _ (by decide +kernel)) ggX12_does_X12_shrinks
set_option maxRecDepth 20000 in
theorem ggX12_does_X12_grows : GoodIn wsX12_does wsX12_grows := goodIn_s _ [(111, 1), (7, 1), (18, 3), (5, 1), (21, 1), (180, 48)] rfl (by decide +kernel)
set_option maxRecDepth 20000 in
theorem gX12_does_X12_grows : GoodIn wsX12_does (wsV RX12 410 RX12 yX12_grows wsX12_grows) := goodIn_app (goodIn_of _ (by decide +kernel)) ggX12_does_X12_grows
set_option maxRecDepth 20000 in
theorem ggX12_does_X12_moves : GoodIn wsX12_does wsX12_moves := goodIn_s _ [(115, 4), (5, 1), (119, 1), (7, 1), (34, 4), (30, 4), (120, 8), (180, 48)] rfl (by decide +kernel)
set_option maxRecDepth 20000 in
theorem gX12_does_X12_moves : GoodIn wsX12_does (wsV RX12 402 RX12 yX12_moves wsX12_moves) := goodIn_app (goodIn_of _ (by decide +kernel)) ggX12_does_X12_moves
set_option maxRecDepth 20000 in
theorem ggX12_does_X12_stepNow : GoodIn wsX12_does wsX12_stepNow := goodIn_s _ [(131, 1), (88, 3), (5, 1), (91, 1), (80, 4), (7, 1), (84, 4), (73, 4), (42, 8), (92, 4), (18, 4), (96, 4), (34, 4), (30, 4), (69, 4), (38, 4), (77, 3), (65, 4), (112, 16), (180, 48)] rfl (by decide +kernel)
set_option maxRecDepth 20000 in
theorem gX12_does_X12_stepNow : GoodIn wsX12_does (wsV RX12 384 RX12 yX12_stepNow wsX12_stepNow) := goodIn_app (goodIn_of _ (by decide +kernel)) ggX12_does_X12_stepNow
set_option maxRecDepth 20000 in
theorem ggX12_does_X12_stepsNow : GoodIn wsX12_does wsX12_stepsNow := goodIn_s _ [(135, 1), (128, 3), (5, 1), (131, 1), (88, 4), (80, 4), (7, 1), (84, 4), (73, 4), (42, 8), (92, 4), (18, 4), (96, 4), (34, 4), (30, 4), (69, 4), (38, 4), (77, 3), (65, 4), (112, 16), (180, 48)] rfl (by decide +kernel)
set_option maxRecDepth 20000 in
theorem gX12_does_X12_stepsNow : GoodIn wsX12_does (wsV RX12 390 RX12 yX12_stepsNow wsX12_stepsNow) := goodIn_app (goodIn_of _ (by decide +kernel)) ggX12_does_X12_stepsNow
set_option maxRecDepth 20000 in
theorem ggX12_does_X12_placesBest : GoodIn wsX12_does wsX12_placesBest := goodIn_s _ [(139, 5), (5, 1), (144, 1), (7, 1), (145, 4), (18, 4), (38, 4), (30, 4), (26, 4), (149, 6), (42, 8), (116, 4), (34, 4), (120, 8), (77, 3), (180, 48)] rfl (by decide +kernel)
set_option maxRecDepth 20000 in
theorem gX12_does_X12_placesBest : GoodIn wsX12_does (wsV RX12 415 RX12 yX12_placesBest wsX12_placesBest) := goodIn_app (goodIn_of _ (by decide +kernel)) ggX12_does_X12_placesBest
set_option maxRecDepth 20000 in
theorem ggX12_does_X12_placesApart : GoodIn wsX12_does wsX12_placesApart := goodIn_s _ [(158, 2), (7, 1), (160, 3), (5, 1), (163, 13), (116, 4), (34, 4), (30, 4), (120, 8), (77, 3), (180, 48)] rfl (by decide +kernel)
set_option maxRecDepth 20000 in
theorem gX12_does_X12_placesApart : GoodIn wsX12_does (wsV RX12 421 RX12 yX12_placesApart wsX12_placesApart) := goodIn_app (goodIn_of _ (by decide +kernel)) ggX12_does_X12_placesApart
set_option maxRecDepth 20000 in
theorem ggX12_does_X12_setsCredit : GoodIn wsX12_does wsX12_setsCredit := goodIn_s _ [(179, 1), (7, 1), (180, 48)] rfl (by decide +kernel)
set_option maxRecDepth 20000 in
theorem gX12_does_X12_setsCredit : GoodIn wsX12_does (wsV RX12 424 RX12 yX12_setsCredit wsX12_setsCredit) := goodIn_app (goodIn_of _ (by decide +kernel)) ggX12_does_X12_setsCredit
theorem dX12_does_0 : decode cX12_does 0 = .ok (.aload_n 0, 1) := by decide +kernel
theorem dX12_does_1 : decode cX12_does 1 = .ok (.iload_n 1, 1) := by decide +kernel
theorem dX12_does_2 : decode cX12_does 2 = .ok (.iload_n 2, 1) := by decide +kernel
theorem dX12_does_3 : decode cX12_does 3 = .ok (.iload_n 3, 1) := by decide +kernel
theorem dX12_does_4 : decode cX12_does 4 = .ok (.invokevirtual 452, 3) := by decide +kernel
theorem dX12_does_7 : decode cX12_does 7 = .ok (.ifCond .ne 5, 3) := by decide +kernel
theorem dX12_does_10 : decode cX12_does 10 = .ok (.iconst 0, 1) := by decide +kernel
theorem dX12_does_11 : decode cX12_does 11 = .ok (.ireturn, 1) := by decide +kernel
theorem dX12_does_12 : decode cX12_does 12 = .ok (.iload_n 1, 1) := by decide +kernel
theorem dX12_does_13 : decode cX12_does 13 = .ok (.ifCond .ne 11, 3) := by decide +kernel
theorem dX12_does_16 : decode cX12_does 16 = .ok (.aload_n 0, 1) := by decide +kernel
theorem dX12_does_17 : decode cX12_does 17 = .ok (.aload_n 0, 1) := by decide +kernel
theorem dX12_does_18 : decode cX12_does 18 = .ok (.invokevirtual 405, 3) := by decide +kernel
theorem dX12_does_21 : decode cX12_does 21 = .ok (.putfield 456, 3) := by decide +kernel
theorem dX12_does_24 : decode cX12_does 24 = .ok (.iload_n 1, 1) := by decide +kernel
theorem dX12_does_25 : decode cX12_does 25 = .ok (.iconst 1, 1) := by decide +kernel
theorem dX12_does_26 : decode cX12_does 26 = .ok (.if_icmp .ne 11, 3) := by decide +kernel
theorem dX12_does_29 : decode cX12_does 29 = .ok (.aload_n 0, 1) := by decide +kernel
theorem dX12_does_30 : decode cX12_does 30 = .ok (.aload_n 0, 1) := by decide +kernel
theorem dX12_does_31 : decode cX12_does 31 = .ok (.invokevirtual 410, 3) := by decide +kernel
theorem dX12_does_34 : decode cX12_does 34 = .ok (.putfield 456, 3) := by decide +kernel
theorem dX12_does_37 : decode cX12_does 37 = .ok (.iload_n 1, 1) := by decide +kernel
theorem dX12_does_38 : decode cX12_does 38 = .ok (.iconst 2, 1) := by decide +kernel
theorem dX12_does_39 : decode cX12_does 39 = .ok (.if_icmp .ne 13, 3) := by decide +kernel
theorem dX12_does_42 : decode cX12_does 42 = .ok (.aload_n 0, 1) := by decide +kernel
theorem dX12_does_43 : decode cX12_does 43 = .ok (.aload_n 0, 1) := by decide +kernel
theorem dX12_does_44 : decode cX12_does 44 = .ok (.iload_n 2, 1) := by decide +kernel
theorem dX12_does_45 : decode cX12_does 45 = .ok (.iload_n 3, 1) := by decide +kernel
theorem dX12_does_46 : decode cX12_does 46 = .ok (.invokevirtual 402, 3) := by decide +kernel
theorem dX12_does_49 : decode cX12_does 49 = .ok (.putfield 456, 3) := by decide +kernel
theorem dX12_does_52 : decode cX12_does 52 = .ok (.iload_n 1, 1) := by decide +kernel
theorem dX12_does_53 : decode cX12_does 53 = .ok (.iconst 3, 1) := by decide +kernel
theorem dX12_does_54 : decode cX12_does 54 = .ok (.if_icmp .ne 11, 3) := by decide +kernel
theorem dX12_does_57 : decode cX12_does 57 = .ok (.aload_n 0, 1) := by decide +kernel
theorem dX12_does_58 : decode cX12_does 58 = .ok (.aload_n 0, 1) := by decide +kernel
theorem dX12_does_59 : decode cX12_does 59 = .ok (.invokevirtual 384, 3) := by decide +kernel
theorem dX12_does_62 : decode cX12_does 62 = .ok (.putfield 456, 3) := by decide +kernel
theorem dX12_does_65 : decode cX12_does 65 = .ok (.iload_n 1, 1) := by decide +kernel
theorem dX12_does_66 : decode cX12_does 66 = .ok (.iconst 4, 1) := by decide +kernel
theorem dX12_does_67 : decode cX12_does 67 = .ok (.if_icmp .ne 12, 3) := by decide +kernel
theorem dX12_does_70 : decode cX12_does 70 = .ok (.aload_n 0, 1) := by decide +kernel
theorem dX12_does_71 : decode cX12_does 71 = .ok (.aload_n 0, 1) := by decide +kernel
theorem dX12_does_72 : decode cX12_does 72 = .ok (.iload_n 2, 1) := by decide +kernel
theorem dX12_does_73 : decode cX12_does 73 = .ok (.invokevirtual 390, 3) := by decide +kernel
theorem dX12_does_76 : decode cX12_does 76 = .ok (.putfield 456, 3) := by decide +kernel
theorem dX12_does_79 : decode cX12_does 79 = .ok (.iload_n 1, 1) := by decide +kernel
theorem dX12_does_80 : decode cX12_does 80 = .ok (.iconst 5, 1) := by decide +kernel
theorem dX12_does_81 : decode cX12_does 81 = .ok (.if_icmp .ne 11, 3) := by decide +kernel
theorem dX12_does_84 : decode cX12_does 84 = .ok (.aload_n 0, 1) := by decide +kernel
theorem dX12_does_85 : decode cX12_does 85 = .ok (.aload_n 0, 1) := by decide +kernel
theorem dX12_does_86 : decode cX12_does 86 = .ok (.invokevirtual 415, 3) := by decide +kernel
theorem dX12_does_89 : decode cX12_does 89 = .ok (.putfield 456, 3) := by decide +kernel
theorem dX12_does_92 : decode cX12_does 92 = .ok (.iload_n 1, 1) := by decide +kernel
theorem dX12_does_93 : decode cX12_does 93 = .ok (.bipush 6, 2) := by decide +kernel
theorem dX12_does_95 : decode cX12_does 95 = .ok (.if_icmp .ne 13, 3) := by decide +kernel
theorem dX12_does_98 : decode cX12_does 98 = .ok (.aload_n 0, 1) := by decide +kernel
theorem dX12_does_99 : decode cX12_does 99 = .ok (.aload_n 0, 1) := by decide +kernel
theorem dX12_does_100 : decode cX12_does 100 = .ok (.iload_n 2, 1) := by decide +kernel
theorem dX12_does_101 : decode cX12_does 101 = .ok (.iload_n 3, 1) := by decide +kernel
theorem dX12_does_102 : decode cX12_does 102 = .ok (.invokevirtual 421, 3) := by decide +kernel
theorem dX12_does_105 : decode cX12_does 105 = .ok (.putfield 456, 3) := by decide +kernel
theorem dX12_does_108 : decode cX12_does 108 = .ok (.iload_n 1, 1) := by decide +kernel
theorem dX12_does_109 : decode cX12_does 109 = .ok (.bipush 7, 2) := by decide +kernel
theorem dX12_does_111 : decode cX12_does 111 = .ok (.if_icmp .ne 12, 3) := by decide +kernel
theorem dX12_does_114 : decode cX12_does 114 = .ok (.aload_n 0, 1) := by decide +kernel
theorem dX12_does_115 : decode cX12_does 115 = .ok (.aload_n 0, 1) := by decide +kernel
theorem dX12_does_116 : decode cX12_does 116 = .ok (.iload_n 2, 1) := by decide +kernel
theorem dX12_does_117 : decode cX12_does 117 = .ok (.invokevirtual 424, 3) := by decide +kernel
theorem dX12_does_120 : decode cX12_does 120 = .ok (.putfield 456, 3) := by decide +kernel
theorem dX12_does_123 : decode cX12_does 123 = .ok (.iconst 1, 1) := by decide +kernel
theorem dX12_does_124 : decode cX12_does 124 = .ok (.ireturn, 1) := by decide +kernel
