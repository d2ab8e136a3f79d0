theorem dX12_runScript_0 : decode cX12_runScript 0 = .ok (.aload_n 0, 1) := by decide +kernel
theorem dX12_runScript_1 : decode cX12_runScript 1 = .ok (.invokevirtual 230, 3) := by decide +kernel
theorem dX12_runScript_4 : decode cX12_runScript 4 = .ok (.aload_n 0, 1) := by decide +kernel
theorem dX12_runScript_5 : decode cX12_runScript 5 = .ok (.iconst 0, 1) := by decide +kernel
theorem dX12_runScript_6 : decode cX12_runScript 6 = .ok (.putfield 449, 3) := by decide +kernel
theorem dX12_runScript_9 : decode cX12_runScript 9 = .ok (.aload_n 0, 1) := by decide +kernel
theorem dX12_runScript_10 : decode cX12_runScript 10 = .ok (.iconst 0, 1) := by decide +kernel
theorem dX12_runScript_11 : decode cX12_runScript 11 = .ok (.putfield 446, 3) := by decide +kernel
theorem dX12_runScript_14 : decode cX12_runScript 14 = .ok (.aload_n 0, 1) := by decide +kernel
theorem dX12_runScript_15 : decode cX12_runScript 15 = .ok (.invokevirtual 148, 3) := by decide +kernel
theorem dX12_runScript_18 : decode cX12_runScript 18 = .ok (.ifCond .eq 40, 3) := by decide +kernel
theorem dX12_runScript_21 : decode cX12_runScript 21 = .ok (.aload_n 0, 1) := by decide +kernel
theorem dX12_runScript_22 : decode cX12_runScript 22 = .ok (.getfield 132, 3) := by decide +kernel
theorem dX12_runScript_25 : decode cX12_runScript 25 = .ok (.ifCond .eq 33, 3) := by decide +kernel
theorem dX12_runScript_28 : decode cX12_runScript 28 = .ok (.aload_n 0, 1) := by decide +kernel
theorem dX12_runScript_29 : decode cX12_runScript 29 = .ok (.getfield 145, 3) := by decide +kernel
theorem dX12_runScript_32 : decode cX12_runScript 32 = .ok (.istore_n 1, 1) := by decide +kernel
theorem dX12_runScript_33 : decode cX12_runScript 33 = .ok (.aload_n 0, 1) := by decide +kernel
theorem dX12_runScript_34 : decode cX12_runScript 34 = .ok (.invokevirtual 459, 3) := by decide +kernel
theorem dX12_runScript_37 : decode cX12_runScript 37 = .ok (.aload_n 0, 1) := by decide +kernel
theorem dX12_runScript_38 : decode cX12_runScript 38 = .ok (.getfield 145, 3) := by decide +kernel
theorem dX12_runScript_41 : decode cX12_runScript 41 = .ok (.iload_n 1, 1) := by decide +kernel
theorem dX12_runScript_42 : decode cX12_runScript 42 = .ok (.if_icmp .ne 9, 3) := by decide +kernel
theorem dX12_runScript_45 : decode cX12_runScript 45 = .ok (.aload_n 0, 1) := by decide +kernel
theorem dX12_runScript_46 : decode cX12_runScript 46 = .ok (.bipush 59, 2) := by decide +kernel
theorem dX12_runScript_48 : decode cX12_runScript 48 = .ok (.invokevirtual 227, 3) := by decide +kernel
theorem dX12_runScript_51 : decode cX12_runScript 51 = .ok (.aload_n 0, 1) := by decide +kernel
theorem dX12_runScript_52 : decode cX12_runScript 52 = .ok (.invokevirtual 462, 3) := by decide +kernel
theorem dX12_runScript_55 : decode cX12_runScript 55 = .ok (.goto (-41), 3) := by decide +kernel
theorem dX12_runScript_58 : decode cX12_runScript 58 = .ok (.aload_n 0, 1) := by decide +kernel
theorem dX12_runScript_59 : decode cX12_runScript 59 = .ok (.invokevirtual 148, 3) := by decide +kernel
theorem dX12_runScript_62 : decode cX12_runScript 62 = .ok (.ifCond .eq 15, 3) := by decide +kernel
theorem dX12_runScript_65 : decode cX12_runScript 65 = .ok (.aload_n 0, 1) := by decide +kernel
theorem dX12_runScript_66 : decode cX12_runScript 66 = .ok (.getfield 145, 3) := by decide +kernel
theorem dX12_runScript_69 : decode cX12_runScript 69 = .ok (.ifCond .le 8, 3) := by decide +kernel
theorem dX12_runScript_72 : decode cX12_runScript 72 = .ok (.aload_n 0, 1) := by decide +kernel
theorem dX12_runScript_73 : decode cX12_runScript 73 = .ok (.iconst 1, 1) := by decide +kernel
theorem dX12_runScript_74 : decode cX12_runScript 74 = .ok (.invokevirtual 155, 3) := by decide +kernel
theorem dX12_runScript_77 : decode cX12_runScript 77 = .ok (.aload_n 0, 1) := by decide +kernel
theorem dX12_runScript_78 : decode cX12_runScript 78 = .ok (.invokevirtual 239, 3) := by decide +kernel
theorem dX12_runScript_81 : decode cX12_runScript 81 = .ok (.ifCond .ne 5, 3) := by decide +kernel
theorem dX12_runScript_84 : decode cX12_runScript 84 = .ok (.iconst 0, 1) := by decide +kernel
theorem dX12_runScript_85 : decode cX12_runScript 85 = .ok (.ireturn, 1) := by decide +kernel
theorem dX12_runScript_86 : decode cX12_runScript 86 = .ok (.aload_n 0, 1) := by decide +kernel
theorem dX12_runScript_87 : decode cX12_runScript 87 = .ok (.invokevirtual 233, 3) := by decide +kernel
theorem dX12_runScript_90 : decode cX12_runScript 90 = .ok (.aload_n 0, 1) := by decide +kernel
theorem dX12_runScript_91 : decode cX12_runScript 91 = .ok (.invokevirtual 465, 3) := by decide +kernel
theorem dX12_runScript_94 : decode cX12_runScript 94 = .ok (.istore_n 1, 1) := by decide +kernel
theorem dX12_runScript_95 : decode cX12_runScript 95 = .ok (.aload_n 0, 1) := by decide +kernel
theorem dX12_runScript_96 : decode cX12_runScript 96 = .ok (.invokevirtual 396, 3) := by decide +kernel
theorem dX12_runScript_99 : decode cX12_runScript 99 = .ok (.iload_n 1, 1) := by decide +kernel
theorem dX12_runScript_100 : decode cX12_runScript 100 = .ok (.ireturn, 1) := by decide +kernel
set_option maxRecDepth 20000 in
theorem ggX12_runs_X12_truth : GoodIn wsX12_runs wsX12_truth := goodIn_s _ [(10, 1)] rfl (by decide +kernel)
set_option maxRecDepth 20000 in
theorem gX12_runs_X12_truth : GoodIn wsX12_runs (va_wsS RX12 93 yX12_truth wsX12_truth) := goodIn_app (goodIn_of _ (by decide +kernel)) ggX12_runs_X12_truth
set_option maxRecDepth 20000 in
theorem ggX12_runs_X12_does : GoodIn wsX12_runs wsX12_does := goodIn_s _ [(14, 5), (9, 1), (19, 71), (7, 2), (10, 1), (90, 148)] rfl (by decide +kernel)
set_option maxRecDepth 20000 in
theorem gX12_runs_X12_does : GoodIn wsX12_runs (wsV RX12 468 RX12 yX12_does wsX12_does) := goodIn_app (goodIn_of _ (by decide +kernel)) ggX12_runs_X12_does
theorem dX12_runs_0 : decode cX12_runs 0 = .ok (.iconst 0, 1) := by decide +kernel
theorem dX12_runs_1 : decode cX12_runs 1 = .ok (.istore_n 1, 1) := by decide +kernel
theorem dX12_runs_2 : decode cX12_runs 2 = .ok (.iconst 0, 1) := by decide +kernel
theorem dX12_runs_3 : decode cX12_runs 3 = .ok (.istore_n 2, 1) := by decide +kernel
theorem dX12_runs_4 : decode cX12_runs 4 = .ok (.iconst 0, 1) := by decide +kernel
theorem dX12_runs_5 : decode cX12_runs 5 = .ok (.istore_n 3, 1) := by decide +kernel
theorem dX12_runs_6 : decode cX12_runs 6 = .ok (.iconst 1, 1) := by decide +kernel
theorem dX12_runs_7 : decode cX12_runs 7 = .ok (.istore 4, 2) := by decide +kernel
theorem dX12_runs_9 : decode cX12_runs 9 = .ok (.iload 4, 2) := by decide +kernel
theorem dX12_runs_11 : decode cX12_runs 11 = .ok (.ifCond .eq 176, 3) := by decide +kernel
theorem dX12_runs_14 : decode cX12_runs 14 = .ok (.iload_n 3, 1) := by decide +kernel
theorem dX12_runs_15 : decode cX12_runs 15 = .ok (.aload_n 0, 1) := by decide +kernel
theorem dX12_runs_16 : decode cX12_runs 16 = .ok (.getfield 449, 3) := by decide +kernel
theorem dX12_runs_19 : decode cX12_runs 19 = .ok (.if_icmp .ge 168, 3) := by decide +kernel
theorem dX12_runs_22 : decode cX12_runs 22 = .ok (.iload_n 1, 1) := by decide +kernel
theorem dX12_runs_23 : decode cX12_runs 23 = .ok (.bipush 40, 2) := by decide +kernel
theorem dX12_runs_25 : decode cX12_runs 25 = .ok (.if_icmp .ge 162, 3) := by decide +kernel
theorem dX12_runs_28 : decode cX12_runs 28 = .ok (.aload_n 0, 1) := by decide +kernel
theorem dX12_runs_29 : decode cX12_runs 29 = .ok (.getfield 69, 3) := by decide +kernel
theorem dX12_runs_32 : decode cX12_runs 32 = .ok (.iload_n 3, 1) := by decide +kernel
theorem dX12_runs_33 : decode cX12_runs 33 = .ok (.iaload, 1) := by decide +kernel
theorem dX12_runs_34 : decode cX12_runs 34 = .ok (.bipush 8, 2) := by decide +kernel
theorem dX12_runs_36 : decode cX12_runs 36 = .ok (.if_icmp .ne 31, 3) := by decide +kernel
theorem dX12_runs_39 : decode cX12_runs 39 = .ok (.aload_n 0, 1) := by decide +kernel
theorem dX12_runs_40 : decode cX12_runs 40 = .ok (.getfield 78, 3) := by decide +kernel
theorem dX12_runs_43 : decode cX12_runs 43 = .ok (.iload_n 2, 1) := by decide +kernel
theorem dX12_runs_44 : decode cX12_runs 44 = .ok (.iload_n 3, 1) := by decide +kernel
theorem dX12_runs_45 : decode cX12_runs 45 = .ok (.iastore, 1) := by decide +kernel
theorem dX12_runs_46 : decode cX12_runs 46 = .ok (.aload_n 0, 1) := by decide +kernel
theorem dX12_runs_47 : decode cX12_runs 47 = .ok (.getfield 81, 3) := by decide +kernel
theorem dX12_runs_50 : decode cX12_runs 50 = .ok (.iload_n 2, 1) := by decide +kernel
theorem dX12_runs_51 : decode cX12_runs 51 = .ok (.aload_n 0, 1) := by decide +kernel
theorem dX12_runs_52 : decode cX12_runs 52 = .ok (.getfield 72, 3) := by decide +kernel
theorem dX12_runs_55 : decode cX12_runs 55 = .ok (.iload_n 3, 1) := by decide +kernel
theorem dX12_runs_56 : decode cX12_runs 56 = .ok (.iaload, 1) := by decide +kernel
theorem dX12_runs_57 : decode cX12_runs 57 = .ok (.iastore, 1) := by decide +kernel
theorem dX12_runs_58 : decode cX12_runs 58 = .ok (.iinc 2 1, 3) := by decide +kernel
theorem dX12_runs_61 : decode cX12_runs 61 = .ok (.iinc 3 1, 3) := by decide +kernel
theorem dX12_runs_64 : decode cX12_runs 64 = .ok (.goto (-55), 3) := by decide +kernel
theorem dX12_runs_67 : decode cX12_runs 67 = .ok (.aload_n 0, 1) := by decide +kernel
theorem dX12_runs_68 : decode cX12_runs 68 = .ok (.getfield 69, 3) := by decide +kernel
theorem dX12_runs_71 : decode cX12_runs 71 = .ok (.iload_n 3, 1) := by decide +kernel
theorem dX12_runs_72 : decode cX12_runs 72 = .ok (.iaload, 1) := by decide +kernel
theorem dX12_runs_73 : decode cX12_runs 73 = .ok (.bipush 9, 2) := by decide +kernel
theorem dX12_runs_75 : decode cX12_runs 75 = .ok (.if_icmp .ne 74, 3) := by decide +kernel
theorem dX12_runs_78 : decode cX12_runs 78 = .ok (.aload_n 0, 1) := by decide +kernel
theorem dX12_runs_79 : decode cX12_runs 79 = .ok (.getfield 81, 3) := by decide +kernel
theorem dX12_runs_82 : decode cX12_runs 82 = .ok (.iload_n 2, 1) := by decide +kernel
theorem dX12_runs_83 : decode cX12_runs 83 = .ok (.iconst 1, 1) := by decide +kernel
theorem dX12_runs_84 : decode cX12_runs 84 = .ok (.isub, 1) := by decide +kernel
theorem dX12_runs_85 : decode cX12_runs 85 = .ok (.dup2, 1) := by decide +kernel
theorem dX12_runs_86 : decode cX12_runs 86 = .ok (.iaload, 1) := by decide +kernel
theorem dX12_runs_87 : decode cX12_runs 87 = .ok (.iconst 1, 1) := by decide +kernel
theorem dX12_runs_88 : decode cX12_runs 88 = .ok (.isub, 1) := by decide +kernel
theorem dX12_runs_89 : decode cX12_runs 89 = .ok (.iastore, 1) := by decide +kernel
theorem dX12_runs_90 : decode cX12_runs 90 = .ok (.aload_n 0, 1) := by decide +kernel
theorem dX12_runs_91 : decode cX12_runs 91 = .ok (.getfield 81, 3) := by decide +kernel
theorem dX12_runs_94 : decode cX12_runs 94 = .ok (.iload_n 2, 1) := by decide +kernel
theorem dX12_runs_95 : decode cX12_runs 95 = .ok (.iconst 1, 1) := by decide +kernel
theorem dX12_runs_96 : decode cX12_runs 96 = .ok (.isub, 1) := by decide +kernel
theorem dX12_runs_97 : decode cX12_runs 97 = .ok (.iaload, 1) := by decide +kernel
theorem dX12_runs_98 : decode cX12_runs 98 = .ok (.ifCond .le 7, 3) := by decide +kernel
theorem dX12_runs_101 : decode cX12_runs 101 = .ok (.iconst 1, 1) := by decide +kernel
theorem dX12_runs_102 : decode cX12_runs 102 = .ok (.goto 4, 3) := by decide +kernel
theorem dX12_runs_105 : decode cX12_runs 105 = .ok (.iconst 0, 1) := by decide +kernel
theorem dX12_runs_106 : decode cX12_runs 106 = .ok (.istore 5, 2) := by decide +kernel
theorem dX12_runs_108 : decode cX12_runs 108 = .ok (.iload 5, 2) := by decide +kernel
theorem dX12_runs_110 : decode cX12_runs 110 = .ok (.ifCond .eq 16, 3) := by decide +kernel
theorem dX12_runs_113 : decode cX12_runs 113 = .ok (.aload_n 0, 1) := by decide +kernel
theorem dX12_runs_114 : decode cX12_runs 114 = .ok (.getfield 78, 3) := by decide +kernel
theorem dX12_runs_117 : decode cX12_runs 117 = .ok (.iload_n 2, 1) := by decide +kernel
theorem dX12_runs_118 : decode cX12_runs 118 = .ok (.iconst 1, 1) := by decide +kernel
theorem dX12_runs_119 : decode cX12_runs 119 = .ok (.isub, 1) := by decide +kernel
theorem dX12_runs_120 : decode cX12_runs 120 = .ok (.iaload, 1) := by decide +kernel
theorem dX12_runs_121 : decode cX12_runs 121 = .ok (.iconst 1, 1) := by decide +kernel
theorem dX12_runs_122 : decode cX12_runs 122 = .ok (.iadd, 1) := by decide +kernel
theorem dX12_runs_123 : decode cX12_runs 123 = .ok (.goto 6, 3) := by decide +kernel
theorem dX12_runs_126 : decode cX12_runs 126 = .ok (.iload_n 3, 1) := by decide +kernel
theorem dX12_runs_127 : decode cX12_runs 127 = .ok (.iconst 1, 1) := by decide +kernel
theorem dX12_runs_128 : decode cX12_runs 128 = .ok (.iadd, 1) := by decide +kernel
theorem dX12_runs_129 : decode cX12_runs 129 = .ok (.istore_n 3, 1) := by decide +kernel
theorem dX12_runs_130 : decode cX12_runs 130 = .ok (.iload_n 2, 1) := by decide +kernel
theorem dX12_runs_131 : decode cX12_runs 131 = .ok (.iload 5, 2) := by decide +kernel
theorem dX12_runs_133 : decode cX12_runs 133 = .ok (.ifCond .ne 7, 3) := by decide +kernel
theorem dX12_runs_136 : decode cX12_runs 136 = .ok (.iconst 1, 1) := by decide +kernel
theorem dX12_runs_137 : decode cX12_runs 137 = .ok (.goto 4, 3) := by decide +kernel
theorem dX12_runs_140 : decode cX12_runs 140 = .ok (.iconst 0, 1) := by decide +kernel
theorem dX12_runs_141 : decode cX12_runs 141 = .ok (.invokestatic 93, 3) := by decide +kernel
theorem dX12_runs_144 : decode cX12_runs 144 = .ok (.isub, 1) := by decide +kernel
theorem dX12_runs_145 : decode cX12_runs 145 = .ok (.istore_n 2, 1) := by decide +kernel
theorem dX12_runs_146 : decode cX12_runs 146 = .ok (.goto (-137), 3) := by decide +kernel
theorem dX12_runs_149 : decode cX12_runs 149 = .ok (.aload_n 0, 1) := by decide +kernel
theorem dX12_runs_150 : decode cX12_runs 150 = .ok (.aload_n 0, 1) := by decide +kernel
theorem dX12_runs_151 : decode cX12_runs 151 = .ok (.getfield 69, 3) := by decide +kernel
theorem dX12_runs_154 : decode cX12_runs 154 = .ok (.iload_n 3, 1) := by decide +kernel
theorem dX12_runs_155 : decode cX12_runs 155 = .ok (.iaload, 1) := by decide +kernel
theorem dX12_runs_156 : decode cX12_runs 156 = .ok (.aload_n 0, 1) := by decide +kernel
theorem dX12_runs_157 : decode cX12_runs 157 = .ok (.getfield 72, 3) := by decide +kernel
theorem dX12_runs_160 : decode cX12_runs 160 = .ok (.iload_n 3, 1) := by decide +kernel
theorem dX12_runs_161 : decode cX12_runs 161 = .ok (.iaload, 1) := by decide +kernel
theorem dX12_runs_162 : decode cX12_runs 162 = .ok (.aload_n 0, 1) := by decide +kernel
theorem dX12_runs_163 : decode cX12_runs 163 = .ok (.getfield 75, 3) := by decide +kernel
theorem dX12_runs_166 : decode cX12_runs 166 = .ok (.iload_n 3, 1) := by decide +kernel
theorem dX12_runs_167 : decode cX12_runs 167 = .ok (.iaload, 1) := by decide +kernel
theorem dX12_runs_168 : decode cX12_runs 168 = .ok (.invokevirtual 468, 3) := by decide +kernel
theorem dX12_runs_171 : decode cX12_runs 171 = .ok (.istore 4, 2) := by decide +kernel
theorem dX12_runs_173 : decode cX12_runs 173 = .ok (.iload_n 1, 1) := by decide +kernel
theorem dX12_runs_174 : decode cX12_runs 174 = .ok (.iload 4, 2) := by decide +kernel
theorem dX12_runs_176 : decode cX12_runs 176 = .ok (.invokestatic 93, 3) := by decide +kernel
theorem dX12_runs_179 : decode cX12_runs 179 = .ok (.iadd, 1) := by decide +kernel
theorem dX12_runs_180 : decode cX12_runs 180 = .ok (.istore_n 1, 1) := by decide +kernel
theorem dX12_runs_181 : decode cX12_runs 181 = .ok (.iinc 3 1, 3) := by decide +kernel
theorem dX12_runs_184 : decode cX12_runs 184 = .ok (.goto (-175), 3) := by decide +kernel
theorem dX12_runs_187 : decode cX12_runs 187 = .ok (.iload_n 1, 1) := by decide +kernel
theorem dX12_runs_188 : decode cX12_runs 188 = .ok (.ireturn, 1) := by decide +kernel
theorem dX12_tell_0 : decode cX12_tell 0 = .ok (.aload_n 0, 1) := by decide +kernel
theorem dX12_tell_1 : decode cX12_tell 1 = .ok (.getfield 84, 3) := by decide +kernel
theorem dX12_tell_4 : decode cX12_tell 4 = .ok (.aload_n 0, 1) := by decide +kernel
theorem dX12_tell_5 : decode cX12_tell 5 = .ok (.getfield 471, 3) := by decide +kernel
theorem dX12_tell_8 : decode cX12_tell 8 = .ok (.iload_n 1, 1) := by decide +kernel
theorem dX12_tell_9 : decode cX12_tell 9 = .ok (.iastore, 1) := by decide +kernel
theorem dX12_tell_10 : decode cX12_tell 10 = .ok (.aload_n 0, 1) := by decide +kernel
theorem dX12_tell_11 : decode cX12_tell 11 = .ok (.dup, 1) := by decide +kernel
theorem dX12_tell_12 : decode cX12_tell 12 = .ok (.getfield 471, 3) := by decide +kernel
theorem dX12_tell_15 : decode cX12_tell 15 = .ok (.iconst 1, 1) := by decide +kernel
theorem dX12_tell_16 : decode cX12_tell 16 = .ok (.iadd, 1) := by decide +kernel
theorem dX12_tell_17 : decode cX12_tell 17 = .ok (.putfield 471, 3) := by decide +kernel
theorem dX12_tell_20 : decode cX12_tell 20 = .ok (.return_, 1) := by decide +kernel
set_option maxRecDepth 20000 in
theorem ggX12_tellName_X12_tell : GoodIn wsX12_tellName wsX12_tell := goodIn_s _ [(6, 51)] rfl (by decide +kernel)
set_option maxRecDepth 20000 in
theorem gX12_tellName_X12_tell : GoodIn wsX12_tellName (wsV RX12 476 RX12 yX12_tell wsX12_tell) := goodIn_app (goodIn_of _ (by decide +kernel)) ggX12_tellName_X12_tell
theorem dX12_tellName_0 : decode cX12_tellName 0 = .ok (.bipush 35, 2) := by decide +kernel
theorem dX12_tellName_2 : decode cX12_tellName 2 = .ok (.istore_n 3, 1) := by decide +kernel
theorem dX12_tellName_3 : decode cX12_tellName 3 = .ok (.iload_n 3, 1) := by decide +kernel
theorem dX12_tellName_4 : decode cX12_tellName 4 = .ok (.ifCond .lt 32, 3) := by decide +kernel
theorem dX12_tellName_7 : decode cX12_tellName 7 = .ok (.lload_n 1, 1) := by decide +kernel
theorem dX12_tellName_8 : decode cX12_tellName 8 = .ok (.iload_n 3, 1) := by decide +kernel
theorem dX12_tellName_9 : decode cX12_tellName 9 = .ok (.lshr, 1) := by decide +kernel
theorem dX12_tellName_10 : decode cX12_tellName 10 = .ok (.lconst 0, 1) := by decide +kernel
theorem dX12_tellName_11 : decode cX12_tellName 11 = .ok (.lcmp, 1) := by decide +kernel
theorem dX12_tellName_12 : decode cX12_tellName 12 = .ok (.ifCond .le 18, 3) := by decide +kernel
theorem dX12_tellName_15 : decode cX12_tellName 15 = .ok (.aload_n 0, 1) := by decide +kernel
theorem dX12_tellName_16 : decode cX12_tellName 16 = .ok (.bipush 96, 2) := by decide +kernel
theorem dX12_tellName_18 : decode cX12_tellName 18 = .ok (.lload_n 1, 1) := by decide +kernel
theorem dX12_tellName_19 : decode cX12_tellName 19 = .ok (.iload_n 3, 1) := by decide +kernel
theorem dX12_tellName_20 : decode cX12_tellName 20 = .ok (.lshr, 1) := by decide +kernel
theorem dX12_tellName_21 : decode cX12_tellName 21 = .ok (.ldc2_w 474, 3) := by decide +kernel
theorem dX12_tellName_24 : decode cX12_tellName 24 = .ok (.land, 1) := by decide +kernel
theorem dX12_tellName_25 : decode cX12_tellName 25 = .ok (.l2i, 1) := by decide +kernel
theorem dX12_tellName_26 : decode cX12_tellName 26 = .ok (.iadd, 1) := by decide +kernel
theorem dX12_tellName_27 : decode cX12_tellName 27 = .ok (.invokevirtual 476, 3) := by decide +kernel
theorem dX12_tellName_30 : decode cX12_tellName 30 = .ok (.iinc 3 (-5), 3) := by decide +kernel
theorem dX12_tellName_33 : decode cX12_tellName 33 = .ok (.goto (-30), 3) := by decide +kernel
theorem dX12_tellName_36 : decode cX12_tellName 36 = .ok (.return_, 1) := by decide +kernel
set_option maxRecDepth 20000 in
theorem ggX12_report_X12_borderNow : GoodIn wsX12_report wsX12_borderNow := goodIn_s _ [(10, 1), (4, 1), (11, 3), (9, 1), (14, 1), (28, 48)] rfl (by decide +kernel)
set_option maxRecDepth 20000 in
theorem gX12_report_X12_borderNow : GoodIn wsX12_report (wsV RX12 316 RX12 yX12_borderNow wsX12_borderNow) := goodIn_app (goodIn_of _ (by decide +kernel)) ggX12_report_X12_borderNow
set_option maxRecDepth 20000 in
theorem ggX12_report_X12_tell : GoodIn wsX12_report wsX12_tell := goodIn_s _ [(18, 2), (2, 1), (28, 48)] rfl (by decide +kernel)
set_option maxRecDepth 20000 in
theorem gX12_report_X12_tell : GoodIn wsX12_report (wsV RX12 476 RX12 yX12_tell wsX12_tell) := goodIn_app (goodIn_of _ (by decide +kernel)) ggX12_report_X12_tell
set_option maxRecDepth 20000 in
theorem ggX12_report_X12_tellName : GoodIn wsX12_report wsX12_tellName := goodIn_s _ [(23, 2), (15, 3), (9, 1), (18, 2), (2, 1), (28, 48)] rfl (by decide +kernel)
set_option maxRecDepth 20000 in
theorem gX12_report_X12_tellName : GoodIn wsX12_report (wsV RX12 482 RX12 yX12_tellName wsX12_tellName) := goodIn_app (goodIn_of _ (by decide +kernel)) ggX12_report_X12_tellName
set_option maxRecDepth 20000 in
theorem ggX12_report_X12_hasBit : GoodIn wsX12_report wsX12_hasBit := goodIn_s _ [(27, 1)] rfl (by decide +kernel)
set_option maxRecDepth 20000 in
theorem gX12_report_X12_hasBit : GoodIn wsX12_report (va_wsS RX12 199 yX12_hasBit wsX12_hasBit) := goodIn_app (goodIn_of _ (by decide +kernel)) ggX12_report_X12_hasBit
theorem dX12_report_0 : decode cX12_report 0 = .ok (.aload_n 0, 1) := by decide +kernel
theorem dX12_report_1 : decode cX12_report 1 = .ok (.iconst 0, 1) := by decide +kernel
theorem dX12_report_2 : decode cX12_report 2 = .ok (.putfield 90, 3) := by decide +kernel
theorem dX12_report_5 : decode cX12_report 5 = .ok (.aload_n 0, 1) := by decide +kernel
theorem dX12_report_6 : decode cX12_report 6 = .ok (.iconst 0, 1) := by decide +kernel
theorem dX12_report_7 : decode cX12_report 7 = .ok (.putfield 471, 3) := by decide +kernel
theorem dX12_report_10 : decode cX12_report 10 = .ok (.aload_n 0, 1) := by decide +kernel
theorem dX12_report_11 : decode cX12_report 11 = .ok (.iconst 1, 1) := by decide +kernel
theorem dX12_report_12 : decode cX12_report 12 = .ok (.putfield 479, 3) := by decide +kernel
theorem dX12_report_15 : decode cX12_report 15 = .ok (.aload_n 0, 1) := by decide +kernel
theorem dX12_report_16 : decode cX12_report 16 = .ok (.invokevirtual 316, 3) := by decide +kernel
theorem dX12_report_19 : decode cX12_report 19 = .ok (.istore_n 1, 1) := by decide +kernel
theorem dX12_report_20 : decode cX12_report 20 = .ok (.iconst 0, 1) := by decide +kernel
theorem dX12_report_21 : decode cX12_report 21 = .ok (.istore_n 2, 1) := by decide +kernel
theorem dX12_report_22 : decode cX12_report 22 = .ok (.iload_n 2, 1) := by decide +kernel
theorem dX12_report_23 : decode cX12_report 23 = .ok (.aload_n 0, 1) := by decide +kernel
theorem dX12_report_24 : decode cX12_report 24 = .ok (.getfield 26, 3) := by decide +kernel
theorem dX12_report_27 : decode cX12_report 27 = .ok (.iconst 2, 1) := by decide +kernel
theorem dX12_report_28 : decode cX12_report 28 = .ok (.iaload, 1) := by decide +kernel
theorem dX12_report_29 : decode cX12_report 29 = .ok (.if_icmp .ge 93, 3) := by decide +kernel
theorem dX12_report_32 : decode cX12_report 32 = .ok (.aload_n 0, 1) := by decide +kernel
theorem dX12_report_33 : decode cX12_report 33 = .ok (.bipush 48, 2) := by decide +kernel
theorem dX12_report_35 : decode cX12_report 35 = .ok (.iload_n 2, 1) := by decide +kernel
theorem dX12_report_36 : decode cX12_report 36 = .ok (.iadd, 1) := by decide +kernel
theorem dX12_report_37 : decode cX12_report 37 = .ok (.invokevirtual 476, 3) := by decide +kernel
theorem dX12_report_40 : decode cX12_report 40 = .ok (.aload_n 0, 1) := by decide +kernel
theorem dX12_report_41 : decode cX12_report 41 = .ok (.bipush 58, 2) := by decide +kernel
theorem dX12_report_43 : decode cX12_report 43 = .ok (.invokevirtual 476, 3) := by decide +kernel
theorem dX12_report_46 : decode cX12_report 46 = .ok (.iconst 0, 1) := by decide +kernel
theorem dX12_report_47 : decode cX12_report 47 = .ok (.istore_n 3, 1) := by decide +kernel
theorem dX12_report_48 : decode cX12_report 48 = .ok (.iload_n 3, 1) := by decide +kernel
theorem dX12_report_49 : decode cX12_report 49 = .ok (.aload_n 0, 1) := by decide +kernel
theorem dX12_report_50 : decode cX12_report 50 = .ok (.getfield 26, 3) := by decide +kernel
theorem dX12_report_53 : decode cX12_report 53 = .ok (.iconst 0, 1) := by decide +kernel
theorem dX12_report_54 : decode cX12_report 54 = .ok (.iaload, 1) := by decide +kernel
theorem dX12_report_55 : decode cX12_report 55 = .ok (.if_icmp .ge 55, 3) := by decide +kernel
theorem dX12_report_58 : decode cX12_report 58 = .ok (.aload_n 0, 1) := by decide +kernel
theorem dX12_report_59 : decode cX12_report 59 = .ok (.getfield 26, 3) := by decide +kernel
theorem dX12_report_62 : decode cX12_report 62 = .ok (.bipush 21, 2) := by decide +kernel
theorem dX12_report_64 : decode cX12_report 64 = .ok (.iload_n 3, 1) := by decide +kernel
theorem dX12_report_65 : decode cX12_report 65 = .ok (.iadd, 1) := by decide +kernel
theorem dX12_report_66 : decode cX12_report 66 = .ok (.iaload, 1) := by decide +kernel
theorem dX12_report_67 : decode cX12_report 67 = .ok (.iload_n 2, 1) := by decide +kernel
theorem dX12_report_68 : decode cX12_report 68 = .ok (.if_icmp .eq 6, 3) := by decide +kernel
theorem dX12_report_71 : decode cX12_report 71 = .ok (.goto 33, 3) := by decide +kernel
theorem dX12_report_74 : decode cX12_report 74 = .ok (.aload_n 0, 1) := by decide +kernel
theorem dX12_report_75 : decode cX12_report 75 = .ok (.bipush 32, 2) := by decide +kernel
theorem dX12_report_77 : decode cX12_report 77 = .ok (.invokevirtual 476, 3) := by decide +kernel
theorem dX12_report_80 : decode cX12_report 80 = .ok (.aload_n 0, 1) := by decide +kernel
theorem dX12_report_81 : decode cX12_report 81 = .ok (.aload_n 0, 1) := by decide +kernel
theorem dX12_report_82 : decode cX12_report 82 = .ok (.getfield 41, 3) := by decide +kernel
theorem dX12_report_85 : decode cX12_report 85 = .ok (.iload_n 3, 1) := by decide +kernel
theorem dX12_report_86 : decode cX12_report 86 = .ok (.laload, 1) := by decide +kernel
theorem dX12_report_87 : decode cX12_report 87 = .ok (.invokevirtual 482, 3) := by decide +kernel
theorem dX12_report_90 : decode cX12_report 90 = .ok (.iload_n 1, 1) := by decide +kernel
theorem dX12_report_91 : decode cX12_report 91 = .ok (.iload_n 3, 1) := by decide +kernel
theorem dX12_report_92 : decode cX12_report 92 = .ok (.invokestatic 199, 3) := by decide +kernel
theorem dX12_report_95 : decode cX12_report 95 = .ok (.ifCond .eq 9, 3) := by decide +kernel
theorem dX12_report_98 : decode cX12_report 98 = .ok (.aload_n 0, 1) := by decide +kernel
theorem dX12_report_99 : decode cX12_report 99 = .ok (.bipush 43, 2) := by decide +kernel
theorem dX12_report_101 : decode cX12_report 101 = .ok (.invokevirtual 476, 3) := by decide +kernel
theorem dX12_report_104 : decode cX12_report 104 = .ok (.iinc 3 1, 3) := by decide +kernel
theorem dX12_report_107 : decode cX12_report 107 = .ok (.goto (-59), 3) := by decide +kernel
theorem dX12_report_110 : decode cX12_report 110 = .ok (.aload_n 0, 1) := by decide +kernel
theorem dX12_report_111 : decode cX12_report 111 = .ok (.bipush 10, 2) := by decide +kernel
theorem dX12_report_113 : decode cX12_report 113 = .ok (.invokevirtual 476, 3) := by decide +kernel
theorem dX12_report_116 : decode cX12_report 116 = .ok (.iinc 2 1, 3) := by decide +kernel
theorem dX12_report_119 : decode cX12_report 119 = .ok (.goto (-97), 3) := by decide +kernel
theorem dX12_report_122 : decode cX12_report 122 = .ok (.aload_n 0, 1) := by decide +kernel
theorem dX12_report_123 : decode cX12_report 123 = .ok (.getfield 471, 3) := by decide +kernel
theorem dX12_report_126 : decode cX12_report 126 = .ok (.ireturn, 1) := by decide +kernel
set_option maxRecDepth 20000 in
theorem ggX12_reportByte_X12_isIn : GoodIn wsX12_reportByte wsX12_isIn := goodIn_s _ [(7, 1)] rfl (by decide +kernel)
set_option maxRecDepth 20000 in
theorem gX12_reportByte_X12_isIn : GoodIn wsX12_reportByte (va_wsS RX12 108 yX12_isIn wsX12_isIn) := goodIn_app (goodIn_of _ (by decide +kernel)) ggX12_reportByte_X12_isIn
set_option maxRecDepth 20000 in
theorem ggX12_reportByte_X12_goes : GoodIn wsX12_reportByte wsX12_goes := goodIn_s _ [(11, 4), (6, 1), (15, 49)] rfl (by decide +kernel)
set_option maxRecDepth 20000 in
theorem gX12_reportByte_X12_goes : GoodIn wsX12_reportByte (wsV RX12 100 RX12 yX12_goes wsX12_goes) := goodIn_app (goodIn_of _ (by decide +kernel)) ggX12_reportByte_X12_goes
theorem dX12_reportByte_0 : decode cX12_reportByte 0 = .ok (.aload_n 0, 1) := by decide +kernel
theorem dX12_reportByte_1 : decode cX12_reportByte 1 = .ok (.aload_n 0, 1) := by decide +kernel
theorem dX12_reportByte_2 : decode cX12_reportByte 2 = .ok (.getfield 479, 3) := by decide +kernel
theorem dX12_reportByte_5 : decode cX12_reportByte 5 = .ok (.ifCond .eq 23, 3) := by decide +kernel
theorem dX12_reportByte_8 : decode cX12_reportByte 8 = .ok (.iload_n 1, 1) := by decide +kernel
theorem dX12_reportByte_9 : decode cX12_reportByte 9 = .ok (.i2l, 1) := by decide +kernel
theorem dX12_reportByte_10 : decode cX12_reportByte 10 = .ok (.lconst 0, 1) := by decide +kernel
theorem dX12_reportByte_11 : decode cX12_reportByte 11 = .ok (.aload_n 0, 1) := by decide +kernel
theorem dX12_reportByte_12 : decode cX12_reportByte 12 = .ok (.getfield 471, 3) := by decide +kernel
theorem dX12_reportByte_15 : decode cX12_reportByte 15 = .ok (.iconst 1, 1) := by decide +kernel
theorem dX12_reportByte_16 : decode cX12_reportByte 16 = .ok (.isub, 1) := by decide +kernel
theorem dX12_reportByte_17 : decode cX12_reportByte 17 = .ok (.i2l, 1) := by decide +kernel
theorem dX12_reportByte_18 : decode cX12_reportByte 18 = .ok (.invokestatic 108, 3) := by decide +kernel
theorem dX12_reportByte_21 : decode cX12_reportByte 21 = .ok (.ifCond .eq 7, 3) := by decide +kernel
theorem dX12_reportByte_24 : decode cX12_reportByte 24 = .ok (.iconst 1, 1) := by decide +kernel
theorem dX12_reportByte_25 : decode cX12_reportByte 25 = .ok (.goto 4, 3) := by decide +kernel
theorem dX12_reportByte_28 : decode cX12_reportByte 28 = .ok (.iconst 0, 1) := by decide +kernel
theorem dX12_reportByte_29 : decode cX12_reportByte 29 = .ok (.invokevirtual 100, 3) := by decide +kernel
theorem dX12_reportByte_32 : decode cX12_reportByte 32 = .ok (.ifCond .eq 12, 3) := by decide +kernel
theorem dX12_reportByte_35 : decode cX12_reportByte 35 = .ok (.aload_n 0, 1) := by decide +kernel
theorem dX12_reportByte_36 : decode cX12_reportByte 36 = .ok (.getfield 84, 3) := by decide +kernel
theorem dX12_reportByte_39 : decode cX12_reportByte 39 = .ok (.iload_n 1, 1) := by decide +kernel
theorem dX12_reportByte_40 : decode cX12_reportByte 40 = .ok (.iaload, 1) := by decide +kernel
theorem dX12_reportByte_41 : decode cX12_reportByte 41 = .ok (.goto 4, 3) := by decide +kernel
theorem dX12_reportByte_44 : decode cX12_reportByte 44 = .ok (.iconst 0, 1) := by decide +kernel
theorem dX12_reportByte_45 : decode cX12_reportByte 45 = .ok (.ireturn, 1) := by decide +kernel
