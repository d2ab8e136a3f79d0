set_option maxRecDepth 20000 in
theorem ggX12_mates_X12_sets : GoodIn wsX12_mates wsX12_sets := goodIn_s _ [(10, 26), (67, 16)] rfl (by decide +kernel)
set_option maxRecDepth 20000 in
theorem gX12_mates_X12_sets : GoodIn wsX12_mates (wsV RX12 130 RX12 yX12_sets wsX12_sets) := goodIn_app (goodIn_of _ (by decide +kernel)) ggX12_mates_X12_sets
set_option maxRecDepth 20000 in
theorem ggX12_mates_X12_links : GoodIn wsX12_mates wsX12_links := goodIn_s _ [(39, 3), (67, 13)] rfl (by decide +kernel)
set_option maxRecDepth 20000 in
theorem gX12_mates_X12_links : GoodIn wsX12_mates (wsV RX12 161 RX12 yX12_links wsX12_links) := goodIn_app (goodIn_of _ (by decide +kernel)) ggX12_mates_X12_links
set_option maxRecDepth 20000 in
theorem ggX12_mates_X12_partOf : GoodIn wsX12_mates wsX12_partOf := goodIn_s _ [(45, 2), (7, 3), (5, 1), (10, 26), (47, 5), (67, 16)] rfl (by decide +kernel)
set_option maxRecDepth 20000 in
theorem gX12_mates_X12_partOf : GoodIn wsX12_mates (wsV RX12 158 RX12 yX12_partOf wsX12_partOf) := goodIn_app (goodIn_of _ (by decide +kernel)) ggX12_mates_X12_partOf
set_option maxRecDepth 20000 in
theorem ggX12_mates_X12_weightOf : GoodIn wsX12_mates wsX12_weightOf := goodIn_s _ [(55, 1), (40, 1), (56, 1), (67, 13)] rfl (by decide +kernel)
set_option maxRecDepth 20000 in
theorem gX12_mates_X12_weightOf : GoodIn wsX12_mates (wsV RX12 137 RX12 yX12_weightOf wsX12_weightOf) := goodIn_app (goodIn_of _ (by decide +kernel)) ggX12_mates_X12_weightOf
set_option maxRecDepth 20000 in
theorem ggX12_mates_X12_limit : GoodIn wsX12_mates wsX12_limit := goodIn_s _ [(60, 6), (5, 1), (66, 1), (40, 1), (52, 5), (67, 13)] rfl (by decide +kernel)
set_option maxRecDepth 20000 in
theorem gX12_mates_X12_limit : GoodIn wsX12_mates (wsV RX12 144 RX12 yX12_limit wsX12_limit) := goodIn_app (goodIn_of _ (by decide +kernel)) ggX12_mates_X12_limit
theorem dX12_mates_0 : decode cX12_mates 0 = .ok (.aload_n 0, 1) := by decide +kernel
theorem dX12_mates_1 : decode cX12_mates 1 = .ok (.invokevirtual 170, 3) := by decide +kernel
theorem dX12_mates_4 : decode cX12_mates 4 = .ok (.newarray .int, 2) := by decide +kernel
theorem dX12_mates_6 : decode cX12_mates 6 = .ok (.astore_n 1, 1) := by decide +kernel
theorem dX12_mates_7 : decode cX12_mates 7 = .ok (.iconst 0, 1) := by decide +kernel
theorem dX12_mates_8 : decode cX12_mates 8 = .ok (.istore_n 2, 1) := by decide +kernel
theorem dX12_mates_9 : decode cX12_mates 9 = .ok (.iload_n 2, 1) := by decide +kernel
theorem dX12_mates_10 : decode cX12_mates 10 = .ok (.aload_n 1, 1) := by decide +kernel
theorem dX12_mates_11 : decode cX12_mates 11 = .ok (.arraylength, 1) := by decide +kernel
theorem dX12_mates_12 : decode cX12_mates 12 = .ok (.if_icmp .ge 13, 3) := by decide +kernel
theorem dX12_mates_15 : decode cX12_mates 15 = .ok (.aload_n 1, 1) := by decide +kernel
theorem dX12_mates_16 : decode cX12_mates 16 = .ok (.iload_n 2, 1) := by decide +kernel
theorem dX12_mates_17 : decode cX12_mates 17 = .ok (.iconst (-1), 1) := by decide +kernel
theorem dX12_mates_18 : decode cX12_mates 18 = .ok (.iastore, 1) := by decide +kernel
theorem dX12_mates_19 : decode cX12_mates 19 = .ok (.iinc 2 1, 3) := by decide +kernel
theorem dX12_mates_22 : decode cX12_mates 22 = .ok (.goto (-13), 3) := by decide +kernel
theorem dX12_mates_25 : decode cX12_mates 25 = .ok (.iconst 0, 1) := by decide +kernel
theorem dX12_mates_26 : decode cX12_mates 26 = .ok (.istore_n 2, 1) := by decide +kernel
theorem dX12_mates_27 : decode cX12_mates 27 = .ok (.iload_n 2, 1) := by decide +kernel
theorem dX12_mates_28 : decode cX12_mates 28 = .ok (.aload_n 1, 1) := by decide +kernel
theorem dX12_mates_29 : decode cX12_mates 29 = .ok (.arraylength, 1) := by decide +kernel
theorem dX12_mates_30 : decode cX12_mates 30 = .ok (.if_icmp .ge 154, 3) := by decide +kernel
theorem dX12_mates_33 : decode cX12_mates 33 = .ok (.aload_n 1, 1) := by decide +kernel
theorem dX12_mates_34 : decode cX12_mates 34 = .ok (.iload_n 2, 1) := by decide +kernel
theorem dX12_mates_35 : decode cX12_mates 35 = .ok (.iaload, 1) := by decide +kernel
theorem dX12_mates_36 : decode cX12_mates 36 = .ok (.ifCond .lt 6, 3) := by decide +kernel
theorem dX12_mates_39 : decode cX12_mates 39 = .ok (.goto 139, 3) := by decide +kernel
theorem dX12_mates_42 : decode cX12_mates 42 = .ok (.iconst (-1), 1) := by decide +kernel
theorem dX12_mates_43 : decode cX12_mates 43 = .ok (.istore_n 3, 1) := by decide +kernel
theorem dX12_mates_44 : decode cX12_mates 44 = .ok (.aload_n 1, 1) := by decide +kernel
theorem dX12_mates_45 : decode cX12_mates 45 = .ok (.arraylength, 1) := by decide +kernel
theorem dX12_mates_46 : decode cX12_mates 46 = .ok (.iconst 1, 1) := by decide +kernel
theorem dX12_mates_47 : decode cX12_mates 47 = .ok (.isub, 1) := by decide +kernel
theorem dX12_mates_48 : decode cX12_mates 48 = .ok (.istore 4, 2) := by decide +kernel
theorem dX12_mates_50 : decode cX12_mates 50 = .ok (.iload 4, 2) := by decide +kernel
theorem dX12_mates_52 : decode cX12_mates 52 = .ok (.iload_n 2, 1) := by decide +kernel
theorem dX12_mates_53 : decode cX12_mates 53 = .ok (.if_icmp .le 110, 3) := by decide +kernel
theorem dX12_mates_56 : decode cX12_mates 56 = .ok (.aload_n 0, 1) := by decide +kernel
theorem dX12_mates_57 : decode cX12_mates 57 = .ok (.aload_n 0, 1) := by decide +kernel
theorem dX12_mates_58 : decode cX12_mates 58 = .ok (.invokevirtual 130, 3) := by decide +kernel
theorem dX12_mates_61 : decode cX12_mates 61 = .ok (.iload_n 2, 1) := by decide +kernel
theorem dX12_mates_62 : decode cX12_mates 62 = .ok (.iaload, 1) := by decide +kernel
theorem dX12_mates_63 : decode cX12_mates 63 = .ok (.aload_n 0, 1) := by decide +kernel
theorem dX12_mates_64 : decode cX12_mates 64 = .ok (.invokevirtual 130, 3) := by decide +kernel
theorem dX12_mates_67 : decode cX12_mates 67 = .ok (.iload 4, 2) := by decide +kernel
theorem dX12_mates_69 : decode cX12_mates 69 = .ok (.iaload, 1) := by decide +kernel
theorem dX12_mates_70 : decode cX12_mates 70 = .ok (.invokevirtual 161, 3) := by decide +kernel
theorem dX12_mates_73 : decode cX12_mates 73 = .ok (.istore 5, 2) := by decide +kernel
theorem dX12_mates_75 : decode cX12_mates 75 = .ok (.aload_n 1, 1) := by decide +kernel
theorem dX12_mates_76 : decode cX12_mates 76 = .ok (.iload 4, 2) := by decide +kernel
theorem dX12_mates_78 : decode cX12_mates 78 = .ok (.iaload, 1) := by decide +kernel
theorem dX12_mates_79 : decode cX12_mates 79 = .ok (.ifCond .ge 78, 3) := by decide +kernel
theorem dX12_mates_82 : decode cX12_mates 82 = .ok (.aload_n 0, 1) := by decide +kernel
theorem dX12_mates_83 : decode cX12_mates 83 = .ok (.iload 4, 2) := by decide +kernel
theorem dX12_mates_85 : decode cX12_mates 85 = .ok (.invokevirtual 158, 3) := by decide +kernel
theorem dX12_mates_88 : decode cX12_mates 88 = .ok (.aload_n 0, 1) := by decide +kernel
theorem dX12_mates_89 : decode cX12_mates 89 = .ok (.iload_n 2, 1) := by decide +kernel
theorem dX12_mates_90 : decode cX12_mates 90 = .ok (.invokevirtual 158, 3) := by decide +kernel
theorem dX12_mates_93 : decode cX12_mates 93 = .ok (.if_icmp .ne 64, 3) := by decide +kernel
theorem dX12_mates_96 : decode cX12_mates 96 = .ok (.iload 5, 2) := by decide +kernel
theorem dX12_mates_98 : decode cX12_mates 98 = .ok (.ifCond .eq 59, 3) := by decide +kernel
theorem dX12_mates_101 : decode cX12_mates 101 = .ok (.aload_n 0, 1) := by decide +kernel
theorem dX12_mates_102 : decode cX12_mates 102 = .ok (.aload_n 0, 1) := by decide +kernel
theorem dX12_mates_103 : decode cX12_mates 103 = .ok (.invokevirtual 130, 3) := by decide +kernel
theorem dX12_mates_106 : decode cX12_mates 106 = .ok (.iload_n 2, 1) := by decide +kernel
theorem dX12_mates_107 : decode cX12_mates 107 = .ok (.iaload, 1) := by decide +kernel
theorem dX12_mates_108 : decode cX12_mates 108 = .ok (.aload_n 0, 1) := by decide +kernel
theorem dX12_mates_109 : decode cX12_mates 109 = .ok (.invokevirtual 130, 3) := by decide +kernel
theorem dX12_mates_112 : decode cX12_mates 112 = .ok (.iload 4, 2) := by decide +kernel
theorem dX12_mates_114 : decode cX12_mates 114 = .ok (.iaload, 1) := by decide +kernel
theorem dX12_mates_115 : decode cX12_mates 115 = .ok (.ior, 1) := by decide +kernel
theorem dX12_mates_116 : decode cX12_mates 116 = .ok (.invokevirtual 137, 3) := by decide +kernel
theorem dX12_mates_119 : decode cX12_mates 119 = .ok (.aload_n 0, 1) := by decide +kernel
theorem dX12_mates_120 : decode cX12_mates 120 = .ok (.invokevirtual 144, 3) := by decide +kernel
theorem dX12_mates_123 : decode cX12_mates 123 = .ok (.if_icmp .le 6, 3) := by decide +kernel
theorem dX12_mates_126 : decode cX12_mates 126 = .ok (.goto 31, 3) := by decide +kernel
theorem dX12_mates_129 : decode cX12_mates 129 = .ok (.iload_n 3, 1) := by decide +kernel
theorem dX12_mates_130 : decode cX12_mates 130 = .ok (.ifCond .lt 24, 3) := by decide +kernel
theorem dX12_mates_133 : decode cX12_mates 133 = .ok (.iload 5, 2) := by decide +kernel
theorem dX12_mates_135 : decode cX12_mates 135 = .ok (.aload_n 0, 1) := by decide +kernel
theorem dX12_mates_136 : decode cX12_mates 136 = .ok (.aload_n 0, 1) := by decide +kernel
theorem dX12_mates_137 : decode cX12_mates 137 = .ok (.invokevirtual 130, 3) := by decide +kernel
theorem dX12_mates_140 : decode cX12_mates 140 = .ok (.iload_n 2, 1) := by decide +kernel
theorem dX12_mates_141 : decode cX12_mates 141 = .ok (.iaload, 1) := by decide +kernel
theorem dX12_mates_142 : decode cX12_mates 142 = .ok (.aload_n 0, 1) := by decide +kernel
theorem dX12_mates_143 : decode cX12_mates 143 = .ok (.invokevirtual 130, 3) := by decide +kernel
theorem dX12_mates_146 : decode cX12_mates 146 = .ok (.iload_n 3, 1) := by decide +kernel
theorem dX12_mates_147 : decode cX12_mates 147 = .ok (.iaload, 1) := by decide +kernel
theorem dX12_mates_148 : decode cX12_mates 148 = .ok (.invokevirtual 161, 3) := by decide +kernel
theorem dX12_mates_151 : decode cX12_mates 151 = .ok (.if_icmp .lt 6, 3) := by decide +kernel
theorem dX12_mates_154 : decode cX12_mates 154 = .ok (.iload 4, 2) := by decide +kernel
theorem dX12_mates_156 : decode cX12_mates 156 = .ok (.istore_n 3, 1) := by decide +kernel
theorem dX12_mates_157 : decode cX12_mates 157 = .ok (.iinc 4 (-1), 3) := by decide +kernel
theorem dX12_mates_160 : decode cX12_mates 160 = .ok (.goto (-110), 3) := by decide +kernel
theorem dX12_mates_163 : decode cX12_mates 163 = .ok (.iload_n 3, 1) := by decide +kernel
theorem dX12_mates_164 : decode cX12_mates 164 = .ok (.ifCond .ge 6, 3) := by decide +kernel
theorem dX12_mates_167 : decode cX12_mates 167 = .ok (.goto 11, 3) := by decide +kernel
theorem dX12_mates_170 : decode cX12_mates 170 = .ok (.aload_n 1, 1) := by decide +kernel
theorem dX12_mates_171 : decode cX12_mates 171 = .ok (.iload_n 2, 1) := by decide +kernel
theorem dX12_mates_172 : decode cX12_mates 172 = .ok (.iload_n 3, 1) := by decide +kernel
theorem dX12_mates_173 : decode cX12_mates 173 = .ok (.iastore, 1) := by decide +kernel
theorem dX12_mates_174 : decode cX12_mates 174 = .ok (.aload_n 1, 1) := by decide +kernel
theorem dX12_mates_175 : decode cX12_mates 175 = .ok (.iload_n 3, 1) := by decide +kernel
theorem dX12_mates_176 : decode cX12_mates 176 = .ok (.iload_n 2, 1) := by decide +kernel
theorem dX12_mates_177 : decode cX12_mates 177 = .ok (.iastore, 1) := by decide +kernel
theorem dX12_mates_178 : decode cX12_mates 178 = .ok (.iinc 2 1, 3) := by decide +kernel
theorem dX12_mates_181 : decode cX12_mates 181 = .ok (.goto (-154), 3) := by decide +kernel
theorem dX12_mates_184 : decode cX12_mates 184 = .ok (.aload_n 1, 1) := by decide +kernel
theorem dX12_mates_185 : decode cX12_mates 185 = .ok (.areturn, 1) := by decide +kernel
set_option maxRecDepth 20000 in
theorem ggX12_whyShrink_Jx4a65c_size_8abf5 : GoodIn wsX12_whyShrink wsJx4a65c_size_8abf5 := goodIn_s _ [(6, 2), (84, 3)] rfl (by decide +kernel)
set_option maxRecDepth 20000 in
theorem gX12_whyShrink_Jx4a65c_size_8abf5_f121Jx4a65c : GoodIn wsX12_whyShrink (va_wsF RX12 121 RJx4a65c ⟨"java/util/List", "size", "()I"⟩ yJx4a65c_size_8abf5 wsJx4a65c_size_8abf5) := goodIn_app (goodIn_of _ (by decide +kernel)) ggX12_whyShrink_Jx4a65c_size_8abf5
set_option maxRecDepth 20000 in
theorem ggX12_whyShrink_X12_mates : GoodIn wsX12_whyShrink wsX12_mates := goodIn_s _ [(12, 5), (11, 1), (17, 5), (1, 1), (22, 1), (2, 6), (23, 64)] rfl (by decide +kernel)
set_option maxRecDepth 20000 in
theorem gX12_whyShrink_X12_mates : GoodIn wsX12_whyShrink (wsV RX12 173 RX12 yX12_mates wsX12_mates) := goodIn_app (goodIn_of _ (by decide +kernel)) ggX12_whyShrink_X12_mates
theorem dX12_whyShrink_0 : decode cX12_whyShrink 0 = .ok (.aload_n 0, 1) := by decide +kernel
theorem dX12_whyShrink_1 : decode cX12_whyShrink 1 = .ok (.getfield 34, 3) := by decide +kernel
theorem dX12_whyShrink_4 : decode cX12_whyShrink 4 = .ok (.invokeinterface 121 1, 5) := by decide +kernel
theorem dX12_whyShrink_9 : decode cX12_whyShrink 9 = .ok (.iconst 5, 1) := by decide +kernel
theorem dX12_whyShrink_10 : decode cX12_whyShrink 10 = .ok (.if_icmp .ne 5, 3) := by decide +kernel
theorem dX12_whyShrink_13 : decode cX12_whyShrink 13 = .ok (.iconst 1, 1) := by decide +kernel
theorem dX12_whyShrink_14 : decode cX12_whyShrink 14 = .ok (.ireturn, 1) := by decide +kernel
theorem dX12_whyShrink_15 : decode cX12_whyShrink 15 = .ok (.aload_n 0, 1) := by decide +kernel
theorem dX12_whyShrink_16 : decode cX12_whyShrink 16 = .ok (.invokevirtual 173, 3) := by decide +kernel
theorem dX12_whyShrink_19 : decode cX12_whyShrink 19 = .ok (.astore_n 1, 1) := by decide +kernel
theorem dX12_whyShrink_20 : decode cX12_whyShrink 20 = .ok (.aload_n 1, 1) := by decide +kernel
theorem dX12_whyShrink_21 : decode cX12_whyShrink 21 = .ok (.arraylength, 1) := by decide +kernel
theorem dX12_whyShrink_22 : decode cX12_whyShrink 22 = .ok (.istore_n 2, 1) := by decide +kernel
theorem dX12_whyShrink_23 : decode cX12_whyShrink 23 = .ok (.iconst 0, 1) := by decide +kernel
theorem dX12_whyShrink_24 : decode cX12_whyShrink 24 = .ok (.istore_n 3, 1) := by decide +kernel
theorem dX12_whyShrink_25 : decode cX12_whyShrink 25 = .ok (.iload_n 3, 1) := by decide +kernel
theorem dX12_whyShrink_26 : decode cX12_whyShrink 26 = .ok (.iload_n 2, 1) := by decide +kernel
theorem dX12_whyShrink_27 : decode cX12_whyShrink 27 = .ok (.if_icmp .ge 21, 3) := by decide +kernel
theorem dX12_whyShrink_30 : decode cX12_whyShrink 30 = .ok (.aload_n 1, 1) := by decide +kernel
theorem dX12_whyShrink_31 : decode cX12_whyShrink 31 = .ok (.iload_n 3, 1) := by decide +kernel
theorem dX12_whyShrink_32 : decode cX12_whyShrink 32 = .ok (.iaload, 1) := by decide +kernel
theorem dX12_whyShrink_33 : decode cX12_whyShrink 33 = .ok (.istore 4, 2) := by decide +kernel
theorem dX12_whyShrink_35 : decode cX12_whyShrink 35 = .ok (.iload 4, 2) := by decide +kernel
theorem dX12_whyShrink_37 : decode cX12_whyShrink 37 = .ok (.ifCond .lt 5, 3) := by decide +kernel
theorem dX12_whyShrink_40 : decode cX12_whyShrink 40 = .ok (.iconst 0, 1) := by decide +kernel
theorem dX12_whyShrink_41 : decode cX12_whyShrink 41 = .ok (.ireturn, 1) := by decide +kernel
theorem dX12_whyShrink_42 : decode cX12_whyShrink 42 = .ok (.iinc 3 1, 3) := by decide +kernel
theorem dX12_whyShrink_45 : decode cX12_whyShrink 45 = .ok (.goto (-20), 3) := by decide +kernel
theorem dX12_whyShrink_48 : decode cX12_whyShrink 48 = .ok (.iconst 2, 1) := by decide +kernel
theorem dX12_whyShrink_49 : decode cX12_whyShrink 49 = .ok (.ireturn, 1) := by decide +kernel
set_option maxRecDepth 20000 in
theorem ggX12_shrink_X12_mates : GoodIn wsX12_shrink wsX12_mates := goodIn_s _ [(11, 1), (1, 1), (12, 3), (10, 1), (15, 5), (6, 1), (20, 55), (125, 16)] rfl (by decide +kernel)
set_option maxRecDepth 20000 in
theorem gX12_shrink_X12_mates : GoodIn wsX12_shrink (wsV RX12 173 RX12 yX12_mates wsX12_mates) := goodIn_app (goodIn_of _ (by decide +kernel)) ggX12_shrink_X12_mates
set_option maxRecDepth 20000 in
theorem ggX12_shrink_X12_groups : GoodIn wsX12_shrink wsX12_groups := goodIn_s _ [(15, 4), (10, 1), (19, 1), (6, 1), (20, 24), (125, 16)] rfl (by decide +kernel)
set_option maxRecDepth 20000 in
theorem gX12_shrink_X12_groups : GoodIn wsX12_shrink (wsV RX12 170 RX12 yX12_groups wsX12_groups) := goodIn_app (goodIn_of _ (by decide +kernel)) ggX12_shrink_X12_groups
set_option maxRecDepth 20000 in
theorem ggX12_shrink_X12_sets : GoodIn wsX12_shrink wsX12_sets := goodIn_s _ [(19, 1), (6, 1), (20, 24), (125, 16)] rfl (by decide +kernel)
set_option maxRecDepth 20000 in
theorem gX12_shrink_X12_sets : GoodIn wsX12_shrink (wsV RX12 130 RX12 yX12_sets wsX12_sets) := goodIn_app (goodIn_of _ (by decide +kernel)) ggX12_shrink_X12_sets
set_option maxRecDepth 20000 in
theorem ggX12_shrink_Jx4a65c_add_9ea2d : GoodIn wsX12_shrink wsJx4a65c_add_9ea2d := goodIn_s _ [(78, 3), (43, 1), (26, 1), (81, 3), (24, 1), (84, 41), (3, 3), (138, 3)] rfl (by decide +kernel)
set_option maxRecDepth 20000 in
theorem gX12_shrink_Jx4a65c_add_9ea2d_f105Jx4a65c : GoodIn wsX12_shrink (va_wsF RX12 105 RJx4a65c ⟨"java/util/List", "add", "(Ljava/lang/Object;)Z"⟩ yJx4a65c_add_9ea2d wsJx4a65c_add_9ea2d) := goodIn_app (goodIn_of _ (by decide +kernel)) ggX12_shrink_Jx4a65c_add_9ea2d
theorem dX12_shrink_0 : decode cX12_shrink 0 = .ok (.aload_n 0, 1) := by decide +kernel
theorem dX12_shrink_1 : decode cX12_shrink 1 = .ok (.invokevirtual 173, 3) := by decide +kernel
theorem dX12_shrink_4 : decode cX12_shrink 4 = .ok (.astore_n 1, 1) := by decide +kernel
theorem dX12_shrink_5 : decode cX12_shrink 5 = .ok (.aload_n 0, 1) := by decide +kernel
theorem dX12_shrink_6 : decode cX12_shrink 6 = .ok (.invokevirtual 170, 3) := by decide +kernel
theorem dX12_shrink_9 : decode cX12_shrink 9 = .ok (.newarray .int, 2) := by decide +kernel
theorem dX12_shrink_11 : decode cX12_shrink 11 = .ok (.astore_n 2, 1) := by decide +kernel
theorem dX12_shrink_12 : decode cX12_shrink 12 = .ok (.iconst 0, 1) := by decide +kernel
theorem dX12_shrink_13 : decode cX12_shrink 13 = .ok (.istore_n 3, 1) := by decide +kernel
theorem dX12_shrink_14 : decode cX12_shrink 14 = .ok (.iconst 0, 1) := by decide +kernel
theorem dX12_shrink_15 : decode cX12_shrink 15 = .ok (.istore 4, 2) := by decide +kernel
theorem dX12_shrink_17 : decode cX12_shrink 17 = .ok (.iload 4, 2) := by decide +kernel
theorem dX12_shrink_19 : decode cX12_shrink 19 = .ok (.aload_n 1, 1) := by decide +kernel
theorem dX12_shrink_20 : decode cX12_shrink 20 = .ok (.arraylength, 1) := by decide +kernel
theorem dX12_shrink_21 : decode cX12_shrink 21 = .ok (.if_icmp .ge 59, 3) := by decide +kernel
theorem dX12_shrink_24 : decode cX12_shrink 24 = .ok (.aload_n 1, 1) := by decide +kernel
theorem dX12_shrink_25 : decode cX12_shrink 25 = .ok (.iload 4, 2) := by decide +kernel
theorem dX12_shrink_27 : decode cX12_shrink 27 = .ok (.iaload, 1) := by decide +kernel
theorem dX12_shrink_28 : decode cX12_shrink 28 = .ok (.ifCond .lt 12, 3) := by decide +kernel
theorem dX12_shrink_31 : decode cX12_shrink 31 = .ok (.aload_n 1, 1) := by decide +kernel
theorem dX12_shrink_32 : decode cX12_shrink 32 = .ok (.iload 4, 2) := by decide +kernel
theorem dX12_shrink_34 : decode cX12_shrink 34 = .ok (.iaload, 1) := by decide +kernel
theorem dX12_shrink_35 : decode cX12_shrink 35 = .ok (.iload 4, 2) := by decide +kernel
theorem dX12_shrink_37 : decode cX12_shrink 37 = .ok (.if_icmp .le 37, 3) := by decide +kernel
theorem dX12_shrink_40 : decode cX12_shrink 40 = .ok (.aload_n 2, 1) := by decide +kernel
theorem dX12_shrink_41 : decode cX12_shrink 41 = .ok (.iload_n 3, 1) := by decide +kernel
theorem dX12_shrink_42 : decode cX12_shrink 42 = .ok (.iinc 3 1, 3) := by decide +kernel
theorem dX12_shrink_45 : decode cX12_shrink 45 = .ok (.aload_n 0, 1) := by decide +kernel
theorem dX12_shrink_46 : decode cX12_shrink 46 = .ok (.invokevirtual 130, 3) := by decide +kernel
theorem dX12_shrink_49 : decode cX12_shrink 49 = .ok (.iload 4, 2) := by decide +kernel
theorem dX12_shrink_51 : decode cX12_shrink 51 = .ok (.iaload, 1) := by decide +kernel
theorem dX12_shrink_52 : decode cX12_shrink 52 = .ok (.aload_n 1, 1) := by decide +kernel
theorem dX12_shrink_53 : decode cX12_shrink 53 = .ok (.iload 4, 2) := by decide +kernel
theorem dX12_shrink_55 : decode cX12_shrink 55 = .ok (.iaload, 1) := by decide +kernel
theorem dX12_shrink_56 : decode cX12_shrink 56 = .ok (.ifCond .ge 7, 3) := by decide +kernel
theorem dX12_shrink_59 : decode cX12_shrink 59 = .ok (.iconst 0, 1) := by decide +kernel
theorem dX12_shrink_60 : decode cX12_shrink 60 = .ok (.goto 12, 3) := by decide +kernel
theorem dX12_shrink_63 : decode cX12_shrink 63 = .ok (.aload_n 0, 1) := by decide +kernel
theorem dX12_shrink_64 : decode cX12_shrink 64 = .ok (.invokevirtual 130, 3) := by decide +kernel
theorem dX12_shrink_67 : decode cX12_shrink 67 = .ok (.aload_n 1, 1) := by decide +kernel
theorem dX12_shrink_68 : decode cX12_shrink 68 = .ok (.iload 4, 2) := by decide +kernel
theorem dX12_shrink_70 : decode cX12_shrink 70 = .ok (.iaload, 1) := by decide +kernel
theorem dX12_shrink_71 : decode cX12_shrink 71 = .ok (.iaload, 1) := by decide +kernel
theorem dX12_shrink_72 : decode cX12_shrink 72 = .ok (.ior, 1) := by decide +kernel
theorem dX12_shrink_73 : decode cX12_shrink 73 = .ok (.iastore, 1) := by decide +kernel
theorem dX12_shrink_74 : decode cX12_shrink 74 = .ok (.iinc 4 1, 3) := by decide +kernel
theorem dX12_shrink_77 : decode cX12_shrink 77 = .ok (.goto (-60), 3) := by decide +kernel
theorem dX12_shrink_80 : decode cX12_shrink 80 = .ok (.iload_n 3, 1) := by decide +kernel
theorem dX12_shrink_81 : decode cX12_shrink 81 = .ok (.newarray .int, 2) := by decide +kernel
theorem dX12_shrink_83 : decode cX12_shrink 83 = .ok (.astore 4, 2) := by decide +kernel
theorem dX12_shrink_85 : decode cX12_shrink 85 = .ok (.aload_n 2, 1) := by decide +kernel
theorem dX12_shrink_86 : decode cX12_shrink 86 = .ok (.iconst 0, 1) := by decide +kernel
theorem dX12_shrink_87 : decode cX12_shrink 87 = .ok (.aload 4, 2) := by decide +kernel
theorem dX12_shrink_89 : decode cX12_shrink 89 = .ok (.iconst 0, 1) := by decide +kernel
theorem dX12_shrink_90 : decode cX12_shrink 90 = .ok (.iload_n 3, 1) := by decide +kernel
theorem dX12_shrink_91 : decode cX12_shrink 91 = .ok (.invokestatic 111, 3) := by decide +kernel
theorem dX12_shrink_94 : decode cX12_shrink 94 = .ok (.aload_n 0, 1) := by decide +kernel
theorem dX12_shrink_95 : decode cX12_shrink 95 = .ok (.getfield 34, 3) := by decide +kernel
theorem dX12_shrink_98 : decode cX12_shrink 98 = .ok (.aload 4, 2) := by decide +kernel
theorem dX12_shrink_100 : decode cX12_shrink 100 = .ok (.invokeinterface 105 2, 5) := by decide +kernel
theorem dX12_shrink_105 : decode cX12_shrink 105 = .ok (.pop, 1) := by decide +kernel
theorem dX12_shrink_106 : decode cX12_shrink 106 = .ok (.iload_n 3, 1) := by decide +kernel
theorem dX12_shrink_107 : decode cX12_shrink 107 = .ok (.ireturn, 1) := by decide +kernel
set_option maxRecDepth 20000 in
theorem ggX12_grow_Jx4a65c_size_8abf5 : GoodIn wsX12_grow wsJx4a65c_size_8abf5 := goodIn_s _ [(7, 2), (62, 3)] rfl (by decide +kernel)
set_option maxRecDepth 20000 in
theorem gX12_grow_Jx4a65c_size_8abf5_f121Jx4a65c : GoodIn wsX12_grow (va_wsF RX12 121 RJx4a65c ⟨"java/util/List", "size", "()I"⟩ yJx4a65c_size_8abf5 wsJx4a65c_size_8abf5) := goodIn_app (goodIn_of _ (by decide +kernel)) ggX12_grow_Jx4a65c_size_8abf5
set_option maxRecDepth 20000 in
theorem ggX12_grow_Jx4a65c_remove_915e3 : GoodIn wsX12_grow wsJx4a65c_remove_915e3 := goodIn_s _ [(12, 1), (8, 1), (13, 12), (6, 1), (25, 7), (62, 3)] rfl (by decide +kernel)
set_option maxRecDepth 20000 in
theorem gX12_grow_Jx4a65c_remove_915e3_f176Jx4a65c : GoodIn wsX12_grow (va_wsF RX12 176 RJx4a65c ⟨"java/util/List", "remove", "(I)Ljava/lang/Object;"⟩ yJx4a65c_remove_915e3 wsJx4a65c_remove_915e3) := goodIn_app (goodIn_of _ (by decide +kernel)) ggX12_grow_Jx4a65c_remove_915e3
set_option maxRecDepth 20000 in
theorem ggX12_grow_X12_groups : GoodIn wsX12_grow wsX12_groups := goodIn_s _ [(36, 4), (35, 1), (40, 1), (1, 8), (41, 4), (14, 8), (45, 4), (13, 1), (49, 16)] rfl (by decide +kernel)
set_option maxRecDepth 20000 in
theorem gX12_grow_X12_groups : GoodIn wsX12_grow (wsV RX12 170 RX12 yX12_groups wsX12_groups) := goodIn_app (goodIn_of _ (by decide +kernel)) ggX12_grow_X12_groups
theorem dX12_grow_0 : decode cX12_grow 0 = .ok (.aload_n 0, 1) := by decide +kernel
theorem dX12_grow_1 : decode cX12_grow 1 = .ok (.getfield 34, 3) := by decide +kernel
theorem dX12_grow_4 : decode cX12_grow 4 = .ok (.aload_n 0, 1) := by decide +kernel
theorem dX12_grow_5 : decode cX12_grow 5 = .ok (.getfield 34, 3) := by decide +kernel
theorem dX12_grow_8 : decode cX12_grow 8 = .ok (.invokeinterface 121 1, 5) := by decide +kernel
theorem dX12_grow_13 : decode cX12_grow 13 = .ok (.iconst 1, 1) := by decide +kernel
theorem dX12_grow_14 : decode cX12_grow 14 = .ok (.isub, 1) := by decide +kernel
theorem dX12_grow_15 : decode cX12_grow 15 = .ok (.invokeinterface 176 2, 5) := by decide +kernel
theorem dX12_grow_20 : decode cX12_grow 20 = .ok (.checkcast 129, 3) := by decide +kernel
theorem dX12_grow_23 : decode cX12_grow 23 = .ok (.astore_n 1, 1) := by decide +kernel
theorem dX12_grow_24 : decode cX12_grow 24 = .ok (.aload_n 0, 1) := by decide +kernel
theorem dX12_grow_25 : decode cX12_grow 25 = .ok (.invokevirtual 170, 3) := by decide +kernel
theorem dX12_grow_28 : decode cX12_grow 28 = .ok (.ireturn, 1) := by decide +kernel
set_option maxRecDepth 20000 in
theorem ggX12_comes_X12_partOf : GoodIn wsX12_comes wsX12_partOf := goodIn_s _ [(9, 1), (2, 1), (10, 3), (8, 1), (13, 31), (102, 16)] rfl (by decide +kernel)
set_option maxRecDepth 20000 in
theorem gX12_comes_X12_partOf : GoodIn wsX12_comes (wsV RX12 158 RX12 yX12_partOf wsX12_partOf) := goodIn_app (goodIn_of _ (by decide +kernel)) ggX12_comes_X12_partOf
set_option maxRecDepth 20000 in
theorem ggX12_comes_X12_sets : GoodIn wsX12_comes wsX12_sets := goodIn_s _ [(13, 26), (102, 16)] rfl (by decide +kernel)
set_option maxRecDepth 20000 in
theorem gX12_comes_X12_sets : GoodIn wsX12_comes (wsV RX12 130 RX12 yX12_sets wsX12_sets) := goodIn_app (goodIn_of _ (by decide +kernel)) ggX12_comes_X12_sets
set_option maxRecDepth 20000 in
theorem ggX12_comes_X12_cut : GoodIn wsX12_comes wsX12_cut := goodIn_s _ [(47, 1), (1, 2), (48, 1), (102, 13)] rfl (by decide +kernel)
set_option maxRecDepth 20000 in
theorem gX12_comes_X12_cut : GoodIn wsX12_comes (wsV RX12 179 RX12 yX12_cut wsX12_cut) := goodIn_app (goodIn_of _ (by decide +kernel)) ggX12_comes_X12_cut
set_option maxRecDepth 20000 in
theorem ggX12_comes_Jx4a65c_add_9ea2d : GoodIn wsX12_comes wsJx4a65c_add_9ea2d := goodIn_s _ [(52, 3), (38, 1), (21, 1), (55, 3), (19, 1), (58, 44), (115, 3)] rfl (by decide +kernel)
set_option maxRecDepth 20000 in
theorem gX12_comes_Jx4a65c_add_9ea2d_f105Jx4a65c : GoodIn wsX12_comes (va_wsF RX12 105 RJx4a65c ⟨"java/util/List", "add", "(Ljava/lang/Object;)Z"⟩ yJx4a65c_add_9ea2d wsJx4a65c_add_9ea2d) := goodIn_app (goodIn_of _ (by decide +kernel)) ggX12_comes_Jx4a65c_add_9ea2d
theorem dX12_comes_0 : decode cX12_comes 0 = .ok (.aload_n 0, 1) := by decide +kernel
theorem dX12_comes_1 : decode cX12_comes 1 = .ok (.iload_n 1, 1) := by decide +kernel
theorem dX12_comes_2 : decode cX12_comes 2 = .ok (.invokevirtual 158, 3) := by decide +kernel
theorem dX12_comes_5 : decode cX12_comes 5 = .ok (.istore_n 3, 1) := by decide +kernel
theorem dX12_comes_6 : decode cX12_comes 6 = .ok (.iload_n 3, 1) := by decide +kernel
theorem dX12_comes_7 : decode cX12_comes 7 = .ok (.iload_n 2, 1) := by decide +kernel
theorem dX12_comes_8 : decode cX12_comes 8 = .ok (.if_icmp .ne 5, 3) := by decide +kernel
theorem dX12_comes_11 : decode cX12_comes 11 = .ok (.iconst 0, 1) := by decide +kernel
theorem dX12_comes_12 : decode cX12_comes 12 = .ok (.ireturn, 1) := by decide +kernel
theorem dX12_comes_13 : decode cX12_comes 13 = .ok (.iconst 0, 1) := by decide +kernel
theorem dX12_comes_14 : decode cX12_comes 14 = .ok (.istore 4, 2) := by decide +kernel
theorem dX12_comes_16 : decode cX12_comes 16 = .ok (.iload 4, 2) := by decide +kernel
theorem dX12_comes_18 : decode cX12_comes 18 = .ok (.aload_n 0, 1) := by decide +kernel
theorem dX12_comes_19 : decode cX12_comes 19 = .ok (.getfield 87, 3) := by decide +kernel
theorem dX12_comes_22 : decode cX12_comes 22 = .ok (.if_icmp .ge 32, 3) := by decide +kernel
theorem dX12_comes_25 : decode cX12_comes 25 = .ok (.aload_n 0, 1) := by decide +kernel
theorem dX12_comes_26 : decode cX12_comes 26 = .ok (.invokevirtual 130, 3) := by decide +kernel
theorem dX12_comes_29 : decode cX12_comes 29 = .ok (.iload_n 1, 1) := by decide +kernel
theorem dX12_comes_30 : decode cX12_comes 30 = .ok (.iaload, 1) := by decide +kernel
theorem dX12_comes_31 : decode cX12_comes 31 = .ok (.iload 4, 2) := by decide +kernel
theorem dX12_comes_33 : decode cX12_comes 33 = .ok (.ishr, 1) := by decide +kernel
theorem dX12_comes_34 : decode cX12_comes 34 = .ok (.iconst 1, 1) := by decide +kernel
theorem dX12_comes_35 : decode cX12_comes 35 = .ok (.iand, 1) := by decide +kernel
theorem dX12_comes_36 : decode cX12_comes 36 = .ok (.iconst 1, 1) := by decide +kernel
theorem dX12_comes_37 : decode cX12_comes 37 = .ok (.if_icmp .ne 11, 3) := by decide +kernel
theorem dX12_comes_40 : decode cX12_comes 40 = .ok (.aload_n 0, 1) := by decide +kernel
theorem dX12_comes_41 : decode cX12_comes 41 = .ok (.getfield 17, 3) := by decide +kernel
theorem dX12_comes_44 : decode cX12_comes 44 = .ok (.iload 4, 2) := by decide +kernel
theorem dX12_comes_46 : decode cX12_comes 46 = .ok (.iload_n 2, 1) := by decide +kernel
theorem dX12_comes_47 : decode cX12_comes 47 = .ok (.iastore, 1) := by decide +kernel
theorem dX12_comes_48 : decode cX12_comes 48 = .ok (.iinc 4 1, 3) := by decide +kernel
theorem dX12_comes_51 : decode cX12_comes 51 = .ok (.goto (-35), 3) := by decide +kernel
theorem dX12_comes_54 : decode cX12_comes 54 = .ok (.aload_n 0, 1) := by decide +kernel
theorem dX12_comes_55 : decode cX12_comes 55 = .ok (.getfield 38, 3) := by decide +kernel
theorem dX12_comes_58 : decode cX12_comes 58 = .ok (.iconst 4, 1) := by decide +kernel
theorem dX12_comes_59 : decode cX12_comes 59 = .ok (.newarray .int, 2) := by decide +kernel
theorem dX12_comes_61 : decode cX12_comes 61 = .ok (.dup, 1) := by decide +kernel
theorem dX12_comes_62 : decode cX12_comes 62 = .ok (.iconst 0, 1) := by decide +kernel
theorem dX12_comes_63 : decode cX12_comes 63 = .ok (.iload_n 1, 1) := by decide +kernel
theorem dX12_comes_64 : decode cX12_comes 64 = .ok (.iastore, 1) := by decide +kernel
theorem dX12_comes_65 : decode cX12_comes 65 = .ok (.dup, 1) := by decide +kernel
theorem dX12_comes_66 : decode cX12_comes 66 = .ok (.iconst 1, 1) := by decide +kernel
theorem dX12_comes_67 : decode cX12_comes 67 = .ok (.iload_n 3, 1) := by decide +kernel
theorem dX12_comes_68 : decode cX12_comes 68 = .ok (.iastore, 1) := by decide +kernel
theorem dX12_comes_69 : decode cX12_comes 69 = .ok (.dup, 1) := by decide +kernel
theorem dX12_comes_70 : decode cX12_comes 70 = .ok (.iconst 2, 1) := by decide +kernel
theorem dX12_comes_71 : decode cX12_comes 71 = .ok (.iload_n 2, 1) := by decide +kernel
theorem dX12_comes_72 : decode cX12_comes 72 = .ok (.iastore, 1) := by decide +kernel
theorem dX12_comes_73 : decode cX12_comes 73 = .ok (.dup, 1) := by decide +kernel
theorem dX12_comes_74 : decode cX12_comes 74 = .ok (.iconst 3, 1) := by decide +kernel
theorem dX12_comes_75 : decode cX12_comes 75 = .ok (.aload_n 0, 1) := by decide +kernel
theorem dX12_comes_76 : decode cX12_comes 76 = .ok (.invokevirtual 179, 3) := by decide +kernel
theorem dX12_comes_79 : decode cX12_comes 79 = .ok (.iastore, 1) := by decide +kernel
theorem dX12_comes_80 : decode cX12_comes 80 = .ok (.invokeinterface 105 2, 5) := by decide +kernel
theorem dX12_comes_85 : decode cX12_comes 85 = .ok (.pop, 1) := by decide +kernel
theorem dX12_comes_86 : decode cX12_comes 86 = .ok (.iconst 1, 1) := by decide +kernel
theorem dX12_comes_87 : decode cX12_comes 87 = .ok (.ireturn, 1) := by decide +kernel
set_option maxRecDepth 20000 in
theorem ggX12_move_X12_comes : GoodIn wsX12_move wsX12_comes := goodIn_s _ [(5, 8), (4, 1), (13, 109)] rfl (by decide +kernel)
set_option maxRecDepth 20000 in
theorem gX12_move_X12_comes : GoodIn wsX12_move (wsV RX12 182 RX12 yX12_comes wsX12_comes) := goodIn_app (goodIn_of _ (by decide +kernel)) ggX12_move_X12_comes
set_option maxRecDepth 20000 in
theorem ggX12_move_X12_cut : GoodIn wsX12_move wsX12_cut := goodIn_s _ [(51, 1), (6, 2), (52, 1), (106, 13)] rfl (by decide +kernel)
set_option maxRecDepth 20000 in
theorem gX12_move_X12_cut : GoodIn wsX12_move (wsV RX12 179 RX12 yX12_cut wsX12_cut) := goodIn_app (goodIn_of _ (by decide +kernel)) ggX12_move_X12_cut
theorem dX12_move_0 : decode cX12_move 0 = .ok (.aload_n 0, 1) := by decide +kernel
theorem dX12_move_1 : decode cX12_move 1 = .ok (.iload_n 1, 1) := by decide +kernel
theorem dX12_move_2 : decode cX12_move 2 = .ok (.iload_n 2, 1) := by decide +kernel
theorem dX12_move_3 : decode cX12_move 3 = .ok (.invokevirtual 182, 3) := by decide +kernel
theorem dX12_move_6 : decode cX12_move 6 = .ok (.istore_n 3, 1) := by decide +kernel
theorem dX12_move_7 : decode cX12_move 7 = .ok (.aload_n 0, 1) := by decide +kernel
theorem dX12_move_8 : decode cX12_move 8 = .ok (.invokevirtual 179, 3) := by decide +kernel
theorem dX12_move_11 : decode cX12_move 11 = .ok (.ireturn, 1) := by decide +kernel
set_option maxRecDepth 20000 in
theorem ggX12_next_X12_debts : GoodIn wsX12_next wsX12_debts := goodIn_s _ [(6, 1), (1, 1), (7, 7), (5, 1), (14, 17), (91, 13)] rfl (by decide +kernel)
set_option maxRecDepth 20000 in
theorem gX12_next_X12_debts : GoodIn wsX12_next (wsV RX12 167 RX12 yX12_debts wsX12_debts) := goodIn_app (goodIn_of _ (by decide +kernel)) ggX12_next_X12_debts
set_option maxRecDepth 20000 in
theorem ggX12_next_X12_groups : GoodIn wsX12_next wsX12_groups := goodIn_s _ [(34, 4), (5, 1), (38, 26), (91, 16)] rfl (by decide +kernel)
set_option maxRecDepth 20000 in
theorem gX12_next_X12_groups : GoodIn wsX12_next (wsV RX12 170 RX12 yX12_groups wsX12_groups) := goodIn_app (goodIn_of _ (by decide +kernel)) ggX12_next_X12_groups
set_option maxRecDepth 20000 in
theorem ggX12_next_X12_partOf : GoodIn wsX12_next wsX12_partOf := goodIn_s _ [(67, 1), (16, 1), (35, 3), (5, 1), (38, 26), (68, 5), (91, 16)] rfl (by decide +kernel)
set_option maxRecDepth 20000 in
theorem gX12_next_X12_partOf : GoodIn wsX12_next (wsV RX12 158 RX12 yX12_partOf wsX12_partOf) := goodIn_app (goodIn_of _ (by decide +kernel)) ggX12_next_X12_partOf
set_option maxRecDepth 20000 in
theorem ggX12_next_X12_debtsIf : GoodIn wsX12_next wsX12_debtsIf := goodIn_s _ [(76, 1), (1, 1), (7, 7), (5, 1), (14, 3), (35, 29), (17, 14), (91, 16)] rfl (by decide +kernel)
set_option maxRecDepth 20000 in
theorem gX12_next_X12_debtsIf : GoodIn wsX12_next (wsV RX12 164 RX12 yX12_debtsIf wsX12_debtsIf) := goodIn_app (goodIn_of _ (by decide +kernel)) ggX12_next_X12_debtsIf
set_option maxRecDepth 20000 in
theorem ggX12_next_X12_gain : GoodIn wsX12_next wsX12_gain := goodIn_s _ [(80, 1), (64, 3), (5, 1), (67, 1), (16, 1), (35, 29), (68, 5), (11, 5), (81, 5), (91, 16)] rfl (by decide +kernel)
set_option maxRecDepth 20000 in
theorem gX12_next_X12_gain : GoodIn wsX12_next (wsV RX12 186 RX12 yX12_gain wsX12_gain) := goodIn_app (goodIn_of _ (by decide +kernel)) ggX12_next_X12_gain
set_option maxRecDepth 20000 in
theorem ggX12_next_X12_why : GoodIn wsX12_next wsX12_why := goodIn_s _ [(89, 2), (64, 3), (5, 1), (67, 1), (16, 1), (35, 29), (68, 9), (1, 1), (7, 9), (17, 14), (2, 3), (6, 1), (91, 16)] rfl (by decide +kernel)
set_option maxRecDepth 20000 in
theorem gX12_next_X12_why : GoodIn wsX12_next (wsV RX12 189 RX12 yX12_why wsX12_why) := goodIn_app (goodIn_of _ (by decide +kernel)) ggX12_next_X12_why
theorem dX12_next_0 : decode cX12_next 0 = .ok (.aload_n 0, 1) := by decide +kernel
theorem dX12_next_1 : decode cX12_next 1 = .ok (.invokevirtual 167, 3) := by decide +kernel
theorem dX12_next_4 : decode cX12_next 4 = .ok (.istore_n 1, 1) := by decide +kernel
theorem dX12_next_5 : decode cX12_next 5 = .ok (.iload_n 1, 1) := by decide +kernel
theorem dX12_next_6 : decode cX12_next 6 = .ok (.ifCond .le 7, 3) := by decide +kernel
theorem dX12_next_9 : decode cX12_next 9 = .ok (.iconst 0, 1) := by decide +kernel
theorem dX12_next_10 : decode cX12_next 10 = .ok (.goto 4, 3) := by decide +kernel
theorem dX12_next_13 : decode cX12_next 13 = .ok (.iconst 1, 1) := by decide +kernel
theorem dX12_next_14 : decode cX12_next 14 = .ok (.istore_n 2, 1) := by decide +kernel
theorem dX12_next_15 : decode cX12_next 15 = .ok (.iload_n 2, 1) := by decide +kernel
theorem dX12_next_16 : decode cX12_next 16 = .ok (.iconst 2, 1) := by decide +kernel
theorem dX12_next_17 : decode cX12_next 17 = .ok (.if_icmp .ge 192, 3) := by decide +kernel
theorem dX12_next_20 : decode cX12_next 20 = .ok (.iconst (-1), 1) := by decide +kernel
theorem dX12_next_21 : decode cX12_next 21 = .ok (.istore_n 3, 1) := by decide +kernel
theorem dX12_next_22 : decode cX12_next 22 = .ok (.aload_n 0, 1) := by decide +kernel
theorem dX12_next_23 : decode cX12_next 23 = .ok (.invokevirtual 170, 3) := by decide +kernel
theorem dX12_next_26 : decode cX12_next 26 = .ok (.iconst 1, 1) := by decide +kernel
theorem dX12_next_27 : decode cX12_next 27 = .ok (.isub, 1) := by decide +kernel
theorem dX12_next_28 : decode cX12_next 28 = .ok (.istore 4, 2) := by decide +kernel
theorem dX12_next_30 : decode cX12_next 30 = .ok (.iload 4, 2) := by decide +kernel
theorem dX12_next_32 : decode cX12_next 32 = .ok (.ifCond .lt 165, 3) := by decide +kernel
theorem dX12_next_35 : decode cX12_next 35 = .ok (.aload_n 0, 1) := by decide +kernel
theorem dX12_next_36 : decode cX12_next 36 = .ok (.getfield 7, 3) := by decide +kernel
theorem dX12_next_39 : decode cX12_next 39 = .ok (.iconst 1, 1) := by decide +kernel
theorem dX12_next_40 : decode cX12_next 40 = .ok (.isub, 1) := by decide +kernel
theorem dX12_next_41 : decode cX12_next 41 = .ok (.istore 5, 2) := by decide +kernel
theorem dX12_next_43 : decode cX12_next 43 = .ok (.iload 5, 2) := by decide +kernel
theorem dX12_next_45 : decode cX12_next 45 = .ok (.ifCond .lt 146, 3) := by decide +kernel
theorem dX12_next_48 : decode cX12_next 48 = .ok (.aload_n 0, 1) := by decide +kernel
theorem dX12_next_49 : decode cX12_next 49 = .ok (.iload 4, 2) := by decide +kernel
theorem dX12_next_51 : decode cX12_next 51 = .ok (.invokevirtual 158, 3) := by decide +kernel
theorem dX12_next_54 : decode cX12_next 54 = .ok (.iload 5, 2) := by decide +kernel
theorem dX12_next_56 : decode cX12_next 56 = .ok (.if_icmp .eq 129, 3) := by decide +kernel
theorem dX12_next_59 : decode cX12_next 59 = .ok (.iload_n 2, 1) := by decide +kernel
theorem dX12_next_60 : decode cX12_next 60 = .ok (.ifCond .ne 18, 3) := by decide +kernel
theorem dX12_next_63 : decode cX12_next 63 = .ok (.aload_n 0, 1) := by decide +kernel
theorem dX12_next_64 : decode cX12_next 64 = .ok (.iload 4, 2) := by decide +kernel
theorem dX12_next_66 : decode cX12_next 66 = .ok (.iload 5, 2) := by decide +kernel
theorem dX12_next_68 : decode cX12_next 68 = .ok (.invokevirtual 164, 3) := by decide +kernel
theorem dX12_next_71 : decode cX12_next 71 = .ok (.iload_n 1, 1) := by decide +kernel
theorem dX12_next_72 : decode cX12_next 72 = .ok (.if_icmp .lt 31, 3) := by decide +kernel
theorem dX12_next_75 : decode cX12_next 75 = .ok (.goto 110, 3) := by decide +kernel
theorem dX12_next_78 : decode cX12_next 78 = .ok (.aload_n 0, 1) := by decide +kernel
theorem dX12_next_79 : decode cX12_next 79 = .ok (.iload 4, 2) := by decide +kernel
theorem dX12_next_81 : decode cX12_next 81 = .ok (.iload 5, 2) := by decide +kernel
theorem dX12_next_83 : decode cX12_next 83 = .ok (.invokevirtual 186, 3) := by decide +kernel
theorem dX12_next_86 : decode cX12_next 86 = .ok (.ifCond .le 99, 3) := by decide +kernel
theorem dX12_next_89 : decode cX12_next 89 = .ok (.aload_n 0, 1) := by decide +kernel
theorem dX12_next_90 : decode cX12_next 90 = .ok (.iload 4, 2) := by decide +kernel
theorem dX12_next_92 : decode cX12_next 92 = .ok (.iload 5, 2) := by decide +kernel
theorem dX12_next_94 : decode cX12_next 94 = .ok (.invokevirtual 189, 3) := by decide +kernel
theorem dX12_next_97 : decode cX12_next 97 = .ok (.ifCond .le 6, 3) := by decide +kernel
theorem dX12_next_100 : decode cX12_next 100 = .ok (.goto 85, 3) := by decide +kernel
theorem dX12_next_103 : decode cX12_next 103 = .ok (.iload_n 3, 1) := by decide +kernel
theorem dX12_next_104 : decode cX12_next 104 = .ok (.ifCond .lt 72, 3) := by decide +kernel
theorem dX12_next_107 : decode cX12_next 107 = .ok (.aload_n 0, 1) := by decide +kernel
theorem dX12_next_108 : decode cX12_next 108 = .ok (.iload 4, 2) := by decide +kernel
theorem dX12_next_110 : decode cX12_next 110 = .ok (.iload 5, 2) := by decide +kernel
theorem dX12_next_112 : decode cX12_next 112 = .ok (.invokevirtual 186, 3) := by decide +kernel
theorem dX12_next_115 : decode cX12_next 115 = .ok (.aload_n 0, 1) := by decide +kernel
theorem dX12_next_116 : decode cX12_next 116 = .ok (.iload_n 3, 1) := by decide +kernel
theorem dX12_next_117 : decode cX12_next 117 = .ok (.bipush 10, 2) := by decide +kernel
theorem dX12_next_119 : decode cX12_next 119 = .ok (.idiv, 1) := by decide +kernel
theorem dX12_next_120 : decode cX12_next 120 = .ok (.iload_n 3, 1) := by decide +kernel
theorem dX12_next_121 : decode cX12_next 121 = .ok (.bipush 10, 2) := by decide +kernel
theorem dX12_next_123 : decode cX12_next 123 = .ok (.irem, 1) := by decide +kernel
theorem dX12_next_124 : decode cX12_next 124 = .ok (.invokevirtual 186, 3) := by decide +kernel
theorem dX12_next_127 : decode cX12_next 127 = .ok (.if_icmp .gt 49, 3) := by decide +kernel
theorem dX12_next_130 : decode cX12_next 130 = .ok (.aload_n 0, 1) := by decide +kernel
theorem dX12_next_131 : decode cX12_next 131 = .ok (.iload 4, 2) := by decide +kernel
theorem dX12_next_133 : decode cX12_next 133 = .ok (.iload 5, 2) := by decide +kernel
theorem dX12_next_135 : decode cX12_next 135 = .ok (.invokevirtual 186, 3) := by decide +kernel
theorem dX12_next_138 : decode cX12_next 138 = .ok (.aload_n 0, 1) := by decide +kernel
theorem dX12_next_139 : decode cX12_next 139 = .ok (.iload_n 3, 1) := by decide +kernel
theorem dX12_next_140 : decode cX12_next 140 = .ok (.bipush 10, 2) := by decide +kernel
theorem dX12_next_142 : decode cX12_next 142 = .ok (.idiv, 1) := by decide +kernel
theorem dX12_next_143 : decode cX12_next 143 = .ok (.iload_n 3, 1) := by decide +kernel
theorem dX12_next_144 : decode cX12_next 144 = .ok (.bipush 10, 2) := by decide +kernel
theorem dX12_next_146 : decode cX12_next 146 = .ok (.irem, 1) := by decide +kernel
theorem dX12_next_147 : decode cX12_next 147 = .ok (.invokevirtual 186, 3) := by decide +kernel
theorem dX12_next_150 : decode cX12_next 150 = .ok (.if_icmp .ne 35, 3) := by decide +kernel
theorem dX12_next_153 : decode cX12_next 153 = .ok (.aload_n 0, 1) := by decide +kernel
theorem dX12_next_154 : decode cX12_next 154 = .ok (.iload 4, 2) := by decide +kernel
theorem dX12_next_156 : decode cX12_next 156 = .ok (.iload 5, 2) := by decide +kernel
theorem dX12_next_158 : decode cX12_next 158 = .ok (.invokevirtual 164, 3) := by decide +kernel
theorem dX12_next_161 : decode cX12_next 161 = .ok (.aload_n 0, 1) := by decide +kernel
theorem dX12_next_162 : decode cX12_next 162 = .ok (.iload_n 3, 1) := by decide +kernel
theorem dX12_next_163 : decode cX12_next 163 = .ok (.bipush 10, 2) := by decide +kernel
theorem dX12_next_165 : decode cX12_next 165 = .ok (.idiv, 1) := by decide +kernel
theorem dX12_next_166 : decode cX12_next 166 = .ok (.iload_n 3, 1) := by decide +kernel
theorem dX12_next_167 : decode cX12_next 167 = .ok (.bipush 10, 2) := by decide +kernel
theorem dX12_next_169 : decode cX12_next 169 = .ok (.irem, 1) := by decide +kernel
theorem dX12_next_170 : decode cX12_next 170 = .ok (.invokevirtual 164, 3) := by decide +kernel
theorem dX12_next_173 : decode cX12_next 173 = .ok (.if_icmp .gt 12, 3) := by decide +kernel
theorem dX12_next_176 : decode cX12_next 176 = .ok (.bipush 10, 2) := by decide +kernel
theorem dX12_next_178 : decode cX12_next 178 = .ok (.iload 4, 2) := by decide +kernel
theorem dX12_next_180 : decode cX12_next 180 = .ok (.imul, 1) := by decide +kernel
theorem dX12_next_181 : decode cX12_next 181 = .ok (.iload 5, 2) := by decide +kernel
theorem dX12_next_183 : decode cX12_next 183 = .ok (.iadd, 1) := by decide +kernel
theorem dX12_next_184 : decode cX12_next 184 = .ok (.istore_n 3, 1) := by decide +kernel
theorem dX12_next_185 : decode cX12_next 185 = .ok (.iinc 5 (-1), 3) := by decide +kernel
theorem dX12_next_188 : decode cX12_next 188 = .ok (.goto (-145), 3) := by decide +kernel
theorem dX12_next_191 : decode cX12_next 191 = .ok (.iinc 4 (-1), 3) := by decide +kernel
theorem dX12_next_194 : decode cX12_next 194 = .ok (.goto (-164), 3) := by decide +kernel
theorem dX12_next_197 : decode cX12_next 197 = .ok (.iload_n 3, 1) := by decide +kernel
theorem dX12_next_198 : decode cX12_next 198 = .ok (.ifCond .lt 5, 3) := by decide +kernel
theorem dX12_next_201 : decode cX12_next 201 = .ok (.iload_n 3, 1) := by decide +kernel
theorem dX12_next_202 : decode cX12_next 202 = .ok (.ireturn, 1) := by decide +kernel
theorem dX12_next_203 : decode cX12_next 203 = .ok (.iinc 2 1, 3) := by decide +kernel
theorem dX12_next_206 : decode cX12_next 206 = .ok (.goto (-191), 3) := by decide +kernel
theorem dX12_next_209 : decode cX12_next 209 = .ok (.iconst (-1), 1) := by decide +kernel
theorem dX12_next_210 : decode cX12_next 210 = .ok (.ireturn, 1) := by decide +kernel
set_option maxRecDepth 20000 in
theorem ggX12_step_X12_next : GoodIn wsX12_step wsX12_next := goodIn_s _ [(5, 5), (4, 1), (10, 85), (159, 16)] rfl (by decide +kernel)
set_option maxRecDepth 20000 in
theorem gX12_step_X12_next : GoodIn wsX12_step (wsV RX12 192 RX12 yX12_next wsX12_next) := goodIn_app (goodIn_of _ (by decide +kernel)) ggX12_step_X12_next
set_option maxRecDepth 20000 in
theorem ggX12_step_X12_move : GoodIn wsX12_step wsX12_move := goodIn_s _ [(98, 4), (4, 1), (102, 1), (19, 2), (103, 2), (68, 4), (39, 29), (72, 5), (105, 4), (89, 1), (109, 20), (12, 3), (129, 46)] rfl (by decide +kernel)
set_option maxRecDepth 20000 in
theorem gX12_step_X12_move : GoodIn wsX12_step (wsV RX12 195 RX12 yX12_move wsX12_move) := goodIn_app (goodIn_of _ (by decide +kernel)) ggX12_step_X12_move
theorem dX12_step_0 : decode cX12_step 0 = .ok (.aload_n 0, 1) := by decide +kernel
theorem dX12_step_1 : decode cX12_step 1 = .ok (.invokevirtual 192, 3) := by decide +kernel
theorem dX12_step_4 : decode cX12_step 4 = .ok (.istore_n 1, 1) := by decide +kernel
theorem dX12_step_5 : decode cX12_step 5 = .ok (.iload_n 1, 1) := by decide +kernel
theorem dX12_step_6 : decode cX12_step 6 = .ok (.ifCond .ge 7, 3) := by decide +kernel
theorem dX12_step_9 : decode cX12_step 9 = .ok (.iconst (-1), 1) := by decide +kernel
theorem dX12_step_10 : decode cX12_step 10 = .ok (.goto 15, 3) := by decide +kernel
theorem dX12_step_13 : decode cX12_step 13 = .ok (.aload_n 0, 1) := by decide +kernel
theorem dX12_step_14 : decode cX12_step 14 = .ok (.iload_n 1, 1) := by decide +kernel
theorem dX12_step_15 : decode cX12_step 15 = .ok (.bipush 10, 2) := by decide +kernel
theorem dX12_step_17 : decode cX12_step 17 = .ok (.idiv, 1) := by decide +kernel
theorem dX12_step_18 : decode cX12_step 18 = .ok (.iload_n 1, 1) := by decide +kernel
theorem dX12_step_19 : decode cX12_step 19 = .ok (.bipush 10, 2) := by decide +kernel
theorem dX12_step_21 : decode cX12_step 21 = .ok (.irem, 1) := by decide +kernel
theorem dX12_step_22 : decode cX12_step 22 = .ok (.invokevirtual 195, 3) := by decide +kernel
theorem dX12_step_25 : decode cX12_step 25 = .ok (.ireturn, 1) := by decide +kernel
set_option maxRecDepth 20000 in
theorem ggX12_steps_X12_step : GoodIn wsX12_steps wsX12_step := goodIn_s _ [(5, 4), (4, 1), (9, 170)] rfl (by decide +kernel)
set_option maxRecDepth 20000 in
theorem gX12_steps_X12_step : GoodIn wsX12_steps (wsV RX12 198 RX12 yX12_step wsX12_step) := goodIn_app (goodIn_of _ (by decide +kernel)) ggX12_steps_X12_step
theorem dX12_steps_0 : decode cX12_steps 0 = .ok (.iconst 0, 1) := by decide +kernel
theorem dX12_steps_1 : decode cX12_steps 1 = .ok (.istore_n 2, 1) := by decide +kernel
theorem dX12_steps_2 : decode cX12_steps 2 = .ok (.iload_n 2, 1) := by decide +kernel
theorem dX12_steps_3 : decode cX12_steps 3 = .ok (.iload_n 1, 1) := by decide +kernel
theorem dX12_steps_4 : decode cX12_steps 4 = .ok (.if_icmp .ge 16, 3) := by decide +kernel
theorem dX12_steps_7 : decode cX12_steps 7 = .ok (.aload_n 0, 1) := by decide +kernel
theorem dX12_steps_8 : decode cX12_steps 8 = .ok (.invokevirtual 198, 3) := by decide +kernel
theorem dX12_steps_11 : decode cX12_steps 11 = .ok (.ifCond .lt 9, 3) := by decide +kernel
theorem dX12_steps_14 : decode cX12_steps 14 = .ok (.iinc 2 1, 3) := by decide +kernel
theorem dX12_steps_17 : decode cX12_steps 17 = .ok (.goto (-15), 3) := by decide +kernel
theorem dX12_steps_20 : decode cX12_steps 20 = .ok (.iload_n 2, 1) := by decide +kernel
theorem dX12_steps_21 : decode cX12_steps 21 = .ok (.ireturn, 1) := by decide +kernel
set_option maxRecDepth 20000 in
theorem ggX12_best_X12_groups : GoodIn wsX12_best wsX12_groups := goodIn_s _ [(6, 4), (5, 1), (10, 26), (69, 16)] rfl (by decide +kernel)
set_option maxRecDepth 20000 in
theorem gX12_best_X12_groups : GoodIn wsX12_best (wsV RX12 170 RX12 yX12_groups wsX12_groups) := goodIn_app (goodIn_of _ (by decide +kernel)) ggX12_best_X12_groups
set_option maxRecDepth 20000 in
theorem ggX12_best_X12_search : GoodIn wsX12_best wsX12_search := goodIn_s _ [(39, 10), (2, 37), (49, 36)] rfl (by decide +kernel)
set_option maxRecDepth 20000 in
theorem gX12_best_X12_search : GoodIn wsX12_best (wsV RX12 201 RX12 yX12_search wsX12_search) := goodIn_app (goodIn_of _ (by decide +kernel)) ggX12_best_X12_search
theorem dX12_best_0 : decode cX12_best 0 = .ok (.iconst 2, 1) := by decide +kernel
theorem dX12_best_1 : decode cX12_best 1 = .ok (.newarray .int, 2) := by decide +kernel
theorem dX12_best_3 : decode cX12_best 3 = .ok (.dup, 1) := by decide +kernel
theorem dX12_best_4 : decode cX12_best 4 = .ok (.iconst 0, 1) := by decide +kernel
theorem dX12_best_5 : decode cX12_best 5 = .ok (.iconst (-1), 1) := by decide +kernel
theorem dX12_best_6 : decode cX12_best 6 = .ok (.iastore, 1) := by decide +kernel
theorem dX12_best_7 : decode cX12_best 7 = .ok (.dup, 1) := by decide +kernel
theorem dX12_best_8 : decode cX12_best 8 = .ok (.iconst 1, 1) := by decide +kernel
theorem dX12_best_9 : decode cX12_best 9 = .ok (.iconst (-1), 1) := by decide +kernel
theorem dX12_best_10 : decode cX12_best 10 = .ok (.iastore, 1) := by decide +kernel
theorem dX12_best_11 : decode cX12_best 11 = .ok (.astore_n 1, 1) := by decide +kernel
theorem dX12_best_12 : decode cX12_best 12 = .ok (.aload_n 0, 1) := by decide +kernel
theorem dX12_best_13 : decode cX12_best 13 = .ok (.invokevirtual 170, 3) := by decide +kernel
theorem dX12_best_16 : decode cX12_best 16 = .ok (.newarray .int, 2) := by decide +kernel
theorem dX12_best_18 : decode cX12_best 18 = .ok (.astore_n 2, 1) := by decide +kernel
theorem dX12_best_19 : decode cX12_best 19 = .ok (.aload_n 0, 1) := by decide +kernel
theorem dX12_best_20 : decode cX12_best 20 = .ok (.invokevirtual 170, 3) := by decide +kernel
theorem dX12_best_23 : decode cX12_best 23 = .ok (.iconst 2, 1) := by decide +kernel
theorem dX12_best_24 : decode cX12_best 24 = .ok (.iadd, 1) := by decide +kernel
theorem dX12_best_25 : decode cX12_best 25 = .ok (.newarray .int, 2) := by decide +kernel
theorem dX12_best_27 : decode cX12_best 27 = .ok (.astore_n 3, 1) := by decide +kernel
theorem dX12_best_28 : decode cX12_best 28 = .ok (.aload_n 0, 1) := by decide +kernel
theorem dX12_best_29 : decode cX12_best 29 = .ok (.iconst 0, 1) := by decide +kernel
theorem dX12_best_30 : decode cX12_best 30 = .ok (.aload_n 2, 1) := by decide +kernel
theorem dX12_best_31 : decode cX12_best 31 = .ok (.aload_n 1, 1) := by decide +kernel
theorem dX12_best_32 : decode cX12_best 32 = .ok (.aload_n 3, 1) := by decide +kernel
theorem dX12_best_33 : decode cX12_best 33 = .ok (.invokevirtual 201, 3) := by decide +kernel
theorem dX12_best_36 : decode cX12_best 36 = .ok (.aload_n 3, 1) := by decide +kernel
theorem dX12_best_37 : decode cX12_best 37 = .ok (.aload_n 0, 1) := by decide +kernel
theorem dX12_best_38 : decode cX12_best 38 = .ok (.invokevirtual 170, 3) := by decide +kernel
theorem dX12_best_41 : decode cX12_best 41 = .ok (.aload_n 1, 1) := by decide +kernel
theorem dX12_best_42 : decode cX12_best 42 = .ok (.iconst 0, 1) := by decide +kernel
theorem dX12_best_43 : decode cX12_best 43 = .ok (.iaload, 1) := by decide +kernel
theorem dX12_best_44 : decode cX12_best 44 = .ok (.iastore, 1) := by decide +kernel
theorem dX12_best_45 : decode cX12_best 45 = .ok (.aload_n 3, 1) := by decide +kernel
theorem dX12_best_46 : decode cX12_best 46 = .ok (.aload_n 0, 1) := by decide +kernel
theorem dX12_best_47 : decode cX12_best 47 = .ok (.invokevirtual 170, 3) := by decide +kernel
theorem dX12_best_50 : decode cX12_best 50 = .ok (.iconst 1, 1) := by decide +kernel
theorem dX12_best_51 : decode cX12_best 51 = .ok (.iadd, 1) := by decide +kernel
theorem dX12_best_52 : decode cX12_best 52 = .ok (.aload_n 1, 1) := by decide +kernel
theorem dX12_best_53 : decode cX12_best 53 = .ok (.iconst 1, 1) := by decide +kernel
theorem dX12_best_54 : decode cX12_best 54 = .ok (.iaload, 1) := by decide +kernel
theorem dX12_best_55 : decode cX12_best 55 = .ok (.iastore, 1) := by decide +kernel
theorem dX12_best_56 : decode cX12_best 56 = .ok (.aload_n 3, 1) := by decide +kernel
theorem dX12_best_57 : decode cX12_best 57 = .ok (.areturn, 1) := by decide +kernel
set_option maxRecDepth 20000 in
theorem ggX12_search_X12_groups : GoodIn wsX12_search wsX12_groups := goodIn_s _ [(14, 4), (13, 1), (18, 26), (67, 16)] rfl (by decide +kernel)
set_option maxRecDepth 20000 in
theorem gX12_search_X12_groups : GoodIn wsX12_search (wsV RX12 170 RX12 yX12_groups wsX12_groups) := goodIn_app (goodIn_of _ (by decide +kernel)) ggX12_search_X12_groups
set_option maxRecDepth 20000 in
theorem ggX12_search_X12_search : GoodIn wsX12_search wsX12_search := goodIn_s _ [(0, 83)] rfl (by decide +kernel)
set_option maxRecDepth 20000 in
theorem gX12_search_X12_search : GoodIn wsX12_search (wsV RX12 201 RX12 yX12_search wsX12_search) := goodIn_app (goodIn_of _ (by decide +kernel)) ggX12_search_X12_search
set_option maxRecDepth 20000 in
theorem ggX12_search_X12_sets : GoodIn wsX12_search wsX12_sets := goodIn_s _ [(18, 26), (67, 16)] rfl (by decide +kernel)
set_option maxRecDepth 20000 in
theorem gX12_search_X12_sets : GoodIn wsX12_search (wsV RX12 130 RX12 yX12_sets wsX12_sets) := goodIn_app (goodIn_of _ (by decide +kernel)) ggX12_search_X12_sets
set_option maxRecDepth 20000 in
theorem ggX12_search_X12_weightOf : GoodIn wsX12_search wsX12_weightOf := goodIn_s _ [(50, 3), (67, 13)] rfl (by decide +kernel)
set_option maxRecDepth 20000 in
theorem gX12_search_X12_weightOf : GoodIn wsX12_search (wsV RX12 137 RX12 yX12_weightOf wsX12_weightOf) := goodIn_app (goodIn_of _ (by decide +kernel)) ggX12_search_X12_weightOf
set_option maxRecDepth 20000 in
theorem ggX12_search_X12_limit : GoodIn wsX12_search wsX12_limit := goodIn_s _ [(56, 1), (1, 1), (57, 4), (13, 1), (61, 1), (51, 1), (47, 4), (52, 1), (67, 13)] rfl (by decide +kernel)
set_option maxRecDepth 20000 in
theorem gX12_search_X12_limit : GoodIn wsX12_search (wsV RX12 144 RX12 yX12_limit wsX12_limit) := goodIn_app (goodIn_of _ (by decide +kernel)) ggX12_search_X12_limit
set_option maxRecDepth 20000 in
theorem ggX12_search_X12_links : GoodIn wsX12_search wsX12_links := goodIn_s _ [(65, 1), (51, 1), (66, 14)] rfl (by decide +kernel)
set_option maxRecDepth 20000 in
theorem gX12_search_X12_links : GoodIn wsX12_search (wsV RX12 161 RX12 yX12_links wsX12_links) := goodIn_app (goodIn_of _ (by decide +kernel)) ggX12_search_X12_links
theorem dX12_search_0 : decode cX12_search 0 = .ok (.iload_n 1, 1) := by decide +kernel
theorem dX12_search_1 : decode cX12_search 1 = .ok (.aload_n 0, 1) := by decide +kernel
theorem dX12_search_2 : decode cX12_search 2 = .ok (.invokevirtual 170, 3) := by decide +kernel
theorem dX12_search_5 : decode cX12_search 5 = .ok (.if_icmp .ge 38, 3) := by decide +kernel
theorem dX12_search_8 : decode cX12_search 8 = .ok (.iconst 0, 1) := by decide +kernel
theorem dX12_search_9 : decode cX12_search 9 = .ok (.istore 5, 2) := by decide +kernel
theorem dX12_search_11 : decode cX12_search 11 = .ok (.iload 5, 2) := by decide +kernel
theorem dX12_search_13 : decode cX12_search 13 = .ok (.aload_n 0, 1) := by decide +kernel
theorem dX12_search_14 : decode cX12_search 14 = .ok (.getfield 7, 3) := by decide +kernel
theorem dX12_search_17 : decode cX12_search 17 = .ok (.if_icmp .ge 25, 3) := by decide +kernel
theorem dX12_search_20 : decode cX12_search 20 = .ok (.aload_n 2, 1) := by decide +kernel
theorem dX12_search_21 : decode cX12_search 21 = .ok (.iload_n 1, 1) := by decide +kernel
theorem dX12_search_22 : decode cX12_search 22 = .ok (.iload 5, 2) := by decide +kernel
theorem dX12_search_24 : decode cX12_search 24 = .ok (.iastore, 1) := by decide +kernel
theorem dX12_search_25 : decode cX12_search 25 = .ok (.aload_n 0, 1) := by decide +kernel
theorem dX12_search_26 : decode cX12_search 26 = .ok (.iload_n 1, 1) := by decide +kernel
theorem dX12_search_27 : decode cX12_search 27 = .ok (.iconst 1, 1) := by decide +kernel
theorem dX12_search_28 : decode cX12_search 28 = .ok (.iadd, 1) := by decide +kernel
theorem dX12_search_29 : decode cX12_search 29 = .ok (.aload_n 2, 1) := by decide +kernel
theorem dX12_search_30 : decode cX12_search 30 = .ok (.aload_n 3, 1) := by decide +kernel
theorem dX12_search_31 : decode cX12_search 31 = .ok (.aload 4, 2) := by decide +kernel
theorem dX12_search_33 : decode cX12_search 33 = .ok (.invokevirtual 201, 3) := by decide +kernel
theorem dX12_search_36 : decode cX12_search 36 = .ok (.iinc 5 1, 3) := by decide +kernel
theorem dX12_search_39 : decode cX12_search 39 = .ok (.goto (-28), 3) := by decide +kernel
theorem dX12_search_42 : decode cX12_search 42 = .ok (.return_, 1) := by decide +kernel
theorem dX12_search_43 : decode cX12_search 43 = .ok (.iconst 0, 1) := by decide +kernel
theorem dX12_search_44 : decode cX12_search 44 = .ok (.istore 5, 2) := by decide +kernel
theorem dX12_search_46 : decode cX12_search 46 = .ok (.iconst 0, 1) := by decide +kernel
theorem dX12_search_47 : decode cX12_search 47 = .ok (.istore 6, 2) := by decide +kernel
theorem dX12_search_49 : decode cX12_search 49 = .ok (.iconst 0, 1) := by decide +kernel
theorem dX12_search_50 : decode cX12_search 50 = .ok (.istore 7, 2) := by decide +kernel
theorem dX12_search_52 : decode cX12_search 52 = .ok (.iload 7, 2) := by decide +kernel
theorem dX12_search_54 : decode cX12_search 54 = .ok (.aload_n 0, 1) := by decide +kernel
theorem dX12_search_55 : decode cX12_search 55 = .ok (.getfield 7, 3) := by decide +kernel
theorem dX12_search_58 : decode cX12_search 58 = .ok (.if_icmp .ge 72, 3) := by decide +kernel
theorem dX12_search_61 : decode cX12_search 61 = .ok (.iconst 0, 1) := by decide +kernel
theorem dX12_search_62 : decode cX12_search 62 = .ok (.istore 8, 2) := by decide +kernel
theorem dX12_search_64 : decode cX12_search 64 = .ok (.iconst 0, 1) := by decide +kernel
theorem dX12_search_65 : decode cX12_search 65 = .ok (.istore 9, 2) := by decide +kernel
theorem dX12_search_67 : decode cX12_search 67 = .ok (.iload 9, 2) := by decide +kernel
theorem dX12_search_69 : decode cX12_search 69 = .ok (.iload_n 1, 1) := by decide +kernel
theorem dX12_search_70 : decode cX12_search 70 = .ok (.if_icmp .ge 38, 3) := by decide +kernel
theorem dX12_search_73 : decode cX12_search 73 = .ok (.iload 8, 2) := by decide +kernel
theorem dX12_search_75 : decode cX12_search 75 = .ok (.aload_n 2, 1) := by decide +kernel
theorem dX12_search_76 : decode cX12_search 76 = .ok (.iload 9, 2) := by decide +kernel
theorem dX12_search_78 : decode cX12_search 78 = .ok (.iaload, 1) := by decide +kernel
theorem dX12_search_79 : decode cX12_search 79 = .ok (.iload 7, 2) := by decide +kernel
theorem dX12_search_81 : decode cX12_search 81 = .ok (.if_icmp .ne 17, 3) := by decide +kernel
theorem dX12_search_84 : decode cX12_search 84 = .ok (.aload_n 0, 1) := by decide +kernel
theorem dX12_search_85 : decode cX12_search 85 = .ok (.aload_n 0, 1) := by decide +kernel
theorem dX12_search_86 : decode cX12_search 86 = .ok (.invokevirtual 130, 3) := by decide +kernel
theorem dX12_search_89 : decode cX12_search 89 = .ok (.iload 9, 2) := by decide +kernel
theorem dX12_search_91 : decode cX12_search 91 = .ok (.iaload, 1) := by decide +kernel
theorem dX12_search_92 : decode cX12_search 92 = .ok (.invokevirtual 137, 3) := by decide +kernel
theorem dX12_search_95 : decode cX12_search 95 = .ok (.goto 4, 3) := by decide +kernel
theorem dX12_search_98 : decode cX12_search 98 = .ok (.iconst 0, 1) := by decide +kernel
theorem dX12_search_99 : decode cX12_search 99 = .ok (.iadd, 1) := by decide +kernel
theorem dX12_search_100 : decode cX12_search 100 = .ok (.istore 8, 2) := by decide +kernel
theorem dX12_search_102 : decode cX12_search 102 = .ok (.iinc 9 1, 3) := by decide +kernel
theorem dX12_search_105 : decode cX12_search 105 = .ok (.goto (-38), 3) := by decide +kernel
theorem dX12_search_108 : decode cX12_search 108 = .ok (.iload 5, 2) := by decide +kernel
theorem dX12_search_110 : decode cX12_search 110 = .ok (.iconst 0, 1) := by decide +kernel
theorem dX12_search_111 : decode cX12_search 111 = .ok (.iload 8, 2) := by decide +kernel
theorem dX12_search_113 : decode cX12_search 113 = .ok (.aload_n 0, 1) := by decide +kernel
theorem dX12_search_114 : decode cX12_search 114 = .ok (.invokevirtual 144, 3) := by decide +kernel
theorem dX12_search_117 : decode cX12_search 117 = .ok (.isub, 1) := by decide +kernel
theorem dX12_search_118 : decode cX12_search 118 = .ok (.invokestatic 147, 3) := by decide +kernel
theorem dX12_search_121 : decode cX12_search 121 = .ok (.iadd, 1) := by decide +kernel
theorem dX12_search_122 : decode cX12_search 122 = .ok (.istore 5, 2) := by decide +kernel
theorem dX12_search_124 : decode cX12_search 124 = .ok (.iinc 7 1, 3) := by decide +kernel
theorem dX12_search_127 : decode cX12_search 127 = .ok (.goto (-75), 3) := by decide +kernel
theorem dX12_search_130 : decode cX12_search 130 = .ok (.aload_n 3, 1) := by decide +kernel
theorem dX12_search_131 : decode cX12_search 131 = .ok (.iconst 0, 1) := by decide +kernel
theorem dX12_search_132 : decode cX12_search 132 = .ok (.iaload, 1) := by decide +kernel
theorem dX12_search_133 : decode cX12_search 133 = .ok (.ifCond .lt 12, 3) := by decide +kernel
theorem dX12_search_136 : decode cX12_search 136 = .ok (.iload 5, 2) := by decide +kernel
theorem dX12_search_138 : decode cX12_search 138 = .ok (.aload_n 3, 1) := by decide +kernel
theorem dX12_search_139 : decode cX12_search 139 = .ok (.iconst 0, 1) := by decide +kernel
theorem dX12_search_140 : decode cX12_search 140 = .ok (.iaload, 1) := by decide +kernel
theorem dX12_search_141 : decode cX12_search 141 = .ok (.if_icmp .le 4, 3) := by decide +kernel
theorem dX12_search_144 : decode cX12_search 144 = .ok (.return_, 1) := by decide +kernel
theorem dX12_search_145 : decode cX12_search 145 = .ok (.iconst 0, 1) := by decide +kernel
theorem dX12_search_146 : decode cX12_search 146 = .ok (.istore 7, 2) := by decide +kernel
theorem dX12_search_148 : decode cX12_search 148 = .ok (.iload 7, 2) := by decide +kernel
theorem dX12_search_150 : decode cX12_search 150 = .ok (.iload_n 1, 1) := by decide +kernel
theorem dX12_search_151 : decode cX12_search 151 = .ok (.if_icmp .ge 63, 3) := by decide +kernel
theorem dX12_search_154 : decode cX12_search 154 = .ok (.iconst 0, 1) := by decide +kernel
theorem dX12_search_155 : decode cX12_search 155 = .ok (.istore 8, 2) := by decide +kernel
theorem dX12_search_157 : decode cX12_search 157 = .ok (.iload 8, 2) := by decide +kernel
theorem dX12_search_159 : decode cX12_search 159 = .ok (.iload 7, 2) := by decide +kernel
theorem dX12_search_161 : decode cX12_search 161 = .ok (.if_icmp .ge 47, 3) := by decide +kernel
theorem dX12_search_164 : decode cX12_search 164 = .ok (.iload 6, 2) := by decide +kernel
theorem dX12_search_166 : decode cX12_search 166 = .ok (.aload_n 2, 1) := by decide +kernel
theorem dX12_search_167 : decode cX12_search 167 = .ok (.iload 7, 2) := by decide +kernel
theorem dX12_search_169 : decode cX12_search 169 = .ok (.iaload, 1) := by decide +kernel
theorem dX12_search_170 : decode cX12_search 170 = .ok (.aload_n 2, 1) := by decide +kernel
theorem dX12_search_171 : decode cX12_search 171 = .ok (.iload 8, 2) := by decide +kernel
theorem dX12_search_173 : decode cX12_search 173 = .ok (.iaload, 1) := by decide +kernel
theorem dX12_search_174 : decode cX12_search 174 = .ok (.if_icmp .ne 7, 3) := by decide +kernel
theorem dX12_search_177 : decode cX12_search 177 = .ok (.iconst 0, 1) := by decide +kernel
theorem dX12_search_178 : decode cX12_search 178 = .ok (.goto 21, 3) := by decide +kernel
theorem dX12_search_181 : decode cX12_search 181 = .ok (.aload_n 0, 1) := by decide +kernel
theorem dX12_search_182 : decode cX12_search 182 = .ok (.aload_n 0, 1) := by decide +kernel
theorem dX12_search_183 : decode cX12_search 183 = .ok (.invokevirtual 130, 3) := by decide +kernel
theorem dX12_search_186 : decode cX12_search 186 = .ok (.iload 7, 2) := by decide +kernel
theorem dX12_search_188 : decode cX12_search 188 = .ok (.iaload, 1) := by decide +kernel
theorem dX12_search_189 : decode cX12_search 189 = .ok (.aload_n 0, 1) := by decide +kernel
theorem dX12_search_190 : decode cX12_search 190 = .ok (.invokevirtual 130, 3) := by decide +kernel
theorem dX12_search_193 : decode cX12_search 193 = .ok (.iload 8, 2) := by decide +kernel
theorem dX12_search_195 : decode cX12_search 195 = .ok (.iaload, 1) := by decide +kernel
theorem dX12_search_196 : decode cX12_search 196 = .ok (.invokevirtual 161, 3) := by decide +kernel
theorem dX12_search_199 : decode cX12_search 199 = .ok (.iadd, 1) := by decide +kernel
theorem dX12_search_200 : decode cX12_search 200 = .ok (.istore 6, 2) := by decide +kernel
theorem dX12_search_202 : decode cX12_search 202 = .ok (.iinc 8 1, 3) := by decide +kernel
theorem dX12_search_205 : decode cX12_search 205 = .ok (.goto (-48), 3) := by decide +kernel
theorem dX12_search_208 : decode cX12_search 208 = .ok (.iinc 7 1, 3) := by decide +kernel
theorem dX12_search_211 : decode cX12_search 211 = .ok (.goto (-63), 3) := by decide +kernel
theorem dX12_search_214 : decode cX12_search 214 = .ok (.aload_n 3, 1) := by decide +kernel
theorem dX12_search_215 : decode cX12_search 215 = .ok (.iconst 0, 1) := by decide +kernel
theorem dX12_search_216 : decode cX12_search 216 = .ok (.iaload, 1) := by decide +kernel
theorem dX12_search_217 : decode cX12_search 217 = .ok (.ifCond .lt 20, 3) := by decide +kernel
theorem dX12_search_220 : decode cX12_search 220 = .ok (.iload 5, 2) := by decide +kernel
theorem dX12_search_222 : decode cX12_search 222 = .ok (.aload_n 3, 1) := by decide +kernel
theorem dX12_search_223 : decode cX12_search 223 = .ok (.iconst 0, 1) := by decide +kernel
theorem dX12_search_224 : decode cX12_search 224 = .ok (.iaload, 1) := by decide +kernel
theorem dX12_search_225 : decode cX12_search 225 = .ok (.if_icmp .ne 12, 3) := by decide +kernel
theorem dX12_search_228 : decode cX12_search 228 = .ok (.iload 6, 2) := by decide +kernel
theorem dX12_search_230 : decode cX12_search 230 = .ok (.aload_n 3, 1) := by decide +kernel
theorem dX12_search_231 : decode cX12_search 231 = .ok (.iconst 1, 1) := by decide +kernel
theorem dX12_search_232 : decode cX12_search 232 = .ok (.iaload, 1) := by decide +kernel
theorem dX12_search_233 : decode cX12_search 233 = .ok (.if_icmp .lt 4, 3) := by decide +kernel
theorem dX12_search_236 : decode cX12_search 236 = .ok (.return_, 1) := by decide +kernel
theorem dX12_search_237 : decode cX12_search 237 = .ok (.aload_n 3, 1) := by decide +kernel
theorem dX12_search_238 : decode cX12_search 238 = .ok (.iconst 0, 1) := by decide +kernel
theorem dX12_search_239 : decode cX12_search 239 = .ok (.iload 5, 2) := by decide +kernel
theorem dX12_search_241 : decode cX12_search 241 = .ok (.iastore, 1) := by decide +kernel
theorem dX12_search_242 : decode cX12_search 242 = .ok (.aload_n 3, 1) := by decide +kernel
theorem dX12_search_243 : decode cX12_search 243 = .ok (.iconst 1, 1) := by decide +kernel
theorem dX12_search_244 : decode cX12_search 244 = .ok (.iload 6, 2) := by decide +kernel
theorem dX12_search_246 : decode cX12_search 246 = .ok (.iastore, 1) := by decide +kernel
theorem dX12_search_247 : decode cX12_search 247 = .ok (.aload_n 2, 1) := by decide +kernel
theorem dX12_search_248 : decode cX12_search 248 = .ok (.iconst 0, 1) := by decide +kernel
theorem dX12_search_249 : decode cX12_search 249 = .ok (.aload 4, 2) := by decide +kernel
theorem dX12_search_251 : decode cX12_search 251 = .ok (.iconst 0, 1) := by decide +kernel
theorem dX12_search_252 : decode cX12_search 252 = .ok (.iload_n 1, 1) := by decide +kernel
theorem dX12_search_253 : decode cX12_search 253 = .ok (.invokestatic 111, 3) := by decide +kernel
theorem dX12_search_256 : decode cX12_search 256 = .ok (.return_, 1) := by decide +kernel
theorem dX12_flow_0 : decode cX12_flow 0 = .ok (.aload_n 0, 1) := by decide +kernel
theorem dX12_flow_1 : decode cX12_flow 1 = .ok (.getfield 87, 3) := by decide +kernel
theorem dX12_flow_4 : decode cX12_flow 4 = .ok (.aload_n 0, 1) := by decide +kernel
theorem dX12_flow_5 : decode cX12_flow 5 = .ok (.getfield 87, 3) := by decide +kernel
theorem dX12_flow_8 : decode cX12_flow 8 = .ok (.multianewarray 26 2, 4) := by decide +kernel
theorem dX12_flow_12 : decode cX12_flow 12 = .ok (.astore_n 3, 1) := by decide +kernel
theorem dX12_flow_13 : decode cX12_flow 13 = .ok (.iconst 0, 1) := by decide +kernel
theorem dX12_flow_14 : decode cX12_flow 14 = .ok (.istore 4, 2) := by decide +kernel
theorem dX12_flow_16 : decode cX12_flow 16 = .ok (.iload 4, 2) := by decide +kernel
theorem dX12_flow_18 : decode cX12_flow 18 = .ok (.aload_n 0, 1) := by decide +kernel
theorem dX12_flow_19 : decode cX12_flow 19 = .ok (.getfield 87, 3) := by decide +kernel
theorem dX12_flow_22 : decode cX12_flow 22 = .ok (.if_icmp .ge 29, 3) := by decide +kernel
theorem dX12_flow_25 : decode cX12_flow 25 = .ok (.aload_n 0, 1) := by decide +kernel
theorem dX12_flow_26 : decode cX12_flow 26 = .ok (.getfield 28, 3) := by decide +kernel
theorem dX12_flow_29 : decode cX12_flow 29 = .ok (.iload 4, 2) := by decide +kernel
