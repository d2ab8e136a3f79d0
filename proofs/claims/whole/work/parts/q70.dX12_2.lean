theorem dX12_mateBehind_44 : decode cX12_mateBehind 44 = .ok (.aload_n 0, 1) := by decide +kernel
theorem dX12_mateBehind_45 : decode cX12_mateBehind 45 = .ok (.iload 4, 2) := by decide +kernel
theorem dX12_mateBehind_47 : decode cX12_mateBehind 47 = .ok (.invokevirtual 334, 3) := by decide +kernel
theorem dX12_mateBehind_50 : decode cX12_mateBehind 50 = .ok (.aload_n 0, 1) := by decide +kernel
theorem dX12_mateBehind_51 : decode cX12_mateBehind 51 = .ok (.iload_n 1, 1) := by decide +kernel
theorem dX12_mateBehind_52 : decode cX12_mateBehind 52 = .ok (.invokevirtual 334, 3) := by decide +kernel
theorem dX12_mateBehind_55 : decode cX12_mateBehind 55 = .ok (.if_icmp .ne 31, 3) := by decide +kernel
theorem dX12_mateBehind_58 : decode cX12_mateBehind 58 = .ok (.aload_n 0, 1) := by decide +kernel
theorem dX12_mateBehind_59 : decode cX12_mateBehind 59 = .ok (.iload_n 1, 1) := by decide +kernel
theorem dX12_mateBehind_60 : decode cX12_mateBehind 60 = .ok (.invokevirtual 331, 3) := by decide +kernel
theorem dX12_mateBehind_63 : decode cX12_mateBehind 63 = .ok (.aload_n 0, 1) := by decide +kernel
theorem dX12_mateBehind_64 : decode cX12_mateBehind 64 = .ok (.iload 4, 2) := by decide +kernel
theorem dX12_mateBehind_66 : decode cX12_mateBehind 66 = .ok (.invokevirtual 331, 3) := by decide +kernel
theorem dX12_mateBehind_69 : decode cX12_mateBehind 69 = .ok (.iadd, 1) := by decide +kernel
theorem dX12_mateBehind_70 : decode cX12_mateBehind 70 = .ok (.aload_n 0, 1) := by decide +kernel
theorem dX12_mateBehind_71 : decode cX12_mateBehind 71 = .ok (.invokevirtual 256, 3) := by decide +kernel
theorem dX12_mateBehind_74 : decode cX12_mateBehind 74 = .ok (.if_icmp .le 6, 3) := by decide +kernel
theorem dX12_mateBehind_77 : decode cX12_mateBehind 77 = .ok (.goto 9, 3) := by decide +kernel
theorem dX12_mateBehind_80 : decode cX12_mateBehind 80 = .ok (.iload 4, 2) := by decide +kernel
theorem dX12_mateBehind_82 : decode cX12_mateBehind 82 = .ok (.istore_n 2, 1) := by decide +kernel
theorem dX12_mateBehind_83 : decode cX12_mateBehind 83 = .ok (.iload 5, 2) := by decide +kernel
theorem dX12_mateBehind_85 : decode cX12_mateBehind 85 = .ok (.istore_n 3, 1) := by decide +kernel
theorem dX12_mateBehind_86 : decode cX12_mateBehind 86 = .ok (.iinc 4 1, 3) := by decide +kernel
theorem dX12_mateBehind_89 : decode cX12_mateBehind 89 = .ok (.goto (-80), 3) := by decide +kernel
theorem dX12_mateBehind_92 : decode cX12_mateBehind 92 = .ok (.iload_n 2, 1) := by decide +kernel
theorem dX12_mateBehind_93 : decode cX12_mateBehind 93 = .ok (.ireturn, 1) := by decide +kernel
set_option maxRecDepth 20000 in
theorem ggX12_laysMates_X12_groups : GoodIn wsX12_laysMates wsX12_groups := goodIn_s _ [(6, 2), (36, 48)] rfl (by decide +kernel)
set_option maxRecDepth 20000 in
theorem gX12_laysMates_X12_groups : GoodIn wsX12_laysMates (wsV RX12 177 RX12 yX12_groups wsX12_groups) := goodIn_app (goodIn_of _ (by decide +kernel)) ggX12_laysMates_X12_groups
set_option maxRecDepth 20000 in
theorem ggX12_laysMates_X12_mateBehind : GoodIn wsX12_laysMates wsX12_mateBehind := goodIn_s _ [(11, 1), (1, 7), (12, 72)] rfl (by decide +kernel)
set_option maxRecDepth 20000 in
theorem gX12_laysMates_X12_mateBehind : GoodIn wsX12_laysMates (wsV RX12 340 RX12 yX12_mateBehind wsX12_mateBehind) := goodIn_app (goodIn_of _ (by decide +kernel)) ggX12_laysMates_X12_mateBehind
theorem dX12_laysMates_0 : decode cX12_laysMates 0 = .ok (.iconst 0, 1) := by decide +kernel
theorem dX12_laysMates_1 : decode cX12_laysMates 1 = .ok (.istore_n 1, 1) := by decide +kernel
theorem dX12_laysMates_2 : decode cX12_laysMates 2 = .ok (.iconst 0, 1) := by decide +kernel
theorem dX12_laysMates_3 : decode cX12_laysMates 3 = .ok (.istore_n 2, 1) := by decide +kernel
theorem dX12_laysMates_4 : decode cX12_laysMates 4 = .ok (.iload_n 2, 1) := by decide +kernel
theorem dX12_laysMates_5 : decode cX12_laysMates 5 = .ok (.bipush 14, 2) := by decide +kernel
theorem dX12_laysMates_7 : decode cX12_laysMates 7 = .ok (.if_icmp .ge 16, 3) := by decide +kernel
theorem dX12_laysMates_10 : decode cX12_laysMates 10 = .ok (.aload_n 0, 1) := by decide +kernel
theorem dX12_laysMates_11 : decode cX12_laysMates 11 = .ok (.getfield 51, 3) := by decide +kernel
theorem dX12_laysMates_14 : decode cX12_laysMates 14 = .ok (.iload_n 2, 1) := by decide +kernel
theorem dX12_laysMates_15 : decode cX12_laysMates 15 = .ok (.iconst (-1), 1) := by decide +kernel
theorem dX12_laysMates_16 : decode cX12_laysMates 16 = .ok (.iastore, 1) := by decide +kernel
theorem dX12_laysMates_17 : decode cX12_laysMates 17 = .ok (.iinc 2 1, 3) := by decide +kernel
theorem dX12_laysMates_20 : decode cX12_laysMates 20 = .ok (.goto (-16), 3) := by decide +kernel
theorem dX12_laysMates_23 : decode cX12_laysMates 23 = .ok (.iconst 0, 1) := by decide +kernel
theorem dX12_laysMates_24 : decode cX12_laysMates 24 = .ok (.istore_n 2, 1) := by decide +kernel
theorem dX12_laysMates_25 : decode cX12_laysMates 25 = .ok (.iload_n 2, 1) := by decide +kernel
theorem dX12_laysMates_26 : decode cX12_laysMates 26 = .ok (.aload_n 0, 1) := by decide +kernel
theorem dX12_laysMates_27 : decode cX12_laysMates 27 = .ok (.invokevirtual 177, 3) := by decide +kernel
theorem dX12_laysMates_30 : decode cX12_laysMates 30 = .ok (.if_icmp .ge 54, 3) := by decide +kernel
theorem dX12_laysMates_33 : decode cX12_laysMates 33 = .ok (.aload_n 0, 1) := by decide +kernel
theorem dX12_laysMates_34 : decode cX12_laysMates 34 = .ok (.getfield 51, 3) := by decide +kernel
theorem dX12_laysMates_37 : decode cX12_laysMates 37 = .ok (.iload_n 2, 1) := by decide +kernel
theorem dX12_laysMates_38 : decode cX12_laysMates 38 = .ok (.iaload, 1) := by decide +kernel
theorem dX12_laysMates_39 : decode cX12_laysMates 39 = .ok (.iconst (-1), 1) := by decide +kernel
theorem dX12_laysMates_40 : decode cX12_laysMates 40 = .ok (.if_icmp .ne 11, 3) := by decide +kernel
theorem dX12_laysMates_43 : decode cX12_laysMates 43 = .ok (.aload_n 0, 1) := by decide +kernel
theorem dX12_laysMates_44 : decode cX12_laysMates 44 = .ok (.iload_n 2, 1) := by decide +kernel
theorem dX12_laysMates_45 : decode cX12_laysMates 45 = .ok (.invokevirtual 340, 3) := by decide +kernel
theorem dX12_laysMates_48 : decode cX12_laysMates 48 = .ok (.goto 4, 3) := by decide +kernel
theorem dX12_laysMates_51 : decode cX12_laysMates 51 = .ok (.iconst (-1), 1) := by decide +kernel
theorem dX12_laysMates_52 : decode cX12_laysMates 52 = .ok (.istore_n 3, 1) := by decide +kernel
theorem dX12_laysMates_53 : decode cX12_laysMates 53 = .ok (.iload_n 3, 1) := by decide +kernel
theorem dX12_laysMates_54 : decode cX12_laysMates 54 = .ok (.iconst (-1), 1) := by decide +kernel
theorem dX12_laysMates_55 : decode cX12_laysMates 55 = .ok (.if_icmp .ne 6, 3) := by decide +kernel
theorem dX12_laysMates_58 : decode cX12_laysMates 58 = .ok (.goto 20, 3) := by decide +kernel
theorem dX12_laysMates_61 : decode cX12_laysMates 61 = .ok (.aload_n 0, 1) := by decide +kernel
theorem dX12_laysMates_62 : decode cX12_laysMates 62 = .ok (.getfield 51, 3) := by decide +kernel
theorem dX12_laysMates_65 : decode cX12_laysMates 65 = .ok (.iload_n 2, 1) := by decide +kernel
theorem dX12_laysMates_66 : decode cX12_laysMates 66 = .ok (.iload_n 3, 1) := by decide +kernel
theorem dX12_laysMates_67 : decode cX12_laysMates 67 = .ok (.iastore, 1) := by decide +kernel
theorem dX12_laysMates_68 : decode cX12_laysMates 68 = .ok (.aload_n 0, 1) := by decide +kernel
theorem dX12_laysMates_69 : decode cX12_laysMates 69 = .ok (.getfield 51, 3) := by decide +kernel
theorem dX12_laysMates_72 : decode cX12_laysMates 72 = .ok (.iload_n 3, 1) := by decide +kernel
theorem dX12_laysMates_73 : decode cX12_laysMates 73 = .ok (.iload_n 2, 1) := by decide +kernel
theorem dX12_laysMates_74 : decode cX12_laysMates 74 = .ok (.iastore, 1) := by decide +kernel
theorem dX12_laysMates_75 : decode cX12_laysMates 75 = .ok (.iinc 1 1, 3) := by decide +kernel
theorem dX12_laysMates_78 : decode cX12_laysMates 78 = .ok (.iinc 2 1, 3) := by decide +kernel
theorem dX12_laysMates_81 : decode cX12_laysMates 81 = .ok (.goto (-56), 3) := by decide +kernel
theorem dX12_laysMates_84 : decode cX12_laysMates 84 = .ok (.iload_n 1, 1) := by decide +kernel
theorem dX12_laysMates_85 : decode cX12_laysMates 85 = .ok (.ireturn, 1) := by decide +kernel
set_option maxRecDepth 20000 in
theorem ggX12_whyShrink_X12_laysMates : GoodIn wsX12_whyShrink wsX12_laysMates := goodIn_s _ [(6, 5), (5, 1), (11, 1), (1, 1), (12, 76)] rfl (by decide +kernel)
set_option maxRecDepth 20000 in
theorem gX12_whyShrink_X12_laysMates : GoodIn wsX12_whyShrink (wsV RX12 343 RX12 yX12_laysMates wsX12_laysMates) := goodIn_app (goodIn_of _ (by decide +kernel)) ggX12_whyShrink_X12_laysMates
theorem dX12_whyShrink_0 : decode cX12_whyShrink 0 = .ok (.aload_n 0, 1) := by decide +kernel
theorem dX12_whyShrink_1 : decode cX12_whyShrink 1 = .ok (.getfield 26, 3) := by decide +kernel
theorem dX12_whyShrink_4 : decode cX12_whyShrink 4 = .ok (.iconst 5, 1) := by decide +kernel
theorem dX12_whyShrink_5 : decode cX12_whyShrink 5 = .ok (.iaload, 1) := by decide +kernel
theorem dX12_whyShrink_6 : decode cX12_whyShrink 6 = .ok (.iconst 4, 1) := by decide +kernel
theorem dX12_whyShrink_7 : decode cX12_whyShrink 7 = .ok (.if_icmp .ne 7, 3) := by decide +kernel
theorem dX12_whyShrink_10 : decode cX12_whyShrink 10 = .ok (.iconst 1, 1) := by decide +kernel
theorem dX12_whyShrink_11 : decode cX12_whyShrink 11 = .ok (.goto 15, 3) := by decide +kernel
theorem dX12_whyShrink_14 : decode cX12_whyShrink 14 = .ok (.aload_n 0, 1) := by decide +kernel
theorem dX12_whyShrink_15 : decode cX12_whyShrink 15 = .ok (.invokevirtual 343, 3) := by decide +kernel
theorem dX12_whyShrink_18 : decode cX12_whyShrink 18 = .ok (.ifCond .ne 7, 3) := by decide +kernel
theorem dX12_whyShrink_21 : decode cX12_whyShrink 21 = .ok (.iconst 2, 1) := by decide +kernel
theorem dX12_whyShrink_22 : decode cX12_whyShrink 22 = .ok (.goto 4, 3) := by decide +kernel
theorem dX12_whyShrink_25 : decode cX12_whyShrink 25 = .ok (.iconst 0, 1) := by decide +kernel
theorem dX12_whyShrink_26 : decode cX12_whyShrink 26 = .ok (.ireturn, 1) := by decide +kernel
set_option maxRecDepth 20000 in
theorem ggX12_whyNotShrink_X12_whyShrink : GoodIn wsX12_whyNotShrink wsX12_whyShrink := goodIn_s _ [(6, 5), (5, 1), (11, 82)] rfl (by decide +kernel)
set_option maxRecDepth 20000 in
theorem gX12_whyNotShrink_X12_whyShrink : GoodIn wsX12_whyNotShrink (wsV RX12 346 RX12 yX12_whyShrink wsX12_whyShrink) := goodIn_app (goodIn_of _ (by decide +kernel)) ggX12_whyNotShrink_X12_whyShrink
theorem dX12_whyNotShrink_0 : decode cX12_whyNotShrink 0 = .ok (.aload_n 0, 1) := by decide +kernel
theorem dX12_whyNotShrink_1 : decode cX12_whyNotShrink 1 = .ok (.iconst 0, 1) := by decide +kernel
theorem dX12_whyNotShrink_2 : decode cX12_whyNotShrink 2 = .ok (.putfield 90, 3) := by decide +kernel
theorem dX12_whyNotShrink_5 : decode cX12_whyNotShrink 5 = .ok (.aload_n 0, 1) := by decide +kernel
theorem dX12_whyNotShrink_6 : decode cX12_whyNotShrink 6 = .ok (.invokevirtual 346, 3) := by decide +kernel
theorem dX12_whyNotShrink_9 : decode cX12_whyNotShrink 9 = .ok (.ireturn, 1) := by decide +kernel
set_option maxRecDepth 20000 in
theorem ggX12_mate_X12_isGroup : GoodIn wsX12_mate wsX12_isGroup := goodIn_s _ [(6, 4), (5, 1), (10, 5), (55, 48)] rfl (by decide +kernel)
set_option maxRecDepth 20000 in
theorem gX12_mate_X12_isGroup : GoodIn wsX12_mate (wsV RX12 325 RX12 yX12_isGroup wsX12_isGroup) := goodIn_app (goodIn_of _ (by decide +kernel)) ggX12_mate_X12_isGroup
set_option maxRecDepth 20000 in
theorem ggX12_mate_X12_goes : GoodIn wsX12_mate wsX12_goes := goodIn_s _ [(18, 4), (5, 1), (22, 1), (55, 48)] rfl (by decide +kernel)
set_option maxRecDepth 20000 in
theorem gX12_mate_X12_goes : GoodIn wsX12_mate (wsV RX12 100 RX12 yX12_goes wsX12_goes) := goodIn_app (goodIn_of _ (by decide +kernel)) ggX12_mate_X12_goes
set_option maxRecDepth 20000 in
theorem ggX12_mate_X12_laysMates : GoodIn wsX12_mate wsX12_laysMates := goodIn_s _ [(26, 1), (1, 1), (7, 3), (5, 1), (10, 2), (27, 76)] rfl (by decide +kernel)
set_option maxRecDepth 20000 in
theorem gX12_mate_X12_laysMates : GoodIn wsX12_mate (wsV RX12 343 RX12 yX12_laysMates wsX12_laysMates) := goodIn_app (goodIn_of _ (by decide +kernel)) ggX12_mate_X12_laysMates
theorem dX12_mate_0 : decode cX12_mate 0 = .ok (.aload_n 0, 1) := by decide +kernel
theorem dX12_mate_1 : decode cX12_mate 1 = .ok (.aload_n 0, 1) := by decide +kernel
theorem dX12_mate_2 : decode cX12_mate 2 = .ok (.iload_n 1, 1) := by decide +kernel
theorem dX12_mate_3 : decode cX12_mate 3 = .ok (.invokevirtual 325, 3) := by decide +kernel
theorem dX12_mate_6 : decode cX12_mate 6 = .ok (.invokevirtual 100, 3) := by decide +kernel
theorem dX12_mate_9 : decode cX12_mate 9 = .ok (.ifCond .ne 5, 3) := by decide +kernel
theorem dX12_mate_12 : decode cX12_mate 12 = .ok (.iconst 0, 1) := by decide +kernel
theorem dX12_mate_13 : decode cX12_mate 13 = .ok (.ireturn, 1) := by decide +kernel
theorem dX12_mate_14 : decode cX12_mate 14 = .ok (.aload_n 0, 1) := by decide +kernel
theorem dX12_mate_15 : decode cX12_mate 15 = .ok (.invokevirtual 343, 3) := by decide +kernel
theorem dX12_mate_18 : decode cX12_mate 18 = .ok (.istore_n 2, 1) := by decide +kernel
theorem dX12_mate_19 : decode cX12_mate 19 = .ok (.aload_n 0, 1) := by decide +kernel
theorem dX12_mate_20 : decode cX12_mate 20 = .ok (.getfield 51, 3) := by decide +kernel
theorem dX12_mate_23 : decode cX12_mate 23 = .ok (.iload_n 1, 1) := by decide +kernel
theorem dX12_mate_24 : decode cX12_mate 24 = .ok (.iaload, 1) := by decide +kernel
theorem dX12_mate_25 : decode cX12_mate 25 = .ok (.ireturn, 1) := by decide +kernel
set_option maxRecDepth 20000 in
theorem ggX12_gainOf_X12_groupPart : GoodIn wsX12_gainOf wsX12_groupPart := goodIn_s _ [(6, 1), (1, 1), (7, 3), (5, 1), (10, 49)] rfl (by decide +kernel)
set_option maxRecDepth 20000 in
theorem gX12_gainOf_X12_groupPart : GoodIn wsX12_gainOf (wsV RX12 334 RX12 yX12_groupPart wsX12_groupPart) := goodIn_app (goodIn_of _ (by decide +kernel)) ggX12_gainOf_X12_groupPart
set_option maxRecDepth 20000 in
theorem ggX12_gainOf_X12_groupAt : GoodIn wsX12_gainOf wsX12_groupAt := goodIn_s _ [(10, 1), (1, 1), (11, 48)] rfl (by decide +kernel)
set_option maxRecDepth 20000 in
theorem gX12_gainOf_X12_groupAt : GoodIn wsX12_gainOf (wsV RX12 322 RX12 yX12_groupAt wsX12_groupAt) := goodIn_app (goodIn_of _ (by decide +kernel)) ggX12_gainOf_X12_groupAt
theorem dX12_gainOf_0 : decode cX12_gainOf 0 = .ok (.aload_n 0, 1) := by decide +kernel
theorem dX12_gainOf_1 : decode cX12_gainOf 1 = .ok (.iload_n 1, 1) := by decide +kernel
theorem dX12_gainOf_2 : decode cX12_gainOf 2 = .ok (.invokevirtual 334, 3) := by decide +kernel
theorem dX12_gainOf_5 : decode cX12_gainOf 5 = .ok (.istore_n 3, 1) := by decide +kernel
theorem dX12_gainOf_6 : decode cX12_gainOf 6 = .ok (.iconst 0, 1) := by decide +kernel
theorem dX12_gainOf_7 : decode cX12_gainOf 7 = .ok (.istore 4, 2) := by decide +kernel
theorem dX12_gainOf_9 : decode cX12_gainOf 9 = .ok (.iconst 0, 1) := by decide +kernel
theorem dX12_gainOf_10 : decode cX12_gainOf 10 = .ok (.istore 5, 2) := by decide +kernel
theorem dX12_gainOf_12 : decode cX12_gainOf 12 = .ok (.iload 5, 2) := by decide +kernel
theorem dX12_gainOf_14 : decode cX12_gainOf 14 = .ok (.aload_n 0, 1) := by decide +kernel
theorem dX12_gainOf_15 : decode cX12_gainOf 15 = .ok (.getfield 26, 3) := by decide +kernel
theorem dX12_gainOf_18 : decode cX12_gainOf 18 = .ok (.iconst 1, 1) := by decide +kernel
theorem dX12_gainOf_19 : decode cX12_gainOf 19 = .ok (.iaload, 1) := by decide +kernel
theorem dX12_gainOf_20 : decode cX12_gainOf 20 = .ok (.if_icmp .ge 157, 3) := by decide +kernel
theorem dX12_gainOf_23 : decode cX12_gainOf 23 = .ok (.iload_n 3, 1) := by decide +kernel
theorem dX12_gainOf_24 : decode cX12_gainOf 24 = .ok (.iload_n 2, 1) := by decide +kernel
theorem dX12_gainOf_25 : decode cX12_gainOf 25 = .ok (.if_icmp .eq 152, 3) := by decide +kernel
theorem dX12_gainOf_28 : decode cX12_gainOf 28 = .ok (.aload_n 0, 1) := by decide +kernel
theorem dX12_gainOf_29 : decode cX12_gainOf 29 = .ok (.getfield 26, 3) := by decide +kernel
theorem dX12_gainOf_32 : decode cX12_gainOf 32 = .ok (.bipush 110, 2) := by decide +kernel
theorem dX12_gainOf_34 : decode cX12_gainOf 34 = .ok (.iload 5, 2) := by decide +kernel
theorem dX12_gainOf_36 : decode cX12_gainOf 36 = .ok (.iadd, 1) := by decide +kernel
theorem dX12_gainOf_37 : decode cX12_gainOf 37 = .ok (.iaload, 1) := by decide +kernel
theorem dX12_gainOf_38 : decode cX12_gainOf 38 = .ok (.istore 6, 2) := by decide +kernel
theorem dX12_gainOf_40 : decode cX12_gainOf 40 = .ok (.aload_n 0, 1) := by decide +kernel
theorem dX12_gainOf_41 : decode cX12_gainOf 41 = .ok (.getfield 26, 3) := by decide +kernel
theorem dX12_gainOf_44 : decode cX12_gainOf 44 = .ok (.sipush 150, 3) := by decide +kernel
theorem dX12_gainOf_47 : decode cX12_gainOf 47 = .ok (.iload 5, 2) := by decide +kernel
theorem dX12_gainOf_49 : decode cX12_gainOf 49 = .ok (.iadd, 1) := by decide +kernel
theorem dX12_gainOf_50 : decode cX12_gainOf 50 = .ok (.iaload, 1) := by decide +kernel
theorem dX12_gainOf_51 : decode cX12_gainOf 51 = .ok (.istore 7, 2) := by decide +kernel
theorem dX12_gainOf_53 : decode cX12_gainOf 53 = .ok (.aload_n 0, 1) := by decide +kernel
theorem dX12_gainOf_54 : decode cX12_gainOf 54 = .ok (.iload 6, 2) := by decide +kernel
theorem dX12_gainOf_56 : decode cX12_gainOf 56 = .ok (.invokevirtual 322, 3) := by decide +kernel
theorem dX12_gainOf_59 : decode cX12_gainOf 59 = .ok (.iload_n 1, 1) := by decide +kernel
theorem dX12_gainOf_60 : decode cX12_gainOf 60 = .ok (.if_icmp .ne 7, 3) := by decide +kernel
theorem dX12_gainOf_63 : decode cX12_gainOf 63 = .ok (.iconst 1, 1) := by decide +kernel
theorem dX12_gainOf_64 : decode cX12_gainOf 64 = .ok (.goto 4, 3) := by decide +kernel
theorem dX12_gainOf_67 : decode cX12_gainOf 67 = .ok (.iconst 0, 1) := by decide +kernel
theorem dX12_gainOf_68 : decode cX12_gainOf 68 = .ok (.aload_n 0, 1) := by decide +kernel
theorem dX12_gainOf_69 : decode cX12_gainOf 69 = .ok (.iload 7, 2) := by decide +kernel
theorem dX12_gainOf_71 : decode cX12_gainOf 71 = .ok (.invokevirtual 322, 3) := by decide +kernel
theorem dX12_gainOf_74 : decode cX12_gainOf 74 = .ok (.iload_n 1, 1) := by decide +kernel
theorem dX12_gainOf_75 : decode cX12_gainOf 75 = .ok (.if_icmp .ne 7, 3) := by decide +kernel
theorem dX12_gainOf_78 : decode cX12_gainOf 78 = .ok (.iconst 1, 1) := by decide +kernel
theorem dX12_gainOf_79 : decode cX12_gainOf 79 = .ok (.goto 4, 3) := by decide +kernel
theorem dX12_gainOf_82 : decode cX12_gainOf 82 = .ok (.iconst 0, 1) := by decide +kernel
theorem dX12_gainOf_83 : decode cX12_gainOf 83 = .ok (.if_icmp .ne 6, 3) := by decide +kernel
theorem dX12_gainOf_86 : decode cX12_gainOf 86 = .ok (.goto 85, 3) := by decide +kernel
theorem dX12_gainOf_89 : decode cX12_gainOf 89 = .ok (.aload_n 0, 1) := by decide +kernel
theorem dX12_gainOf_90 : decode cX12_gainOf 90 = .ok (.iload 6, 2) := by decide +kernel
theorem dX12_gainOf_92 : decode cX12_gainOf 92 = .ok (.invokevirtual 322, 3) := by decide +kernel
theorem dX12_gainOf_95 : decode cX12_gainOf 95 = .ok (.iload_n 1, 1) := by decide +kernel
theorem dX12_gainOf_96 : decode cX12_gainOf 96 = .ok (.if_icmp .ne 16, 3) := by decide +kernel
theorem dX12_gainOf_99 : decode cX12_gainOf 99 = .ok (.aload_n 0, 1) := by decide +kernel
theorem dX12_gainOf_100 : decode cX12_gainOf 100 = .ok (.getfield 26, 3) := by decide +kernel
theorem dX12_gainOf_103 : decode cX12_gainOf 103 = .ok (.bipush 21, 2) := by decide +kernel
theorem dX12_gainOf_105 : decode cX12_gainOf 105 = .ok (.iload 7, 2) := by decide +kernel
theorem dX12_gainOf_107 : decode cX12_gainOf 107 = .ok (.iadd, 1) := by decide +kernel
theorem dX12_gainOf_108 : decode cX12_gainOf 108 = .ok (.iaload, 1) := by decide +kernel
theorem dX12_gainOf_109 : decode cX12_gainOf 109 = .ok (.goto 13, 3) := by decide +kernel
theorem dX12_gainOf_112 : decode cX12_gainOf 112 = .ok (.aload_n 0, 1) := by decide +kernel
theorem dX12_gainOf_113 : decode cX12_gainOf 113 = .ok (.getfield 26, 3) := by decide +kernel
theorem dX12_gainOf_116 : decode cX12_gainOf 116 = .ok (.bipush 21, 2) := by decide +kernel
theorem dX12_gainOf_118 : decode cX12_gainOf 118 = .ok (.iload 6, 2) := by decide +kernel
theorem dX12_gainOf_120 : decode cX12_gainOf 120 = .ok (.iadd, 1) := by decide +kernel
theorem dX12_gainOf_121 : decode cX12_gainOf 121 = .ok (.iaload, 1) := by decide +kernel
theorem dX12_gainOf_122 : decode cX12_gainOf 122 = .ok (.istore 8, 2) := by decide +kernel
theorem dX12_gainOf_124 : decode cX12_gainOf 124 = .ok (.iload 4, 2) := by decide +kernel
theorem dX12_gainOf_126 : decode cX12_gainOf 126 = .ok (.iload 8, 2) := by decide +kernel
theorem dX12_gainOf_128 : decode cX12_gainOf 128 = .ok (.iload_n 2, 1) := by decide +kernel
theorem dX12_gainOf_129 : decode cX12_gainOf 129 = .ok (.if_icmp .ne 17, 3) := by decide +kernel
theorem dX12_gainOf_132 : decode cX12_gainOf 132 = .ok (.aload_n 0, 1) := by decide +kernel
theorem dX12_gainOf_133 : decode cX12_gainOf 133 = .ok (.getfield 26, 3) := by decide +kernel
theorem dX12_gainOf_136 : decode cX12_gainOf 136 = .ok (.sipush 190, 3) := by decide +kernel
theorem dX12_gainOf_139 : decode cX12_gainOf 139 = .ok (.iload 5, 2) := by decide +kernel
theorem dX12_gainOf_141 : decode cX12_gainOf 141 = .ok (.iadd, 1) := by decide +kernel
theorem dX12_gainOf_142 : decode cX12_gainOf 142 = .ok (.iaload, 1) := by decide +kernel
theorem dX12_gainOf_143 : decode cX12_gainOf 143 = .ok (.goto 25, 3) := by decide +kernel
theorem dX12_gainOf_146 : decode cX12_gainOf 146 = .ok (.iload 8, 2) := by decide +kernel
theorem dX12_gainOf_148 : decode cX12_gainOf 148 = .ok (.iload_n 3, 1) := by decide +kernel
theorem dX12_gainOf_149 : decode cX12_gainOf 149 = .ok (.if_icmp .ne 18, 3) := by decide +kernel
theorem dX12_gainOf_152 : decode cX12_gainOf 152 = .ok (.aload_n 0, 1) := by decide +kernel
theorem dX12_gainOf_153 : decode cX12_gainOf 153 = .ok (.getfield 26, 3) := by decide +kernel
theorem dX12_gainOf_156 : decode cX12_gainOf 156 = .ok (.sipush 190, 3) := by decide +kernel
theorem dX12_gainOf_159 : decode cX12_gainOf 159 = .ok (.iload 5, 2) := by decide +kernel
theorem dX12_gainOf_161 : decode cX12_gainOf 161 = .ok (.iadd, 1) := by decide +kernel
theorem dX12_gainOf_162 : decode cX12_gainOf 162 = .ok (.iaload, 1) := by decide +kernel
theorem dX12_gainOf_163 : decode cX12_gainOf 163 = .ok (.ineg, 1) := by decide +kernel
theorem dX12_gainOf_164 : decode cX12_gainOf 164 = .ok (.goto 4, 3) := by decide +kernel
theorem dX12_gainOf_167 : decode cX12_gainOf 167 = .ok (.iconst 0, 1) := by decide +kernel
theorem dX12_gainOf_168 : decode cX12_gainOf 168 = .ok (.iadd, 1) := by decide +kernel
theorem dX12_gainOf_169 : decode cX12_gainOf 169 = .ok (.istore 4, 2) := by decide +kernel
theorem dX12_gainOf_171 : decode cX12_gainOf 171 = .ok (.iinc 5 1, 3) := by decide +kernel
theorem dX12_gainOf_174 : decode cX12_gainOf 174 = .ok (.goto (-162), 3) := by decide +kernel
theorem dX12_gainOf_177 : decode cX12_gainOf 177 = .ok (.iload 4, 2) := by decide +kernel
theorem dX12_gainOf_179 : decode cX12_gainOf 179 = .ok (.ireturn, 1) := by decide +kernel
set_option maxRecDepth 20000 in
theorem ggX12_debtsWith_X12_groupPart : GoodIn wsX12_debtsWith wsX12_groupPart := goodIn_s _ [(6, 1), (1, 1), (7, 3), (5, 1), (10, 1), (30, 48)] rfl (by decide +kernel)
set_option maxRecDepth 20000 in
theorem gX12_debtsWith_X12_groupPart : GoodIn wsX12_debtsWith (wsV RX12 334 RX12 yX12_groupPart wsX12_groupPart) := goodIn_app (goodIn_of _ (by decide +kernel)) ggX12_debtsWith_X12_groupPart
set_option maxRecDepth 20000 in
theorem ggX12_debtsWith_X12_groupWeight : GoodIn wsX12_debtsWith wsX12_groupWeight := goodIn_s _ [(14, 1), (1, 1), (7, 3), (5, 1), (10, 1), (30, 48)] rfl (by decide +kernel)
set_option maxRecDepth 20000 in
theorem gX12_debtsWith_X12_groupWeight : GoodIn wsX12_debtsWith (wsV RX12 331 RX12 yX12_groupWeight wsX12_groupWeight) := goodIn_app (goodIn_of _ (by decide +kernel)) ggX12_debtsWith_X12_groupWeight
set_option maxRecDepth 20000 in
theorem ggX12_debtsWith_X12_weightOf : GoodIn wsX12_debtsWith wsX12_weightOf := goodIn_s _ [(18, 1), (1, 1), (30, 48)] rfl (by decide +kernel)
set_option maxRecDepth 20000 in
theorem gX12_debtsWith_X12_weightOf : GoodIn wsX12_debtsWith (wsV RX12 296 RX12 yX12_weightOf wsX12_weightOf) := goodIn_app (goodIn_of _ (by decide +kernel)) ggX12_debtsWith_X12_weightOf
set_option maxRecDepth 20000 in
theorem ggX12_debtsWith_X12_truth : GoodIn wsX12_debtsWith wsX12_truth := goodIn_s _ [(21, 1)] rfl (by decide +kernel)
set_option maxRecDepth 20000 in
theorem gX12_debtsWith_X12_truth : GoodIn wsX12_debtsWith (va_wsS RX12 93 yX12_truth wsX12_truth) := goodIn_app (goodIn_of _ (by decide +kernel)) ggX12_debtsWith_X12_truth
set_option maxRecDepth 20000 in
theorem ggX12_debtsWith_X12_limit : GoodIn wsX12_debtsWith wsX12_limit := goodIn_s _ [(25, 1), (1, 1), (26, 3), (5, 1), (29, 49)] rfl (by decide +kernel)
set_option maxRecDepth 20000 in
theorem gX12_debtsWith_X12_limit : GoodIn wsX12_debtsWith (wsV RX12 256 RX12 yX12_limit wsX12_limit) := goodIn_app (goodIn_of _ (by decide +kernel)) ggX12_debtsWith_X12_limit
theorem dX12_debtsWith_0 : decode cX12_debtsWith 0 = .ok (.aload_n 0, 1) := by decide +kernel
theorem dX12_debtsWith_1 : decode cX12_debtsWith 1 = .ok (.iload_n 1, 1) := by decide +kernel
theorem dX12_debtsWith_2 : decode cX12_debtsWith 2 = .ok (.invokevirtual 334, 3) := by decide +kernel
theorem dX12_debtsWith_5 : decode cX12_debtsWith 5 = .ok (.istore_n 3, 1) := by decide +kernel
theorem dX12_debtsWith_6 : decode cX12_debtsWith 6 = .ok (.iconst 0, 1) := by decide +kernel
theorem dX12_debtsWith_7 : decode cX12_debtsWith 7 = .ok (.istore 4, 2) := by decide +kernel
theorem dX12_debtsWith_9 : decode cX12_debtsWith 9 = .ok (.aload_n 0, 1) := by decide +kernel
theorem dX12_debtsWith_10 : decode cX12_debtsWith 10 = .ok (.iload_n 1, 1) := by decide +kernel
theorem dX12_debtsWith_11 : decode cX12_debtsWith 11 = .ok (.invokevirtual 331, 3) := by decide +kernel
theorem dX12_debtsWith_14 : decode cX12_debtsWith 14 = .ok (.istore 5, 2) := by decide +kernel
theorem dX12_debtsWith_16 : decode cX12_debtsWith 16 = .ok (.iconst 0, 1) := by decide +kernel
theorem dX12_debtsWith_17 : decode cX12_debtsWith 17 = .ok (.istore 6, 2) := by decide +kernel
theorem dX12_debtsWith_19 : decode cX12_debtsWith 19 = .ok (.iload 6, 2) := by decide +kernel
theorem dX12_debtsWith_21 : decode cX12_debtsWith 21 = .ok (.aload_n 0, 1) := by decide +kernel
theorem dX12_debtsWith_22 : decode cX12_debtsWith 22 = .ok (.getfield 26, 3) := by decide +kernel
theorem dX12_debtsWith_25 : decode cX12_debtsWith 25 = .ok (.iconst 2, 1) := by decide +kernel
theorem dX12_debtsWith_26 : decode cX12_debtsWith 26 = .ok (.iaload, 1) := by decide +kernel
theorem dX12_debtsWith_27 : decode cX12_debtsWith 27 = .ok (.if_icmp .ge 74, 3) := by decide +kernel
theorem dX12_debtsWith_30 : decode cX12_debtsWith 30 = .ok (.aload_n 0, 1) := by decide +kernel
theorem dX12_debtsWith_31 : decode cX12_debtsWith 31 = .ok (.iload 6, 2) := by decide +kernel
theorem dX12_debtsWith_33 : decode cX12_debtsWith 33 = .ok (.invokevirtual 296, 3) := by decide +kernel
theorem dX12_debtsWith_36 : decode cX12_debtsWith 36 = .ok (.iload 6, 2) := by decide +kernel
theorem dX12_debtsWith_38 : decode cX12_debtsWith 38 = .ok (.iload_n 3, 1) := by decide +kernel
theorem dX12_debtsWith_39 : decode cX12_debtsWith 39 = .ok (.if_icmp .ne 7, 3) := by decide +kernel
theorem dX12_debtsWith_42 : decode cX12_debtsWith 42 = .ok (.iconst 1, 1) := by decide +kernel
theorem dX12_debtsWith_43 : decode cX12_debtsWith 43 = .ok (.goto 4, 3) := by decide +kernel
theorem dX12_debtsWith_46 : decode cX12_debtsWith 46 = .ok (.iconst 0, 1) := by decide +kernel
theorem dX12_debtsWith_47 : decode cX12_debtsWith 47 = .ok (.invokestatic 93, 3) := by decide +kernel
theorem dX12_debtsWith_50 : decode cX12_debtsWith 50 = .ok (.iload 5, 2) := by decide +kernel
theorem dX12_debtsWith_52 : decode cX12_debtsWith 52 = .ok (.imul, 1) := by decide +kernel
theorem dX12_debtsWith_53 : decode cX12_debtsWith 53 = .ok (.isub, 1) := by decide +kernel
theorem dX12_debtsWith_54 : decode cX12_debtsWith 54 = .ok (.iload 6, 2) := by decide +kernel
theorem dX12_debtsWith_56 : decode cX12_debtsWith 56 = .ok (.iload_n 2, 1) := by decide +kernel
theorem dX12_debtsWith_57 : decode cX12_debtsWith 57 = .ok (.if_icmp .ne 7, 3) := by decide +kernel
theorem dX12_debtsWith_60 : decode cX12_debtsWith 60 = .ok (.iconst 1, 1) := by decide +kernel
theorem dX12_debtsWith_61 : decode cX12_debtsWith 61 = .ok (.goto 4, 3) := by decide +kernel
theorem dX12_debtsWith_64 : decode cX12_debtsWith 64 = .ok (.iconst 0, 1) := by decide +kernel
theorem dX12_debtsWith_65 : decode cX12_debtsWith 65 = .ok (.invokestatic 93, 3) := by decide +kernel
theorem dX12_debtsWith_68 : decode cX12_debtsWith 68 = .ok (.iload 5, 2) := by decide +kernel
theorem dX12_debtsWith_70 : decode cX12_debtsWith 70 = .ok (.imul, 1) := by decide +kernel
theorem dX12_debtsWith_71 : decode cX12_debtsWith 71 = .ok (.iadd, 1) := by decide +kernel
theorem dX12_debtsWith_72 : decode cX12_debtsWith 72 = .ok (.aload_n 0, 1) := by decide +kernel
theorem dX12_debtsWith_73 : decode cX12_debtsWith 73 = .ok (.invokevirtual 256, 3) := by decide +kernel
theorem dX12_debtsWith_76 : decode cX12_debtsWith 76 = .ok (.isub, 1) := by decide +kernel
theorem dX12_debtsWith_77 : decode cX12_debtsWith 77 = .ok (.istore 7, 2) := by decide +kernel
theorem dX12_debtsWith_79 : decode cX12_debtsWith 79 = .ok (.iload 4, 2) := by decide +kernel
theorem dX12_debtsWith_81 : decode cX12_debtsWith 81 = .ok (.iload 7, 2) := by decide +kernel
theorem dX12_debtsWith_83 : decode cX12_debtsWith 83 = .ok (.ifCond .le 8, 3) := by decide +kernel
theorem dX12_debtsWith_86 : decode cX12_debtsWith 86 = .ok (.iload 7, 2) := by decide +kernel
theorem dX12_debtsWith_88 : decode cX12_debtsWith 88 = .ok (.goto 4, 3) := by decide +kernel
theorem dX12_debtsWith_91 : decode cX12_debtsWith 91 = .ok (.iconst 0, 1) := by decide +kernel
theorem dX12_debtsWith_92 : decode cX12_debtsWith 92 = .ok (.iadd, 1) := by decide +kernel
theorem dX12_debtsWith_93 : decode cX12_debtsWith 93 = .ok (.istore 4, 2) := by decide +kernel
theorem dX12_debtsWith_95 : decode cX12_debtsWith 95 = .ok (.iinc 6 1, 3) := by decide +kernel
theorem dX12_debtsWith_98 : decode cX12_debtsWith 98 = .ok (.goto (-79), 3) := by decide +kernel
theorem dX12_debtsWith_101 : decode cX12_debtsWith 101 = .ok (.iload 4, 2) := by decide +kernel
theorem dX12_debtsWith_103 : decode cX12_debtsWith 103 = .ok (.ireturn, 1) := by decide +kernel
set_option maxRecDepth 20000 in
theorem ggX12_whyMove_X12_groupPart : GoodIn wsX12_whyMove wsX12_groupPart := goodIn_s _ [(6, 1), (1, 1), (7, 3), (5, 1), (10, 1), (42, 48)] rfl (by decide +kernel)
set_option maxRecDepth 20000 in
theorem gX12_whyMove_X12_groupPart : GoodIn wsX12_whyMove (wsV RX12 334 RX12 yX12_groupPart wsX12_groupPart) := goodIn_app (goodIn_of _ (by decide +kernel)) ggX12_whyMove_X12_groupPart
set_option maxRecDepth 20000 in
theorem ggX12_whyMove_X12_debtsWith : GoodIn wsX12_whyMove wsX12_debtsWith := goodIn_s _ [(14, 1), (1, 10), (15, 19), (42, 48)] rfl (by decide +kernel)
set_option maxRecDepth 20000 in
theorem gX12_whyMove_X12_debtsWith : GoodIn wsX12_whyMove (wsV RX12 349 RX12 yX12_debtsWith wsX12_debtsWith) := goodIn_app (goodIn_of _ (by decide +kernel)) ggX12_whyMove_X12_debtsWith
set_option maxRecDepth 20000 in
theorem ggX12_whyMove_X12_debtsNow : GoodIn wsX12_whyMove wsX12_debtsNow := goodIn_s _ [(37, 1), (1, 1), (38, 3), (5, 1), (41, 1), (19, 4), (26, 8), (42, 48)] rfl (by decide +kernel)
set_option maxRecDepth 20000 in
theorem gX12_whyMove_X12_debtsNow : GoodIn wsX12_whyMove (wsV RX12 313 RX12 yX12_debtsNow wsX12_debtsNow) := goodIn_app (goodIn_of _ (by decide +kernel)) ggX12_whyMove_X12_debtsNow
theorem dX12_whyMove_0 : decode cX12_whyMove 0 = .ok (.aload_n 0, 1) := by decide +kernel
theorem dX12_whyMove_1 : decode cX12_whyMove 1 = .ok (.iload_n 1, 1) := by decide +kernel
theorem dX12_whyMove_2 : decode cX12_whyMove 2 = .ok (.invokevirtual 334, 3) := by decide +kernel
theorem dX12_whyMove_5 : decode cX12_whyMove 5 = .ok (.iload_n 2, 1) := by decide +kernel
theorem dX12_whyMove_6 : decode cX12_whyMove 6 = .ok (.if_icmp .ne 5, 3) := by decide +kernel
theorem dX12_whyMove_9 : decode cX12_whyMove 9 = .ok (.iconst 1, 1) := by decide +kernel
theorem dX12_whyMove_10 : decode cX12_whyMove 10 = .ok (.ireturn, 1) := by decide +kernel
theorem dX12_whyMove_11 : decode cX12_whyMove 11 = .ok (.aload_n 0, 1) := by decide +kernel
theorem dX12_whyMove_12 : decode cX12_whyMove 12 = .ok (.iload_n 1, 1) := by decide +kernel
theorem dX12_whyMove_13 : decode cX12_whyMove 13 = .ok (.iload_n 2, 1) := by decide +kernel
theorem dX12_whyMove_14 : decode cX12_whyMove 14 = .ok (.invokevirtual 349, 3) := by decide +kernel
theorem dX12_whyMove_17 : decode cX12_whyMove 17 = .ok (.istore_n 3, 1) := by decide +kernel
theorem dX12_whyMove_18 : decode cX12_whyMove 18 = .ok (.iload_n 3, 1) := by decide +kernel
theorem dX12_whyMove_19 : decode cX12_whyMove 19 = .ok (.aload_n 0, 1) := by decide +kernel
theorem dX12_whyMove_20 : decode cX12_whyMove 20 = .ok (.getfield 26, 3) := by decide +kernel
theorem dX12_whyMove_23 : decode cX12_whyMove 23 = .ok (.iconst 4, 1) := by decide +kernel
theorem dX12_whyMove_24 : decode cX12_whyMove 24 = .ok (.iaload, 1) := by decide +kernel
theorem dX12_whyMove_25 : decode cX12_whyMove 25 = .ok (.if_icmp .le 15, 3) := by decide +kernel
theorem dX12_whyMove_28 : decode cX12_whyMove 28 = .ok (.iload_n 3, 1) := by decide +kernel
theorem dX12_whyMove_29 : decode cX12_whyMove 29 = .ok (.aload_n 0, 1) := by decide +kernel
theorem dX12_whyMove_30 : decode cX12_whyMove 30 = .ok (.invokevirtual 313, 3) := by decide +kernel
theorem dX12_whyMove_33 : decode cX12_whyMove 33 = .ok (.if_icmp .le 7, 3) := by decide +kernel
theorem dX12_whyMove_36 : decode cX12_whyMove 36 = .ok (.iconst 2, 1) := by decide +kernel
theorem dX12_whyMove_37 : decode cX12_whyMove 37 = .ok (.goto 4, 3) := by decide +kernel
theorem dX12_whyMove_40 : decode cX12_whyMove 40 = .ok (.iconst 0, 1) := by decide +kernel
theorem dX12_whyMove_41 : decode cX12_whyMove 41 = .ok (.ireturn, 1) := by decide +kernel
set_option maxRecDepth 20000 in
theorem ggX12_areThere_X12_isGroup : GoodIn wsX12_areThere wsX12_isGroup := goodIn_s _ [(5, 4), (4, 1), (9, 5), (18, 48)] rfl (by decide +kernel)
set_option maxRecDepth 20000 in
theorem gX12_areThere_X12_isGroup : GoodIn wsX12_areThere (wsV RX12 325 RX12 yX12_isGroup wsX12_isGroup) := goodIn_app (goodIn_of _ (by decide +kernel)) ggX12_areThere_X12_isGroup
set_option maxRecDepth 20000 in
theorem ggX12_areThere_X12_isPart : GoodIn wsX12_areThere wsX12_isPart := goodIn_s _ [(17, 1), (10, 3), (4, 1), (13, 1), (18, 48)] rfl (by decide +kernel)
set_option maxRecDepth 20000 in
theorem gX12_areThere_X12_isPart : GoodIn wsX12_areThere (wsV RX12 305 RX12 yX12_isPart wsX12_isPart) := goodIn_app (goodIn_of _ (by decide +kernel)) ggX12_areThere_X12_isPart
theorem dX12_areThere_0 : decode cX12_areThere 0 = .ok (.aload_n 0, 1) := by decide +kernel
theorem dX12_areThere_1 : decode cX12_areThere 1 = .ok (.iload_n 1, 1) := by decide +kernel
theorem dX12_areThere_2 : decode cX12_areThere 2 = .ok (.invokevirtual 325, 3) := by decide +kernel
theorem dX12_areThere_5 : decode cX12_areThere 5 = .ok (.ifCond .eq 15, 3) := by decide +kernel
theorem dX12_areThere_8 : decode cX12_areThere 8 = .ok (.aload_n 0, 1) := by decide +kernel
theorem dX12_areThere_9 : decode cX12_areThere 9 = .ok (.iload_n 2, 1) := by decide +kernel
theorem dX12_areThere_10 : decode cX12_areThere 10 = .ok (.invokevirtual 305, 3) := by decide +kernel
theorem dX12_areThere_13 : decode cX12_areThere 13 = .ok (.ifCond .eq 7, 3) := by decide +kernel
theorem dX12_areThere_16 : decode cX12_areThere 16 = .ok (.iconst 1, 1) := by decide +kernel
theorem dX12_areThere_17 : decode cX12_areThere 17 = .ok (.goto 4, 3) := by decide +kernel
theorem dX12_areThere_20 : decode cX12_areThere 20 = .ok (.iconst 0, 1) := by decide +kernel
theorem dX12_areThere_21 : decode cX12_areThere 21 = .ok (.ireturn, 1) := by decide +kernel
set_option maxRecDepth 20000 in
theorem ggX12_gain_X12_areThere : GoodIn wsX12_gain wsX12_areThere := goodIn_s _ [(5, 4), (4, 1), (9, 13), (42, 48)] rfl (by decide +kernel)
set_option maxRecDepth 20000 in
theorem gX12_gain_X12_areThere : GoodIn wsX12_gain (wsV RX12 352 RX12 yX12_areThere wsX12_areThere) := goodIn_app (goodIn_of _ (by decide +kernel)) ggX12_gain_X12_areThere
set_option maxRecDepth 20000 in
theorem ggX12_gain_X12_goes : GoodIn wsX12_gain wsX12_goes := goodIn_s _ [(25, 4), (4, 1), (29, 1), (42, 48)] rfl (by decide +kernel)
set_option maxRecDepth 20000 in
theorem gX12_gain_X12_goes : GoodIn wsX12_gain (wsV RX12 100 RX12 yX12_goes wsX12_goes) := goodIn_app (goodIn_of _ (by decide +kernel)) ggX12_gain_X12_goes
set_option maxRecDepth 20000 in
theorem ggX12_gain_X12_gainOf : GoodIn wsX12_gain wsX12_gainOf := goodIn_s _ [(33, 1), (14, 1), (34, 3), (4, 1), (37, 53)] rfl (by decide +kernel)
set_option maxRecDepth 20000 in
theorem gX12_gain_X12_gainOf : GoodIn wsX12_gain (wsV RX12 355 RX12 yX12_gainOf wsX12_gainOf) := goodIn_app (goodIn_of _ (by decide +kernel)) ggX12_gain_X12_gainOf
theorem dX12_gain_0 : decode cX12_gain 0 = .ok (.aload_n 0, 1) := by decide +kernel
theorem dX12_gain_1 : decode cX12_gain 1 = .ok (.aload_n 0, 1) := by decide +kernel
theorem dX12_gain_2 : decode cX12_gain 2 = .ok (.iload_n 1, 1) := by decide +kernel
theorem dX12_gain_3 : decode cX12_gain 3 = .ok (.iload_n 2, 1) := by decide +kernel
theorem dX12_gain_4 : decode cX12_gain 4 = .ok (.invokevirtual 352, 3) := by decide +kernel
theorem dX12_gain_7 : decode cX12_gain 7 = .ok (.invokevirtual 100, 3) := by decide +kernel
theorem dX12_gain_10 : decode cX12_gain 10 = .ok (.ifCond .eq 12, 3) := by decide +kernel
theorem dX12_gain_13 : decode cX12_gain 13 = .ok (.aload_n 0, 1) := by decide +kernel
theorem dX12_gain_14 : decode cX12_gain 14 = .ok (.iload_n 1, 1) := by decide +kernel
theorem dX12_gain_15 : decode cX12_gain 15 = .ok (.iload_n 2, 1) := by decide +kernel
theorem dX12_gain_16 : decode cX12_gain 16 = .ok (.invokevirtual 355, 3) := by decide +kernel
theorem dX12_gain_19 : decode cX12_gain 19 = .ok (.goto 4, 3) := by decide +kernel
theorem dX12_gain_22 : decode cX12_gain 22 = .ok (.iconst 0, 1) := by decide +kernel
theorem dX12_gain_23 : decode cX12_gain 23 = .ok (.ireturn, 1) := by decide +kernel
set_option maxRecDepth 20000 in
theorem ggX12_whyNotMove_X12_areThere : GoodIn wsX12_whyNotMove wsX12_areThere := goodIn_s _ [(5, 4), (4, 1), (9, 13), (70, 48)] rfl (by decide +kernel)
set_option maxRecDepth 20000 in
theorem gX12_whyNotMove_X12_areThere : GoodIn wsX12_whyNotMove (wsV RX12 352 RX12 yX12_areThere wsX12_areThere) := goodIn_app (goodIn_of _ (by decide +kernel)) ggX12_whyNotMove_X12_areThere
set_option maxRecDepth 20000 in
theorem ggX12_whyNotMove_X12_goes : GoodIn wsX12_whyNotMove wsX12_goes := goodIn_s _ [(25, 4), (4, 1), (29, 1), (70, 48)] rfl (by decide +kernel)
set_option maxRecDepth 20000 in
theorem gX12_whyNotMove_X12_goes : GoodIn wsX12_whyNotMove (wsV RX12 100 RX12 yX12_goes wsX12_goes) := goodIn_app (goodIn_of _ (by decide +kernel)) ggX12_whyNotMove_X12_goes
set_option maxRecDepth 20000 in
theorem ggX12_whyNotMove_X12_whyMove : GoodIn wsX12_whyNotMove wsX12_whyMove := goodIn_s _ [(33, 1), (14, 1), (34, 3), (4, 1), (37, 17), (27, 3), (54, 64)] rfl (by decide +kernel)
set_option maxRecDepth 20000 in
theorem gX12_whyNotMove_X12_whyMove : GoodIn wsX12_whyNotMove (wsV RX12 358 RX12 yX12_whyMove wsX12_whyMove) := goodIn_app (goodIn_of _ (by decide +kernel)) ggX12_whyNotMove_X12_whyMove
theorem dX12_whyNotMove_0 : decode cX12_whyNotMove 0 = .ok (.aload_n 0, 1) := by decide +kernel
theorem dX12_whyNotMove_1 : decode cX12_whyNotMove 1 = .ok (.aload_n 0, 1) := by decide +kernel
theorem dX12_whyNotMove_2 : decode cX12_whyNotMove 2 = .ok (.iload_n 1, 1) := by decide +kernel
theorem dX12_whyNotMove_3 : decode cX12_whyNotMove 3 = .ok (.iload_n 2, 1) := by decide +kernel
theorem dX12_whyNotMove_4 : decode cX12_whyNotMove 4 = .ok (.invokevirtual 352, 3) := by decide +kernel
theorem dX12_whyNotMove_7 : decode cX12_whyNotMove 7 = .ok (.invokevirtual 100, 3) := by decide +kernel
theorem dX12_whyNotMove_10 : decode cX12_whyNotMove 10 = .ok (.ifCond .eq 12, 3) := by decide +kernel
theorem dX12_whyNotMove_13 : decode cX12_whyNotMove 13 = .ok (.aload_n 0, 1) := by decide +kernel
theorem dX12_whyNotMove_14 : decode cX12_whyNotMove 14 = .ok (.iload_n 1, 1) := by decide +kernel
theorem dX12_whyNotMove_15 : decode cX12_whyNotMove 15 = .ok (.iload_n 2, 1) := by decide +kernel
theorem dX12_whyNotMove_16 : decode cX12_whyNotMove 16 = .ok (.invokevirtual 358, 3) := by decide +kernel
theorem dX12_whyNotMove_19 : decode cX12_whyNotMove 19 = .ok (.goto 4, 3) := by decide +kernel
theorem dX12_whyNotMove_22 : decode cX12_whyNotMove 22 = .ok (.iconst 0, 1) := by decide +kernel
theorem dX12_whyNotMove_23 : decode cX12_whyNotMove 23 = .ok (.ireturn, 1) := by decide +kernel
set_option maxRecDepth 20000 in
theorem ggX12_debtsIf_X12_areThere : GoodIn wsX12_debtsIf wsX12_areThere := goodIn_s _ [(5, 4), (4, 1), (9, 13), (58, 48)] rfl (by decide +kernel)
set_option maxRecDepth 20000 in
theorem gX12_debtsIf_X12_areThere : GoodIn wsX12_debtsIf (wsV RX12 352 RX12 yX12_areThere wsX12_areThere) := goodIn_app (goodIn_of _ (by decide +kernel)) ggX12_debtsIf_X12_areThere
set_option maxRecDepth 20000 in
theorem ggX12_debtsIf_X12_goes : GoodIn wsX12_debtsIf wsX12_goes := goodIn_s _ [(25, 4), (4, 1), (29, 1), (58, 48)] rfl (by decide +kernel)
set_option maxRecDepth 20000 in
theorem gX12_debtsIf_X12_goes : GoodIn wsX12_debtsIf (wsV RX12 100 RX12 yX12_goes wsX12_goes) := goodIn_app (goodIn_of _ (by decide +kernel)) ggX12_debtsIf_X12_goes
set_option maxRecDepth 20000 in
theorem ggX12_debtsIf_X12_debtsWith : GoodIn wsX12_debtsIf wsX12_debtsWith := goodIn_s _ [(33, 1), (14, 1), (34, 3), (4, 1), (37, 13), (27, 3), (50, 56)] rfl (by decide +kernel)
set_option maxRecDepth 20000 in
theorem gX12_debtsIf_X12_debtsWith : GoodIn wsX12_debtsIf (wsV RX12 349 RX12 yX12_debtsWith wsX12_debtsWith) := goodIn_app (goodIn_of _ (by decide +kernel)) ggX12_debtsIf_X12_debtsWith
theorem dX12_debtsIf_0 : decode cX12_debtsIf 0 = .ok (.aload_n 0, 1) := by decide +kernel
theorem dX12_debtsIf_1 : decode cX12_debtsIf 1 = .ok (.aload_n 0, 1) := by decide +kernel
theorem dX12_debtsIf_2 : decode cX12_debtsIf 2 = .ok (.iload_n 1, 1) := by decide +kernel
theorem dX12_debtsIf_3 : decode cX12_debtsIf 3 = .ok (.iload_n 2, 1) := by decide +kernel
theorem dX12_debtsIf_4 : decode cX12_debtsIf 4 = .ok (.invokevirtual 352, 3) := by decide +kernel
theorem dX12_debtsIf_7 : decode cX12_debtsIf 7 = .ok (.invokevirtual 100, 3) := by decide +kernel
theorem dX12_debtsIf_10 : decode cX12_debtsIf 10 = .ok (.ifCond .eq 12, 3) := by decide +kernel
theorem dX12_debtsIf_13 : decode cX12_debtsIf 13 = .ok (.aload_n 0, 1) := by decide +kernel
theorem dX12_debtsIf_14 : decode cX12_debtsIf 14 = .ok (.iload_n 1, 1) := by decide +kernel
theorem dX12_debtsIf_15 : decode cX12_debtsIf 15 = .ok (.iload_n 2, 1) := by decide +kernel
theorem dX12_debtsIf_16 : decode cX12_debtsIf 16 = .ok (.invokevirtual 349, 3) := by decide +kernel
theorem dX12_debtsIf_19 : decode cX12_debtsIf 19 = .ok (.goto 4, 3) := by decide +kernel
theorem dX12_debtsIf_22 : decode cX12_debtsIf 22 = .ok (.iconst 0, 1) := by decide +kernel
theorem dX12_debtsIf_23 : decode cX12_debtsIf 23 = .ok (.ireturn, 1) := by decide +kernel
set_option maxRecDepth 20000 in
theorem ggX12_bestMove_X12_debtsNow : GoodIn wsX12_bestMove wsX12_debtsNow := goodIn_s _ [(6, 1), (1, 1), (7, 3), (5, 1), (10, 13), (54, 48)] rfl (by decide +kernel)
set_option maxRecDepth 20000 in
theorem gX12_bestMove_X12_debtsNow : GoodIn wsX12_bestMove (wsV RX12 313 RX12 yX12_debtsNow wsX12_debtsNow) := goodIn_app (goodIn_of _ (by decide +kernel)) ggX12_bestMove_X12_debtsNow
set_option maxRecDepth 20000 in
theorem ggX12_bestMove_X12_groups : GoodIn wsX12_bestMove wsX12_groups := goodIn_s _ [(26, 1), (1, 1), (54, 48)] rfl (by decide +kernel)
set_option maxRecDepth 20000 in
theorem gX12_bestMove_X12_groups : GoodIn wsX12_bestMove (wsV RX12 177 RX12 yX12_groups wsX12_groups) := goodIn_app (goodIn_of _ (by decide +kernel)) ggX12_bestMove_X12_groups
set_option maxRecDepth 20000 in
theorem ggX12_bestMove_X12_gainOf : GoodIn wsX12_bestMove wsX12_gainOf := goodIn_s _ [(30, 1), (1, 1), (31, 3), (5, 1), (34, 5), (54, 48)] rfl (by decide +kernel)
set_option maxRecDepth 20000 in
theorem gX12_bestMove_X12_gainOf : GoodIn wsX12_bestMove (wsV RX12 355 RX12 yX12_gainOf wsX12_gainOf) := goodIn_app (goodIn_of _ (by decide +kernel)) ggX12_bestMove_X12_gainOf
set_option maxRecDepth 20000 in
theorem ggX12_bestMove_X12_debtsWith : GoodIn wsX12_bestMove wsX12_debtsWith := goodIn_s _ [(42, 1), (1, 1), (31, 3), (5, 1), (34, 5), (43, 4), (11, 4), (47, 3), (15, 8), (54, 48)] rfl (by decide +kernel)
set_option maxRecDepth 20000 in
theorem gX12_bestMove_X12_debtsWith : GoodIn wsX12_bestMove (wsV RX12 349 RX12 yX12_debtsWith wsX12_debtsWith) := goodIn_app (goodIn_of _ (by decide +kernel)) ggX12_bestMove_X12_debtsWith
set_option maxRecDepth 20000 in
theorem ggX12_bestMove_X12_whyMove : GoodIn wsX12_bestMove wsX12_whyMove := goodIn_s _ [(53, 1), (1, 1), (31, 3), (5, 1), (34, 13), (11, 4), (47, 3), (15, 8), (2, 3), (6, 5), (54, 48)] rfl (by decide +kernel)
set_option maxRecDepth 20000 in
theorem gX12_bestMove_X12_whyMove : GoodIn wsX12_bestMove (wsV RX12 358 RX12 yX12_whyMove wsX12_whyMove) := goodIn_app (goodIn_of _ (by decide +kernel)) ggX12_bestMove_X12_whyMove
theorem dX12_bestMove_0 : decode cX12_bestMove 0 = .ok (.iconst (-1), 1) := by decide +kernel
theorem dX12_bestMove_1 : decode cX12_bestMove 1 = .ok (.istore_n 2, 1) := by decide +kernel
theorem dX12_bestMove_2 : decode cX12_bestMove 2 = .ok (.iconst 0, 1) := by decide +kernel
theorem dX12_bestMove_3 : decode cX12_bestMove 3 = .ok (.istore_n 3, 1) := by decide +kernel
theorem dX12_bestMove_4 : decode cX12_bestMove 4 = .ok (.iconst 0, 1) := by decide +kernel
theorem dX12_bestMove_5 : decode cX12_bestMove 5 = .ok (.istore 4, 2) := by decide +kernel
theorem dX12_bestMove_7 : decode cX12_bestMove 7 = .ok (.aload_n 0, 1) := by decide +kernel
theorem dX12_bestMove_8 : decode cX12_bestMove 8 = .ok (.invokevirtual 313, 3) := by decide +kernel
theorem dX12_bestMove_11 : decode cX12_bestMove 11 = .ok (.istore 5, 2) := by decide +kernel
theorem dX12_bestMove_13 : decode cX12_bestMove 13 = .ok (.iconst 0, 1) := by decide +kernel
theorem dX12_bestMove_14 : decode cX12_bestMove 14 = .ok (.istore 6, 2) := by decide +kernel
theorem dX12_bestMove_16 : decode cX12_bestMove 16 = .ok (.iload 6, 2) := by decide +kernel
theorem dX12_bestMove_18 : decode cX12_bestMove 18 = .ok (.aload_n 0, 1) := by decide +kernel
theorem dX12_bestMove_19 : decode cX12_bestMove 19 = .ok (.invokevirtual 177, 3) := by decide +kernel
theorem dX12_bestMove_22 : decode cX12_bestMove 22 = .ok (.if_icmp .ge 125, 3) := by decide +kernel
theorem dX12_bestMove_25 : decode cX12_bestMove 25 = .ok (.iconst 0, 1) := by decide +kernel
theorem dX12_bestMove_26 : decode cX12_bestMove 26 = .ok (.istore 7, 2) := by decide +kernel
theorem dX12_bestMove_28 : decode cX12_bestMove 28 = .ok (.iload 7, 2) := by decide +kernel
theorem dX12_bestMove_30 : decode cX12_bestMove 30 = .ok (.aload_n 0, 1) := by decide +kernel
theorem dX12_bestMove_31 : decode cX12_bestMove 31 = .ok (.getfield 26, 3) := by decide +kernel
theorem dX12_bestMove_34 : decode cX12_bestMove 34 = .ok (.iconst 2, 1) := by decide +kernel
theorem dX12_bestMove_35 : decode cX12_bestMove 35 = .ok (.iaload, 1) := by decide +kernel
theorem dX12_bestMove_36 : decode cX12_bestMove 36 = .ok (.if_icmp .ge 105, 3) := by decide +kernel
theorem dX12_bestMove_39 : decode cX12_bestMove 39 = .ok (.aload_n 0, 1) := by decide +kernel
theorem dX12_bestMove_40 : decode cX12_bestMove 40 = .ok (.iload 6, 2) := by decide +kernel
theorem dX12_bestMove_42 : decode cX12_bestMove 42 = .ok (.iload 7, 2) := by decide +kernel
theorem dX12_bestMove_44 : decode cX12_bestMove 44 = .ok (.invokevirtual 355, 3) := by decide +kernel
theorem dX12_bestMove_47 : decode cX12_bestMove 47 = .ok (.istore 8, 2) := by decide +kernel
theorem dX12_bestMove_49 : decode cX12_bestMove 49 = .ok (.aload_n 0, 1) := by decide +kernel
theorem dX12_bestMove_50 : decode cX12_bestMove 50 = .ok (.iload 6, 2) := by decide +kernel
theorem dX12_bestMove_52 : decode cX12_bestMove 52 = .ok (.iload 7, 2) := by decide +kernel
theorem dX12_bestMove_54 : decode cX12_bestMove 54 = .ok (.invokevirtual 349, 3) := by decide +kernel
theorem dX12_bestMove_57 : decode cX12_bestMove 57 = .ok (.istore 9, 2) := by decide +kernel
theorem dX12_bestMove_59 : decode cX12_bestMove 59 = .ok (.aload_n 0, 1) := by decide +kernel
theorem dX12_bestMove_60 : decode cX12_bestMove 60 = .ok (.iload 6, 2) := by decide +kernel
theorem dX12_bestMove_62 : decode cX12_bestMove 62 = .ok (.iload 7, 2) := by decide +kernel
theorem dX12_bestMove_64 : decode cX12_bestMove 64 = .ok (.invokevirtual 358, 3) := by decide +kernel
theorem dX12_bestMove_67 : decode cX12_bestMove 67 = .ok (.ifCond .gt 68, 3) := by decide +kernel
theorem dX12_bestMove_70 : decode cX12_bestMove 70 = .ok (.iload_n 1, 1) := by decide +kernel
theorem dX12_bestMove_71 : decode cX12_bestMove 71 = .ok (.ifCond .eq 13, 3) := by decide +kernel
theorem dX12_bestMove_74 : decode cX12_bestMove 74 = .ok (.iload 9, 2) := by decide +kernel
theorem dX12_bestMove_76 : decode cX12_bestMove 76 = .ok (.iload 5, 2) := by decide +kernel
theorem dX12_bestMove_78 : decode cX12_bestMove 78 = .ok (.if_icmp .lt 14, 3) := by decide +kernel
theorem dX12_bestMove_81 : decode cX12_bestMove 81 = .ok (.goto 54, 3) := by decide +kernel
theorem dX12_bestMove_84 : decode cX12_bestMove 84 = .ok (.iload 8, 2) := by decide +kernel
theorem dX12_bestMove_86 : decode cX12_bestMove 86 = .ok (.ifCond .gt 6, 3) := by decide +kernel
theorem dX12_bestMove_89 : decode cX12_bestMove 89 = .ok (.goto 46, 3) := by decide +kernel
theorem dX12_bestMove_92 : decode cX12_bestMove 92 = .ok (.iload_n 2, 1) := by decide +kernel
theorem dX12_bestMove_93 : decode cX12_bestMove 93 = .ok (.iconst (-1), 1) := by decide +kernel
theorem dX12_bestMove_94 : decode cX12_bestMove 94 = .ok (.if_icmp .eq 25, 3) := by decide +kernel
theorem dX12_bestMove_97 : decode cX12_bestMove 97 = .ok (.iload 8, 2) := by decide +kernel
theorem dX12_bestMove_99 : decode cX12_bestMove 99 = .ok (.iload_n 3, 1) := by decide +kernel
theorem dX12_bestMove_100 : decode cX12_bestMove 100 = .ok (.if_icmp .lt 35, 3) := by decide +kernel
theorem dX12_bestMove_103 : decode cX12_bestMove 103 = .ok (.iload 8, 2) := by decide +kernel
theorem dX12_bestMove_105 : decode cX12_bestMove 105 = .ok (.iload_n 3, 1) := by decide +kernel
theorem dX12_bestMove_106 : decode cX12_bestMove 106 = .ok (.if_icmp .ne 13, 3) := by decide +kernel
theorem dX12_bestMove_109 : decode cX12_bestMove 109 = .ok (.iload 9, 2) := by decide +kernel
theorem dX12_bestMove_111 : decode cX12_bestMove 111 = .ok (.iload 4, 2) := by decide +kernel
theorem dX12_bestMove_113 : decode cX12_bestMove 113 = .ok (.if_icmp .lt 6, 3) := by decide +kernel
theorem dX12_bestMove_116 : decode cX12_bestMove 116 = .ok (.goto 19, 3) := by decide +kernel
theorem dX12_bestMove_119 : decode cX12_bestMove 119 = .ok (.bipush 10, 2) := by decide +kernel
theorem dX12_bestMove_121 : decode cX12_bestMove 121 = .ok (.iload 6, 2) := by decide +kernel
theorem dX12_bestMove_123 : decode cX12_bestMove 123 = .ok (.imul, 1) := by decide +kernel
theorem dX12_bestMove_124 : decode cX12_bestMove 124 = .ok (.iload 7, 2) := by decide +kernel
theorem dX12_bestMove_126 : decode cX12_bestMove 126 = .ok (.iadd, 1) := by decide +kernel
theorem dX12_bestMove_127 : decode cX12_bestMove 127 = .ok (.istore_n 2, 1) := by decide +kernel
theorem dX12_bestMove_128 : decode cX12_bestMove 128 = .ok (.iload 8, 2) := by decide +kernel
theorem dX12_bestMove_130 : decode cX12_bestMove 130 = .ok (.istore_n 3, 1) := by decide +kernel
theorem dX12_bestMove_131 : decode cX12_bestMove 131 = .ok (.iload 9, 2) := by decide +kernel
theorem dX12_bestMove_133 : decode cX12_bestMove 133 = .ok (.istore 4, 2) := by decide +kernel
theorem dX12_bestMove_135 : decode cX12_bestMove 135 = .ok (.iinc 7 1, 3) := by decide +kernel
theorem dX12_bestMove_138 : decode cX12_bestMove 138 = .ok (.goto (-110), 3) := by decide +kernel
theorem dX12_bestMove_141 : decode cX12_bestMove 141 = .ok (.iinc 6 1, 3) := by decide +kernel
theorem dX12_bestMove_144 : decode cX12_bestMove 144 = .ok (.goto (-128), 3) := by decide +kernel
theorem dX12_bestMove_147 : decode cX12_bestMove 147 = .ok (.iload_n 2, 1) := by decide +kernel
theorem dX12_bestMove_148 : decode cX12_bestMove 148 = .ok (.ireturn, 1) := by decide +kernel
set_option maxRecDepth 20000 in
theorem ggX12_nextNow_X12_debtsNow : GoodIn wsX12_nextNow wsX12_debtsNow := goodIn_s _ [(5, 5), (4, 1), (10, 13), (58, 48)] rfl (by decide +kernel)
set_option maxRecDepth 20000 in
theorem gX12_nextNow_X12_debtsNow : GoodIn wsX12_nextNow (wsV RX12 313 RX12 yX12_debtsNow wsX12_debtsNow) := goodIn_app (goodIn_of _ (by decide +kernel)) ggX12_nextNow_X12_debtsNow
set_option maxRecDepth 20000 in
theorem ggX12_nextNow_X12_bestMove : GoodIn wsX12_nextNow wsX12_bestMove := goodIn_s _ [(26, 1), (6, 1), (1, 5), (7, 16), (27, 79)] rfl (by decide +kernel)
set_option maxRecDepth 20000 in
theorem gX12_nextNow_X12_bestMove : GoodIn wsX12_nextNow (wsV RX12 361 RX12 yX12_bestMove wsX12_bestMove) := goodIn_app (goodIn_of _ (by decide +kernel)) ggX12_nextNow_X12_bestMove
theorem dX12_nextNow_0 : decode cX12_nextNow 0 = .ok (.aload_n 0, 1) := by decide +kernel
theorem dX12_nextNow_1 : decode cX12_nextNow 1 = .ok (.invokevirtual 313, 3) := by decide +kernel
theorem dX12_nextNow_4 : decode cX12_nextNow 4 = .ok (.ifCond .le 11, 3) := by decide +kernel
theorem dX12_nextNow_7 : decode cX12_nextNow 7 = .ok (.aload_n 0, 1) := by decide +kernel
theorem dX12_nextNow_8 : decode cX12_nextNow 8 = .ok (.iconst 1, 1) := by decide +kernel
theorem dX12_nextNow_9 : decode cX12_nextNow 9 = .ok (.invokevirtual 361, 3) := by decide +kernel
theorem dX12_nextNow_12 : decode cX12_nextNow 12 = .ok (.goto 4, 3) := by decide +kernel
theorem dX12_nextNow_15 : decode cX12_nextNow 15 = .ok (.iconst (-1), 1) := by decide +kernel
theorem dX12_nextNow_16 : decode cX12_nextNow 16 = .ok (.istore_n 1, 1) := by decide +kernel
theorem dX12_nextNow_17 : decode cX12_nextNow 17 = .ok (.iload_n 1, 1) := by decide +kernel
theorem dX12_nextNow_18 : decode cX12_nextNow 18 = .ok (.iconst (-1), 1) := by decide +kernel
theorem dX12_nextNow_19 : decode cX12_nextNow 19 = .ok (.if_icmp .ne 11, 3) := by decide +kernel
theorem dX12_nextNow_22 : decode cX12_nextNow 22 = .ok (.aload_n 0, 1) := by decide +kernel
theorem dX12_nextNow_23 : decode cX12_nextNow 23 = .ok (.iconst 0, 1) := by decide +kernel
theorem dX12_nextNow_24 : decode cX12_nextNow 24 = .ok (.invokevirtual 361, 3) := by decide +kernel
theorem dX12_nextNow_27 : decode cX12_nextNow 27 = .ok (.goto 4, 3) := by decide +kernel
theorem dX12_nextNow_30 : decode cX12_nextNow 30 = .ok (.iload_n 1, 1) := by decide +kernel
theorem dX12_nextNow_31 : decode cX12_nextNow 31 = .ok (.ireturn, 1) := by decide +kernel
set_option maxRecDepth 20000 in
theorem ggX12_nextStep_X12_nextNow : GoodIn wsX12_nextStep wsX12_nextNow := goodIn_s _ [(6, 4), (5, 1), (10, 101)] rfl (by decide +kernel)
set_option maxRecDepth 20000 in
theorem gX12_nextStep_X12_nextNow : GoodIn wsX12_nextStep (wsV RX12 364 RX12 yX12_nextNow wsX12_nextNow) := goodIn_app (goodIn_of _ (by decide +kernel)) ggX12_nextStep_X12_nextNow
theorem dX12_nextStep_0 : decode cX12_nextStep 0 = .ok (.aload_n 0, 1) := by decide +kernel
theorem dX12_nextStep_1 : decode cX12_nextStep 1 = .ok (.iconst 0, 1) := by decide +kernel
theorem dX12_nextStep_2 : decode cX12_nextStep 2 = .ok (.putfield 90, 3) := by decide +kernel
theorem dX12_nextStep_5 : decode cX12_nextStep 5 = .ok (.aload_n 0, 1) := by decide +kernel
theorem dX12_nextStep_6 : decode cX12_nextStep 6 = .ok (.invokevirtual 364, 3) := by decide +kernel
theorem dX12_nextStep_9 : decode cX12_nextStep 9 = .ok (.ireturn, 1) := by decide +kernel
set_option maxRecDepth 20000 in
theorem ggX12_searches_X12_groups : GoodIn wsX12_searches wsX12_groups := goodIn_s _ [(10, 1), (1, 1), (38, 48)] rfl (by decide +kernel)
set_option maxRecDepth 20000 in
theorem gX12_searches_X12_groups : GoodIn wsX12_searches (wsV RX12 177 RX12 yX12_groups wsX12_groups) := goodIn_app (goodIn_of _ (by decide +kernel)) ggX12_searches_X12_groups
set_option maxRecDepth 20000 in
theorem ggX12_searches_X12_groupWeight : GoodIn wsX12_searches wsX12_groupWeight := goodIn_s _ [(14, 1), (1, 1), (15, 3), (9, 1), (18, 1), (38, 48)] rfl (by decide +kernel)
set_option maxRecDepth 20000 in
theorem gX12_searches_X12_groupWeight : GoodIn wsX12_searches (wsV RX12 331 RX12 yX12_groupWeight wsX12_groupWeight) := goodIn_app (goodIn_of _ (by decide +kernel)) ggX12_searches_X12_groupWeight
set_option maxRecDepth 20000 in
theorem ggX12_searches_X12_joined : GoodIn wsX12_searches wsX12_joined := goodIn_s _ [(22, 1), (1, 1), (15, 3), (9, 1), (18, 1), (38, 48)] rfl (by decide +kernel)
set_option maxRecDepth 20000 in
theorem gX12_searches_X12_joined : GoodIn wsX12_searches (wsV RX12 337 RX12 yX12_joined wsX12_joined) := goodIn_app (goodIn_of _ (by decide +kernel)) ggX12_searches_X12_joined
set_option maxRecDepth 20000 in
theorem ggX12_searches_X12_looksAt : GoodIn wsX12_searches wsX12_looksAt := goodIn_s _ [(26, 3), (1, 2), (4, 1), (3, 1), (5, 1), (29, 4), (9, 1), (33, 53)] rfl (by decide +kernel)
set_option maxRecDepth 20000 in
theorem gX12_searches_X12_looksAt : GoodIn wsX12_searches (wsV RX12 373 RX12 yX12_looksAt wsX12_looksAt) := goodIn_app (goodIn_of _ (by decide +kernel)) ggX12_searches_X12_looksAt
theorem dX12_searches_0 : decode cX12_searches 0 = .ok (.aload_n 0, 1) := by decide +kernel
theorem dX12_searches_1 : decode cX12_searches 1 = .ok (.invokevirtual 177, 3) := by decide +kernel
theorem dX12_searches_4 : decode cX12_searches 4 = .ok (.istore_n 1, 1) := by decide +kernel
theorem dX12_searches_5 : decode cX12_searches 5 = .ok (.iconst 1, 1) := by decide +kernel
theorem dX12_searches_6 : decode cX12_searches 6 = .ok (.istore_n 2, 1) := by decide +kernel
theorem dX12_searches_7 : decode cX12_searches 7 = .ok (.iconst 0, 1) := by decide +kernel
theorem dX12_searches_8 : decode cX12_searches 8 = .ok (.istore_n 3, 1) := by decide +kernel
theorem dX12_searches_9 : decode cX12_searches 9 = .ok (.iload_n 3, 1) := by decide +kernel
theorem dX12_searches_10 : decode cX12_searches 10 = .ok (.iload_n 1, 1) := by decide +kernel
theorem dX12_searches_11 : decode cX12_searches 11 = .ok (.if_icmp .ge 73, 3) := by decide +kernel
theorem dX12_searches_14 : decode cX12_searches 14 = .ok (.iload_n 2, 1) := by decide +kernel
theorem dX12_searches_15 : decode cX12_searches 15 = .ok (.aload_n 0, 1) := by decide +kernel
theorem dX12_searches_16 : decode cX12_searches 16 = .ok (.getfield 26, 3) := by decide +kernel
theorem dX12_searches_19 : decode cX12_searches 19 = .ok (.iconst 2, 1) := by decide +kernel
theorem dX12_searches_20 : decode cX12_searches 20 = .ok (.iaload, 1) := by decide +kernel
theorem dX12_searches_21 : decode cX12_searches 21 = .ok (.imul, 1) := by decide +kernel
theorem dX12_searches_22 : decode cX12_searches 22 = .ok (.istore_n 2, 1) := by decide +kernel
theorem dX12_searches_23 : decode cX12_searches 23 = .ok (.aload_n 0, 1) := by decide +kernel
theorem dX12_searches_24 : decode cX12_searches 24 = .ok (.getfield 57, 3) := by decide +kernel
theorem dX12_searches_27 : decode cX12_searches 27 = .ok (.iload_n 3, 1) := by decide +kernel
theorem dX12_searches_28 : decode cX12_searches 28 = .ok (.aload_n 0, 1) := by decide +kernel
theorem dX12_searches_29 : decode cX12_searches 29 = .ok (.iload_n 3, 1) := by decide +kernel
theorem dX12_searches_30 : decode cX12_searches 30 = .ok (.invokevirtual 331, 3) := by decide +kernel
theorem dX12_searches_33 : decode cX12_searches 33 = .ok (.iastore, 1) := by decide +kernel
theorem dX12_searches_34 : decode cX12_searches 34 = .ok (.iconst 0, 1) := by decide +kernel
theorem dX12_searches_35 : decode cX12_searches 35 = .ok (.istore 4, 2) := by decide +kernel
theorem dX12_searches_37 : decode cX12_searches 37 = .ok (.iload 4, 2) := by decide +kernel
theorem dX12_searches_39 : decode cX12_searches 39 = .ok (.iload_n 1, 1) := by decide +kernel
theorem dX12_searches_40 : decode cX12_searches 40 = .ok (.if_icmp .ge 38, 3) := by decide +kernel
theorem dX12_searches_43 : decode cX12_searches 43 = .ok (.aload_n 0, 1) := by decide +kernel
theorem dX12_searches_44 : decode cX12_searches 44 = .ok (.getfield 54, 3) := by decide +kernel
theorem dX12_searches_47 : decode cX12_searches 47 = .ok (.bipush 7, 2) := by decide +kernel
theorem dX12_searches_49 : decode cX12_searches 49 = .ok (.iload_n 3, 1) := by decide +kernel
theorem dX12_searches_50 : decode cX12_searches 50 = .ok (.imul, 1) := by decide +kernel
theorem dX12_searches_51 : decode cX12_searches 51 = .ok (.iload 4, 2) := by decide +kernel
theorem dX12_searches_53 : decode cX12_searches 53 = .ok (.iadd, 1) := by decide +kernel
theorem dX12_searches_54 : decode cX12_searches 54 = .ok (.iload_n 3, 1) := by decide +kernel
theorem dX12_searches_55 : decode cX12_searches 55 = .ok (.iload 4, 2) := by decide +kernel
theorem dX12_searches_57 : decode cX12_searches 57 = .ok (.if_icmp .ne 7, 3) := by decide +kernel
theorem dX12_searches_60 : decode cX12_searches 60 = .ok (.iconst 0, 1) := by decide +kernel
theorem dX12_searches_61 : decode cX12_searches 61 = .ok (.goto 10, 3) := by decide +kernel
theorem dX12_searches_64 : decode cX12_searches 64 = .ok (.aload_n 0, 1) := by decide +kernel
theorem dX12_searches_65 : decode cX12_searches 65 = .ok (.iload_n 3, 1) := by decide +kernel
theorem dX12_searches_66 : decode cX12_searches 66 = .ok (.iload 4, 2) := by decide +kernel
theorem dX12_searches_68 : decode cX12_searches 68 = .ok (.invokevirtual 337, 3) := by decide +kernel
theorem dX12_searches_71 : decode cX12_searches 71 = .ok (.iastore, 1) := by decide +kernel
theorem dX12_searches_72 : decode cX12_searches 72 = .ok (.iinc 4 1, 3) := by decide +kernel
theorem dX12_searches_75 : decode cX12_searches 75 = .ok (.goto (-38), 3) := by decide +kernel
theorem dX12_searches_78 : decode cX12_searches 78 = .ok (.iinc 3 1, 3) := by decide +kernel
theorem dX12_searches_81 : decode cX12_searches 81 = .ok (.goto (-72), 3) := by decide +kernel
theorem dX12_searches_84 : decode cX12_searches 84 = .ok (.aload_n 0, 1) := by decide +kernel
theorem dX12_searches_85 : decode cX12_searches 85 = .ok (.iconst (-1), 1) := by decide +kernel
theorem dX12_searches_86 : decode cX12_searches 86 = .ok (.putfield 367, 3) := by decide +kernel
theorem dX12_searches_89 : decode cX12_searches 89 = .ok (.aload_n 0, 1) := by decide +kernel
theorem dX12_searches_90 : decode cX12_searches 90 = .ok (.iconst 0, 1) := by decide +kernel
theorem dX12_searches_91 : decode cX12_searches 91 = .ok (.putfield 370, 3) := by decide +kernel
theorem dX12_searches_94 : decode cX12_searches 94 = .ok (.iconst 0, 1) := by decide +kernel
theorem dX12_searches_95 : decode cX12_searches 95 = .ok (.istore_n 3, 1) := by decide +kernel
theorem dX12_searches_96 : decode cX12_searches 96 = .ok (.iload_n 3, 1) := by decide +kernel
theorem dX12_searches_97 : decode cX12_searches 97 = .ok (.iload_n 2, 1) := by decide +kernel
theorem dX12_searches_98 : decode cX12_searches 98 = .ok (.if_icmp .ge 15, 3) := by decide +kernel
theorem dX12_searches_101 : decode cX12_searches 101 = .ok (.aload_n 0, 1) := by decide +kernel
theorem dX12_searches_102 : decode cX12_searches 102 = .ok (.iload_n 3, 1) := by decide +kernel
theorem dX12_searches_103 : decode cX12_searches 103 = .ok (.iload_n 1, 1) := by decide +kernel
theorem dX12_searches_104 : decode cX12_searches 104 = .ok (.invokevirtual 373, 3) := by decide +kernel
theorem dX12_searches_107 : decode cX12_searches 107 = .ok (.iinc 3 1, 3) := by decide +kernel
theorem dX12_searches_110 : decode cX12_searches 110 = .ok (.goto (-14), 3) := by decide +kernel
theorem dX12_searches_113 : decode cX12_searches 113 = .ok (.return_, 1) := by decide +kernel
set_option maxRecDepth 20000 in
theorem ggX12_looksAt_X12_limit : GoodIn wsX12_looksAt wsX12_limit := goodIn_s _ [(13, 1), (3, 1), (14, 3), (12, 1), (17, 49)] rfl (by decide +kernel)
set_option maxRecDepth 20000 in
theorem gX12_looksAt_X12_limit : GoodIn wsX12_looksAt (wsV RX12 256 RX12 yX12_limit wsX12_limit) := goodIn_app (goodIn_of _ (by decide +kernel)) ggX12_looksAt_X12_limit
theorem dX12_looksAt_0 : decode cX12_looksAt 0 = .ok (.iload_n 1, 1) := by decide +kernel
theorem dX12_looksAt_1 : decode cX12_looksAt 1 = .ok (.istore_n 3, 1) := by decide +kernel
theorem dX12_looksAt_2 : decode cX12_looksAt 2 = .ok (.iconst 0, 1) := by decide +kernel
theorem dX12_looksAt_3 : decode cX12_looksAt 3 = .ok (.istore 4, 2) := by decide +kernel
theorem dX12_looksAt_5 : decode cX12_looksAt 5 = .ok (.iload 4, 2) := by decide +kernel
theorem dX12_looksAt_7 : decode cX12_looksAt 7 = .ok (.iconst 4, 1) := by decide +kernel
theorem dX12_looksAt_8 : decode cX12_looksAt 8 = .ok (.if_icmp .ge 17, 3) := by decide +kernel
theorem dX12_looksAt_11 : decode cX12_looksAt 11 = .ok (.aload_n 0, 1) := by decide +kernel
theorem dX12_looksAt_12 : decode cX12_looksAt 12 = .ok (.getfield 66, 3) := by decide +kernel
theorem dX12_looksAt_15 : decode cX12_looksAt 15 = .ok (.iload 4, 2) := by decide +kernel
theorem dX12_looksAt_17 : decode cX12_looksAt 17 = .ok (.iconst 0, 1) := by decide +kernel
theorem dX12_looksAt_18 : decode cX12_looksAt 18 = .ok (.iastore, 1) := by decide +kernel
theorem dX12_looksAt_19 : decode cX12_looksAt 19 = .ok (.iinc 4 1, 3) := by decide +kernel
theorem dX12_looksAt_22 : decode cX12_looksAt 22 = .ok (.goto (-17), 3) := by decide +kernel
theorem dX12_looksAt_25 : decode cX12_looksAt 25 = .ok (.iload_n 2, 1) := by decide +kernel
theorem dX12_looksAt_26 : decode cX12_looksAt 26 = .ok (.iconst 1, 1) := by decide +kernel
theorem dX12_looksAt_27 : decode cX12_looksAt 27 = .ok (.isub, 1) := by decide +kernel
theorem dX12_looksAt_28 : decode cX12_looksAt 28 = .ok (.istore 4, 2) := by decide +kernel
theorem dX12_looksAt_30 : decode cX12_looksAt 30 = .ok (.iload 4, 2) := by decide +kernel
theorem dX12_looksAt_32 : decode cX12_looksAt 32 = .ok (.ifCond .lt 55, 3) := by decide +kernel
theorem dX12_looksAt_35 : decode cX12_looksAt 35 = .ok (.aload_n 0, 1) := by decide +kernel
theorem dX12_looksAt_36 : decode cX12_looksAt 36 = .ok (.getfield 60, 3) := by decide +kernel
theorem dX12_looksAt_39 : decode cX12_looksAt 39 = .ok (.iload 4, 2) := by decide +kernel
theorem dX12_looksAt_41 : decode cX12_looksAt 41 = .ok (.iload_n 3, 1) := by decide +kernel
theorem dX12_looksAt_42 : decode cX12_looksAt 42 = .ok (.aload_n 0, 1) := by decide +kernel
theorem dX12_looksAt_43 : decode cX12_looksAt 43 = .ok (.getfield 26, 3) := by decide +kernel
theorem dX12_looksAt_46 : decode cX12_looksAt 46 = .ok (.iconst 2, 1) := by decide +kernel
theorem dX12_looksAt_47 : decode cX12_looksAt 47 = .ok (.iaload, 1) := by decide +kernel
theorem dX12_looksAt_48 : decode cX12_looksAt 48 = .ok (.irem, 1) := by decide +kernel
theorem dX12_looksAt_49 : decode cX12_looksAt 49 = .ok (.iastore, 1) := by decide +kernel
theorem dX12_looksAt_50 : decode cX12_looksAt 50 = .ok (.iload_n 3, 1) := by decide +kernel
theorem dX12_looksAt_51 : decode cX12_looksAt 51 = .ok (.aload_n 0, 1) := by decide +kernel
theorem dX12_looksAt_52 : decode cX12_looksAt 52 = .ok (.getfield 26, 3) := by decide +kernel
theorem dX12_looksAt_55 : decode cX12_looksAt 55 = .ok (.iconst 2, 1) := by decide +kernel
theorem dX12_looksAt_56 : decode cX12_looksAt 56 = .ok (.iaload, 1) := by decide +kernel
theorem dX12_looksAt_57 : decode cX12_looksAt 57 = .ok (.idiv, 1) := by decide +kernel
theorem dX12_looksAt_58 : decode cX12_looksAt 58 = .ok (.istore_n 3, 1) := by decide +kernel
theorem dX12_looksAt_59 : decode cX12_looksAt 59 = .ok (.aload_n 0, 1) := by decide +kernel
theorem dX12_looksAt_60 : decode cX12_looksAt 60 = .ok (.getfield 66, 3) := by decide +kernel
theorem dX12_looksAt_63 : decode cX12_looksAt 63 = .ok (.aload_n 0, 1) := by decide +kernel
theorem dX12_looksAt_64 : decode cX12_looksAt 64 = .ok (.getfield 60, 3) := by decide +kernel
theorem dX12_looksAt_67 : decode cX12_looksAt 67 = .ok (.iload 4, 2) := by decide +kernel
theorem dX12_looksAt_69 : decode cX12_looksAt 69 = .ok (.iaload, 1) := by decide +kernel
theorem dX12_looksAt_70 : decode cX12_looksAt 70 = .ok (.dup2, 1) := by decide +kernel
theorem dX12_looksAt_71 : decode cX12_looksAt 71 = .ok (.iaload, 1) := by decide +kernel
theorem dX12_looksAt_72 : decode cX12_looksAt 72 = .ok (.aload_n 0, 1) := by decide +kernel
theorem dX12_looksAt_73 : decode cX12_looksAt 73 = .ok (.getfield 57, 3) := by decide +kernel
theorem dX12_looksAt_76 : decode cX12_looksAt 76 = .ok (.iload 4, 2) := by decide +kernel
theorem dX12_looksAt_78 : decode cX12_looksAt 78 = .ok (.iaload, 1) := by decide +kernel
theorem dX12_looksAt_79 : decode cX12_looksAt 79 = .ok (.iadd, 1) := by decide +kernel
theorem dX12_looksAt_80 : decode cX12_looksAt 80 = .ok (.iastore, 1) := by decide +kernel
theorem dX12_looksAt_81 : decode cX12_looksAt 81 = .ok (.iinc 4 (-1), 3) := by decide +kernel
theorem dX12_looksAt_84 : decode cX12_looksAt 84 = .ok (.goto (-54), 3) := by decide +kernel
theorem dX12_looksAt_87 : decode cX12_looksAt 87 = .ok (.iconst 0, 1) := by decide +kernel
theorem dX12_looksAt_88 : decode cX12_looksAt 88 = .ok (.istore 4, 2) := by decide +kernel
theorem dX12_looksAt_90 : decode cX12_looksAt 90 = .ok (.aload_n 0, 1) := by decide +kernel
theorem dX12_looksAt_91 : decode cX12_looksAt 91 = .ok (.invokevirtual 256, 3) := by decide +kernel
theorem dX12_looksAt_94 : decode cX12_looksAt 94 = .ok (.istore 5, 2) := by decide +kernel
theorem dX12_looksAt_96 : decode cX12_looksAt 96 = .ok (.iconst 0, 1) := by decide +kernel
theorem dX12_looksAt_97 : decode cX12_looksAt 97 = .ok (.istore 6, 2) := by decide +kernel
theorem dX12_looksAt_99 : decode cX12_looksAt 99 = .ok (.iload 6, 2) := by decide +kernel
theorem dX12_looksAt_101 : decode cX12_looksAt 101 = .ok (.iconst 4, 1) := by decide +kernel
theorem dX12_looksAt_102 : decode cX12_looksAt 102 = .ok (.if_icmp .ge 40, 3) := by decide +kernel
theorem dX12_looksAt_105 : decode cX12_looksAt 105 = .ok (.iload 4, 2) := by decide +kernel
theorem dX12_looksAt_107 : decode cX12_looksAt 107 = .ok (.aload_n 0, 1) := by decide +kernel
theorem dX12_looksAt_108 : decode cX12_looksAt 108 = .ok (.getfield 66, 3) := by decide +kernel
theorem dX12_looksAt_111 : decode cX12_looksAt 111 = .ok (.iload 6, 2) := by decide +kernel
theorem dX12_looksAt_113 : decode cX12_looksAt 113 = .ok (.iaload, 1) := by decide +kernel
theorem dX12_looksAt_114 : decode cX12_looksAt 114 = .ok (.iload 5, 2) := by decide +kernel
theorem dX12_looksAt_116 : decode cX12_looksAt 116 = .ok (.if_icmp .le 16, 3) := by decide +kernel
theorem dX12_looksAt_119 : decode cX12_looksAt 119 = .ok (.aload_n 0, 1) := by decide +kernel
theorem dX12_looksAt_120 : decode cX12_looksAt 120 = .ok (.getfield 66, 3) := by decide +kernel
theorem dX12_looksAt_123 : decode cX12_looksAt 123 = .ok (.iload 6, 2) := by decide +kernel
theorem dX12_looksAt_125 : decode cX12_looksAt 125 = .ok (.iaload, 1) := by decide +kernel
theorem dX12_looksAt_126 : decode cX12_looksAt 126 = .ok (.iload 5, 2) := by decide +kernel
theorem dX12_looksAt_128 : decode cX12_looksAt 128 = .ok (.isub, 1) := by decide +kernel
theorem dX12_looksAt_129 : decode cX12_looksAt 129 = .ok (.goto 4, 3) := by decide +kernel
theorem dX12_looksAt_132 : decode cX12_looksAt 132 = .ok (.iconst 0, 1) := by decide +kernel
theorem dX12_looksAt_133 : decode cX12_looksAt 133 = .ok (.iadd, 1) := by decide +kernel
theorem dX12_looksAt_134 : decode cX12_looksAt 134 = .ok (.istore 4, 2) := by decide +kernel
theorem dX12_looksAt_136 : decode cX12_looksAt 136 = .ok (.iinc 6 1, 3) := by decide +kernel
theorem dX12_looksAt_139 : decode cX12_looksAt 139 = .ok (.goto (-40), 3) := by decide +kernel
theorem dX12_looksAt_142 : decode cX12_looksAt 142 = .ok (.aload_n 0, 1) := by decide +kernel
theorem dX12_looksAt_143 : decode cX12_looksAt 143 = .ok (.getfield 367, 3) := by decide +kernel
theorem dX12_looksAt_146 : decode cX12_looksAt 146 = .ok (.iconst (-1), 1) := by decide +kernel
theorem dX12_looksAt_147 : decode cX12_looksAt 147 = .ok (.if_icmp .eq 13, 3) := by decide +kernel
theorem dX12_looksAt_150 : decode cX12_looksAt 150 = .ok (.iload 4, 2) := by decide +kernel
theorem dX12_looksAt_152 : decode cX12_looksAt 152 = .ok (.aload_n 0, 1) := by decide +kernel
theorem dX12_looksAt_153 : decode cX12_looksAt 153 = .ok (.getfield 367, 3) := by decide +kernel
theorem dX12_looksAt_156 : decode cX12_looksAt 156 = .ok (.if_icmp .le 4, 3) := by decide +kernel
theorem dX12_looksAt_159 : decode cX12_looksAt 159 = .ok (.return_, 1) := by decide +kernel
theorem dX12_looksAt_160 : decode cX12_looksAt 160 = .ok (.iconst 0, 1) := by decide +kernel
theorem dX12_looksAt_161 : decode cX12_looksAt 161 = .ok (.istore 6, 2) := by decide +kernel
theorem dX12_looksAt_163 : decode cX12_looksAt 163 = .ok (.iconst 0, 1) := by decide +kernel
theorem dX12_looksAt_164 : decode cX12_looksAt 164 = .ok (.istore 7, 2) := by decide +kernel
theorem dX12_looksAt_166 : decode cX12_looksAt 166 = .ok (.iload 7, 2) := by decide +kernel
theorem dX12_looksAt_168 : decode cX12_looksAt 168 = .ok (.iload_n 2, 1) := by decide +kernel
theorem dX12_looksAt_169 : decode cX12_looksAt 169 = .ok (.if_icmp .ge 64, 3) := by decide +kernel
theorem dX12_looksAt_172 : decode cX12_looksAt 172 = .ok (.iconst 0, 1) := by decide +kernel
theorem dX12_looksAt_173 : decode cX12_looksAt 173 = .ok (.istore 8, 2) := by decide +kernel
theorem dX12_looksAt_175 : decode cX12_looksAt 175 = .ok (.iload 8, 2) := by decide +kernel
theorem dX12_looksAt_177 : decode cX12_looksAt 177 = .ok (.iload 7, 2) := by decide +kernel
theorem dX12_looksAt_179 : decode cX12_looksAt 179 = .ok (.if_icmp .ge 48, 3) := by decide +kernel
theorem dX12_looksAt_182 : decode cX12_looksAt 182 = .ok (.iload 6, 2) := by decide +kernel
theorem dX12_looksAt_184 : decode cX12_looksAt 184 = .ok (.aload_n 0, 1) := by decide +kernel
theorem dX12_looksAt_185 : decode cX12_looksAt 185 = .ok (.getfield 60, 3) := by decide +kernel
theorem dX12_looksAt_188 : decode cX12_looksAt 188 = .ok (.iload 7, 2) := by decide +kernel
theorem dX12_looksAt_190 : decode cX12_looksAt 190 = .ok (.iaload, 1) := by decide +kernel
theorem dX12_looksAt_191 : decode cX12_looksAt 191 = .ok (.aload_n 0, 1) := by decide +kernel
theorem dX12_looksAt_192 : decode cX12_looksAt 192 = .ok (.getfield 60, 3) := by decide +kernel
theorem dX12_looksAt_195 : decode cX12_looksAt 195 = .ok (.iload 8, 2) := by decide +kernel
theorem dX12_looksAt_197 : decode cX12_looksAt 197 = .ok (.iaload, 1) := by decide +kernel
theorem dX12_looksAt_198 : decode cX12_looksAt 198 = .ok (.if_icmp .ne 7, 3) := by decide +kernel
theorem dX12_looksAt_201 : decode cX12_looksAt 201 = .ok (.iconst 0, 1) := by decide +kernel
theorem dX12_looksAt_202 : decode cX12_looksAt 202 = .ok (.goto 16, 3) := by decide +kernel
theorem dX12_looksAt_205 : decode cX12_looksAt 205 = .ok (.aload_n 0, 1) := by decide +kernel
theorem dX12_looksAt_206 : decode cX12_looksAt 206 = .ok (.getfield 54, 3) := by decide +kernel
theorem dX12_looksAt_209 : decode cX12_looksAt 209 = .ok (.bipush 7, 2) := by decide +kernel
theorem dX12_looksAt_211 : decode cX12_looksAt 211 = .ok (.iload 7, 2) := by decide +kernel
theorem dX12_looksAt_213 : decode cX12_looksAt 213 = .ok (.imul, 1) := by decide +kernel
theorem dX12_looksAt_214 : decode cX12_looksAt 214 = .ok (.iload 8, 2) := by decide +kernel
theorem dX12_looksAt_216 : decode cX12_looksAt 216 = .ok (.iadd, 1) := by decide +kernel
theorem dX12_looksAt_217 : decode cX12_looksAt 217 = .ok (.iaload, 1) := by decide +kernel
theorem dX12_looksAt_218 : decode cX12_looksAt 218 = .ok (.iadd, 1) := by decide +kernel
theorem dX12_looksAt_219 : decode cX12_looksAt 219 = .ok (.istore 6, 2) := by decide +kernel
theorem dX12_looksAt_221 : decode cX12_looksAt 221 = .ok (.iinc 8 1, 3) := by decide +kernel
theorem dX12_looksAt_224 : decode cX12_looksAt 224 = .ok (.goto (-49), 3) := by decide +kernel
theorem dX12_looksAt_227 : decode cX12_looksAt 227 = .ok (.iinc 7 1, 3) := by decide +kernel
theorem dX12_looksAt_230 : decode cX12_looksAt 230 = .ok (.goto (-64), 3) := by decide +kernel
theorem dX12_looksAt_233 : decode cX12_looksAt 233 = .ok (.aload_n 0, 1) := by decide +kernel
theorem dX12_looksAt_234 : decode cX12_looksAt 234 = .ok (.getfield 367, 3) := by decide +kernel
theorem dX12_looksAt_237 : decode cX12_looksAt 237 = .ok (.iconst (-1), 1) := by decide +kernel
theorem dX12_looksAt_238 : decode cX12_looksAt 238 = .ok (.if_icmp .eq 22, 3) := by decide +kernel
theorem dX12_looksAt_241 : decode cX12_looksAt 241 = .ok (.iload 4, 2) := by decide +kernel
theorem dX12_looksAt_243 : decode cX12_looksAt 243 = .ok (.aload_n 0, 1) := by decide +kernel
theorem dX12_looksAt_244 : decode cX12_looksAt 244 = .ok (.getfield 367, 3) := by decide +kernel
theorem dX12_looksAt_247 : decode cX12_looksAt 247 = .ok (.if_icmp .ne 13, 3) := by decide +kernel
theorem dX12_looksAt_250 : decode cX12_looksAt 250 = .ok (.iload 6, 2) := by decide +kernel
theorem dX12_looksAt_252 : decode cX12_looksAt 252 = .ok (.aload_n 0, 1) := by decide +kernel
theorem dX12_looksAt_253 : decode cX12_looksAt 253 = .ok (.getfield 370, 3) := by decide +kernel
theorem dX12_looksAt_256 : decode cX12_looksAt 256 = .ok (.if_icmp .lt 4, 3) := by decide +kernel
theorem dX12_looksAt_259 : decode cX12_looksAt 259 = .ok (.return_, 1) := by decide +kernel
theorem dX12_looksAt_260 : decode cX12_looksAt 260 = .ok (.aload_n 0, 1) := by decide +kernel
theorem dX12_looksAt_261 : decode cX12_looksAt 261 = .ok (.iload 4, 2) := by decide +kernel
theorem dX12_looksAt_263 : decode cX12_looksAt 263 = .ok (.putfield 367, 3) := by decide +kernel
theorem dX12_looksAt_266 : decode cX12_looksAt 266 = .ok (.aload_n 0, 1) := by decide +kernel
theorem dX12_looksAt_267 : decode cX12_looksAt 267 = .ok (.iload 6, 2) := by decide +kernel
theorem dX12_looksAt_269 : decode cX12_looksAt 269 = .ok (.putfield 370, 3) := by decide +kernel
theorem dX12_looksAt_272 : decode cX12_looksAt 272 = .ok (.iconst 0, 1) := by decide +kernel
theorem dX12_looksAt_273 : decode cX12_looksAt 273 = .ok (.istore 7, 2) := by decide +kernel
theorem dX12_looksAt_275 : decode cX12_looksAt 275 = .ok (.iload 7, 2) := by decide +kernel
theorem dX12_looksAt_277 : decode cX12_looksAt 277 = .ok (.iload_n 2, 1) := by decide +kernel
theorem dX12_looksAt_278 : decode cX12_looksAt 278 = .ok (.if_icmp .ge 23, 3) := by decide +kernel
theorem dX12_looksAt_281 : decode cX12_looksAt 281 = .ok (.aload_n 0, 1) := by decide +kernel
theorem dX12_looksAt_282 : decode cX12_looksAt 282 = .ok (.getfield 63, 3) := by decide +kernel
theorem dX12_looksAt_285 : decode cX12_looksAt 285 = .ok (.iload 7, 2) := by decide +kernel
theorem dX12_looksAt_287 : decode cX12_looksAt 287 = .ok (.aload_n 0, 1) := by decide +kernel
theorem dX12_looksAt_288 : decode cX12_looksAt 288 = .ok (.getfield 60, 3) := by decide +kernel
theorem dX12_looksAt_291 : decode cX12_looksAt 291 = .ok (.iload 7, 2) := by decide +kernel
theorem dX12_looksAt_293 : decode cX12_looksAt 293 = .ok (.iaload, 1) := by decide +kernel
theorem dX12_looksAt_294 : decode cX12_looksAt 294 = .ok (.iastore, 1) := by decide +kernel
theorem dX12_looksAt_295 : decode cX12_looksAt 295 = .ok (.iinc 7 1, 3) := by decide +kernel
theorem dX12_looksAt_298 : decode cX12_looksAt 298 = .ok (.goto (-23), 3) := by decide +kernel
theorem dX12_looksAt_301 : decode cX12_looksAt 301 = .ok (.return_, 1) := by decide +kernel
set_option maxRecDepth 20000 in
theorem ggX12_bestDebts_X12_groups : GoodIn wsX12_bestDebts wsX12_groups := goodIn_s _ [(7, 2), (43, 48)] rfl (by decide +kernel)
set_option maxRecDepth 20000 in
theorem gX12_bestDebts_X12_groups : GoodIn wsX12_bestDebts (wsV RX12 177 RX12 yX12_groups wsX12_groups) := goodIn_app (goodIn_of _ (by decide +kernel)) ggX12_bestDebts_X12_groups
set_option maxRecDepth 20000 in
theorem ggX12_bestDebts_X12_searches : GoodIn wsX12_bestDebts wsX12_searches := goodIn_s _ [(12, 1), (8, 1), (13, 2), (2, 1), (15, 1), (3, 5), (16, 75)] rfl (by decide +kernel)
set_option maxRecDepth 20000 in
theorem gX12_bestDebts_X12_searches : GoodIn wsX12_bestDebts (wsV RX12 376 RX12 yX12_searches wsX12_searches) := goodIn_app (goodIn_of _ (by decide +kernel)) ggX12_bestDebts_X12_searches
theorem dX12_bestDebts_0 : decode cX12_bestDebts 0 = .ok (.aload_n 0, 1) := by decide +kernel
theorem dX12_bestDebts_1 : decode cX12_bestDebts 1 = .ok (.iconst 0, 1) := by decide +kernel
theorem dX12_bestDebts_2 : decode cX12_bestDebts 2 = .ok (.putfield 90, 3) := by decide +kernel
theorem dX12_bestDebts_5 : decode cX12_bestDebts 5 = .ok (.aload_n 0, 1) := by decide +kernel
theorem dX12_bestDebts_6 : decode cX12_bestDebts 6 = .ok (.invokevirtual 177, 3) := by decide +kernel
theorem dX12_bestDebts_9 : decode cX12_bestDebts 9 = .ok (.bipush 7, 2) := by decide +kernel
theorem dX12_bestDebts_11 : decode cX12_bestDebts 11 = .ok (.if_icmp .le 5, 3) := by decide +kernel
theorem dX12_bestDebts_14 : decode cX12_bestDebts 14 = .ok (.iconst (-1), 1) := by decide +kernel
theorem dX12_bestDebts_15 : decode cX12_bestDebts 15 = .ok (.ireturn, 1) := by decide +kernel
theorem dX12_bestDebts_16 : decode cX12_bestDebts 16 = .ok (.aload_n 0, 1) := by decide +kernel
theorem dX12_bestDebts_17 : decode cX12_bestDebts 17 = .ok (.invokevirtual 376, 3) := by decide +kernel
theorem dX12_bestDebts_20 : decode cX12_bestDebts 20 = .ok (.aload_n 0, 1) := by decide +kernel
theorem dX12_bestDebts_21 : decode cX12_bestDebts 21 = .ok (.getfield 367, 3) := by decide +kernel
theorem dX12_bestDebts_24 : decode cX12_bestDebts 24 = .ok (.ireturn, 1) := by decide +kernel
set_option maxRecDepth 20000 in
theorem ggX12_bestCut_X12_groups : GoodIn wsX12_bestCut wsX12_groups := goodIn_s _ [(7, 2), (43, 48)] rfl (by decide +kernel)
set_option maxRecDepth 20000 in
theorem gX12_bestCut_X12_groups : GoodIn wsX12_bestCut (wsV RX12 177 RX12 yX12_groups wsX12_groups) := goodIn_app (goodIn_of _ (by decide +kernel)) ggX12_bestCut_X12_groups
set_option maxRecDepth 20000 in
theorem ggX12_bestCut_X12_searches : GoodIn wsX12_bestCut wsX12_searches := goodIn_s _ [(12, 1), (8, 1), (13, 3), (2, 6), (16, 75)] rfl (by decide +kernel)
set_option maxRecDepth 20000 in
theorem gX12_bestCut_X12_searches : GoodIn wsX12_bestCut (wsV RX12 376 RX12 yX12_searches wsX12_searches) := goodIn_app (goodIn_of _ (by decide +kernel)) ggX12_bestCut_X12_searches
theorem dX12_bestCut_0 : decode cX12_bestCut 0 = .ok (.aload_n 0, 1) := by decide +kernel
theorem dX12_bestCut_1 : decode cX12_bestCut 1 = .ok (.iconst 0, 1) := by decide +kernel
theorem dX12_bestCut_2 : decode cX12_bestCut 2 = .ok (.putfield 90, 3) := by decide +kernel
theorem dX12_bestCut_5 : decode cX12_bestCut 5 = .ok (.aload_n 0, 1) := by decide +kernel
theorem dX12_bestCut_6 : decode cX12_bestCut 6 = .ok (.invokevirtual 177, 3) := by decide +kernel
theorem dX12_bestCut_9 : decode cX12_bestCut 9 = .ok (.bipush 7, 2) := by decide +kernel
theorem dX12_bestCut_11 : decode cX12_bestCut 11 = .ok (.if_icmp .le 5, 3) := by decide +kernel
theorem dX12_bestCut_14 : decode cX12_bestCut 14 = .ok (.iconst (-1), 1) := by decide +kernel
theorem dX12_bestCut_15 : decode cX12_bestCut 15 = .ok (.ireturn, 1) := by decide +kernel
theorem dX12_bestCut_16 : decode cX12_bestCut 16 = .ok (.aload_n 0, 1) := by decide +kernel
theorem dX12_bestCut_17 : decode cX12_bestCut 17 = .ok (.invokevirtual 376, 3) := by decide +kernel
theorem dX12_bestCut_20 : decode cX12_bestCut 20 = .ok (.aload_n 0, 1) := by decide +kernel
theorem dX12_bestCut_21 : decode cX12_bestCut 21 = .ok (.getfield 370, 3) := by decide +kernel
theorem dX12_bestCut_24 : decode cX12_bestCut 24 = .ok (.ireturn, 1) := by decide +kernel
set_option maxRecDepth 20000 in
theorem ggX12_stepsToEnd_X12_isIn : GoodIn wsX12_stepsToEnd wsX12_isIn := goodIn_s _ [(5, 1)] rfl (by decide +kernel)
set_option maxRecDepth 20000 in
theorem gX12_stepsToEnd_X12_isIn : GoodIn wsX12_stepsToEnd (va_wsS RX12 108 yX12_isIn wsX12_isIn) := goodIn_app (goodIn_of _ (by decide +kernel)) ggX12_stepsToEnd_X12_isIn
set_option maxRecDepth 20000 in
theorem ggX12_stepsToEnd_X12_goes : GoodIn wsX12_stepsToEnd wsX12_goes := goodIn_s _ [(9, 4), (4, 1), (13, 1), (100, 48)] rfl (by decide +kernel)
set_option maxRecDepth 20000 in
theorem gX12_stepsToEnd_X12_goes : GoodIn wsX12_stepsToEnd (wsV RX12 100 RX12 yX12_goes wsX12_goes) := goodIn_app (goodIn_of _ (by decide +kernel)) ggX12_stepsToEnd_X12_goes
set_option maxRecDepth 20000 in
theorem ggX12_stepsToEnd_X12_thinks : GoodIn wsX12_stepsToEnd wsX12_thinks := goodIn_s _ [(17, 3), (100, 48)] rfl (by decide +kernel)
set_option maxRecDepth 20000 in
theorem gX12_stepsToEnd_X12_thinks : GoodIn wsX12_stepsToEnd (wsV RX12 381 RX12 yX12_thinks wsX12_thinks) := goodIn_app (goodIn_of _ (by decide +kernel)) ggX12_stepsToEnd_X12_thinks
set_option maxRecDepth 20000 in
theorem ggX12_stepsToEnd_X12_nextNow : GoodIn wsX12_stepsToEnd wsX12_nextNow := goodIn_s _ [(23, 4), (4, 1), (27, 1), (19, 1), (28, 44), (11, 3), (72, 4), (100, 48)] rfl (by decide +kernel)
set_option maxRecDepth 20000 in
theorem gX12_stepsToEnd_X12_nextNow : GoodIn wsX12_stepsToEnd (wsV RX12 364 RX12 yX12_nextNow wsX12_nextNow) := goodIn_app (goodIn_of _ (by decide +kernel)) ggX12_stepsToEnd_X12_nextNow
set_option maxRecDepth 20000 in
theorem ggX12_stepsToEnd_X12_stepNow : GoodIn wsX12_stepsToEnd wsX12_stepNow := goodIn_s _ [(79, 1), (20, 3), (4, 1), (23, 5), (19, 1), (28, 44), (11, 3), (72, 4), (80, 16), (100, 48)] rfl (by decide +kernel)
set_option maxRecDepth 20000 in
theorem gX12_stepsToEnd_X12_stepNow : GoodIn wsX12_stepsToEnd (wsV RX12 384 RX12 yX12_stepNow wsX12_stepNow) := goodIn_app (goodIn_of _ (by decide +kernel)) ggX12_stepsToEnd_X12_stepNow
set_option maxRecDepth 20000 in
theorem ggX12_stepsToEnd_X12_thinksNoMore : GoodIn wsX12_stepsToEnd wsX12_thinksNoMore := goodIn_s _ [(99, 1), (19, 1), (18, 1), (100, 48)] rfl (by decide +kernel)
set_option maxRecDepth 20000 in
theorem gX12_stepsToEnd_X12_thinksNoMore : GoodIn wsX12_stepsToEnd (wsV RX12 387 RX12 yX12_thinksNoMore wsX12_thinksNoMore) := goodIn_app (goodIn_of _ (by decide +kernel)) ggX12_stepsToEnd_X12_thinksNoMore
theorem dX12_stepsToEnd_0 : decode cX12_stepsToEnd 0 = .ok (.aload_n 0, 1) := by decide +kernel
theorem dX12_stepsToEnd_1 : decode cX12_stepsToEnd 1 = .ok (.iload_n 1, 1) := by decide +kernel
theorem dX12_stepsToEnd_2 : decode cX12_stepsToEnd 2 = .ok (.i2l, 1) := by decide +kernel
theorem dX12_stepsToEnd_3 : decode cX12_stepsToEnd 3 = .ok (.lconst 0, 1) := by decide +kernel
theorem dX12_stepsToEnd_4 : decode cX12_stepsToEnd 4 = .ok (.ldc2_w 379, 3) := by decide +kernel
theorem dX12_stepsToEnd_7 : decode cX12_stepsToEnd 7 = .ok (.invokestatic 108, 3) := by decide +kernel
theorem dX12_stepsToEnd_10 : decode cX12_stepsToEnd 10 = .ok (.invokevirtual 100, 3) := by decide +kernel
theorem dX12_stepsToEnd_13 : decode cX12_stepsToEnd 13 = .ok (.ifCond .ne 5, 3) := by decide +kernel
theorem dX12_stepsToEnd_16 : decode cX12_stepsToEnd 16 = .ok (.iconst 0, 1) := by decide +kernel
theorem dX12_stepsToEnd_17 : decode cX12_stepsToEnd 17 = .ok (.ireturn, 1) := by decide +kernel
theorem dX12_stepsToEnd_18 : decode cX12_stepsToEnd 18 = .ok (.aload_n 0, 1) := by decide +kernel
theorem dX12_stepsToEnd_19 : decode cX12_stepsToEnd 19 = .ok (.invokevirtual 381, 3) := by decide +kernel
theorem dX12_stepsToEnd_22 : decode cX12_stepsToEnd 22 = .ok (.iconst 0, 1) := by decide +kernel
theorem dX12_stepsToEnd_23 : decode cX12_stepsToEnd 23 = .ok (.istore_n 2, 1) := by decide +kernel
theorem dX12_stepsToEnd_24 : decode cX12_stepsToEnd 24 = .ok (.aload_n 0, 1) := by decide +kernel
theorem dX12_stepsToEnd_25 : decode cX12_stepsToEnd 25 = .ok (.invokevirtual 364, 3) := by decide +kernel
theorem dX12_stepsToEnd_28 : decode cX12_stepsToEnd 28 = .ok (.iconst (-1), 1) := by decide +kernel
theorem dX12_stepsToEnd_29 : decode cX12_stepsToEnd 29 = .ok (.if_icmp .eq 7, 3) := by decide +kernel
theorem dX12_stepsToEnd_32 : decode cX12_stepsToEnd 32 = .ok (.iconst 1, 1) := by decide +kernel
theorem dX12_stepsToEnd_33 : decode cX12_stepsToEnd 33 = .ok (.goto 4, 3) := by decide +kernel
theorem dX12_stepsToEnd_36 : decode cX12_stepsToEnd 36 = .ok (.iconst 0, 1) := by decide +kernel
theorem dX12_stepsToEnd_37 : decode cX12_stepsToEnd 37 = .ok (.istore_n 3, 1) := by decide +kernel
theorem dX12_stepsToEnd_38 : decode cX12_stepsToEnd 38 = .ok (.iload_n 2, 1) := by decide +kernel
theorem dX12_stepsToEnd_39 : decode cX12_stepsToEnd 39 = .ok (.iload_n 1, 1) := by decide +kernel
theorem dX12_stepsToEnd_40 : decode cX12_stepsToEnd 40 = .ok (.if_icmp .ge 33, 3) := by decide +kernel
theorem dX12_stepsToEnd_43 : decode cX12_stepsToEnd 43 = .ok (.iload_n 3, 1) := by decide +kernel
theorem dX12_stepsToEnd_44 : decode cX12_stepsToEnd 44 = .ok (.ifCond .eq 29, 3) := by decide +kernel
theorem dX12_stepsToEnd_47 : decode cX12_stepsToEnd 47 = .ok (.aload_n 0, 1) := by decide +kernel
theorem dX12_stepsToEnd_48 : decode cX12_stepsToEnd 48 = .ok (.invokevirtual 384, 3) := by decide +kernel
theorem dX12_stepsToEnd_51 : decode cX12_stepsToEnd 51 = .ok (.istore 4, 2) := by decide +kernel
theorem dX12_stepsToEnd_53 : decode cX12_stepsToEnd 53 = .ok (.iinc 2 1, 3) := by decide +kernel
theorem dX12_stepsToEnd_56 : decode cX12_stepsToEnd 56 = .ok (.aload_n 0, 1) := by decide +kernel
theorem dX12_stepsToEnd_57 : decode cX12_stepsToEnd 57 = .ok (.invokevirtual 364, 3) := by decide +kernel
theorem dX12_stepsToEnd_60 : decode cX12_stepsToEnd 60 = .ok (.iconst (-1), 1) := by decide +kernel
theorem dX12_stepsToEnd_61 : decode cX12_stepsToEnd 61 = .ok (.if_icmp .eq 7, 3) := by decide +kernel
theorem dX12_stepsToEnd_64 : decode cX12_stepsToEnd 64 = .ok (.iconst 1, 1) := by decide +kernel
theorem dX12_stepsToEnd_65 : decode cX12_stepsToEnd 65 = .ok (.goto 4, 3) := by decide +kernel
theorem dX12_stepsToEnd_68 : decode cX12_stepsToEnd 68 = .ok (.iconst 0, 1) := by decide +kernel
theorem dX12_stepsToEnd_69 : decode cX12_stepsToEnd 69 = .ok (.istore_n 3, 1) := by decide +kernel
theorem dX12_stepsToEnd_70 : decode cX12_stepsToEnd 70 = .ok (.goto (-32), 3) := by decide +kernel
theorem dX12_stepsToEnd_73 : decode cX12_stepsToEnd 73 = .ok (.aload_n 0, 1) := by decide +kernel
theorem dX12_stepsToEnd_74 : decode cX12_stepsToEnd 74 = .ok (.invokevirtual 387, 3) := by decide +kernel
theorem dX12_stepsToEnd_77 : decode cX12_stepsToEnd 77 = .ok (.iload_n 3, 1) := by decide +kernel
theorem dX12_stepsToEnd_78 : decode cX12_stepsToEnd 78 = .ok (.ifCond .eq 7, 3) := by decide +kernel
theorem dX12_stepsToEnd_81 : decode cX12_stepsToEnd 81 = .ok (.iconst (-1), 1) := by decide +kernel
theorem dX12_stepsToEnd_82 : decode cX12_stepsToEnd 82 = .ok (.goto 4, 3) := by decide +kernel
theorem dX12_stepsToEnd_85 : decode cX12_stepsToEnd 85 = .ok (.iload_n 2, 1) := by decide +kernel
theorem dX12_stepsToEnd_86 : decode cX12_stepsToEnd 86 = .ok (.ireturn, 1) := by decide +kernel
set_option maxRecDepth 20000 in
theorem ggX12_cutBehind_X12_isIn : GoodIn wsX12_cutBehind wsX12_isIn := goodIn_s _ [(5, 1)] rfl (by decide +kernel)
set_option maxRecDepth 20000 in
theorem gX12_cutBehind_X12_isIn : GoodIn wsX12_cutBehind (va_wsS RX12 108 yX12_isIn wsX12_isIn) := goodIn_app (goodIn_of _ (by decide +kernel)) ggX12_cutBehind_X12_isIn
set_option maxRecDepth 20000 in
theorem ggX12_cutBehind_X12_goes : GoodIn wsX12_cutBehind wsX12_goes := goodIn_s _ [(9, 4), (4, 1), (13, 1), (104, 48)] rfl (by decide +kernel)
set_option maxRecDepth 20000 in
theorem gX12_cutBehind_X12_goes : GoodIn wsX12_cutBehind (wsV RX12 100 RX12 yX12_goes wsX12_goes) := goodIn_app (goodIn_of _ (by decide +kernel)) ggX12_cutBehind_X12_goes
set_option maxRecDepth 20000 in
theorem ggX12_cutBehind_X12_thinks : GoodIn wsX12_cutBehind wsX12_thinks := goodIn_s _ [(17, 3), (104, 48)] rfl (by decide +kernel)
set_option maxRecDepth 20000 in
theorem gX12_cutBehind_X12_thinks : GoodIn wsX12_cutBehind (wsV RX12 381 RX12 yX12_thinks wsX12_thinks) := goodIn_app (goodIn_of _ (by decide +kernel)) ggX12_cutBehind_X12_thinks
set_option maxRecDepth 20000 in
theorem ggX12_cutBehind_X12_stepsNow : GoodIn wsX12_cutBehind wsX12_stepsNow := goodIn_s _ [(23, 4), (4, 1), (27, 9), (19, 1), (36, 44), (11, 3), (80, 20), (104, 48)] rfl (by decide +kernel)
set_option maxRecDepth 20000 in
theorem gX12_cutBehind_X12_stepsNow : GoodIn wsX12_cutBehind (wsV RX12 390 RX12 yX12_stepsNow wsX12_stepsNow) := goodIn_app (goodIn_of _ (by decide +kernel)) ggX12_cutBehind_X12_stepsNow
set_option maxRecDepth 20000 in
theorem ggX12_cutBehind_X12_cutNow : GoodIn wsX12_cutBehind wsX12_cutNow := goodIn_s _ [(95, 1), (19, 1), (96, 3), (4, 1), (99, 1), (104, 48)] rfl (by decide +kernel)
set_option maxRecDepth 20000 in
theorem gX12_cutBehind_X12_cutNow : GoodIn wsX12_cutBehind (wsV RX12 173 RX12 yX12_cutNow wsX12_cutNow) := goodIn_app (goodIn_of _ (by decide +kernel)) ggX12_cutBehind_X12_cutNow
set_option maxRecDepth 20000 in
theorem ggX12_cutBehind_X12_thinksNoMore : GoodIn wsX12_cutBehind wsX12_thinksNoMore := goodIn_s _ [(103, 1), (19, 1), (18, 1), (104, 48)] rfl (by decide +kernel)
set_option maxRecDepth 20000 in
theorem gX12_cutBehind_X12_thinksNoMore : GoodIn wsX12_cutBehind (wsV RX12 387 RX12 yX12_thinksNoMore wsX12_thinksNoMore) := goodIn_app (goodIn_of _ (by decide +kernel)) ggX12_cutBehind_X12_thinksNoMore
theorem dX12_cutBehind_0 : decode cX12_cutBehind 0 = .ok (.aload_n 0, 1) := by decide +kernel
theorem dX12_cutBehind_1 : decode cX12_cutBehind 1 = .ok (.iload_n 1, 1) := by decide +kernel
theorem dX12_cutBehind_2 : decode cX12_cutBehind 2 = .ok (.i2l, 1) := by decide +kernel
theorem dX12_cutBehind_3 : decode cX12_cutBehind 3 = .ok (.lconst 0, 1) := by decide +kernel
theorem dX12_cutBehind_4 : decode cX12_cutBehind 4 = .ok (.ldc2_w 379, 3) := by decide +kernel
theorem dX12_cutBehind_7 : decode cX12_cutBehind 7 = .ok (.invokestatic 108, 3) := by decide +kernel
theorem dX12_cutBehind_10 : decode cX12_cutBehind 10 = .ok (.invokevirtual 100, 3) := by decide +kernel
theorem dX12_cutBehind_13 : decode cX12_cutBehind 13 = .ok (.ifCond .ne 5, 3) := by decide +kernel
theorem dX12_cutBehind_16 : decode cX12_cutBehind 16 = .ok (.iconst 0, 1) := by decide +kernel
theorem dX12_cutBehind_17 : decode cX12_cutBehind 17 = .ok (.ireturn, 1) := by decide +kernel
theorem dX12_cutBehind_18 : decode cX12_cutBehind 18 = .ok (.aload_n 0, 1) := by decide +kernel
theorem dX12_cutBehind_19 : decode cX12_cutBehind 19 = .ok (.invokevirtual 381, 3) := by decide +kernel
theorem dX12_cutBehind_22 : decode cX12_cutBehind 22 = .ok (.aload_n 0, 1) := by decide +kernel
theorem dX12_cutBehind_23 : decode cX12_cutBehind 23 = .ok (.iload_n 1, 1) := by decide +kernel
theorem dX12_cutBehind_24 : decode cX12_cutBehind 24 = .ok (.invokevirtual 390, 3) := by decide +kernel
theorem dX12_cutBehind_27 : decode cX12_cutBehind 27 = .ok (.istore_n 2, 1) := by decide +kernel
theorem dX12_cutBehind_28 : decode cX12_cutBehind 28 = .ok (.aload_n 0, 1) := by decide +kernel
theorem dX12_cutBehind_29 : decode cX12_cutBehind 29 = .ok (.invokevirtual 173, 3) := by decide +kernel
theorem dX12_cutBehind_32 : decode cX12_cutBehind 32 = .ok (.istore_n 3, 1) := by decide +kernel
theorem dX12_cutBehind_33 : decode cX12_cutBehind 33 = .ok (.aload_n 0, 1) := by decide +kernel
theorem dX12_cutBehind_34 : decode cX12_cutBehind 34 = .ok (.invokevirtual 387, 3) := by decide +kernel
theorem dX12_cutBehind_37 : decode cX12_cutBehind 37 = .ok (.iload_n 3, 1) := by decide +kernel
theorem dX12_cutBehind_38 : decode cX12_cutBehind 38 = .ok (.ireturn, 1) := by decide +kernel
theorem dX12_keptEvents_0 : decode cX12_keptEvents 0 = .ok (.aload_n 0, 1) := by decide +kernel
theorem dX12_keptEvents_1 : decode cX12_keptEvents 1 = .ok (.getfield 26, 3) := by decide +kernel
theorem dX12_keptEvents_4 : decode cX12_keptEvents 4 = .ok (.bipush 6, 2) := by decide +kernel
theorem dX12_keptEvents_6 : decode cX12_keptEvents 6 = .ok (.iaload, 1) := by decide +kernel
theorem dX12_keptEvents_7 : decode cX12_keptEvents 7 = .ok (.bipush 30, 2) := by decide +kernel
theorem dX12_keptEvents_9 : decode cX12_keptEvents 9 = .ok (.if_icmp .ge 13, 3) := by decide +kernel
theorem dX12_keptEvents_12 : decode cX12_keptEvents 12 = .ok (.aload_n 0, 1) := by decide +kernel
theorem dX12_keptEvents_13 : decode cX12_keptEvents 13 = .ok (.getfield 26, 3) := by decide +kernel
theorem dX12_keptEvents_16 : decode cX12_keptEvents 16 = .ok (.bipush 6, 2) := by decide +kernel
theorem dX12_keptEvents_18 : decode cX12_keptEvents 18 = .ok (.iaload, 1) := by decide +kernel
theorem dX12_keptEvents_19 : decode cX12_keptEvents 19 = .ok (.goto 5, 3) := by decide +kernel
theorem dX12_keptEvents_22 : decode cX12_keptEvents 22 = .ok (.bipush 30, 2) := by decide +kernel
theorem dX12_keptEvents_24 : decode cX12_keptEvents 24 = .ok (.ireturn, 1) := by decide +kernel
set_option maxRecDepth 20000 in
theorem ggX12_events_X12_keptEvents : GoodIn wsX12_events wsX12_keptEvents := goodIn_s _ [(6, 50)] rfl (by decide +kernel)
set_option maxRecDepth 20000 in
theorem gX12_events_X12_keptEvents : GoodIn wsX12_events (wsV RX12 393 RX12 yX12_keptEvents wsX12_keptEvents) := goodIn_app (goodIn_of _ (by decide +kernel)) ggX12_events_X12_keptEvents
theorem dX12_events_0 : decode cX12_events 0 = .ok (.aload_n 0, 1) := by decide +kernel
theorem dX12_events_1 : decode cX12_events 1 = .ok (.iconst 0, 1) := by decide +kernel
theorem dX12_events_2 : decode cX12_events 2 = .ok (.putfield 90, 3) := by decide +kernel
theorem dX12_events_5 : decode cX12_events 5 = .ok (.aload_n 0, 1) := by decide +kernel
theorem dX12_events_6 : decode cX12_events 6 = .ok (.invokevirtual 393, 3) := by decide +kernel
theorem dX12_events_9 : decode cX12_events 9 = .ok (.ireturn, 1) := by decide +kernel
set_option maxRecDepth 20000 in
theorem ggX12_event_X12_keptEvents : GoodIn wsX12_event wsX12_keptEvents := goodIn_s _ [(7, 1), (2, 1), (16, 48)] rfl (by decide +kernel)
set_option maxRecDepth 20000 in
theorem gX12_event_X12_keptEvents : GoodIn wsX12_event (wsV RX12 393 RX12 yX12_keptEvents wsX12_keptEvents) := goodIn_app (goodIn_of _ (by decide +kernel)) ggX12_event_X12_keptEvents
set_option maxRecDepth 20000 in
theorem ggX12_event_X12_isIn : GoodIn wsX12_event wsX12_isIn := goodIn_s _ [(10, 1)] rfl (by decide +kernel)
set_option maxRecDepth 20000 in
theorem gX12_event_X12_isIn : GoodIn wsX12_event (va_wsS RX12 108 yX12_isIn wsX12_isIn) := goodIn_app (goodIn_of _ (by decide +kernel)) ggX12_event_X12_isIn
set_option maxRecDepth 20000 in
theorem ggX12_event_X12_goesBoth : GoodIn wsX12_event wsX12_goesBoth := goodIn_s _ [(14, 50)] rfl (by decide +kernel)
set_option maxRecDepth 20000 in
theorem gX12_event_X12_goesBoth : GoodIn wsX12_event (wsV RX12 273 RX12 yX12_goesBoth wsX12_goesBoth) := goodIn_app (goodIn_of _ (by decide +kernel)) ggX12_event_X12_goesBoth
theorem dX12_event_0 : decode cX12_event 0 = .ok (.aload_n 0, 1) := by decide +kernel
theorem dX12_event_1 : decode cX12_event 1 = .ok (.iload_n 1, 1) := by decide +kernel
theorem dX12_event_2 : decode cX12_event 2 = .ok (.i2l, 1) := by decide +kernel
theorem dX12_event_3 : decode cX12_event 3 = .ok (.lconst 0, 1) := by decide +kernel
theorem dX12_event_4 : decode cX12_event 4 = .ok (.aload_n 0, 1) := by decide +kernel
theorem dX12_event_5 : decode cX12_event 5 = .ok (.invokevirtual 393, 3) := by decide +kernel
theorem dX12_event_8 : decode cX12_event 8 = .ok (.iconst 1, 1) := by decide +kernel
theorem dX12_event_9 : decode cX12_event 9 = .ok (.isub, 1) := by decide +kernel
theorem dX12_event_10 : decode cX12_event 10 = .ok (.i2l, 1) := by decide +kernel
theorem dX12_event_11 : decode cX12_event 11 = .ok (.invokestatic 108, 3) := by decide +kernel
theorem dX12_event_14 : decode cX12_event 14 = .ok (.iload_n 2, 1) := by decide +kernel
theorem dX12_event_15 : decode cX12_event 15 = .ok (.i2l, 1) := by decide +kernel
theorem dX12_event_16 : decode cX12_event 16 = .ok (.lconst 0, 1) := by decide +kernel
theorem dX12_event_17 : decode cX12_event 17 = .ok (.ldc2_w 271, 3) := by decide +kernel
theorem dX12_event_20 : decode cX12_event 20 = .ok (.invokestatic 108, 3) := by decide +kernel
theorem dX12_event_23 : decode cX12_event 23 = .ok (.invokevirtual 273, 3) := by decide +kernel
theorem dX12_event_26 : decode cX12_event 26 = .ok (.ifCond .eq 33, 3) := by decide +kernel
theorem dX12_event_29 : decode cX12_event 29 = .ok (.aload_n 0, 1) := by decide +kernel
theorem dX12_event_30 : decode cX12_event 30 = .ok (.getfield 26, 3) := by decide +kernel
theorem dX12_event_33 : decode cX12_event 33 = .ok (.sipush 230, 3) := by decide +kernel
theorem dX12_event_36 : decode cX12_event 36 = .ok (.iconst 4, 1) := by decide +kernel
theorem dX12_event_37 : decode cX12_event 37 = .ok (.aload_n 0, 1) := by decide +kernel
theorem dX12_event_38 : decode cX12_event 38 = .ok (.getfield 26, 3) := by decide +kernel
theorem dX12_event_41 : decode cX12_event 41 = .ok (.bipush 6, 2) := by decide +kernel
theorem dX12_event_43 : decode cX12_event 43 = .ok (.iaload, 1) := by decide +kernel
theorem dX12_event_44 : decode cX12_event 44 = .ok (.iconst 1, 1) := by decide +kernel
theorem dX12_event_45 : decode cX12_event 45 = .ok (.isub, 1) := by decide +kernel
theorem dX12_event_46 : decode cX12_event 46 = .ok (.iload_n 1, 1) := by decide +kernel
theorem dX12_event_47 : decode cX12_event 47 = .ok (.isub, 1) := by decide +kernel
theorem dX12_event_48 : decode cX12_event 48 = .ok (.bipush 30, 2) := by decide +kernel
theorem dX12_event_50 : decode cX12_event 50 = .ok (.irem, 1) := by decide +kernel
theorem dX12_event_51 : decode cX12_event 51 = .ok (.imul, 1) := by decide +kernel
theorem dX12_event_52 : decode cX12_event 52 = .ok (.iadd, 1) := by decide +kernel
theorem dX12_event_53 : decode cX12_event 53 = .ok (.iload_n 2, 1) := by decide +kernel
theorem dX12_event_54 : decode cX12_event 54 = .ok (.iadd, 1) := by decide +kernel
theorem dX12_event_55 : decode cX12_event 55 = .ok (.iaload, 1) := by decide +kernel
theorem dX12_event_56 : decode cX12_event 56 = .ok (.goto 4, 3) := by decide +kernel
theorem dX12_event_59 : decode cX12_event 59 = .ok (.iconst 0, 1) := by decide +kernel
theorem dX12_event_60 : decode cX12_event 60 = .ok (.ireturn, 1) := by decide +kernel
set_option maxRecDepth 20000 in
theorem ggX12_comes_X12_groupPart : GoodIn wsX12_comes wsX12_groupPart := goodIn_s _ [(6, 1), (1, 1), (7, 3), (5, 1), (10, 1), (19, 48)] rfl (by decide +kernel)
set_option maxRecDepth 20000 in
theorem gX12_comes_X12_groupPart : GoodIn wsX12_comes (wsV RX12 334 RX12 yX12_groupPart wsX12_groupPart) := goodIn_app (goodIn_of _ (by decide +kernel)) ggX12_comes_X12_groupPart
set_option maxRecDepth 20000 in
theorem ggX12_comes_X12_groupAt : GoodIn wsX12_comes wsX12_groupAt := goodIn_s _ [(10, 1), (1, 1), (19, 48)] rfl (by decide +kernel)
set_option maxRecDepth 20000 in
theorem gX12_comes_X12_groupAt : GoodIn wsX12_comes (wsV RX12 322 RX12 yX12_groupAt wsX12_groupAt) := goodIn_app (goodIn_of _ (by decide +kernel)) ggX12_comes_X12_groupAt
set_option maxRecDepth 20000 in
theorem ggX12_comes_X12_cutNow : GoodIn wsX12_comes wsX12_cutNow := goodIn_s _ [(14, 1), (1, 1), (15, 3), (5, 1), (18, 49)] rfl (by decide +kernel)
set_option maxRecDepth 20000 in
theorem gX12_comes_X12_cutNow : GoodIn wsX12_comes (wsV RX12 173 RX12 yX12_cutNow wsX12_cutNow) := goodIn_app (goodIn_of _ (by decide +kernel)) ggX12_comes_X12_cutNow
theorem dX12_comes_0 : decode cX12_comes 0 = .ok (.aload_n 0, 1) := by decide +kernel
theorem dX12_comes_1 : decode cX12_comes 1 = .ok (.iload_n 1, 1) := by decide +kernel
theorem dX12_comes_2 : decode cX12_comes 2 = .ok (.invokevirtual 334, 3) := by decide +kernel
theorem dX12_comes_5 : decode cX12_comes 5 = .ok (.istore_n 3, 1) := by decide +kernel
theorem dX12_comes_6 : decode cX12_comes 6 = .ok (.iload_n 3, 1) := by decide +kernel
theorem dX12_comes_7 : decode cX12_comes 7 = .ok (.iload_n 2, 1) := by decide +kernel
theorem dX12_comes_8 : decode cX12_comes 8 = .ok (.if_icmp .ne 5, 3) := by decide +kernel
theorem dX12_comes_11 : decode cX12_comes 11 = .ok (.iconst 0, 1) := by decide +kernel
theorem dX12_comes_12 : decode cX12_comes 12 = .ok (.ireturn, 1) := by decide +kernel
theorem dX12_comes_13 : decode cX12_comes 13 = .ok (.iconst 0, 1) := by decide +kernel
theorem dX12_comes_14 : decode cX12_comes 14 = .ok (.istore 4, 2) := by decide +kernel
theorem dX12_comes_16 : decode cX12_comes 16 = .ok (.iload 4, 2) := by decide +kernel
theorem dX12_comes_18 : decode cX12_comes 18 = .ok (.aload_n 0, 1) := by decide +kernel
theorem dX12_comes_19 : decode cX12_comes 19 = .ok (.getfield 26, 3) := by decide +kernel
theorem dX12_comes_22 : decode cX12_comes 22 = .ok (.iconst 0, 1) := by decide +kernel
theorem dX12_comes_23 : decode cX12_comes 23 = .ok (.iaload, 1) := by decide +kernel
theorem dX12_comes_24 : decode cX12_comes 24 = .ok (.if_icmp .ge 30, 3) := by decide +kernel
theorem dX12_comes_27 : decode cX12_comes 27 = .ok (.aload_n 0, 1) := by decide +kernel
theorem dX12_comes_28 : decode cX12_comes 28 = .ok (.iload 4, 2) := by decide +kernel
theorem dX12_comes_30 : decode cX12_comes 30 = .ok (.invokevirtual 322, 3) := by decide +kernel
theorem dX12_comes_33 : decode cX12_comes 33 = .ok (.iload_n 1, 1) := by decide +kernel
theorem dX12_comes_34 : decode cX12_comes 34 = .ok (.if_icmp .ne 14, 3) := by decide +kernel
theorem dX12_comes_37 : decode cX12_comes 37 = .ok (.aload_n 0, 1) := by decide +kernel
theorem dX12_comes_38 : decode cX12_comes 38 = .ok (.getfield 26, 3) := by decide +kernel
theorem dX12_comes_41 : decode cX12_comes 41 = .ok (.bipush 21, 2) := by decide +kernel
theorem dX12_comes_43 : decode cX12_comes 43 = .ok (.iload 4, 2) := by decide +kernel
theorem dX12_comes_45 : decode cX12_comes 45 = .ok (.iadd, 1) := by decide +kernel
theorem dX12_comes_46 : decode cX12_comes 46 = .ok (.iload_n 2, 1) := by decide +kernel
theorem dX12_comes_47 : decode cX12_comes 47 = .ok (.iastore, 1) := by decide +kernel
theorem dX12_comes_48 : decode cX12_comes 48 = .ok (.iinc 4 1, 3) := by decide +kernel
theorem dX12_comes_51 : decode cX12_comes 51 = .ok (.goto (-35), 3) := by decide +kernel
theorem dX12_comes_54 : decode cX12_comes 54 = .ok (.sipush 230, 3) := by decide +kernel
theorem dX12_comes_57 : decode cX12_comes 57 = .ok (.iconst 4, 1) := by decide +kernel
theorem dX12_comes_58 : decode cX12_comes 58 = .ok (.aload_n 0, 1) := by decide +kernel
theorem dX12_comes_59 : decode cX12_comes 59 = .ok (.getfield 26, 3) := by decide +kernel
theorem dX12_comes_62 : decode cX12_comes 62 = .ok (.bipush 6, 2) := by decide +kernel
theorem dX12_comes_64 : decode cX12_comes 64 = .ok (.iaload, 1) := by decide +kernel
theorem dX12_comes_65 : decode cX12_comes 65 = .ok (.bipush 30, 2) := by decide +kernel
theorem dX12_comes_67 : decode cX12_comes 67 = .ok (.irem, 1) := by decide +kernel
theorem dX12_comes_68 : decode cX12_comes 68 = .ok (.imul, 1) := by decide +kernel
theorem dX12_comes_69 : decode cX12_comes 69 = .ok (.iadd, 1) := by decide +kernel
theorem dX12_comes_70 : decode cX12_comes 70 = .ok (.istore 4, 2) := by decide +kernel
theorem dX12_comes_72 : decode cX12_comes 72 = .ok (.aload_n 0, 1) := by decide +kernel
theorem dX12_comes_73 : decode cX12_comes 73 = .ok (.getfield 26, 3) := by decide +kernel
theorem dX12_comes_76 : decode cX12_comes 76 = .ok (.iload 4, 2) := by decide +kernel
theorem dX12_comes_78 : decode cX12_comes 78 = .ok (.iload_n 1, 1) := by decide +kernel
theorem dX12_comes_79 : decode cX12_comes 79 = .ok (.iastore, 1) := by decide +kernel
theorem dX12_comes_80 : decode cX12_comes 80 = .ok (.aload_n 0, 1) := by decide +kernel
theorem dX12_comes_81 : decode cX12_comes 81 = .ok (.getfield 26, 3) := by decide +kernel
theorem dX12_comes_84 : decode cX12_comes 84 = .ok (.iload 4, 2) := by decide +kernel
theorem dX12_comes_86 : decode cX12_comes 86 = .ok (.iconst 1, 1) := by decide +kernel
theorem dX12_comes_87 : decode cX12_comes 87 = .ok (.iadd, 1) := by decide +kernel
theorem dX12_comes_88 : decode cX12_comes 88 = .ok (.iload_n 3, 1) := by decide +kernel
theorem dX12_comes_89 : decode cX12_comes 89 = .ok (.iastore, 1) := by decide +kernel
theorem dX12_comes_90 : decode cX12_comes 90 = .ok (.aload_n 0, 1) := by decide +kernel
theorem dX12_comes_91 : decode cX12_comes 91 = .ok (.getfield 26, 3) := by decide +kernel
theorem dX12_comes_94 : decode cX12_comes 94 = .ok (.iload 4, 2) := by decide +kernel
theorem dX12_comes_96 : decode cX12_comes 96 = .ok (.iconst 2, 1) := by decide +kernel
theorem dX12_comes_97 : decode cX12_comes 97 = .ok (.iadd, 1) := by decide +kernel
theorem dX12_comes_98 : decode cX12_comes 98 = .ok (.iload_n 2, 1) := by decide +kernel
theorem dX12_comes_99 : decode cX12_comes 99 = .ok (.iastore, 1) := by decide +kernel
theorem dX12_comes_100 : decode cX12_comes 100 = .ok (.aload_n 0, 1) := by decide +kernel
theorem dX12_comes_101 : decode cX12_comes 101 = .ok (.getfield 26, 3) := by decide +kernel
theorem dX12_comes_104 : decode cX12_comes 104 = .ok (.iload 4, 2) := by decide +kernel
theorem dX12_comes_106 : decode cX12_comes 106 = .ok (.iconst 3, 1) := by decide +kernel
theorem dX12_comes_107 : decode cX12_comes 107 = .ok (.iadd, 1) := by decide +kernel
theorem dX12_comes_108 : decode cX12_comes 108 = .ok (.aload_n 0, 1) := by decide +kernel
theorem dX12_comes_109 : decode cX12_comes 109 = .ok (.invokevirtual 173, 3) := by decide +kernel
theorem dX12_comes_112 : decode cX12_comes 112 = .ok (.iastore, 1) := by decide +kernel
theorem dX12_comes_113 : decode cX12_comes 113 = .ok (.aload_n 0, 1) := by decide +kernel
theorem dX12_comes_114 : decode cX12_comes 114 = .ok (.getfield 26, 3) := by decide +kernel
theorem dX12_comes_117 : decode cX12_comes 117 = .ok (.bipush 6, 2) := by decide +kernel
theorem dX12_comes_119 : decode cX12_comes 119 = .ok (.dup2, 1) := by decide +kernel
theorem dX12_comes_120 : decode cX12_comes 120 = .ok (.iaload, 1) := by decide +kernel
theorem dX12_comes_121 : decode cX12_comes 121 = .ok (.iconst 1, 1) := by decide +kernel
theorem dX12_comes_122 : decode cX12_comes 122 = .ok (.iadd, 1) := by decide +kernel
theorem dX12_comes_123 : decode cX12_comes 123 = .ok (.iastore, 1) := by decide +kernel
theorem dX12_comes_124 : decode cX12_comes 124 = .ok (.iconst 1, 1) := by decide +kernel
theorem dX12_comes_125 : decode cX12_comes 125 = .ok (.ireturn, 1) := by decide +kernel
set_option maxRecDepth 20000 in
theorem ggX12_kept_X12_keeps : GoodIn wsX12_kept wsX12_keeps := goodIn_s _ [(5, 52)] rfl (by decide +kernel)
set_option maxRecDepth 20000 in
theorem gX12_kept_X12_keeps : GoodIn wsX12_kept (wsV RX12 396 RX12 yX12_keeps wsX12_keeps) := goodIn_app (goodIn_of _ (by decide +kernel)) ggX12_kept_X12_keeps
theorem dX12_kept_0 : decode cX12_kept 0 = .ok (.aload_n 0, 1) := by decide +kernel
theorem dX12_kept_1 : decode cX12_kept 1 = .ok (.invokevirtual 396, 3) := by decide +kernel
theorem dX12_kept_4 : decode cX12_kept 4 = .ok (.iload_n 1, 1) := by decide +kernel
theorem dX12_kept_5 : decode cX12_kept 5 = .ok (.ireturn, 1) := by decide +kernel
set_option maxRecDepth 20000 in
theorem ggX12_shrinks_X12_laysMates : GoodIn wsX12_shrinks wsX12_laysMates := goodIn_s _ [(7, 1), (2, 1), (8, 3), (6, 1), (11, 1), (1, 1), (12, 76)] rfl (by decide +kernel)
set_option maxRecDepth 20000 in
theorem gX12_shrinks_X12_laysMates : GoodIn wsX12_shrinks (wsV RX12 343 RX12 yX12_laysMates wsX12_laysMates) := goodIn_app (goodIn_of _ (by decide +kernel)) ggX12_shrinks_X12_laysMates
set_option maxRecDepth 20000 in
theorem ggX12_shrinks_X12_groups : GoodIn wsX12_shrinks wsX12_groups := goodIn_s _ [(11, 1), (1, 1), (40, 48)] rfl (by decide +kernel)
set_option maxRecDepth 20000 in
theorem gX12_shrinks_X12_groups : GoodIn wsX12_shrinks (wsV RX12 177 RX12 yX12_groups wsX12_groups) := goodIn_app (goodIn_of _ (by decide +kernel)) ggX12_shrinks_X12_groups
theorem dX12_shrinks_0 : decode cX12_shrinks 0 = .ok (.aload_n 0, 1) := by decide +kernel
theorem dX12_shrinks_1 : decode cX12_shrinks 1 = .ok (.invokevirtual 343, 3) := by decide +kernel
theorem dX12_shrinks_4 : decode cX12_shrinks 4 = .ok (.istore_n 1, 1) := by decide +kernel
theorem dX12_shrinks_5 : decode cX12_shrinks 5 = .ok (.bipush 35, 2) := by decide +kernel
theorem dX12_shrinks_7 : decode cX12_shrinks 7 = .ok (.bipush 14, 2) := by decide +kernel
theorem dX12_shrinks_9 : decode cX12_shrinks 9 = .ok (.aload_n 0, 1) := by decide +kernel
theorem dX12_shrinks_10 : decode cX12_shrinks 10 = .ok (.getfield 26, 3) := by decide +kernel
theorem dX12_shrinks_13 : decode cX12_shrinks 13 = .ok (.iconst 5, 1) := by decide +kernel
theorem dX12_shrinks_14 : decode cX12_shrinks 14 = .ok (.iaload, 1) := by decide +kernel
theorem dX12_shrinks_15 : decode cX12_shrinks 15 = .ok (.imul, 1) := by decide +kernel
theorem dX12_shrinks_16 : decode cX12_shrinks 16 = .ok (.iadd, 1) := by decide +kernel
theorem dX12_shrinks_17 : decode cX12_shrinks 17 = .ok (.istore_n 2, 1) := by decide +kernel
theorem dX12_shrinks_18 : decode cX12_shrinks 18 = .ok (.iload_n 2, 1) := by decide +kernel
theorem dX12_shrinks_19 : decode cX12_shrinks 19 = .ok (.bipush 14, 2) := by decide +kernel
theorem dX12_shrinks_21 : decode cX12_shrinks 21 = .ok (.iadd, 1) := by decide +kernel
theorem dX12_shrinks_22 : decode cX12_shrinks 22 = .ok (.istore_n 3, 1) := by decide +kernel
theorem dX12_shrinks_23 : decode cX12_shrinks 23 = .ok (.iconst 0, 1) := by decide +kernel
theorem dX12_shrinks_24 : decode cX12_shrinks 24 = .ok (.istore 4, 2) := by decide +kernel
theorem dX12_shrinks_26 : decode cX12_shrinks 26 = .ok (.aload_n 0, 1) := by decide +kernel
theorem dX12_shrinks_27 : decode cX12_shrinks 27 = .ok (.invokevirtual 177, 3) := by decide +kernel
theorem dX12_shrinks_30 : decode cX12_shrinks 30 = .ok (.istore 5, 2) := by decide +kernel
theorem dX12_shrinks_32 : decode cX12_shrinks 32 = .ok (.iconst 0, 1) := by decide +kernel
theorem dX12_shrinks_33 : decode cX12_shrinks 33 = .ok (.istore 6, 2) := by decide +kernel
theorem dX12_shrinks_35 : decode cX12_shrinks 35 = .ok (.iload 6, 2) := by decide +kernel
theorem dX12_shrinks_37 : decode cX12_shrinks 37 = .ok (.iload 5, 2) := by decide +kernel
theorem dX12_shrinks_39 : decode cX12_shrinks 39 = .ok (.if_icmp .ge 113, 3) := by decide +kernel
theorem dX12_shrinks_42 : decode cX12_shrinks 42 = .ok (.aload_n 0, 1) := by decide +kernel
theorem dX12_shrinks_43 : decode cX12_shrinks 43 = .ok (.getfield 51, 3) := by decide +kernel
theorem dX12_shrinks_46 : decode cX12_shrinks 46 = .ok (.iload 6, 2) := by decide +kernel
theorem dX12_shrinks_48 : decode cX12_shrinks 48 = .ok (.iaload, 1) := by decide +kernel
theorem dX12_shrinks_49 : decode cX12_shrinks 49 = .ok (.iconst (-1), 1) := by decide +kernel
theorem dX12_shrinks_50 : decode cX12_shrinks 50 = .ok (.if_icmp .eq 18, 3) := by decide +kernel
theorem dX12_shrinks_53 : decode cX12_shrinks 53 = .ok (.aload_n 0, 1) := by decide +kernel
theorem dX12_shrinks_54 : decode cX12_shrinks 54 = .ok (.getfield 51, 3) := by decide +kernel
theorem dX12_shrinks_57 : decode cX12_shrinks 57 = .ok (.iload 6, 2) := by decide +kernel
theorem dX12_shrinks_59 : decode cX12_shrinks 59 = .ok (.iaload, 1) := by decide +kernel
theorem dX12_shrinks_60 : decode cX12_shrinks 60 = .ok (.iload 6, 2) := by decide +kernel
theorem dX12_shrinks_62 : decode cX12_shrinks 62 = .ok (.if_icmp .ge 6, 3) := by decide +kernel
theorem dX12_shrinks_65 : decode cX12_shrinks 65 = .ok (.goto 81, 3) := by decide +kernel
theorem dX12_shrinks_68 : decode cX12_shrinks 68 = .ok (.iconst 0, 1) := by decide +kernel
theorem dX12_shrinks_69 : decode cX12_shrinks 69 = .ok (.istore 7, 2) := by decide +kernel
theorem dX12_shrinks_71 : decode cX12_shrinks 71 = .ok (.iload 7, 2) := by decide +kernel
theorem dX12_shrinks_73 : decode cX12_shrinks 73 = .ok (.aload_n 0, 1) := by decide +kernel
theorem dX12_shrinks_74 : decode cX12_shrinks 74 = .ok (.getfield 26, 3) := by decide +kernel
theorem dX12_shrinks_77 : decode cX12_shrinks 77 = .ok (.iconst 0, 1) := by decide +kernel
theorem dX12_shrinks_78 : decode cX12_shrinks 78 = .ok (.iaload, 1) := by decide +kernel
theorem dX12_shrinks_79 : decode cX12_shrinks 79 = .ok (.if_icmp .ge 64, 3) := by decide +kernel
theorem dX12_shrinks_82 : decode cX12_shrinks 82 = .ok (.aload_n 0, 1) := by decide +kernel
theorem dX12_shrinks_83 : decode cX12_shrinks 83 = .ok (.getfield 26, 3) := by decide +kernel
theorem dX12_shrinks_86 : decode cX12_shrinks 86 = .ok (.iload_n 2, 1) := by decide +kernel
theorem dX12_shrinks_87 : decode cX12_shrinks 87 = .ok (.iload 7, 2) := by decide +kernel
theorem dX12_shrinks_89 : decode cX12_shrinks 89 = .ok (.iadd, 1) := by decide +kernel
theorem dX12_shrinks_90 : decode cX12_shrinks 90 = .ok (.iaload, 1) := by decide +kernel
theorem dX12_shrinks_91 : decode cX12_shrinks 91 = .ok (.iload 6, 2) := by decide +kernel
theorem dX12_shrinks_93 : decode cX12_shrinks 93 = .ok (.if_icmp .eq 33, 3) := by decide +kernel
theorem dX12_shrinks_96 : decode cX12_shrinks 96 = .ok (.aload_n 0, 1) := by decide +kernel
theorem dX12_shrinks_97 : decode cX12_shrinks 97 = .ok (.getfield 51, 3) := by decide +kernel
theorem dX12_shrinks_100 : decode cX12_shrinks 100 = .ok (.iload 6, 2) := by decide +kernel
theorem dX12_shrinks_102 : decode cX12_shrinks 102 = .ok (.iaload, 1) := by decide +kernel
theorem dX12_shrinks_103 : decode cX12_shrinks 103 = .ok (.iconst (-1), 1) := by decide +kernel
theorem dX12_shrinks_104 : decode cX12_shrinks 104 = .ok (.if_icmp .eq 33, 3) := by decide +kernel
theorem dX12_shrinks_107 : decode cX12_shrinks 107 = .ok (.aload_n 0, 1) := by decide +kernel
theorem dX12_shrinks_108 : decode cX12_shrinks 108 = .ok (.getfield 26, 3) := by decide +kernel
theorem dX12_shrinks_111 : decode cX12_shrinks 111 = .ok (.iload_n 2, 1) := by decide +kernel
theorem dX12_shrinks_112 : decode cX12_shrinks 112 = .ok (.iload 7, 2) := by decide +kernel
theorem dX12_shrinks_114 : decode cX12_shrinks 114 = .ok (.iadd, 1) := by decide +kernel
theorem dX12_shrinks_115 : decode cX12_shrinks 115 = .ok (.iaload, 1) := by decide +kernel
theorem dX12_shrinks_116 : decode cX12_shrinks 116 = .ok (.aload_n 0, 1) := by decide +kernel
theorem dX12_shrinks_117 : decode cX12_shrinks 117 = .ok (.getfield 51, 3) := by decide +kernel
theorem dX12_shrinks_120 : decode cX12_shrinks 120 = .ok (.iload 6, 2) := by decide +kernel
theorem dX12_shrinks_122 : decode cX12_shrinks 122 = .ok (.iaload, 1) := by decide +kernel
theorem dX12_shrinks_123 : decode cX12_shrinks 123 = .ok (.if_icmp .ne 14, 3) := by decide +kernel
theorem dX12_shrinks_126 : decode cX12_shrinks 126 = .ok (.aload_n 0, 1) := by decide +kernel
theorem dX12_shrinks_127 : decode cX12_shrinks 127 = .ok (.getfield 26, 3) := by decide +kernel
theorem dX12_shrinks_130 : decode cX12_shrinks 130 = .ok (.iload_n 3, 1) := by decide +kernel
theorem dX12_shrinks_131 : decode cX12_shrinks 131 = .ok (.iload 7, 2) := by decide +kernel
theorem dX12_shrinks_133 : decode cX12_shrinks 133 = .ok (.iadd, 1) := by decide +kernel
theorem dX12_shrinks_134 : decode cX12_shrinks 134 = .ok (.iload 4, 2) := by decide +kernel
theorem dX12_shrinks_136 : decode cX12_shrinks 136 = .ok (.iastore, 1) := by decide +kernel
theorem dX12_shrinks_137 : decode cX12_shrinks 137 = .ok (.iinc 7 1, 3) := by decide +kernel
theorem dX12_shrinks_140 : decode cX12_shrinks 140 = .ok (.goto (-69), 3) := by decide +kernel
theorem dX12_shrinks_143 : decode cX12_shrinks 143 = .ok (.iinc 4 1, 3) := by decide +kernel
theorem dX12_shrinks_146 : decode cX12_shrinks 146 = .ok (.iinc 6 1, 3) := by decide +kernel
theorem dX12_shrinks_149 : decode cX12_shrinks 149 = .ok (.goto (-114), 3) := by decide +kernel
theorem dX12_shrinks_152 : decode cX12_shrinks 152 = .ok (.aload_n 0, 1) := by decide +kernel
theorem dX12_shrinks_153 : decode cX12_shrinks 153 = .ok (.getfield 26, 3) := by decide +kernel
theorem dX12_shrinks_156 : decode cX12_shrinks 156 = .ok (.iconst 5, 1) := by decide +kernel
theorem dX12_shrinks_157 : decode cX12_shrinks 157 = .ok (.dup2, 1) := by decide +kernel
theorem dX12_shrinks_158 : decode cX12_shrinks 158 = .ok (.iaload, 1) := by decide +kernel
theorem dX12_shrinks_159 : decode cX12_shrinks 159 = .ok (.iconst 1, 1) := by decide +kernel
theorem dX12_shrinks_160 : decode cX12_shrinks 160 = .ok (.iadd, 1) := by decide +kernel
theorem dX12_shrinks_161 : decode cX12_shrinks 161 = .ok (.iastore, 1) := by decide +kernel
theorem dX12_shrinks_162 : decode cX12_shrinks 162 = .ok (.aload_n 0, 1) := by decide +kernel
theorem dX12_shrinks_163 : decode cX12_shrinks 163 = .ok (.getfield 26, 3) := by decide +kernel
theorem dX12_shrinks_166 : decode cX12_shrinks 166 = .ok (.bipush 105, 2) := by decide +kernel
theorem dX12_shrinks_168 : decode cX12_shrinks 168 = .ok (.aload_n 0, 1) := by decide +kernel
theorem dX12_shrinks_169 : decode cX12_shrinks 169 = .ok (.getfield 26, 3) := by decide +kernel
theorem dX12_shrinks_172 : decode cX12_shrinks 172 = .ok (.iconst 5, 1) := by decide +kernel
theorem dX12_shrinks_173 : decode cX12_shrinks 173 = .ok (.iaload, 1) := by decide +kernel
theorem dX12_shrinks_174 : decode cX12_shrinks 174 = .ok (.iadd, 1) := by decide +kernel
theorem dX12_shrinks_175 : decode cX12_shrinks 175 = .ok (.iload 4, 2) := by decide +kernel
theorem dX12_shrinks_177 : decode cX12_shrinks 177 = .ok (.iastore, 1) := by decide +kernel
theorem dX12_shrinks_178 : decode cX12_shrinks 178 = .ok (.iload 4, 2) := by decide +kernel
theorem dX12_shrinks_180 : decode cX12_shrinks 180 = .ok (.ireturn, 1) := by decide +kernel
set_option maxRecDepth 20000 in
theorem ggX12_grows_X12_groups : GoodIn wsX12_grows wsX12_groups := goodIn_s _ [(6, 1), (1, 1), (7, 48)] rfl (by decide +kernel)
set_option maxRecDepth 20000 in
theorem gX12_grows_X12_groups : GoodIn wsX12_grows (wsV RX12 177 RX12 yX12_groups wsX12_groups) := goodIn_app (goodIn_of _ (by decide +kernel)) ggX12_grows_X12_groups
theorem dX12_grows_0 : decode cX12_grows 0 = .ok (.aload_n 0, 1) := by decide +kernel
theorem dX12_grows_1 : decode cX12_grows 1 = .ok (.getfield 26, 3) := by decide +kernel
theorem dX12_grows_4 : decode cX12_grows 4 = .ok (.iconst 5, 1) := by decide +kernel
theorem dX12_grows_5 : decode cX12_grows 5 = .ok (.dup2, 1) := by decide +kernel
theorem dX12_grows_6 : decode cX12_grows 6 = .ok (.iaload, 1) := by decide +kernel
theorem dX12_grows_7 : decode cX12_grows 7 = .ok (.iconst 1, 1) := by decide +kernel
theorem dX12_grows_8 : decode cX12_grows 8 = .ok (.isub, 1) := by decide +kernel
theorem dX12_grows_9 : decode cX12_grows 9 = .ok (.iastore, 1) := by decide +kernel
theorem dX12_grows_10 : decode cX12_grows 10 = .ok (.aload_n 0, 1) := by decide +kernel
theorem dX12_grows_11 : decode cX12_grows 11 = .ok (.invokevirtual 177, 3) := by decide +kernel
theorem dX12_grows_14 : decode cX12_grows 14 = .ok (.ireturn, 1) := by decide +kernel
set_option maxRecDepth 20000 in
theorem ggX12_moves_X12_comes : GoodIn wsX12_moves wsX12_comes := goodIn_s _ [(5, 5), (4, 1), (10, 61)] rfl (by decide +kernel)
set_option maxRecDepth 20000 in
theorem gX12_moves_X12_comes : GoodIn wsX12_moves (wsV RX12 399 RX12 yX12_comes wsX12_comes) := goodIn_app (goodIn_of _ (by decide +kernel)) ggX12_moves_X12_comes
set_option maxRecDepth 20000 in
theorem ggX12_moves_X12_cutNow : GoodIn wsX12_moves wsX12_cutNow := goodIn_s _ [(18, 1), (6, 1), (19, 3), (4, 1), (22, 49)] rfl (by decide +kernel)
set_option maxRecDepth 20000 in
theorem gX12_moves_X12_cutNow : GoodIn wsX12_moves (wsV RX12 173 RX12 yX12_cutNow wsX12_cutNow) := goodIn_app (goodIn_of _ (by decide +kernel)) ggX12_moves_X12_cutNow
theorem dX12_moves_0 : decode cX12_moves 0 = .ok (.aload_n 0, 1) := by decide +kernel
theorem dX12_moves_1 : decode cX12_moves 1 = .ok (.iload_n 1, 1) := by decide +kernel
theorem dX12_moves_2 : decode cX12_moves 2 = .ok (.iload_n 2, 1) := by decide +kernel
theorem dX12_moves_3 : decode cX12_moves 3 = .ok (.invokevirtual 399, 3) := by decide +kernel
theorem dX12_moves_6 : decode cX12_moves 6 = .ok (.istore_n 3, 1) := by decide +kernel
theorem dX12_moves_7 : decode cX12_moves 7 = .ok (.aload_n 0, 1) := by decide +kernel
theorem dX12_moves_8 : decode cX12_moves 8 = .ok (.invokevirtual 173, 3) := by decide +kernel
theorem dX12_moves_11 : decode cX12_moves 11 = .ok (.ireturn, 1) := by decide +kernel
set_option maxRecDepth 20000 in
theorem ggX12_stepNow_X12_nextNow : GoodIn wsX12_stepNow wsX12_nextNow := goodIn_s _ [(5, 4), (4, 1), (9, 53), (78, 48)] rfl (by decide +kernel)
set_option maxRecDepth 20000 in
theorem gX12_stepNow_X12_nextNow : GoodIn wsX12_stepNow (wsV RX12 364 RX12 yX12_nextNow wsX12_nextNow) := goodIn_app (goodIn_of _ (by decide +kernel)) ggX12_stepNow_X12_nextNow
set_option maxRecDepth 20000 in
theorem ggX12_stepNow_X12_moves : GoodIn wsX12_stepNow wsX12_moves := goodIn_s _ [(65, 4), (4, 1), (69, 1), (10, 1), (39, 8), (70, 56)] rfl (by decide +kernel)
set_option maxRecDepth 20000 in
theorem gX12_stepNow_X12_moves : GoodIn wsX12_stepNow (wsV RX12 402 RX12 yX12_moves wsX12_moves) := goodIn_app (goodIn_of _ (by decide +kernel)) ggX12_stepNow_X12_moves
theorem dX12_stepNow_0 : decode cX12_stepNow 0 = .ok (.aload_n 0, 1) := by decide +kernel
theorem dX12_stepNow_1 : decode cX12_stepNow 1 = .ok (.invokevirtual 364, 3) := by decide +kernel
theorem dX12_stepNow_4 : decode cX12_stepNow 4 = .ok (.istore_n 1, 1) := by decide +kernel
theorem dX12_stepNow_5 : decode cX12_stepNow 5 = .ok (.iload_n 1, 1) := by decide +kernel
theorem dX12_stepNow_6 : decode cX12_stepNow 6 = .ok (.iconst (-1), 1) := by decide +kernel
theorem dX12_stepNow_7 : decode cX12_stepNow 7 = .ok (.if_icmp .ne 7, 3) := by decide +kernel
theorem dX12_stepNow_10 : decode cX12_stepNow 10 = .ok (.iconst (-1), 1) := by decide +kernel
theorem dX12_stepNow_11 : decode cX12_stepNow 11 = .ok (.goto 15, 3) := by decide +kernel
theorem dX12_stepNow_14 : decode cX12_stepNow 14 = .ok (.aload_n 0, 1) := by decide +kernel
theorem dX12_stepNow_15 : decode cX12_stepNow 15 = .ok (.iload_n 1, 1) := by decide +kernel
theorem dX12_stepNow_16 : decode cX12_stepNow 16 = .ok (.bipush 10, 2) := by decide +kernel
theorem dX12_stepNow_18 : decode cX12_stepNow 18 = .ok (.idiv, 1) := by decide +kernel
theorem dX12_stepNow_19 : decode cX12_stepNow 19 = .ok (.iload_n 1, 1) := by decide +kernel
theorem dX12_stepNow_20 : decode cX12_stepNow 20 = .ok (.bipush 10, 2) := by decide +kernel
theorem dX12_stepNow_22 : decode cX12_stepNow 22 = .ok (.irem, 1) := by decide +kernel
theorem dX12_stepNow_23 : decode cX12_stepNow 23 = .ok (.invokevirtual 402, 3) := by decide +kernel
theorem dX12_stepNow_26 : decode cX12_stepNow 26 = .ok (.ireturn, 1) := by decide +kernel
set_option maxRecDepth 20000 in
theorem ggX12_stepsNow_X12_stepNow : GoodIn wsX12_stepsNow wsX12_stepNow := goodIn_s _ [(5, 4), (4, 1), (9, 121)] rfl (by decide +kernel)
set_option maxRecDepth 20000 in
theorem gX12_stepsNow_X12_stepNow : GoodIn wsX12_stepsNow (wsV RX12 384 RX12 yX12_stepNow wsX12_stepNow) := goodIn_app (goodIn_of _ (by decide +kernel)) ggX12_stepsNow_X12_stepNow
set_option maxRecDepth 20000 in
theorem ggX12_stepsNow_X12_truth : GoodIn wsX12_stepsNow wsX12_truth := goodIn_s _ [(61, 1)] rfl (by decide +kernel)
set_option maxRecDepth 20000 in
theorem gX12_stepsNow_X12_truth : GoodIn wsX12_stepsNow (va_wsS RX12 93 yX12_truth wsX12_truth) := goodIn_app (goodIn_of _ (by decide +kernel)) ggX12_stepsNow_X12_truth
theorem dX12_stepsNow_0 : decode cX12_stepsNow 0 = .ok (.iconst 0, 1) := by decide +kernel
theorem dX12_stepsNow_1 : decode cX12_stepsNow 1 = .ok (.istore_n 2, 1) := by decide +kernel
theorem dX12_stepsNow_2 : decode cX12_stepsNow 2 = .ok (.iconst 1, 1) := by decide +kernel
theorem dX12_stepsNow_3 : decode cX12_stepsNow 3 = .ok (.istore_n 3, 1) := by decide +kernel
theorem dX12_stepsNow_4 : decode cX12_stepsNow 4 = .ok (.iload_n 2, 1) := by decide +kernel
theorem dX12_stepsNow_5 : decode cX12_stepsNow 5 = .ok (.iload_n 1, 1) := by decide +kernel
theorem dX12_stepsNow_6 : decode cX12_stepsNow 6 = .ok (.if_icmp .ge 31, 3) := by decide +kernel
theorem dX12_stepsNow_9 : decode cX12_stepsNow 9 = .ok (.iload_n 3, 1) := by decide +kernel
theorem dX12_stepsNow_10 : decode cX12_stepsNow 10 = .ok (.ifCond .eq 27, 3) := by decide +kernel
theorem dX12_stepsNow_13 : decode cX12_stepsNow 13 = .ok (.aload_n 0, 1) := by decide +kernel
theorem dX12_stepsNow_14 : decode cX12_stepsNow 14 = .ok (.invokevirtual 384, 3) := by decide +kernel
theorem dX12_stepsNow_17 : decode cX12_stepsNow 17 = .ok (.iconst (-1), 1) := by decide +kernel
theorem dX12_stepsNow_18 : decode cX12_stepsNow 18 = .ok (.if_icmp .eq 7, 3) := by decide +kernel
theorem dX12_stepsNow_21 : decode cX12_stepsNow 21 = .ok (.iconst 1, 1) := by decide +kernel
theorem dX12_stepsNow_22 : decode cX12_stepsNow 22 = .ok (.goto 4, 3) := by decide +kernel
theorem dX12_stepsNow_25 : decode cX12_stepsNow 25 = .ok (.iconst 0, 1) := by decide +kernel
theorem dX12_stepsNow_26 : decode cX12_stepsNow 26 = .ok (.istore_n 3, 1) := by decide +kernel
theorem dX12_stepsNow_27 : decode cX12_stepsNow 27 = .ok (.iload_n 2, 1) := by decide +kernel
theorem dX12_stepsNow_28 : decode cX12_stepsNow 28 = .ok (.iload_n 3, 1) := by decide +kernel
theorem dX12_stepsNow_29 : decode cX12_stepsNow 29 = .ok (.invokestatic 93, 3) := by decide +kernel
theorem dX12_stepsNow_32 : decode cX12_stepsNow 32 = .ok (.iadd, 1) := by decide +kernel
theorem dX12_stepsNow_33 : decode cX12_stepsNow 33 = .ok (.istore_n 2, 1) := by decide +kernel
theorem dX12_stepsNow_34 : decode cX12_stepsNow 34 = .ok (.goto (-30), 3) := by decide +kernel
theorem dX12_stepsNow_37 : decode cX12_stepsNow 37 = .ok (.iload_n 2, 1) := by decide +kernel
theorem dX12_stepsNow_38 : decode cX12_stepsNow 38 = .ok (.ireturn, 1) := by decide +kernel
set_option maxRecDepth 20000 in
theorem ggX12_placesBest_X12_searches : GoodIn wsX12_placesBest wsX12_searches := goodIn_s _ [(6, 9), (5, 1), (15, 19), (1, 1), (34, 8), (61, 48)] rfl (by decide +kernel)
set_option maxRecDepth 20000 in
theorem gX12_placesBest_X12_searches : GoodIn wsX12_placesBest (wsV RX12 376 RX12 yX12_searches wsX12_searches) := goodIn_app (goodIn_of _ (by decide +kernel)) ggX12_placesBest_X12_searches
set_option maxRecDepth 20000 in
theorem ggX12_placesBest_X12_groups : GoodIn wsX12_placesBest wsX12_groups := goodIn_s _ [(15, 1), (7, 1), (61, 48)] rfl (by decide +kernel)
set_option maxRecDepth 20000 in
theorem gX12_placesBest_X12_groups : GoodIn wsX12_placesBest (wsV RX12 177 RX12 yX12_groups wsX12_groups) := goodIn_app (goodIn_of _ (by decide +kernel)) ggX12_placesBest_X12_groups
set_option maxRecDepth 20000 in
theorem ggX12_placesBest_X12_comes : GoodIn wsX12_placesBest wsX12_comes := goodIn_s _ [(45, 1), (7, 1), (46, 3), (5, 1), (49, 1), (20, 4), (50, 8), (61, 48)] rfl (by decide +kernel)
set_option maxRecDepth 20000 in
theorem gX12_placesBest_X12_comes : GoodIn wsX12_placesBest (wsV RX12 399 RX12 yX12_comes wsX12_comes) := goodIn_app (goodIn_of _ (by decide +kernel)) ggX12_placesBest_X12_comes
set_option maxRecDepth 20000 in
theorem ggX12_placesBest_X12_truth : GoodIn wsX12_placesBest wsX12_truth := goodIn_s _ [(60, 1)] rfl (by decide +kernel)
set_option maxRecDepth 20000 in
theorem gX12_placesBest_X12_truth : GoodIn wsX12_placesBest (va_wsS RX12 93 yX12_truth wsX12_truth) := goodIn_app (goodIn_of _ (by decide +kernel)) ggX12_placesBest_X12_truth
theorem dX12_placesBest_0 : decode cX12_placesBest 0 = .ok (.aload_n 0, 1) := by decide +kernel
theorem dX12_placesBest_1 : decode cX12_placesBest 1 = .ok (.invokevirtual 376, 3) := by decide +kernel
theorem dX12_placesBest_4 : decode cX12_placesBest 4 = .ok (.iconst 0, 1) := by decide +kernel
theorem dX12_placesBest_5 : decode cX12_placesBest 5 = .ok (.istore_n 1, 1) := by decide +kernel
theorem dX12_placesBest_6 : decode cX12_placesBest 6 = .ok (.iconst 0, 1) := by decide +kernel
theorem dX12_placesBest_7 : decode cX12_placesBest 7 = .ok (.istore_n 2, 1) := by decide +kernel
theorem dX12_placesBest_8 : decode cX12_placesBest 8 = .ok (.iload_n 2, 1) := by decide +kernel
theorem dX12_placesBest_9 : decode cX12_placesBest 9 = .ok (.aload_n 0, 1) := by decide +kernel
theorem dX12_placesBest_10 : decode cX12_placesBest 10 = .ok (.invokevirtual 177, 3) := by decide +kernel
theorem dX12_placesBest_13 : decode cX12_placesBest 13 = .ok (.if_icmp .ge 26, 3) := by decide +kernel
theorem dX12_placesBest_16 : decode cX12_placesBest 16 = .ok (.iload_n 1, 1) := by decide +kernel
theorem dX12_placesBest_17 : decode cX12_placesBest 17 = .ok (.aload_n 0, 1) := by decide +kernel
theorem dX12_placesBest_18 : decode cX12_placesBest 18 = .ok (.iload_n 2, 1) := by decide +kernel
theorem dX12_placesBest_19 : decode cX12_placesBest 19 = .ok (.aload_n 0, 1) := by decide +kernel
theorem dX12_placesBest_20 : decode cX12_placesBest 20 = .ok (.getfield 63, 3) := by decide +kernel
theorem dX12_placesBest_23 : decode cX12_placesBest 23 = .ok (.iload_n 2, 1) := by decide +kernel
theorem dX12_placesBest_24 : decode cX12_placesBest 24 = .ok (.iaload, 1) := by decide +kernel
theorem dX12_placesBest_25 : decode cX12_placesBest 25 = .ok (.invokevirtual 399, 3) := by decide +kernel
theorem dX12_placesBest_28 : decode cX12_placesBest 28 = .ok (.invokestatic 93, 3) := by decide +kernel
theorem dX12_placesBest_31 : decode cX12_placesBest 31 = .ok (.iadd, 1) := by decide +kernel
theorem dX12_placesBest_32 : decode cX12_placesBest 32 = .ok (.istore_n 1, 1) := by decide +kernel
theorem dX12_placesBest_33 : decode cX12_placesBest 33 = .ok (.iinc 2 1, 3) := by decide +kernel
theorem dX12_placesBest_36 : decode cX12_placesBest 36 = .ok (.goto (-28), 3) := by decide +kernel
theorem dX12_placesBest_39 : decode cX12_placesBest 39 = .ok (.iload_n 1, 1) := by decide +kernel
theorem dX12_placesBest_40 : decode cX12_placesBest 40 = .ok (.ireturn, 1) := by decide +kernel
set_option maxRecDepth 20000 in
theorem ggX12_placesApart_X12_flows : GoodIn wsX12_placesApart wsX12_flows := goodIn_s _ [(7, 2), (1, 1), (9, 3), (6, 1), (12, 1), (2, 1), (13, 7), (43, 48)] rfl (by decide +kernel)
set_option maxRecDepth 20000 in
theorem gX12_placesApart_X12_flows : GoodIn wsX12_placesApart (wsV RX12 292 RX12 yX12_flows wsX12_flows) := goodIn_app (goodIn_of _ (by decide +kernel)) ggX12_placesApart_X12_flows
set_option maxRecDepth 20000 in
theorem ggX12_placesApart_X12_hasBit : GoodIn wsX12_placesApart wsX12_hasBit := goodIn_s _ [(15, 1)] rfl (by decide +kernel)
set_option maxRecDepth 20000 in
theorem gX12_placesApart_X12_hasBit : GoodIn wsX12_placesApart (va_wsS RX12 199 yX12_hasBit wsX12_hasBit) := goodIn_app (goodIn_of _ (by decide +kernel)) ggX12_placesApart_X12_hasBit
set_option maxRecDepth 20000 in
theorem ggX12_placesApart_X12_comes : GoodIn wsX12_placesApart wsX12_comes := goodIn_s _ [(23, 1), (2, 1), (24, 3), (6, 1), (27, 13), (43, 48)] rfl (by decide +kernel)
set_option maxRecDepth 20000 in
theorem gX12_placesApart_X12_comes : GoodIn wsX12_placesApart (wsV RX12 399 RX12 yX12_comes wsX12_comes) := goodIn_app (goodIn_of _ (by decide +kernel)) ggX12_placesApart_X12_comes
set_option maxRecDepth 20000 in
theorem ggX12_placesApart_X12_truth : GoodIn wsX12_placesApart wsX12_truth := goodIn_s _ [(42, 1)] rfl (by decide +kernel)
set_option maxRecDepth 20000 in
theorem gX12_placesApart_X12_truth : GoodIn wsX12_placesApart (va_wsS RX12 93 yX12_truth wsX12_truth) := goodIn_app (goodIn_of _ (by decide +kernel)) ggX12_placesApart_X12_truth
theorem dX12_placesApart_0 : decode cX12_placesApart 0 = .ok (.aload_n 0, 1) := by decide +kernel
theorem dX12_placesApart_1 : decode cX12_placesApart 1 = .ok (.iload_n 1, 1) := by decide +kernel
theorem dX12_placesApart_2 : decode cX12_placesApart 2 = .ok (.iload_n 2, 1) := by decide +kernel
theorem dX12_placesApart_3 : decode cX12_placesApart 3 = .ok (.invokevirtual 292, 3) := by decide +kernel
theorem dX12_placesApart_6 : decode cX12_placesApart 6 = .ok (.aload_n 0, 1) := by decide +kernel
theorem dX12_placesApart_7 : decode cX12_placesApart 7 = .ok (.getfield 286, 3) := by decide +kernel
theorem dX12_placesApart_10 : decode cX12_placesApart 10 = .ok (.istore_n 3, 1) := by decide +kernel
theorem dX12_placesApart_11 : decode cX12_placesApart 11 = .ok (.iconst 0, 1) := by decide +kernel
theorem dX12_placesApart_12 : decode cX12_placesApart 12 = .ok (.istore 4, 2) := by decide +kernel
theorem dX12_placesApart_14 : decode cX12_placesApart 14 = .ok (.iconst 0, 1) := by decide +kernel
theorem dX12_placesApart_15 : decode cX12_placesApart 15 = .ok (.istore 5, 2) := by decide +kernel
theorem dX12_placesApart_17 : decode cX12_placesApart 17 = .ok (.iload 5, 2) := by decide +kernel
theorem dX12_placesApart_19 : decode cX12_placesApart 19 = .ok (.aload_n 0, 1) := by decide +kernel
theorem dX12_placesApart_20 : decode cX12_placesApart 20 = .ok (.getfield 26, 3) := by decide +kernel
theorem dX12_placesApart_23 : decode cX12_placesApart 23 = .ok (.iconst 0, 1) := by decide +kernel
theorem dX12_placesApart_24 : decode cX12_placesApart 24 = .ok (.iaload, 1) := by decide +kernel
theorem dX12_placesApart_25 : decode cX12_placesApart 25 = .ok (.if_icmp .ge 37, 3) := by decide +kernel
theorem dX12_placesApart_28 : decode cX12_placesApart 28 = .ok (.iload 4, 2) := by decide +kernel
theorem dX12_placesApart_30 : decode cX12_placesApart 30 = .ok (.aload_n 0, 1) := by decide +kernel
theorem dX12_placesApart_31 : decode cX12_placesApart 31 = .ok (.iload 5, 2) := by decide +kernel
theorem dX12_placesApart_33 : decode cX12_placesApart 33 = .ok (.iload_n 3, 1) := by decide +kernel
theorem dX12_placesApart_34 : decode cX12_placesApart 34 = .ok (.iload 5, 2) := by decide +kernel
theorem dX12_placesApart_36 : decode cX12_placesApart 36 = .ok (.invokestatic 199, 3) := by decide +kernel
theorem dX12_placesApart_39 : decode cX12_placesApart 39 = .ok (.ifCond .eq 7, 3) := by decide +kernel
theorem dX12_placesApart_42 : decode cX12_placesApart 42 = .ok (.iconst 0, 1) := by decide +kernel
theorem dX12_placesApart_43 : decode cX12_placesApart 43 = .ok (.goto 4, 3) := by decide +kernel
theorem dX12_placesApart_46 : decode cX12_placesApart 46 = .ok (.iconst 1, 1) := by decide +kernel
theorem dX12_placesApart_47 : decode cX12_placesApart 47 = .ok (.invokevirtual 399, 3) := by decide +kernel
theorem dX12_placesApart_50 : decode cX12_placesApart 50 = .ok (.invokestatic 93, 3) := by decide +kernel
theorem dX12_placesApart_53 : decode cX12_placesApart 53 = .ok (.iadd, 1) := by decide +kernel
theorem dX12_placesApart_54 : decode cX12_placesApart 54 = .ok (.istore 4, 2) := by decide +kernel
theorem dX12_placesApart_56 : decode cX12_placesApart 56 = .ok (.iinc 5 1, 3) := by decide +kernel
theorem dX12_placesApart_59 : decode cX12_placesApart 59 = .ok (.goto (-42), 3) := by decide +kernel
theorem dX12_placesApart_62 : decode cX12_placesApart 62 = .ok (.iload 4, 2) := by decide +kernel
theorem dX12_placesApart_64 : decode cX12_placesApart 64 = .ok (.ireturn, 1) := by decide +kernel
theorem dX12_mayApart_0 : decode cX12_mayApart 0 = .ok (.aload_n 0, 1) := by decide +kernel
theorem dX12_mayApart_1 : decode cX12_mayApart 1 = .ok (.getfield 26, 3) := by decide +kernel
theorem dX12_mayApart_4 : decode cX12_mayApart 4 = .ok (.iconst 2, 1) := by decide +kernel
theorem dX12_mayApart_5 : decode cX12_mayApart 5 = .ok (.iaload, 1) := by decide +kernel
theorem dX12_mayApart_6 : decode cX12_mayApart 6 = .ok (.iconst 2, 1) := by decide +kernel
theorem dX12_mayApart_7 : decode cX12_mayApart 7 = .ok (.if_icmp .ne 16, 3) := by decide +kernel
theorem dX12_mayApart_10 : decode cX12_mayApart 10 = .ok (.aload_n 0, 1) := by decide +kernel
theorem dX12_mayApart_11 : decode cX12_mayApart 11 = .ok (.getfield 26, 3) := by decide +kernel
theorem dX12_mayApart_14 : decode cX12_mayApart 14 = .ok (.iconst 5, 1) := by decide +kernel
theorem dX12_mayApart_15 : decode cX12_mayApart 15 = .ok (.iaload, 1) := by decide +kernel
theorem dX12_mayApart_16 : decode cX12_mayApart 16 = .ok (.ifCond .ne 7, 3) := by decide +kernel
theorem dX12_mayApart_19 : decode cX12_mayApart 19 = .ok (.iconst 1, 1) := by decide +kernel
theorem dX12_mayApart_20 : decode cX12_mayApart 20 = .ok (.goto 4, 3) := by decide +kernel
theorem dX12_mayApart_23 : decode cX12_mayApart 23 = .ok (.iconst 0, 1) := by decide +kernel
theorem dX12_mayApart_24 : decode cX12_mayApart 24 = .ok (.ireturn, 1) := by decide +kernel
theorem dX12_setsCredit_0 : decode cX12_setsCredit 0 = .ok (.aload_n 0, 1) := by decide +kernel
theorem dX12_setsCredit_1 : decode cX12_setsCredit 1 = .ok (.getfield 26, 3) := by decide +kernel
theorem dX12_setsCredit_4 : decode cX12_setsCredit 4 = .ok (.iconst 4, 1) := by decide +kernel
theorem dX12_setsCredit_5 : decode cX12_setsCredit 5 = .ok (.iaload, 1) := by decide +kernel
theorem dX12_setsCredit_6 : decode cX12_setsCredit 6 = .ok (.istore_n 2, 1) := by decide +kernel
theorem dX12_setsCredit_7 : decode cX12_setsCredit 7 = .ok (.aload_n 0, 1) := by decide +kernel
theorem dX12_setsCredit_8 : decode cX12_setsCredit 8 = .ok (.getfield 26, 3) := by decide +kernel
theorem dX12_setsCredit_11 : decode cX12_setsCredit 11 = .ok (.iconst 4, 1) := by decide +kernel
theorem dX12_setsCredit_12 : decode cX12_setsCredit 12 = .ok (.iload_n 1, 1) := by decide +kernel
theorem dX12_setsCredit_13 : decode cX12_setsCredit 13 = .ok (.iastore, 1) := by decide +kernel
theorem dX12_setsCredit_14 : decode cX12_setsCredit 14 = .ok (.iload_n 2, 1) := by decide +kernel
theorem dX12_setsCredit_15 : decode cX12_setsCredit 15 = .ok (.ireturn, 1) := by decide +kernel
set_option maxRecDepth 20000 in
theorem ggX12_shrink_X12_whyShrink : GoodIn wsX12_shrink wsX12_whyShrink := goodIn_s _ [(5, 5), (4, 1), (10, 34), (71, 48)] rfl (by decide +kernel)
set_option maxRecDepth 20000 in
theorem gX12_shrink_X12_whyShrink : GoodIn wsX12_shrink (wsV RX12 346 RX12 yX12_whyShrink wsX12_whyShrink) := goodIn_app (goodIn_of _ (by decide +kernel)) ggX12_shrink_X12_whyShrink
set_option maxRecDepth 20000 in
theorem ggX12_shrink_X12_goes : GoodIn wsX12_shrink wsX12_goes := goodIn_s _ [(47, 4), (4, 1), (51, 1), (71, 48)] rfl (by decide +kernel)
set_option maxRecDepth 20000 in
theorem gX12_shrink_X12_goes : GoodIn wsX12_shrink (wsV RX12 100 RX12 yX12_goes wsX12_goes) := goodIn_app (goodIn_of _ (by decide +kernel)) ggX12_shrink_X12_goes
set_option maxRecDepth 20000 in
theorem ggX12_shrink_X12_laysAside : GoodIn wsX12_shrink wsX12_laysAside := goodIn_s _ [(55, 2), (6, 1), (71, 48)] rfl (by decide +kernel)
set_option maxRecDepth 20000 in
theorem gX12_shrink_X12_laysAside : GoodIn wsX12_shrink (wsV RX12 233 RX12 yX12_laysAside wsX12_laysAside) := goodIn_app (goodIn_of _ (by decide +kernel)) ggX12_shrink_X12_laysAside
set_option maxRecDepth 20000 in
theorem ggX12_shrink_X12_shrinks : GoodIn wsX12_shrink wsX12_shrinks := goodIn_s _ [(60, 1), (6, 1), (11, 1), (7, 3), (4, 1), (10, 1), (12, 32), (71, 48)] rfl (by decide +kernel)
set_option maxRecDepth 20000 in
theorem gX12_shrink_X12_shrinks : GoodIn wsX12_shrink (wsV RX12 405 RX12 yX12_shrinks wsX12_shrinks) := goodIn_app (goodIn_of _ (by decide +kernel)) ggX12_shrink_X12_shrinks
set_option maxRecDepth 20000 in
theorem ggX12_shrink_X12_kept : GoodIn wsX12_shrink wsX12_kept := goodIn_s _ [(64, 4), (4, 1), (68, 3), (56, 1), (71, 48)] rfl (by decide +kernel)
set_option maxRecDepth 20000 in
theorem gX12_shrink_X12_kept : GoodIn wsX12_shrink (wsV RX12 408 RX12 yX12_kept wsX12_kept) := goodIn_app (goodIn_of _ (by decide +kernel)) ggX12_shrink_X12_kept
