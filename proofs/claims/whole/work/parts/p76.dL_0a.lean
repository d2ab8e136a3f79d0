/-! ===== the law's words, nested to the right ===== -/
def wsL_lawN : List Cond := wsL_law0_r1 ++ (wsL_law0_r2 ++ (wsL_law0_r3 ++ (wsL_law0_r4 ++ (wsL_law0_r5 ++ (wsL_law0_r6 ++ (wsL_law0_r7 ++ (wsL_law0_r8 ++ (wsL_law0_r9 ++ (wsL_law0_r10 ++ (wsL_law0_r11 ++ (wsL_law0_r12 ++ (wsL_law0_r13 ++ (wsL_law0_r14 ++ (wsL_law0_r15 ++ (wsL_law0_r16 ++ (wsL_law0_r17 ++ (wsL_law0_r18 ++ (wsL_law0_r19 ++ (wsL_law0_r20 ++ (wsL_law0_r21 ++ (wsL_law0_r22 ++ (wsL_law0_r23 ++ (wsL_law0_r24 ++ (wsL_law0_r25 ++ (wsL_law0_r26 ++ (wsL_law0_r27 ++ (wsL_law0_r28 ++ (wsL_law0_r29 ++ (wsL_law0_r30 ++ (wsL_law0_r31 ++ (wsL_law0_r32 ++ (wsL_law0_r33 ++ (wsL_law0_r34 ++ (wsL_law0_r35 ++ (wsL_law0_r36 ++ (wsL_law0_r37 ++ (wsL_law0_r38 ++ (wsL_law0_r39 ++ (wsL_law0_r40 ++ (wsL_law0_r41 ++ (wsL_law0_r42 ++ (wsL_law0_r43 ++ (wsL_law0_r44 ++ (wsL_law0_r45 ++ (wsL_law0_r46 ++ (wsL_law0_r47 ++ (wsL_law0_r48 ++ (wsL_law0_r49 ++ (wsL_law0_r50 ++ (wsL_law0_r51 ++ (wsL_law0_r52 ++ (wsL_law0_r53 ++ (wsL_law0_r54 ++ (wsL_law0_r55 ++ (wsL_law0_r56 ++ (wsL_law0_r57 ++ (wsL_law0_r58 ++ (wsL_law0_r59 ++ (wsL_law0_r60 ++ (wsL_law0_r61 ++ (wsL_law0_r62 ++ (wsL_law0_r63 ++ (wsL_law0_r64 ++ (wsL_law0_r65 ++ (wsL_law0_r66 ++ (wsL_law0_r67 ++ (wsL_law0_r68 ++ (wsL_law0_r69 ++ (wsL_law0_r70 ++ (wsL_law0_r71 ++ (wsL_law0_r72 ++ (wsL_law0_r73 ++ (wsX110 ++ (wsX120 ++ (wsX100 ++ (wsX90 ++ (wsX70 ++ (wsX60 ++ (wsX20 ++ (wsX80 ++ (wsX30 ++ (wsX40 ++ (wsX50 ++ (wsX00 ++ (wsX10 ++ (([] : List Cond) ++ ((vx_atS RX11 110 "java/lang/IllegalStateException" ["java/lang/RuntimeException", "java/lang/Exception"]).filter goodWord ++ ((vx_atS RX11 121 "java/lang/IllegalArgumentException" ["java/lang/RuntimeException", "java/lang/Exception"]).filter goodWord ++ ((vx_atS RX11 292 "java/lang/IndexOutOfBoundsException" ["java/lang/RuntimeException", "java/lang/Exception"]).filter goodWord)))))))))))))))))))))))))))))))))))))))))))))))))))))))))))))))))))))))))))))))))))))))))
theorem wsL_lawN_eq : wsL_lawN = wsL_law := by
  unfold wsL_lawN wsL_law wsL_law0
  simp only [List.append_assoc]
theorem gIn_law {ws : List Cond} (h : GoodIn wsL_lawN ws) : GoodIn wsL_law ws := wsL_lawN_eq ▸ h
set_option maxRecDepth 20000 in
theorem ggL_feed_X11_feed : GoodIn wsL_feed wsX11_feed := goodIn_ca (goodIn_s _ [(6, 13), (5, 1), (19, 31)] rfl (by decide +kernel)) (goodIn_sub (fun _ h => List.mem_cons_of_mem _ (List.mem_append_right _ h)) (by decide +kernel))
set_option maxRecDepth 20000 in
theorem gL_feed_X11_feed : GoodIn wsL_feed (wsV RL 7 RX11 yX11_feed wsX11_feed) := goodIn_app (goodIn_of _ (by decide +kernel)) ggL_feed_X11_feed
theorem dL_feed_0 : decode cL_feed 0 = .ok (.aload 6, 2) := by decide +kernel
theorem dL_feed_2 : decode cL_feed 2 = .ok (.iconst 0, 1) := by decide +kernel
theorem dL_feed_3 : decode cL_feed 3 = .ok (.aload_n 0, 1) := by decide +kernel
theorem dL_feed_4 : decode cL_feed 4 = .ok (.iload_n 1, 1) := by decide +kernel
theorem dL_feed_5 : decode cL_feed 5 = .ok (.iload_n 2, 1) := by decide +kernel
theorem dL_feed_6 : decode cL_feed 6 = .ok (.iload_n 3, 1) := by decide +kernel
theorem dL_feed_7 : decode cL_feed 7 = .ok (.iload 4, 2) := by decide +kernel
theorem dL_feed_9 : decode cL_feed 9 = .ok (.iload 5, 2) := by decide +kernel
theorem dL_feed_11 : decode cL_feed 11 = .ok (.invokevirtual 7, 3) := by decide +kernel
theorem dL_feed_14 : decode cL_feed 14 = .ok (.i2l, 1) := by decide +kernel
theorem dL_feed_15 : decode cL_feed 15 = .ok (.lastore, 1) := by decide +kernel
theorem dL_feed_16 : decode cL_feed 16 = .ok (.goto 7, 3) := by decide +kernel
theorem dL_feed_19 : decode cL_feed 19 = .ok (.astore 7, 2) := by decide +kernel
theorem dL_feed_21 : decode cL_feed 21 = .ok (.iconst 1, 1) := by decide +kernel
theorem dL_feed_22 : decode cL_feed 22 = .ok (.ireturn, 1) := by decide +kernel
theorem dL_feed_23 : decode cL_feed 23 = .ok (.iconst 0, 1) := by decide +kernel
theorem dL_feed_24 : decode cL_feed 24 = .ok (.ireturn, 1) := by decide +kernel
set_option maxRecDepth 20000 in
theorem ggL_truncate_X11_truncate : GoodIn wsL_truncate wsX11_truncate := goodIn_ca (goodIn_s _ [(6, 35)] rfl (by decide +kernel)) (goodIn_sub (fun _ h => List.mem_cons_of_mem _ (List.mem_append_right _ h)) (by decide +kernel))
set_option maxRecDepth 20000 in
theorem gL_truncate_X11_truncate : GoodIn wsL_truncate (wsV RL 15 RX11 yX11_truncate wsX11_truncate) := goodIn_app (goodIn_of _ (by decide +kernel)) ggL_truncate_X11_truncate
theorem dL_truncate_0 : decode cL_truncate 0 = .ok (.aload_n 2, 1) := by decide +kernel
theorem dL_truncate_1 : decode cL_truncate 1 = .ok (.iconst 0, 1) := by decide +kernel
theorem dL_truncate_2 : decode cL_truncate 2 = .ok (.aload_n 0, 1) := by decide +kernel
theorem dL_truncate_3 : decode cL_truncate 3 = .ok (.iload_n 1, 1) := by decide +kernel
theorem dL_truncate_4 : decode cL_truncate 4 = .ok (.invokevirtual 15, 3) := by decide +kernel
theorem dL_truncate_7 : decode cL_truncate 7 = .ok (.i2l, 1) := by decide +kernel
theorem dL_truncate_8 : decode cL_truncate 8 = .ok (.lastore, 1) := by decide +kernel
theorem dL_truncate_9 : decode cL_truncate 9 = .ok (.goto 6, 3) := by decide +kernel
theorem dL_truncate_12 : decode cL_truncate 12 = .ok (.astore_n 3, 1) := by decide +kernel
theorem dL_truncate_13 : decode cL_truncate 13 = .ok (.iconst 1, 1) := by decide +kernel
theorem dL_truncate_14 : decode cL_truncate 14 = .ok (.ireturn, 1) := by decide +kernel
theorem dL_truncate_15 : decode cL_truncate 15 = .ok (.iconst 0, 1) := by decide +kernel
theorem dL_truncate_16 : decode cL_truncate 16 = .ok (.ireturn, 1) := by decide +kernel
set_option maxRecDepth 20000 in
theorem ggL_readText_X11_readText : GoodIn wsL_readText wsX11_readText := goodIn_ca (goodIn_s _ [(6, 49), (5, 1), (55, 250)] rfl (by decide +kernel)) (goodIn_sub (fun _ h => List.mem_cons_of_mem _ (List.mem_append_right _ h)) (by decide +kernel))
set_option maxRecDepth 20000 in
theorem gL_readText_X11_readText : GoodIn wsL_readText (wsV RL 21 RX11 yX11_readText wsX11_readText) := goodIn_app (goodIn_of _ (by decide +kernel)) ggL_readText_X11_readText
theorem dL_readText_0 : decode cL_readText 0 = .ok (.aload_n 1, 1) := by decide +kernel
theorem dL_readText_1 : decode cL_readText 1 = .ok (.iconst 0, 1) := by decide +kernel
theorem dL_readText_2 : decode cL_readText 2 = .ok (.aload_n 0, 1) := by decide +kernel
theorem dL_readText_3 : decode cL_readText 3 = .ok (.invokevirtual 21, 3) := by decide +kernel
theorem dL_readText_6 : decode cL_readText 6 = .ok (.i2l, 1) := by decide +kernel
theorem dL_readText_7 : decode cL_readText 7 = .ok (.lastore, 1) := by decide +kernel
theorem dL_readText_8 : decode cL_readText 8 = .ok (.goto 6, 3) := by decide +kernel
theorem dL_readText_11 : decode cL_readText 11 = .ok (.astore_n 2, 1) := by decide +kernel
theorem dL_readText_12 : decode cL_readText 12 = .ok (.iconst 1, 1) := by decide +kernel
theorem dL_readText_13 : decode cL_readText 13 = .ok (.ireturn, 1) := by decide +kernel
theorem dL_readText_14 : decode cL_readText 14 = .ok (.iconst 0, 1) := by decide +kernel
theorem dL_readText_15 : decode cL_readText 15 = .ok (.ireturn, 1) := by decide +kernel
set_option maxRecDepth 20000 in
theorem ggL_runScript_X11_runScript : GoodIn wsL_runScript wsX11_runScript := goodIn_ca (goodIn_ca (goodIn_s _ [(6, 43), (5, 1), (49, 611)] rfl (by decide +kernel)) (goodIn_sub (fun _ h => List.mem_cons_of_mem _ (List.mem_append_left _ (List.mem_append_right _ h))) (by decide +kernel))) (goodIn_sub (fun _ h => List.mem_cons_of_mem _ (List.mem_append_right _ h)) (by decide +kernel))
set_option maxRecDepth 20000 in
theorem gL_runScript_X11_runScript : GoodIn wsL_runScript (wsV RL 25 RX11 yX11_runScript wsX11_runScript) := goodIn_app (goodIn_of _ (by decide +kernel)) ggL_runScript_X11_runScript
theorem dL_runScript_0 : decode cL_runScript 0 = .ok (.aload_n 1, 1) := by decide +kernel
theorem dL_runScript_1 : decode cL_runScript 1 = .ok (.iconst 0, 1) := by decide +kernel
theorem dL_runScript_2 : decode cL_runScript 2 = .ok (.aload_n 0, 1) := by decide +kernel
theorem dL_runScript_3 : decode cL_runScript 3 = .ok (.invokevirtual 25, 3) := by decide +kernel
theorem dL_runScript_6 : decode cL_runScript 6 = .ok (.i2l, 1) := by decide +kernel
theorem dL_runScript_7 : decode cL_runScript 7 = .ok (.lastore, 1) := by decide +kernel
theorem dL_runScript_8 : decode cL_runScript 8 = .ok (.goto 6, 3) := by decide +kernel
theorem dL_runScript_11 : decode cL_runScript 11 = .ok (.astore_n 2, 1) := by decide +kernel
theorem dL_runScript_12 : decode cL_runScript 12 = .ok (.iconst 1, 1) := by decide +kernel
theorem dL_runScript_13 : decode cL_runScript 13 = .ok (.ireturn, 1) := by decide +kernel
theorem dL_runScript_14 : decode cL_runScript 14 = .ok (.iconst 0, 1) := by decide +kernel
theorem dL_runScript_15 : decode cL_runScript 15 = .ok (.ireturn, 1) := by decide +kernel
set_option maxRecDepth 20000 in
theorem ggL_error_X11_error : GoodIn wsL_error wsX11_error := goodIn_ca (goodIn_s _ [(6, 37)] rfl (by decide +kernel)) (goodIn_sub (fun _ h => List.mem_cons_of_mem _ (List.mem_append_right _ h)) (by decide +kernel))
set_option maxRecDepth 20000 in
theorem gL_error_X11_error : GoodIn wsL_error (wsV RL 28 RX11 yX11_error wsX11_error) := goodIn_app (goodIn_of _ (by decide +kernel)) ggL_error_X11_error
theorem dL_error_0 : decode cL_error 0 = .ok (.aload_n 2, 1) := by decide +kernel
theorem dL_error_1 : decode cL_error 1 = .ok (.iconst 0, 1) := by decide +kernel
theorem dL_error_2 : decode cL_error 2 = .ok (.aload_n 0, 1) := by decide +kernel
theorem dL_error_3 : decode cL_error 3 = .ok (.iload_n 1, 1) := by decide +kernel
theorem dL_error_4 : decode cL_error 4 = .ok (.invokevirtual 28, 3) := by decide +kernel
theorem dL_error_7 : decode cL_error 7 = .ok (.i2l, 1) := by decide +kernel
theorem dL_error_8 : decode cL_error 8 = .ok (.lastore, 1) := by decide +kernel
theorem dL_error_9 : decode cL_error 9 = .ok (.goto 6, 3) := by decide +kernel
theorem dL_error_12 : decode cL_error 12 = .ok (.astore_n 3, 1) := by decide +kernel
theorem dL_error_13 : decode cL_error 13 = .ok (.iconst 1, 1) := by decide +kernel
theorem dL_error_14 : decode cL_error 14 = .ok (.ireturn, 1) := by decide +kernel
theorem dL_error_15 : decode cL_error 15 = .ok (.iconst 0, 1) := by decide +kernel
theorem dL_error_16 : decode cL_error 16 = .ok (.ireturn, 1) := by decide +kernel
set_option maxRecDepth 20000 in
theorem ggL_setting_X11_setting : GoodIn wsL_setting wsX11_setting := goodIn_ca (goodIn_s _ [(6, 31), (5, 1), (37, 68)] rfl (by decide +kernel)) (goodIn_sub (fun _ h => List.mem_cons_of_mem _ (List.mem_append_right _ h)) (by decide +kernel))
set_option maxRecDepth 20000 in
theorem gL_setting_X11_setting : GoodIn wsL_setting (wsV RL 31 RX11 yX11_setting wsX11_setting) := goodIn_app (goodIn_of _ (by decide +kernel)) ggL_setting_X11_setting
theorem dL_setting_0 : decode cL_setting 0 = .ok (.aload_n 2, 1) := by decide +kernel
theorem dL_setting_1 : decode cL_setting 1 = .ok (.iconst 0, 1) := by decide +kernel
theorem dL_setting_2 : decode cL_setting 2 = .ok (.aload_n 0, 1) := by decide +kernel
theorem dL_setting_3 : decode cL_setting 3 = .ok (.iload_n 1, 1) := by decide +kernel
theorem dL_setting_4 : decode cL_setting 4 = .ok (.invokevirtual 31, 3) := by decide +kernel
theorem dL_setting_7 : decode cL_setting 7 = .ok (.i2l, 1) := by decide +kernel
theorem dL_setting_8 : decode cL_setting 8 = .ok (.lastore, 1) := by decide +kernel
theorem dL_setting_9 : decode cL_setting 9 = .ok (.goto 6, 3) := by decide +kernel
theorem dL_setting_12 : decode cL_setting 12 = .ok (.astore_n 3, 1) := by decide +kernel
theorem dL_setting_13 : decode cL_setting 13 = .ok (.iconst 1, 1) := by decide +kernel
theorem dL_setting_14 : decode cL_setting 14 = .ok (.ireturn, 1) := by decide +kernel
theorem dL_setting_15 : decode cL_setting 15 = .ok (.iconst 0, 1) := by decide +kernel
theorem dL_setting_16 : decode cL_setting 16 = .ok (.ireturn, 1) := by decide +kernel
set_option maxRecDepth 20000 in
theorem ggL_weight_X11_weight : GoodIn wsL_weight wsX11_weight := goodIn_ca (goodIn_s _ [(6, 6), (5, 1), (12, 41)] rfl (by decide +kernel)) (goodIn_sub (fun _ h => List.mem_cons_of_mem _ (List.mem_append_right _ h)) (by decide +kernel))
set_option maxRecDepth 20000 in
theorem gL_weight_X11_weight : GoodIn wsL_weight (wsV RL 34 RX11 yX11_weight wsX11_weight) := goodIn_app (goodIn_of _ (by decide +kernel)) ggL_weight_X11_weight
theorem dL_weight_0 : decode cL_weight 0 = .ok (.aload_n 2, 1) := by decide +kernel
theorem dL_weight_1 : decode cL_weight 1 = .ok (.iconst 0, 1) := by decide +kernel
theorem dL_weight_2 : decode cL_weight 2 = .ok (.aload_n 0, 1) := by decide +kernel
theorem dL_weight_3 : decode cL_weight 3 = .ok (.iload_n 1, 1) := by decide +kernel
theorem dL_weight_4 : decode cL_weight 4 = .ok (.invokevirtual 34, 3) := by decide +kernel
theorem dL_weight_7 : decode cL_weight 7 = .ok (.i2l, 1) := by decide +kernel
theorem dL_weight_8 : decode cL_weight 8 = .ok (.lastore, 1) := by decide +kernel
theorem dL_weight_9 : decode cL_weight 9 = .ok (.goto 6, 3) := by decide +kernel
theorem dL_weight_12 : decode cL_weight 12 = .ok (.astore_n 3, 1) := by decide +kernel
theorem dL_weight_13 : decode cL_weight 13 = .ok (.iconst 1, 1) := by decide +kernel
theorem dL_weight_14 : decode cL_weight 14 = .ok (.ireturn, 1) := by decide +kernel
theorem dL_weight_15 : decode cL_weight 15 = .ok (.iconst 0, 1) := by decide +kernel
theorem dL_weight_16 : decode cL_weight 16 = .ok (.ireturn, 1) := by decide +kernel
set_option maxRecDepth 20000 in
theorem ggL_edge_X11_edge : GoodIn wsL_edge wsX11_edge := goodIn_ca (goodIn_ca (goodIn_s _ [(7, 12), (6, 1), (19, 44)] rfl (by decide +kernel)) (goodIn_sub (fun _ h => List.mem_cons_of_mem _ (List.mem_append_left _ (List.mem_append_right _ h))) (by decide +kernel))) (goodIn_sub (fun _ h => List.mem_cons_of_mem _ (List.mem_append_right _ h)) (by decide +kernel))
set_option maxRecDepth 20000 in
theorem gL_edge_X11_edge : GoodIn wsL_edge (wsV RL 39 RX11 yX11_edge wsX11_edge) := goodIn_app (goodIn_of _ (by decide +kernel)) ggL_edge_X11_edge
theorem dL_edge_0 : decode cL_edge 0 = .ok (.aload_n 3, 1) := by decide +kernel
theorem dL_edge_1 : decode cL_edge 1 = .ok (.iconst 0, 1) := by decide +kernel
theorem dL_edge_2 : decode cL_edge 2 = .ok (.aload_n 0, 1) := by decide +kernel
theorem dL_edge_3 : decode cL_edge 3 = .ok (.iload_n 1, 1) := by decide +kernel
theorem dL_edge_4 : decode cL_edge 4 = .ok (.iload_n 2, 1) := by decide +kernel
theorem dL_edge_5 : decode cL_edge 5 = .ok (.invokevirtual 39, 3) := by decide +kernel
theorem dL_edge_8 : decode cL_edge 8 = .ok (.i2l, 1) := by decide +kernel
theorem dL_edge_9 : decode cL_edge 9 = .ok (.lastore, 1) := by decide +kernel
theorem dL_edge_10 : decode cL_edge 10 = .ok (.goto 11, 3) := by decide +kernel
theorem dL_edge_13 : decode cL_edge 13 = .ok (.astore 4, 2) := by decide +kernel
theorem dL_edge_15 : decode cL_edge 15 = .ok (.iconst 1, 1) := by decide +kernel
theorem dL_edge_16 : decode cL_edge 16 = .ok (.ireturn, 1) := by decide +kernel
theorem dL_edge_17 : decode cL_edge 17 = .ok (.astore 4, 2) := by decide +kernel
theorem dL_edge_19 : decode cL_edge 19 = .ok (.iconst 2, 1) := by decide +kernel
theorem dL_edge_20 : decode cL_edge 20 = .ok (.ireturn, 1) := by decide +kernel
theorem dL_edge_21 : decode cL_edge 21 = .ok (.iconst 0, 1) := by decide +kernel
theorem dL_edge_22 : decode cL_edge 22 = .ok (.ireturn, 1) := by decide +kernel
set_option maxRecDepth 20000 in
theorem ggL_between_X11_between : GoodIn wsL_between wsX11_between := goodIn_ca (goodIn_s _ [(6, 6), (5, 1), (12, 53)] rfl (by decide +kernel)) (goodIn_sub (fun _ h => List.mem_cons_of_mem _ (List.mem_append_right _ h)) (by decide +kernel))
set_option maxRecDepth 20000 in
theorem gL_between_X11_between : GoodIn wsL_between (wsV RL 43 RX11 yX11_between wsX11_between) := goodIn_app (goodIn_of _ (by decide +kernel)) ggL_between_X11_between
theorem dL_between_0 : decode cL_between 0 = .ok (.aload_n 3, 1) := by decide +kernel
theorem dL_between_1 : decode cL_between 1 = .ok (.iconst 0, 1) := by decide +kernel
theorem dL_between_2 : decode cL_between 2 = .ok (.aload_n 0, 1) := by decide +kernel
theorem dL_between_3 : decode cL_between 3 = .ok (.iload_n 1, 1) := by decide +kernel
theorem dL_between_4 : decode cL_between 4 = .ok (.iload_n 2, 1) := by decide +kernel
theorem dL_between_5 : decode cL_between 5 = .ok (.invokevirtual 43, 3) := by decide +kernel
theorem dL_between_8 : decode cL_between 8 = .ok (.i2l, 1) := by decide +kernel
theorem dL_between_9 : decode cL_between 9 = .ok (.lastore, 1) := by decide +kernel
theorem dL_between_10 : decode cL_between 10 = .ok (.goto 7, 3) := by decide +kernel
theorem dL_between_13 : decode cL_between 13 = .ok (.astore 4, 2) := by decide +kernel
theorem dL_between_15 : decode cL_between 15 = .ok (.iconst 1, 1) := by decide +kernel
theorem dL_between_16 : decode cL_between 16 = .ok (.ireturn, 1) := by decide +kernel
theorem dL_between_17 : decode cL_between 17 = .ok (.iconst 0, 1) := by decide +kernel
theorem dL_between_18 : decode cL_between 18 = .ok (.ireturn, 1) := by decide +kernel
set_option maxRecDepth 20000 in
theorem ggL_flow_X11_flow : GoodIn wsL_flow wsX11_flow := goodIn_ca (goodIn_s _ [(6, 7), (5, 1), (13, 89)] rfl (by decide +kernel)) (goodIn_sub (fun _ h => List.mem_cons_of_mem _ (List.mem_append_right _ h)) (by decide +kernel))
set_option maxRecDepth 20000 in
theorem gL_flow_X11_flow : GoodIn wsL_flow (wsV RL 46 RX11 yX11_flow wsX11_flow) := goodIn_app (goodIn_of _ (by decide +kernel)) ggL_flow_X11_flow
theorem dL_flow_0 : decode cL_flow 0 = .ok (.aload_n 3, 1) := by decide +kernel
theorem dL_flow_1 : decode cL_flow 1 = .ok (.iconst 0, 1) := by decide +kernel
theorem dL_flow_2 : decode cL_flow 2 = .ok (.aload_n 0, 1) := by decide +kernel
theorem dL_flow_3 : decode cL_flow 3 = .ok (.iload_n 1, 1) := by decide +kernel
theorem dL_flow_4 : decode cL_flow 4 = .ok (.iload_n 2, 1) := by decide +kernel
theorem dL_flow_5 : decode cL_flow 5 = .ok (.invokevirtual 46, 3) := by decide +kernel
theorem dL_flow_8 : decode cL_flow 8 = .ok (.i2l, 1) := by decide +kernel
theorem dL_flow_9 : decode cL_flow 9 = .ok (.lastore, 1) := by decide +kernel
theorem dL_flow_10 : decode cL_flow 10 = .ok (.goto 7, 3) := by decide +kernel
theorem dL_flow_13 : decode cL_flow 13 = .ok (.astore 4, 2) := by decide +kernel
theorem dL_flow_15 : decode cL_flow 15 = .ok (.iconst 1, 1) := by decide +kernel
theorem dL_flow_16 : decode cL_flow 16 = .ok (.ireturn, 1) := by decide +kernel
theorem dL_flow_17 : decode cL_flow 17 = .ok (.iconst 0, 1) := by decide +kernel
theorem dL_flow_18 : decode cL_flow 18 = .ok (.ireturn, 1) := by decide +kernel
set_option maxRecDepth 20000 in
theorem ggL_side_X11_side : GoodIn wsL_side wsX11_side := goodIn_ca (goodIn_s _ [(6, 7), (5, 1), (13, 89)] rfl (by decide +kernel)) (goodIn_sub (fun _ h => List.mem_cons_of_mem _ (List.mem_append_right _ h)) (by decide +kernel))
set_option maxRecDepth 20000 in
theorem gL_side_X11_side : GoodIn wsL_side (wsV RL 49 RX11 yX11_side wsX11_side) := goodIn_app (goodIn_of _ (by decide +kernel)) ggL_side_X11_side
theorem dL_side_0 : decode cL_side 0 = .ok (.aload_n 3, 1) := by decide +kernel
theorem dL_side_1 : decode cL_side 1 = .ok (.iconst 0, 1) := by decide +kernel
theorem dL_side_2 : decode cL_side 2 = .ok (.aload_n 0, 1) := by decide +kernel
theorem dL_side_3 : decode cL_side 3 = .ok (.iload_n 1, 1) := by decide +kernel
theorem dL_side_4 : decode cL_side 4 = .ok (.iload_n 2, 1) := by decide +kernel
theorem dL_side_5 : decode cL_side 5 = .ok (.invokevirtual 49, 3) := by decide +kernel
theorem dL_side_8 : decode cL_side 8 = .ok (.i2l, 1) := by decide +kernel
theorem dL_side_9 : decode cL_side 9 = .ok (.lastore, 1) := by decide +kernel
theorem dL_side_10 : decode cL_side 10 = .ok (.goto 7, 3) := by decide +kernel
theorem dL_side_13 : decode cL_side 13 = .ok (.astore 4, 2) := by decide +kernel
theorem dL_side_15 : decode cL_side 15 = .ok (.iconst 1, 1) := by decide +kernel
theorem dL_side_16 : decode cL_side 16 = .ok (.ireturn, 1) := by decide +kernel
theorem dL_side_17 : decode cL_side 17 = .ok (.iconst 0, 1) := by decide +kernel
theorem dL_side_18 : decode cL_side 18 = .ok (.ireturn, 1) := by decide +kernel
set_option maxRecDepth 20000 in
theorem ggL_partOf_X11_partOf : GoodIn wsL_partOf wsX11_partOf := goodIn_ca (goodIn_s _ [(6, 6), (5, 1), (12, 49)] rfl (by decide +kernel)) (goodIn_sub (fun _ h => List.mem_cons_of_mem _ (List.mem_append_right _ h)) (by decide +kernel))
set_option maxRecDepth 20000 in
theorem gL_partOf_X11_partOf : GoodIn wsL_partOf (wsV RL 52 RX11 yX11_partOf wsX11_partOf) := goodIn_app (goodIn_of _ (by decide +kernel)) ggL_partOf_X11_partOf
theorem dL_partOf_0 : decode cL_partOf 0 = .ok (.aload_n 2, 1) := by decide +kernel
theorem dL_partOf_1 : decode cL_partOf 1 = .ok (.iconst 0, 1) := by decide +kernel
theorem dL_partOf_2 : decode cL_partOf 2 = .ok (.aload_n 0, 1) := by decide +kernel
theorem dL_partOf_3 : decode cL_partOf 3 = .ok (.iload_n 1, 1) := by decide +kernel
theorem dL_partOf_4 : decode cL_partOf 4 = .ok (.invokevirtual 52, 3) := by decide +kernel
theorem dL_partOf_7 : decode cL_partOf 7 = .ok (.i2l, 1) := by decide +kernel
theorem dL_partOf_8 : decode cL_partOf 8 = .ok (.lastore, 1) := by decide +kernel
theorem dL_partOf_9 : decode cL_partOf 9 = .ok (.goto 6, 3) := by decide +kernel
theorem dL_partOf_12 : decode cL_partOf 12 = .ok (.astore_n 3, 1) := by decide +kernel
theorem dL_partOf_13 : decode cL_partOf 13 = .ok (.iconst 1, 1) := by decide +kernel
theorem dL_partOf_14 : decode cL_partOf 14 = .ok (.ireturn, 1) := by decide +kernel
theorem dL_partOf_15 : decode cL_partOf 15 = .ok (.iconst 0, 1) := by decide +kernel
theorem dL_partOf_16 : decode cL_partOf 16 = .ok (.ireturn, 1) := by decide +kernel
set_option maxRecDepth 20000 in
theorem ggL_part_X11_part : GoodIn wsL_part wsX11_part := goodIn_ca (goodIn_ca (goodIn_s _ [(7, 11), (6, 1), (18, 159)] rfl (by decide +kernel)) (goodIn_sub (fun _ h => List.mem_cons_of_mem _ (List.mem_append_left _ (List.mem_append_right _ h))) (by decide +kernel))) (goodIn_sub (fun _ h => List.mem_cons_of_mem _ (List.mem_append_right _ h)) (by decide +kernel))
set_option maxRecDepth 20000 in
theorem gL_part_X11_part : GoodIn wsL_part (wsV RL 55 RX11 yX11_part wsX11_part) := goodIn_app (goodIn_of _ (by decide +kernel)) ggL_part_X11_part
theorem dL_part_0 : decode cL_part 0 = .ok (.aload_n 3, 1) := by decide +kernel
theorem dL_part_1 : decode cL_part 1 = .ok (.iconst 0, 1) := by decide +kernel
theorem dL_part_2 : decode cL_part 2 = .ok (.aload_n 0, 1) := by decide +kernel
theorem dL_part_3 : decode cL_part 3 = .ok (.iload_n 1, 1) := by decide +kernel
theorem dL_part_4 : decode cL_part 4 = .ok (.iload_n 2, 1) := by decide +kernel
theorem dL_part_5 : decode cL_part 5 = .ok (.invokevirtual 55, 3) := by decide +kernel
theorem dL_part_8 : decode cL_part 8 = .ok (.i2l, 1) := by decide +kernel
theorem dL_part_9 : decode cL_part 9 = .ok (.lastore, 1) := by decide +kernel
theorem dL_part_10 : decode cL_part 10 = .ok (.goto 11, 3) := by decide +kernel
theorem dL_part_13 : decode cL_part 13 = .ok (.astore 4, 2) := by decide +kernel
theorem dL_part_15 : decode cL_part 15 = .ok (.iconst 1, 1) := by decide +kernel
theorem dL_part_16 : decode cL_part 16 = .ok (.ireturn, 1) := by decide +kernel
theorem dL_part_17 : decode cL_part 17 = .ok (.astore 4, 2) := by decide +kernel
theorem dL_part_19 : decode cL_part 19 = .ok (.iconst 2, 1) := by decide +kernel
theorem dL_part_20 : decode cL_part 20 = .ok (.ireturn, 1) := by decide +kernel
theorem dL_part_21 : decode cL_part 21 = .ok (.iconst 0, 1) := by decide +kernel
theorem dL_part_22 : decode cL_part 22 = .ok (.ireturn, 1) := by decide +kernel
set_option maxRecDepth 20000 in
theorem ggL_group_X11_group : GoodIn wsL_group wsX11_group := goodIn_ca (goodIn_ca (goodIn_s _ [(7, 12), (6, 1), (19, 130)] rfl (by decide +kernel)) (goodIn_sub (fun _ h => List.mem_cons_of_mem _ (List.mem_append_left _ (List.mem_append_right _ h))) (by decide +kernel))) (goodIn_sub (fun _ h => List.mem_cons_of_mem _ (List.mem_append_right _ h)) (by decide +kernel))
set_option maxRecDepth 20000 in
theorem gL_group_X11_group : GoodIn wsL_group (wsV RL 58 RX11 yX11_group wsX11_group) := goodIn_app (goodIn_of _ (by decide +kernel)) ggL_group_X11_group
theorem dL_group_0 : decode cL_group 0 = .ok (.aload_n 3, 1) := by decide +kernel
theorem dL_group_1 : decode cL_group 1 = .ok (.iconst 0, 1) := by decide +kernel
theorem dL_group_2 : decode cL_group 2 = .ok (.aload_n 0, 1) := by decide +kernel
theorem dL_group_3 : decode cL_group 3 = .ok (.iload_n 1, 1) := by decide +kernel
theorem dL_group_4 : decode cL_group 4 = .ok (.iload_n 2, 1) := by decide +kernel
theorem dL_group_5 : decode cL_group 5 = .ok (.invokevirtual 58, 3) := by decide +kernel
theorem dL_group_8 : decode cL_group 8 = .ok (.i2l, 1) := by decide +kernel
theorem dL_group_9 : decode cL_group 9 = .ok (.lastore, 1) := by decide +kernel
theorem dL_group_10 : decode cL_group 10 = .ok (.goto 11, 3) := by decide +kernel
theorem dL_group_13 : decode cL_group 13 = .ok (.astore 4, 2) := by decide +kernel
theorem dL_group_15 : decode cL_group 15 = .ok (.iconst 1, 1) := by decide +kernel
theorem dL_group_16 : decode cL_group 16 = .ok (.ireturn, 1) := by decide +kernel
theorem dL_group_17 : decode cL_group 17 = .ok (.astore 4, 2) := by decide +kernel
theorem dL_group_19 : decode cL_group 19 = .ok (.iconst 2, 1) := by decide +kernel
theorem dL_group_20 : decode cL_group 20 = .ok (.ireturn, 1) := by decide +kernel
theorem dL_group_21 : decode cL_group 21 = .ok (.iconst 0, 1) := by decide +kernel
theorem dL_group_22 : decode cL_group 22 = .ok (.ireturn, 1) := by decide +kernel
set_option maxRecDepth 20000 in
theorem ggL_groupOf_X11_groupOf : GoodIn wsL_groupOf wsX11_groupOf := goodIn_ca (goodIn_s _ [(6, 6), (5, 1), (12, 55)] rfl (by decide +kernel)) (goodIn_sub (fun _ h => List.mem_cons_of_mem _ (List.mem_append_right _ h)) (by decide +kernel))
set_option maxRecDepth 20000 in
theorem gL_groupOf_X11_groupOf : GoodIn wsL_groupOf (wsV RL 61 RX11 yX11_groupOf wsX11_groupOf) := goodIn_app (goodIn_of _ (by decide +kernel)) ggL_groupOf_X11_groupOf
theorem dL_groupOf_0 : decode cL_groupOf 0 = .ok (.aload_n 2, 1) := by decide +kernel
theorem dL_groupOf_1 : decode cL_groupOf 1 = .ok (.iconst 0, 1) := by decide +kernel
theorem dL_groupOf_2 : decode cL_groupOf 2 = .ok (.aload_n 0, 1) := by decide +kernel
theorem dL_groupOf_3 : decode cL_groupOf 3 = .ok (.iload_n 1, 1) := by decide +kernel
theorem dL_groupOf_4 : decode cL_groupOf 4 = .ok (.invokevirtual 61, 3) := by decide +kernel
theorem dL_groupOf_7 : decode cL_groupOf 7 = .ok (.i2l, 1) := by decide +kernel
theorem dL_groupOf_8 : decode cL_groupOf 8 = .ok (.lastore, 1) := by decide +kernel
theorem dL_groupOf_9 : decode cL_groupOf 9 = .ok (.goto 6, 3) := by decide +kernel
theorem dL_groupOf_12 : decode cL_groupOf 12 = .ok (.astore_n 3, 1) := by decide +kernel
theorem dL_groupOf_13 : decode cL_groupOf 13 = .ok (.iconst 1, 1) := by decide +kernel
theorem dL_groupOf_14 : decode cL_groupOf 14 = .ok (.ireturn, 1) := by decide +kernel
theorem dL_groupOf_15 : decode cL_groupOf 15 = .ok (.iconst 0, 1) := by decide +kernel
theorem dL_groupOf_16 : decode cL_groupOf 16 = .ok (.ireturn, 1) := by decide +kernel
set_option maxRecDepth 20000 in
theorem ggL_mate_X11_mate : GoodIn wsL_mate wsX11_mate := goodIn_ca (goodIn_s _ [(6, 6), (5, 1), (12, 165)] rfl (by decide +kernel)) (goodIn_sub (fun _ h => List.mem_cons_of_mem _ (List.mem_append_right _ h)) (by decide +kernel))
set_option maxRecDepth 20000 in
theorem gL_mate_X11_mate : GoodIn wsL_mate (wsV RL 64 RX11 yX11_mate wsX11_mate) := goodIn_app (goodIn_of _ (by decide +kernel)) ggL_mate_X11_mate
theorem dL_mate_0 : decode cL_mate 0 = .ok (.aload_n 2, 1) := by decide +kernel
theorem dL_mate_1 : decode cL_mate 1 = .ok (.iconst 0, 1) := by decide +kernel
theorem dL_mate_2 : decode cL_mate 2 = .ok (.aload_n 0, 1) := by decide +kernel
theorem dL_mate_3 : decode cL_mate 3 = .ok (.iload_n 1, 1) := by decide +kernel
theorem dL_mate_4 : decode cL_mate 4 = .ok (.invokevirtual 64, 3) := by decide +kernel
theorem dL_mate_7 : decode cL_mate 7 = .ok (.i2l, 1) := by decide +kernel
theorem dL_mate_8 : decode cL_mate 8 = .ok (.lastore, 1) := by decide +kernel
theorem dL_mate_9 : decode cL_mate 9 = .ok (.goto 6, 3) := by decide +kernel
theorem dL_mate_12 : decode cL_mate 12 = .ok (.astore_n 3, 1) := by decide +kernel
theorem dL_mate_13 : decode cL_mate 13 = .ok (.iconst 1, 1) := by decide +kernel
theorem dL_mate_14 : decode cL_mate 14 = .ok (.ireturn, 1) := by decide +kernel
theorem dL_mate_15 : decode cL_mate 15 = .ok (.iconst 0, 1) := by decide +kernel
theorem dL_mate_16 : decode cL_mate 16 = .ok (.ireturn, 1) := by decide +kernel
set_option maxRecDepth 20000 in
theorem ggL_gain_X11_gain : GoodIn wsL_gain wsX11_gain := goodIn_ca (goodIn_s _ [(6, 7), (5, 1), (13, 138)] rfl (by decide +kernel)) (goodIn_sub (fun _ h => List.mem_cons_of_mem _ (List.mem_append_right _ h)) (by decide +kernel))
set_option maxRecDepth 20000 in
theorem gL_gain_X11_gain : GoodIn wsL_gain (wsV RL 67 RX11 yX11_gain wsX11_gain) := goodIn_app (goodIn_of _ (by decide +kernel)) ggL_gain_X11_gain
theorem dL_gain_0 : decode cL_gain 0 = .ok (.aload_n 3, 1) := by decide +kernel
theorem dL_gain_1 : decode cL_gain 1 = .ok (.iconst 0, 1) := by decide +kernel
theorem dL_gain_2 : decode cL_gain 2 = .ok (.aload_n 0, 1) := by decide +kernel
theorem dL_gain_3 : decode cL_gain 3 = .ok (.iload_n 1, 1) := by decide +kernel
theorem dL_gain_4 : decode cL_gain 4 = .ok (.iload_n 2, 1) := by decide +kernel
theorem dL_gain_5 : decode cL_gain 5 = .ok (.invokevirtual 67, 3) := by decide +kernel
theorem dL_gain_8 : decode cL_gain 8 = .ok (.i2l, 1) := by decide +kernel
theorem dL_gain_9 : decode cL_gain 9 = .ok (.lastore, 1) := by decide +kernel
theorem dL_gain_10 : decode cL_gain 10 = .ok (.goto 7, 3) := by decide +kernel
theorem dL_gain_13 : decode cL_gain 13 = .ok (.astore 4, 2) := by decide +kernel
theorem dL_gain_15 : decode cL_gain 15 = .ok (.iconst 1, 1) := by decide +kernel
theorem dL_gain_16 : decode cL_gain 16 = .ok (.ireturn, 1) := by decide +kernel
theorem dL_gain_17 : decode cL_gain 17 = .ok (.iconst 0, 1) := by decide +kernel
theorem dL_gain_18 : decode cL_gain 18 = .ok (.ireturn, 1) := by decide +kernel
set_option maxRecDepth 20000 in
theorem ggL_whyNotMove_X11_whyNotMove : GoodIn wsL_whyNotMove wsX11_whyNotMove := goodIn_ca (goodIn_s _ [(6, 7), (5, 1), (13, 146)] rfl (by decide +kernel)) (goodIn_sub (fun _ h => List.mem_cons_of_mem _ (List.mem_append_right _ h)) (by decide +kernel))
set_option maxRecDepth 20000 in
theorem gL_whyNotMove_X11_whyNotMove : GoodIn wsL_whyNotMove (wsV RL 70 RX11 yX11_whyNotMove wsX11_whyNotMove) := goodIn_app (goodIn_of _ (by decide +kernel)) ggL_whyNotMove_X11_whyNotMove
theorem dL_whyNotMove_0 : decode cL_whyNotMove 0 = .ok (.aload_n 3, 1) := by decide +kernel
theorem dL_whyNotMove_1 : decode cL_whyNotMove 1 = .ok (.iconst 0, 1) := by decide +kernel
theorem dL_whyNotMove_2 : decode cL_whyNotMove 2 = .ok (.aload_n 0, 1) := by decide +kernel
theorem dL_whyNotMove_3 : decode cL_whyNotMove 3 = .ok (.iload_n 1, 1) := by decide +kernel
theorem dL_whyNotMove_4 : decode cL_whyNotMove 4 = .ok (.iload_n 2, 1) := by decide +kernel
theorem dL_whyNotMove_5 : decode cL_whyNotMove 5 = .ok (.invokevirtual 70, 3) := by decide +kernel
theorem dL_whyNotMove_8 : decode cL_whyNotMove 8 = .ok (.i2l, 1) := by decide +kernel
theorem dL_whyNotMove_9 : decode cL_whyNotMove 9 = .ok (.lastore, 1) := by decide +kernel
theorem dL_whyNotMove_10 : decode cL_whyNotMove 10 = .ok (.goto 7, 3) := by decide +kernel
theorem dL_whyNotMove_13 : decode cL_whyNotMove 13 = .ok (.astore 4, 2) := by decide +kernel
theorem dL_whyNotMove_15 : decode cL_whyNotMove 15 = .ok (.iconst 1, 1) := by decide +kernel
theorem dL_whyNotMove_16 : decode cL_whyNotMove 16 = .ok (.ireturn, 1) := by decide +kernel
theorem dL_whyNotMove_17 : decode cL_whyNotMove 17 = .ok (.iconst 0, 1) := by decide +kernel
theorem dL_whyNotMove_18 : decode cL_whyNotMove 18 = .ok (.ireturn, 1) := by decide +kernel
set_option maxRecDepth 20000 in
theorem ggL_debtsIf_X11_debtsIf : GoodIn wsL_debtsIf wsX11_debtsIf := goodIn_ca (goodIn_s _ [(6, 7), (5, 1), (13, 138)] rfl (by decide +kernel)) (goodIn_sub (fun _ h => List.mem_cons_of_mem _ (List.mem_append_right _ h)) (by decide +kernel))
set_option maxRecDepth 20000 in
theorem gL_debtsIf_X11_debtsIf : GoodIn wsL_debtsIf (wsV RL 73 RX11 yX11_debtsIf wsX11_debtsIf) := goodIn_app (goodIn_of _ (by decide +kernel)) ggL_debtsIf_X11_debtsIf
theorem dL_debtsIf_0 : decode cL_debtsIf 0 = .ok (.aload_n 3, 1) := by decide +kernel
theorem dL_debtsIf_1 : decode cL_debtsIf 1 = .ok (.iconst 0, 1) := by decide +kernel
theorem dL_debtsIf_2 : decode cL_debtsIf 2 = .ok (.aload_n 0, 1) := by decide +kernel
theorem dL_debtsIf_3 : decode cL_debtsIf 3 = .ok (.iload_n 1, 1) := by decide +kernel
theorem dL_debtsIf_4 : decode cL_debtsIf 4 = .ok (.iload_n 2, 1) := by decide +kernel
theorem dL_debtsIf_5 : decode cL_debtsIf 5 = .ok (.invokevirtual 73, 3) := by decide +kernel
theorem dL_debtsIf_8 : decode cL_debtsIf 8 = .ok (.i2l, 1) := by decide +kernel
theorem dL_debtsIf_9 : decode cL_debtsIf 9 = .ok (.lastore, 1) := by decide +kernel
theorem dL_debtsIf_10 : decode cL_debtsIf 10 = .ok (.goto 7, 3) := by decide +kernel
theorem dL_debtsIf_13 : decode cL_debtsIf 13 = .ok (.astore 4, 2) := by decide +kernel
theorem dL_debtsIf_15 : decode cL_debtsIf 15 = .ok (.iconst 1, 1) := by decide +kernel
theorem dL_debtsIf_16 : decode cL_debtsIf 16 = .ok (.ireturn, 1) := by decide +kernel
theorem dL_debtsIf_17 : decode cL_debtsIf 17 = .ok (.iconst 0, 1) := by decide +kernel
theorem dL_debtsIf_18 : decode cL_debtsIf 18 = .ok (.ireturn, 1) := by decide +kernel
set_option maxRecDepth 20000 in
theorem ggL_stepsToEnd_X11_stepsToEnd : GoodIn wsL_stepsToEnd wsX11_stepsToEnd := goodIn_ca (goodIn_s _ [(6, 7), (5, 1), (13, 189)] rfl (by decide +kernel)) (goodIn_sub (fun _ h => List.mem_cons_of_mem _ (List.mem_append_right _ h)) (by decide +kernel))
set_option maxRecDepth 20000 in
theorem gL_stepsToEnd_X11_stepsToEnd : GoodIn wsL_stepsToEnd (wsV RL 76 RX11 yX11_stepsToEnd wsX11_stepsToEnd) := goodIn_app (goodIn_of _ (by decide +kernel)) ggL_stepsToEnd_X11_stepsToEnd
theorem dL_stepsToEnd_0 : decode cL_stepsToEnd 0 = .ok (.aload_n 2, 1) := by decide +kernel
theorem dL_stepsToEnd_1 : decode cL_stepsToEnd 1 = .ok (.iconst 0, 1) := by decide +kernel
theorem dL_stepsToEnd_2 : decode cL_stepsToEnd 2 = .ok (.aload_n 0, 1) := by decide +kernel
theorem dL_stepsToEnd_3 : decode cL_stepsToEnd 3 = .ok (.iload_n 1, 1) := by decide +kernel
theorem dL_stepsToEnd_4 : decode cL_stepsToEnd 4 = .ok (.invokevirtual 76, 3) := by decide +kernel
theorem dL_stepsToEnd_7 : decode cL_stepsToEnd 7 = .ok (.i2l, 1) := by decide +kernel
theorem dL_stepsToEnd_8 : decode cL_stepsToEnd 8 = .ok (.lastore, 1) := by decide +kernel
theorem dL_stepsToEnd_9 : decode cL_stepsToEnd 9 = .ok (.goto 6, 3) := by decide +kernel
theorem dL_stepsToEnd_12 : decode cL_stepsToEnd 12 = .ok (.astore_n 3, 1) := by decide +kernel
theorem dL_stepsToEnd_13 : decode cL_stepsToEnd 13 = .ok (.iconst 1, 1) := by decide +kernel
theorem dL_stepsToEnd_14 : decode cL_stepsToEnd 14 = .ok (.ireturn, 1) := by decide +kernel
theorem dL_stepsToEnd_15 : decode cL_stepsToEnd 15 = .ok (.iconst 0, 1) := by decide +kernel
theorem dL_stepsToEnd_16 : decode cL_stepsToEnd 16 = .ok (.ireturn, 1) := by decide +kernel
set_option maxRecDepth 20000 in
theorem ggL_cutBehind_X11_cutBehind : GoodIn wsL_cutBehind wsX11_cutBehind := goodIn_ca (goodIn_s _ [(6, 8), (5, 1), (14, 188)] rfl (by decide +kernel)) (goodIn_sub (fun _ h => List.mem_cons_of_mem _ (List.mem_append_right _ h)) (by decide +kernel))
set_option maxRecDepth 20000 in
theorem gL_cutBehind_X11_cutBehind : GoodIn wsL_cutBehind (wsV RL 79 RX11 yX11_cutBehind wsX11_cutBehind) := goodIn_app (goodIn_of _ (by decide +kernel)) ggL_cutBehind_X11_cutBehind
theorem dL_cutBehind_0 : decode cL_cutBehind 0 = .ok (.aload_n 2, 1) := by decide +kernel
theorem dL_cutBehind_1 : decode cL_cutBehind 1 = .ok (.iconst 0, 1) := by decide +kernel
theorem dL_cutBehind_2 : decode cL_cutBehind 2 = .ok (.aload_n 0, 1) := by decide +kernel
theorem dL_cutBehind_3 : decode cL_cutBehind 3 = .ok (.iload_n 1, 1) := by decide +kernel
theorem dL_cutBehind_4 : decode cL_cutBehind 4 = .ok (.invokevirtual 79, 3) := by decide +kernel
theorem dL_cutBehind_7 : decode cL_cutBehind 7 = .ok (.i2l, 1) := by decide +kernel
theorem dL_cutBehind_8 : decode cL_cutBehind 8 = .ok (.lastore, 1) := by decide +kernel
theorem dL_cutBehind_9 : decode cL_cutBehind 9 = .ok (.goto 6, 3) := by decide +kernel
theorem dL_cutBehind_12 : decode cL_cutBehind 12 = .ok (.astore_n 3, 1) := by decide +kernel
theorem dL_cutBehind_13 : decode cL_cutBehind 13 = .ok (.iconst 1, 1) := by decide +kernel
theorem dL_cutBehind_14 : decode cL_cutBehind 14 = .ok (.ireturn, 1) := by decide +kernel
theorem dL_cutBehind_15 : decode cL_cutBehind 15 = .ok (.iconst 0, 1) := by decide +kernel
theorem dL_cutBehind_16 : decode cL_cutBehind 16 = .ok (.ireturn, 1) := by decide +kernel
set_option maxRecDepth 20000 in
theorem ggL_event_X11_event : GoodIn wsL_event wsX11_event := goodIn_ca (goodIn_ca (goodIn_s _ [(7, 10), (6, 1), (17, 26)] rfl (by decide +kernel)) (goodIn_sub (fun _ h => List.mem_cons_of_mem _ (List.mem_append_left _ (List.mem_append_right _ h))) (by decide +kernel))) (goodIn_sub (fun _ h => List.mem_cons_of_mem _ (List.mem_append_right _ h)) (by decide +kernel))
set_option maxRecDepth 20000 in
theorem gL_event_X11_event : GoodIn wsL_event (wsV RL 82 RX11 yX11_event wsX11_event) := goodIn_app (goodIn_of _ (by decide +kernel)) ggL_event_X11_event
theorem dL_event_0 : decode cL_event 0 = .ok (.aload_n 3, 1) := by decide +kernel
theorem dL_event_1 : decode cL_event 1 = .ok (.iconst 0, 1) := by decide +kernel
theorem dL_event_2 : decode cL_event 2 = .ok (.aload_n 0, 1) := by decide +kernel
theorem dL_event_3 : decode cL_event 3 = .ok (.iload_n 1, 1) := by decide +kernel
theorem dL_event_4 : decode cL_event 4 = .ok (.iload_n 2, 1) := by decide +kernel
theorem dL_event_5 : decode cL_event 5 = .ok (.invokevirtual 82, 3) := by decide +kernel
theorem dL_event_8 : decode cL_event 8 = .ok (.i2l, 1) := by decide +kernel
theorem dL_event_9 : decode cL_event 9 = .ok (.lastore, 1) := by decide +kernel
theorem dL_event_10 : decode cL_event 10 = .ok (.goto 11, 3) := by decide +kernel
theorem dL_event_13 : decode cL_event 13 = .ok (.astore 4, 2) := by decide +kernel
theorem dL_event_15 : decode cL_event 15 = .ok (.iconst 1, 1) := by decide +kernel
theorem dL_event_16 : decode cL_event 16 = .ok (.ireturn, 1) := by decide +kernel
theorem dL_event_17 : decode cL_event 17 = .ok (.astore 4, 2) := by decide +kernel
theorem dL_event_19 : decode cL_event 19 = .ok (.iconst 2, 1) := by decide +kernel
theorem dL_event_20 : decode cL_event 20 = .ok (.ireturn, 1) := by decide +kernel
theorem dL_event_21 : decode cL_event 21 = .ok (.iconst 0, 1) := by decide +kernel
theorem dL_event_22 : decode cL_event 22 = .ok (.ireturn, 1) := by decide +kernel
set_option maxRecDepth 20000 in
theorem ggL_shrink_X11_shrink : GoodIn wsL_shrink wsX11_shrink := goodIn_ca (goodIn_s _ [(6, 8), (5, 1), (14, 213)] rfl (by decide +kernel)) (goodIn_sub (fun _ h => List.mem_cons_of_mem _ (List.mem_append_right _ h)) (by decide +kernel))
set_option maxRecDepth 20000 in
theorem gL_shrink_X11_shrink : GoodIn wsL_shrink (wsV RL 85 RX11 yX11_shrink wsX11_shrink) := goodIn_app (goodIn_of _ (by decide +kernel)) ggL_shrink_X11_shrink
theorem dL_shrink_0 : decode cL_shrink 0 = .ok (.aload_n 1, 1) := by decide +kernel
theorem dL_shrink_1 : decode cL_shrink 1 = .ok (.iconst 0, 1) := by decide +kernel
theorem dL_shrink_2 : decode cL_shrink 2 = .ok (.aload_n 0, 1) := by decide +kernel
theorem dL_shrink_3 : decode cL_shrink 3 = .ok (.invokevirtual 85, 3) := by decide +kernel
theorem dL_shrink_6 : decode cL_shrink 6 = .ok (.i2l, 1) := by decide +kernel
theorem dL_shrink_7 : decode cL_shrink 7 = .ok (.lastore, 1) := by decide +kernel
theorem dL_shrink_8 : decode cL_shrink 8 = .ok (.goto 6, 3) := by decide +kernel
theorem dL_shrink_11 : decode cL_shrink 11 = .ok (.astore_n 2, 1) := by decide +kernel
theorem dL_shrink_12 : decode cL_shrink 12 = .ok (.iconst 1, 1) := by decide +kernel
theorem dL_shrink_13 : decode cL_shrink 13 = .ok (.ireturn, 1) := by decide +kernel
theorem dL_shrink_14 : decode cL_shrink 14 = .ok (.iconst 0, 1) := by decide +kernel
theorem dL_shrink_15 : decode cL_shrink 15 = .ok (.ireturn, 1) := by decide +kernel
set_option maxRecDepth 20000 in
theorem ggL_grow_X11_grow : GoodIn wsL_grow wsX11_grow := goodIn_ca (goodIn_s _ [(6, 35), (5, 1), (41, 40)] rfl (by decide +kernel)) (goodIn_sub (fun _ h => List.mem_cons_of_mem _ (List.mem_append_right _ h)) (by decide +kernel))
set_option maxRecDepth 20000 in
theorem gL_grow_X11_grow : GoodIn wsL_grow (wsV RL 88 RX11 yX11_grow wsX11_grow) := goodIn_app (goodIn_of _ (by decide +kernel)) ggL_grow_X11_grow
theorem dL_grow_0 : decode cL_grow 0 = .ok (.aload_n 1, 1) := by decide +kernel
theorem dL_grow_1 : decode cL_grow 1 = .ok (.iconst 0, 1) := by decide +kernel
theorem dL_grow_2 : decode cL_grow 2 = .ok (.aload_n 0, 1) := by decide +kernel
theorem dL_grow_3 : decode cL_grow 3 = .ok (.invokevirtual 88, 3) := by decide +kernel
theorem dL_grow_6 : decode cL_grow 6 = .ok (.i2l, 1) := by decide +kernel
theorem dL_grow_7 : decode cL_grow 7 = .ok (.lastore, 1) := by decide +kernel
theorem dL_grow_8 : decode cL_grow 8 = .ok (.goto 6, 3) := by decide +kernel
theorem dL_grow_11 : decode cL_grow 11 = .ok (.astore_n 2, 1) := by decide +kernel
theorem dL_grow_12 : decode cL_grow 12 = .ok (.iconst 1, 1) := by decide +kernel
theorem dL_grow_13 : decode cL_grow 13 = .ok (.ireturn, 1) := by decide +kernel
theorem dL_grow_14 : decode cL_grow 14 = .ok (.iconst 0, 1) := by decide +kernel
theorem dL_grow_15 : decode cL_grow 15 = .ok (.ireturn, 1) := by decide +kernel
set_option maxRecDepth 20000 in
theorem ggL_move_X11_move : GoodIn wsL_move wsX11_move := goodIn_ca (goodIn_ca (goodIn_s _ [(7, 8), (6, 1), (15, 219)] rfl (by decide +kernel)) (goodIn_sub (fun _ h => List.mem_cons_of_mem _ (List.mem_append_left _ (List.mem_append_right _ h))) (by decide +kernel))) (goodIn_sub (fun _ h => List.mem_cons_of_mem _ (List.mem_append_right _ h)) (by decide +kernel))
set_option maxRecDepth 20000 in
theorem gL_move_X11_move : GoodIn wsL_move (wsV RL 91 RX11 yX11_move wsX11_move) := goodIn_app (goodIn_of _ (by decide +kernel)) ggL_move_X11_move
theorem dL_move_0 : decode cL_move 0 = .ok (.aload_n 3, 1) := by decide +kernel
theorem dL_move_1 : decode cL_move 1 = .ok (.iconst 0, 1) := by decide +kernel
theorem dL_move_2 : decode cL_move 2 = .ok (.aload_n 0, 1) := by decide +kernel
theorem dL_move_3 : decode cL_move 3 = .ok (.iload_n 1, 1) := by decide +kernel
theorem dL_move_4 : decode cL_move 4 = .ok (.iload_n 2, 1) := by decide +kernel
theorem dL_move_5 : decode cL_move 5 = .ok (.invokevirtual 91, 3) := by decide +kernel
theorem dL_move_8 : decode cL_move 8 = .ok (.i2l, 1) := by decide +kernel
theorem dL_move_9 : decode cL_move 9 = .ok (.lastore, 1) := by decide +kernel
theorem dL_move_10 : decode cL_move 10 = .ok (.goto 11, 3) := by decide +kernel
theorem dL_move_13 : decode cL_move 13 = .ok (.astore 4, 2) := by decide +kernel
theorem dL_move_15 : decode cL_move 15 = .ok (.iconst 1, 1) := by decide +kernel
theorem dL_move_16 : decode cL_move 16 = .ok (.ireturn, 1) := by decide +kernel
theorem dL_move_17 : decode cL_move 17 = .ok (.astore 4, 2) := by decide +kernel
theorem dL_move_19 : decode cL_move 19 = .ok (.iconst 2, 1) := by decide +kernel
theorem dL_move_20 : decode cL_move 20 = .ok (.ireturn, 1) := by decide +kernel
theorem dL_move_21 : decode cL_move 21 = .ok (.iconst 0, 1) := by decide +kernel
theorem dL_move_22 : decode cL_move 22 = .ok (.ireturn, 1) := by decide +kernel
set_option maxRecDepth 20000 in
theorem ggL_steps_X11_steps : GoodIn wsL_steps wsX11_steps := goodIn_ca (goodIn_s _ [(6, 8), (5, 1), (14, 200)] rfl (by decide +kernel)) (goodIn_sub (fun _ h => List.mem_cons_of_mem _ (List.mem_append_right _ h)) (by decide +kernel))
set_option maxRecDepth 20000 in
theorem gL_steps_X11_steps : GoodIn wsL_steps (wsV RL 94 RX11 yX11_steps wsX11_steps) := goodIn_app (goodIn_of _ (by decide +kernel)) ggL_steps_X11_steps
theorem dL_steps_0 : decode cL_steps 0 = .ok (.aload_n 2, 1) := by decide +kernel
theorem dL_steps_1 : decode cL_steps 1 = .ok (.iconst 0, 1) := by decide +kernel
theorem dL_steps_2 : decode cL_steps 2 = .ok (.aload_n 0, 1) := by decide +kernel
theorem dL_steps_3 : decode cL_steps 3 = .ok (.iload_n 1, 1) := by decide +kernel
theorem dL_steps_4 : decode cL_steps 4 = .ok (.invokevirtual 94, 3) := by decide +kernel
theorem dL_steps_7 : decode cL_steps 7 = .ok (.i2l, 1) := by decide +kernel
theorem dL_steps_8 : decode cL_steps 8 = .ok (.lastore, 1) := by decide +kernel
theorem dL_steps_9 : decode cL_steps 9 = .ok (.goto 6, 3) := by decide +kernel
theorem dL_steps_12 : decode cL_steps 12 = .ok (.astore_n 3, 1) := by decide +kernel
theorem dL_steps_13 : decode cL_steps 13 = .ok (.iconst 1, 1) := by decide +kernel
theorem dL_steps_14 : decode cL_steps 14 = .ok (.ireturn, 1) := by decide +kernel
theorem dL_steps_15 : decode cL_steps 15 = .ok (.iconst 0, 1) := by decide +kernel
theorem dL_steps_16 : decode cL_steps 16 = .ok (.ireturn, 1) := by decide +kernel
set_option maxRecDepth 20000 in
theorem ggL_placeBest_X11_placeBest : GoodIn wsL_placeBest wsX11_placeBest := goodIn_ca (goodIn_s _ [(6, 8), (5, 1), (14, 255)] rfl (by decide +kernel)) (goodIn_sub (fun _ h => List.mem_cons_of_mem _ (List.mem_append_right _ h)) (by decide +kernel))
set_option maxRecDepth 20000 in
theorem gL_placeBest_X11_placeBest : GoodIn wsL_placeBest (wsV RL 97 RX11 yX11_placeBest wsX11_placeBest) := goodIn_app (goodIn_of _ (by decide +kernel)) ggL_placeBest_X11_placeBest
theorem dL_placeBest_0 : decode cL_placeBest 0 = .ok (.aload_n 1, 1) := by decide +kernel
theorem dL_placeBest_1 : decode cL_placeBest 1 = .ok (.iconst 0, 1) := by decide +kernel
theorem dL_placeBest_2 : decode cL_placeBest 2 = .ok (.aload_n 0, 1) := by decide +kernel
theorem dL_placeBest_3 : decode cL_placeBest 3 = .ok (.invokevirtual 97, 3) := by decide +kernel
theorem dL_placeBest_6 : decode cL_placeBest 6 = .ok (.i2l, 1) := by decide +kernel
theorem dL_placeBest_7 : decode cL_placeBest 7 = .ok (.lastore, 1) := by decide +kernel
theorem dL_placeBest_8 : decode cL_placeBest 8 = .ok (.goto 6, 3) := by decide +kernel
theorem dL_placeBest_11 : decode cL_placeBest 11 = .ok (.astore_n 2, 1) := by decide +kernel
theorem dL_placeBest_12 : decode cL_placeBest 12 = .ok (.iconst 1, 1) := by decide +kernel
theorem dL_placeBest_13 : decode cL_placeBest 13 = .ok (.ireturn, 1) := by decide +kernel
theorem dL_placeBest_14 : decode cL_placeBest 14 = .ok (.iconst 0, 1) := by decide +kernel
theorem dL_placeBest_15 : decode cL_placeBest 15 = .ok (.ireturn, 1) := by decide +kernel
set_option maxRecDepth 20000 in
theorem ggL_placeApart_X11_placeApart : GoodIn wsL_placeApart wsX11_placeApart := goodIn_ca (goodIn_ca (goodIn_ca (goodIn_s _ [(8, 10), (7, 1), (18, 241)] rfl (by decide +kernel)) (goodIn_sub (fun _ h => List.mem_cons_of_mem _ (List.mem_append_left _ (List.mem_append_left _ (List.mem_append_right _ h)))) (by decide +kernel))) (goodIn_sub (fun _ h => List.mem_cons_of_mem _ (List.mem_append_left _ (List.mem_append_right _ h))) (by decide +kernel))) (goodIn_sub (fun _ h => List.mem_cons_of_mem _ (List.mem_append_right _ h)) (by decide +kernel))
set_option maxRecDepth 20000 in
theorem gL_placeApart_X11_placeApart : GoodIn wsL_placeApart (wsV RL 100 RX11 yX11_placeApart wsX11_placeApart) := goodIn_app (goodIn_of _ (by decide +kernel)) ggL_placeApart_X11_placeApart
theorem dL_placeApart_0 : decode cL_placeApart 0 = .ok (.aload_n 3, 1) := by decide +kernel
theorem dL_placeApart_1 : decode cL_placeApart 1 = .ok (.iconst 0, 1) := by decide +kernel
theorem dL_placeApart_2 : decode cL_placeApart 2 = .ok (.aload_n 0, 1) := by decide +kernel
theorem dL_placeApart_3 : decode cL_placeApart 3 = .ok (.iload_n 1, 1) := by decide +kernel
theorem dL_placeApart_4 : decode cL_placeApart 4 = .ok (.iload_n 2, 1) := by decide +kernel
theorem dL_placeApart_5 : decode cL_placeApart 5 = .ok (.invokevirtual 100, 3) := by decide +kernel
theorem dL_placeApart_8 : decode cL_placeApart 8 = .ok (.i2l, 1) := by decide +kernel
theorem dL_placeApart_9 : decode cL_placeApart 9 = .ok (.lastore, 1) := by decide +kernel
theorem dL_placeApart_10 : decode cL_placeApart 10 = .ok (.goto 15, 3) := by decide +kernel
theorem dL_placeApart_13 : decode cL_placeApart 13 = .ok (.astore 4, 2) := by decide +kernel
theorem dL_placeApart_15 : decode cL_placeApart 15 = .ok (.iconst 1, 1) := by decide +kernel
theorem dL_placeApart_16 : decode cL_placeApart 16 = .ok (.ireturn, 1) := by decide +kernel
theorem dL_placeApart_17 : decode cL_placeApart 17 = .ok (.astore 4, 2) := by decide +kernel
theorem dL_placeApart_19 : decode cL_placeApart 19 = .ok (.iconst 2, 1) := by decide +kernel
theorem dL_placeApart_20 : decode cL_placeApart 20 = .ok (.ireturn, 1) := by decide +kernel
theorem dL_placeApart_21 : decode cL_placeApart 21 = .ok (.astore 4, 2) := by decide +kernel
theorem dL_placeApart_23 : decode cL_placeApart 23 = .ok (.iconst 3, 1) := by decide +kernel
theorem dL_placeApart_24 : decode cL_placeApart 24 = .ok (.ireturn, 1) := by decide +kernel
theorem dL_placeApart_25 : decode cL_placeApart 25 = .ok (.iconst 0, 1) := by decide +kernel
theorem dL_placeApart_26 : decode cL_placeApart 26 = .ok (.ireturn, 1) := by decide +kernel
set_option maxRecDepth 20000 in
theorem ggL_setCredit_X11_setCredit : GoodIn wsL_setCredit wsX11_setCredit := goodIn_ca (goodIn_s _ [(6, 9), (5, 1), (15, 64)] rfl (by decide +kernel)) (goodIn_sub (fun _ h => List.mem_cons_of_mem _ (List.mem_append_right _ h)) (by decide +kernel))
set_option maxRecDepth 20000 in
theorem gL_setCredit_X11_setCredit : GoodIn wsL_setCredit (wsV RL 103 RX11 yX11_setCredit wsX11_setCredit) := goodIn_app (goodIn_of _ (by decide +kernel)) ggL_setCredit_X11_setCredit
theorem dL_setCredit_0 : decode cL_setCredit 0 = .ok (.aload_n 2, 1) := by decide +kernel
theorem dL_setCredit_1 : decode cL_setCredit 1 = .ok (.iconst 0, 1) := by decide +kernel
theorem dL_setCredit_2 : decode cL_setCredit 2 = .ok (.aload_n 0, 1) := by decide +kernel
theorem dL_setCredit_3 : decode cL_setCredit 3 = .ok (.iload_n 1, 1) := by decide +kernel
theorem dL_setCredit_4 : decode cL_setCredit 4 = .ok (.invokevirtual 103, 3) := by decide +kernel
theorem dL_setCredit_7 : decode cL_setCredit 7 = .ok (.i2l, 1) := by decide +kernel
theorem dL_setCredit_8 : decode cL_setCredit 8 = .ok (.lastore, 1) := by decide +kernel
theorem dL_setCredit_9 : decode cL_setCredit 9 = .ok (.goto 6, 3) := by decide +kernel
theorem dL_setCredit_12 : decode cL_setCredit 12 = .ok (.astore_n 3, 1) := by decide +kernel
theorem dL_setCredit_13 : decode cL_setCredit 13 = .ok (.iconst 1, 1) := by decide +kernel
theorem dL_setCredit_14 : decode cL_setCredit 14 = .ok (.ireturn, 1) := by decide +kernel
theorem dL_setCredit_15 : decode cL_setCredit 15 = .ok (.iconst 0, 1) := by decide +kernel
theorem dL_setCredit_16 : decode cL_setCredit 16 = .ok (.ireturn, 1) := by decide +kernel
set_option maxRecDepth 20000 in
theorem ggL_reportByte_X11_reportByte : GoodIn wsL_reportByte wsX11_reportByte := goodIn_ca (goodIn_s _ [(6, 7), (5, 1), (13, 19)] rfl (by decide +kernel)) (goodIn_sub (fun _ h => List.mem_cons_of_mem _ (List.mem_append_right _ h)) (by decide +kernel))
set_option maxRecDepth 20000 in
theorem gL_reportByte_X11_reportByte : GoodIn wsL_reportByte (wsV RL 106 RX11 yX11_reportByte wsX11_reportByte) := goodIn_app (goodIn_of _ (by decide +kernel)) ggL_reportByte_X11_reportByte
theorem dL_reportByte_0 : decode cL_reportByte 0 = .ok (.aload_n 2, 1) := by decide +kernel
theorem dL_reportByte_1 : decode cL_reportByte 1 = .ok (.iconst 0, 1) := by decide +kernel
theorem dL_reportByte_2 : decode cL_reportByte 2 = .ok (.aload_n 0, 1) := by decide +kernel
theorem dL_reportByte_3 : decode cL_reportByte 3 = .ok (.iload_n 1, 1) := by decide +kernel
theorem dL_reportByte_4 : decode cL_reportByte 4 = .ok (.invokevirtual 106, 3) := by decide +kernel
theorem dL_reportByte_7 : decode cL_reportByte 7 = .ok (.i2l, 1) := by decide +kernel
theorem dL_reportByte_8 : decode cL_reportByte 8 = .ok (.lastore, 1) := by decide +kernel
theorem dL_reportByte_9 : decode cL_reportByte 9 = .ok (.goto 6, 3) := by decide +kernel
theorem dL_reportByte_12 : decode cL_reportByte 12 = .ok (.astore_n 3, 1) := by decide +kernel
theorem dL_reportByte_13 : decode cL_reportByte 13 = .ok (.iconst 1, 1) := by decide +kernel
theorem dL_reportByte_14 : decode cL_reportByte 14 = .ok (.ireturn, 1) := by decide +kernel
theorem dL_reportByte_15 : decode cL_reportByte 15 = .ok (.iconst 0, 1) := by decide +kernel
theorem dL_reportByte_16 : decode cL_reportByte 16 = .ok (.ireturn, 1) := by decide +kernel
set_option maxRecDepth 20000 in
theorem ggL_restore_X11_restore : GoodIn wsL_restore wsX11_restore := goodIn_ca (goodIn_s _ [(6, 31), (5, 1), (37, 143)] rfl (by decide +kernel)) (goodIn_sub (fun _ h => List.mem_cons_of_mem _ (List.mem_append_right _ h)) (by decide +kernel))
set_option maxRecDepth 20000 in
theorem gL_restore_X11_restore : GoodIn wsL_restore (wsV RL 109 RX11 yX11_restore wsX11_restore) := goodIn_app (goodIn_of _ (by decide +kernel)) ggL_restore_X11_restore
theorem dL_restore_0 : decode cL_restore 0 = .ok (.aload_n 1, 1) := by decide +kernel
theorem dL_restore_1 : decode cL_restore 1 = .ok (.iconst 0, 1) := by decide +kernel
theorem dL_restore_2 : decode cL_restore 2 = .ok (.aload_n 0, 1) := by decide +kernel
theorem dL_restore_3 : decode cL_restore 3 = .ok (.invokevirtual 109, 3) := by decide +kernel
theorem dL_restore_6 : decode cL_restore 6 = .ok (.i2l, 1) := by decide +kernel
theorem dL_restore_7 : decode cL_restore 7 = .ok (.lastore, 1) := by decide +kernel
theorem dL_restore_8 : decode cL_restore 8 = .ok (.goto 6, 3) := by decide +kernel
theorem dL_restore_11 : decode cL_restore 11 = .ok (.astore_n 2, 1) := by decide +kernel
theorem dL_restore_12 : decode cL_restore 12 = .ok (.iconst 1, 1) := by decide +kernel
theorem dL_restore_13 : decode cL_restore 13 = .ok (.ireturn, 1) := by decide +kernel
theorem dL_restore_14 : decode cL_restore 14 = .ok (.iconst 0, 1) := by decide +kernel
theorem dL_restore_15 : decode cL_restore 15 = .ok (.ireturn, 1) := by decide +kernel
