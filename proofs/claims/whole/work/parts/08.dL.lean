set_option maxRecDepth 20000 in
theorem ggL_setClimate_X3_setClimate : GoodIn wsL_setClimate wsX3_setClimate := goodIn_ca (goodIn_ca (goodIn_r _ [7, 8, 9, 10, 11, 12, 13, 6, 14, 15, 16, 17, 18, 19, 20, 21, 22, 23, 24, 25, 26, 27, 28, 29, 30, 31, 32, 33, 34, 35, 36, 37, 38, 39] (by decide +kernel) (by decide +kernel)) (goodIn_sub (fun _ h => List.mem_cons_of_mem _ (List.mem_append_left _ (List.mem_append_right _ h))) (by decide +kernel))) (goodIn_sub (fun _ h => List.mem_cons_of_mem _ (List.mem_append_right _ h)) (by decide +kernel))
set_option maxRecDepth 20000 in
theorem gL_setClimate_X3_setClimate : GoodIn wsL_setClimate (wsV RL 7 RX3 yX3_setClimate wsX3_setClimate) := goodIn_app (goodIn_of _ (by decide +kernel)) ggL_setClimate_X3_setClimate
theorem dL_setClimate_0 : decode cL_setClimate 0 = .ok (.aload_n 3, 1) := by decide +kernel
theorem dL_setClimate_1 : decode cL_setClimate 1 = .ok (.iconst 0, 1) := by decide +kernel
theorem dL_setClimate_2 : decode cL_setClimate 2 = .ok (.aload_n 0, 1) := by decide +kernel
theorem dL_setClimate_3 : decode cL_setClimate 3 = .ok (.iload_n 1, 1) := by decide +kernel
theorem dL_setClimate_4 : decode cL_setClimate 4 = .ok (.iload_n 2, 1) := by decide +kernel
theorem dL_setClimate_5 : decode cL_setClimate 5 = .ok (.invokevirtual 7, 3) := by decide +kernel
theorem dL_setClimate_8 : decode cL_setClimate 8 = .ok (.i2l, 1) := by decide +kernel
theorem dL_setClimate_9 : decode cL_setClimate 9 = .ok (.lastore, 1) := by decide +kernel
theorem dL_setClimate_10 : decode cL_setClimate 10 = .ok (.goto 11, 3) := by decide +kernel
theorem dL_setClimate_13 : decode cL_setClimate 13 = .ok (.astore 4, 2) := by decide +kernel
theorem dL_setClimate_15 : decode cL_setClimate 15 = .ok (.iconst 1, 1) := by decide +kernel
theorem dL_setClimate_16 : decode cL_setClimate 16 = .ok (.ireturn, 1) := by decide +kernel
theorem dL_setClimate_17 : decode cL_setClimate 17 = .ok (.astore 4, 2) := by decide +kernel
theorem dL_setClimate_19 : decode cL_setClimate 19 = .ok (.iconst 2, 1) := by decide +kernel
theorem dL_setClimate_20 : decode cL_setClimate 20 = .ok (.ireturn, 1) := by decide +kernel
theorem dL_setClimate_21 : decode cL_setClimate 21 = .ok (.iconst 0, 1) := by decide +kernel
theorem dL_setClimate_22 : decode cL_setClimate 22 = .ok (.ireturn, 1) := by decide +kernel
set_option maxRecDepth 20000 in
theorem ggL_addBox_X3_addBox : GoodIn wsL_addBox wsX3_addBox := goodIn_ca (goodIn_ca (goodIn_r _ [7, 8, 9, 10, 11, 12, 13, 14, 6, 15, 16, 17, 18, 19, 20, 21, 22, 23, 24, 25, 26, 27, 28, 29, 30, 31, 32, 33, 34, 35, 36, 37, 38, 39, 40] (by decide +kernel) (by decide +kernel)) (goodIn_sub (fun _ h => List.mem_cons_of_mem _ (List.mem_append_left _ (List.mem_append_right _ h))) (by decide +kernel))) (goodIn_sub (fun _ h => List.mem_cons_of_mem _ (List.mem_append_right _ h)) (by decide +kernel))
set_option maxRecDepth 20000 in
theorem gL_addBox_X3_addBox : GoodIn wsL_addBox (wsV RL 17 RX3 yX3_addBox wsX3_addBox) := goodIn_app (goodIn_of _ (by decide +kernel)) ggL_addBox_X3_addBox
theorem dL_addBox_0 : decode cL_addBox 0 = .ok (.aload 4, 2) := by decide +kernel
theorem dL_addBox_2 : decode cL_addBox 2 = .ok (.iconst 0, 1) := by decide +kernel
theorem dL_addBox_3 : decode cL_addBox 3 = .ok (.aload_n 0, 1) := by decide +kernel
theorem dL_addBox_4 : decode cL_addBox 4 = .ok (.iload_n 1, 1) := by decide +kernel
theorem dL_addBox_5 : decode cL_addBox 5 = .ok (.iload_n 2, 1) := by decide +kernel
theorem dL_addBox_6 : decode cL_addBox 6 = .ok (.iload_n 3, 1) := by decide +kernel
theorem dL_addBox_7 : decode cL_addBox 7 = .ok (.invokevirtual 17, 3) := by decide +kernel
theorem dL_addBox_10 : decode cL_addBox 10 = .ok (.i2l, 1) := by decide +kernel
theorem dL_addBox_11 : decode cL_addBox 11 = .ok (.lastore, 1) := by decide +kernel
theorem dL_addBox_12 : decode cL_addBox 12 = .ok (.goto 11, 3) := by decide +kernel
theorem dL_addBox_15 : decode cL_addBox 15 = .ok (.astore 5, 2) := by decide +kernel
theorem dL_addBox_17 : decode cL_addBox 17 = .ok (.iconst 1, 1) := by decide +kernel
theorem dL_addBox_18 : decode cL_addBox 18 = .ok (.ireturn, 1) := by decide +kernel
theorem dL_addBox_19 : decode cL_addBox 19 = .ok (.astore 5, 2) := by decide +kernel
theorem dL_addBox_21 : decode cL_addBox 21 = .ok (.iconst 2, 1) := by decide +kernel
theorem dL_addBox_22 : decode cL_addBox 22 = .ok (.ireturn, 1) := by decide +kernel
theorem dL_addBox_23 : decode cL_addBox 23 = .ok (.iconst 0, 1) := by decide +kernel
theorem dL_addBox_24 : decode cL_addBox 24 = .ok (.ireturn, 1) := by decide +kernel
set_option maxRecDepth 20000 in
theorem ggL_bestSpot_X3_bestSpot : GoodIn wsL_bestSpot wsX3_bestSpot := goodIn_ca (goodIn_ca (goodIn_r _ [7, 8, 9, 10, 11, 6, 12, 13, 14, 15, 16, 17, 18, 19, 20, 21, 22, 23, 24, 25, 26, 27, 28, 29, 30, 31, 32, 33, 34, 35, 36, 37, 38, 39, 40, 41, 42, 43, 44, 45, 46, 47, 48, 49, 50, 51, 52, 53, 54, 55, 56, 57, 58, 59, 60, 61, 62, 63, 64, 65, 66, 67, 68, 69, 70, 71, 72, 73, 74, 75, 76, 77] (by decide +kernel) (by decide +kernel)) (goodIn_sub (fun _ h => List.mem_cons_of_mem _ (List.mem_append_left _ (List.mem_append_right _ h))) (by decide +kernel))) (goodIn_sub (fun _ h => List.mem_cons_of_mem _ (List.mem_append_right _ h)) (by decide +kernel))
set_option maxRecDepth 20000 in
theorem gL_bestSpot_X3_bestSpot : GoodIn wsL_bestSpot (wsV RL 23 RX3 yX3_bestSpot wsX3_bestSpot) := goodIn_app (goodIn_of _ (by decide +kernel)) ggL_bestSpot_X3_bestSpot
theorem dL_bestSpot_0 : decode cL_bestSpot 0 = .ok (.aload_n 2, 1) := by decide +kernel
theorem dL_bestSpot_1 : decode cL_bestSpot 1 = .ok (.iconst 0, 1) := by decide +kernel
theorem dL_bestSpot_2 : decode cL_bestSpot 2 = .ok (.aload_n 0, 1) := by decide +kernel
theorem dL_bestSpot_3 : decode cL_bestSpot 3 = .ok (.iload_n 1, 1) := by decide +kernel
theorem dL_bestSpot_4 : decode cL_bestSpot 4 = .ok (.invokevirtual 23, 3) := by decide +kernel
theorem dL_bestSpot_7 : decode cL_bestSpot 7 = .ok (.i2l, 1) := by decide +kernel
theorem dL_bestSpot_8 : decode cL_bestSpot 8 = .ok (.lastore, 1) := by decide +kernel
theorem dL_bestSpot_9 : decode cL_bestSpot 9 = .ok (.goto 9, 3) := by decide +kernel
theorem dL_bestSpot_12 : decode cL_bestSpot 12 = .ok (.astore_n 3, 1) := by decide +kernel
theorem dL_bestSpot_13 : decode cL_bestSpot 13 = .ok (.iconst 1, 1) := by decide +kernel
theorem dL_bestSpot_14 : decode cL_bestSpot 14 = .ok (.ireturn, 1) := by decide +kernel
theorem dL_bestSpot_15 : decode cL_bestSpot 15 = .ok (.astore_n 3, 1) := by decide +kernel
theorem dL_bestSpot_16 : decode cL_bestSpot 16 = .ok (.iconst 2, 1) := by decide +kernel
theorem dL_bestSpot_17 : decode cL_bestSpot 17 = .ok (.ireturn, 1) := by decide +kernel
theorem dL_bestSpot_18 : decode cL_bestSpot 18 = .ok (.iconst 0, 1) := by decide +kernel
theorem dL_bestSpot_19 : decode cL_bestSpot 19 = .ok (.ireturn, 1) := by decide +kernel
set_option maxRecDepth 20000 in
theorem ggL_lay_X3_lay : GoodIn wsL_lay wsX3_lay := goodIn_ca (goodIn_ca (goodIn_r _ [7, 8, 9, 10, 11, 12, 13, 6, 14, 15, 16, 17, 18, 19, 20, 21, 22, 23, 24, 25, 26, 27, 28, 29, 30, 31, 32, 33, 34, 35, 36, 37, 38, 39, 40, 41, 42, 43, 44, 45, 46, 47, 48, 49, 50, 51, 52, 53, 54, 55, 56, 57, 58, 59, 60, 61, 62, 63, 64, 65, 66, 67, 68, 69, 70, 71, 72, 73, 74, 75, 76, 77, 78, 79, 80, 81] (by decide +kernel) (by decide +kernel)) (goodIn_sub (fun _ h => List.mem_cons_of_mem _ (List.mem_append_left _ (List.mem_append_right _ h))) (by decide +kernel))) (goodIn_sub (fun _ h => List.mem_cons_of_mem _ (List.mem_append_right _ h)) (by decide +kernel))
set_option maxRecDepth 20000 in
theorem gL_lay_X3_lay : GoodIn wsL_lay (wsV RL 27 RX3 yX3_lay wsX3_lay) := goodIn_app (goodIn_of _ (by decide +kernel)) ggL_lay_X3_lay
theorem dL_lay_0 : decode cL_lay 0 = .ok (.aload_n 2, 1) := by decide +kernel
theorem dL_lay_1 : decode cL_lay 1 = .ok (.iconst 0, 1) := by decide +kernel
theorem dL_lay_2 : decode cL_lay 2 = .ok (.aload_n 0, 1) := by decide +kernel
theorem dL_lay_3 : decode cL_lay 3 = .ok (.iload_n 1, 1) := by decide +kernel
theorem dL_lay_4 : decode cL_lay 4 = .ok (.invokevirtual 27, 3) := by decide +kernel
theorem dL_lay_7 : decode cL_lay 7 = .ok (.i2l, 1) := by decide +kernel
theorem dL_lay_8 : decode cL_lay 8 = .ok (.lastore, 1) := by decide +kernel
theorem dL_lay_9 : decode cL_lay 9 = .ok (.goto 9, 3) := by decide +kernel
theorem dL_lay_12 : decode cL_lay 12 = .ok (.astore_n 3, 1) := by decide +kernel
theorem dL_lay_13 : decode cL_lay 13 = .ok (.iconst 1, 1) := by decide +kernel
theorem dL_lay_14 : decode cL_lay 14 = .ok (.ireturn, 1) := by decide +kernel
theorem dL_lay_15 : decode cL_lay 15 = .ok (.astore_n 3, 1) := by decide +kernel
theorem dL_lay_16 : decode cL_lay 16 = .ok (.iconst 2, 1) := by decide +kernel
theorem dL_lay_17 : decode cL_lay 17 = .ok (.ireturn, 1) := by decide +kernel
theorem dL_lay_18 : decode cL_lay 18 = .ok (.iconst 0, 1) := by decide +kernel
theorem dL_lay_19 : decode cL_lay 19 = .ok (.ireturn, 1) := by decide +kernel
set_option maxRecDepth 20000 in
theorem ggL_spotOf_X3_spotOf : GoodIn wsL_spotOf wsX3_spotOf := goodIn_ca (goodIn_r _ [6, 7, 8, 9, 10, 5, 11, 12, 13, 14, 15, 16, 17, 18, 19, 20, 21, 22, 23, 24, 25, 26, 27, 28, 29, 30, 31, 32, 33, 34, 35, 36, 37] (by decide +kernel) (by decide +kernel)) (goodIn_sub (fun _ h => List.mem_cons_of_mem _ (List.mem_append_right _ h)) (by decide +kernel))
set_option maxRecDepth 20000 in
theorem gL_spotOf_X3_spotOf : GoodIn wsL_spotOf (wsV RL 30 RX3 yX3_spotOf wsX3_spotOf) := goodIn_app (goodIn_of _ (by decide +kernel)) ggL_spotOf_X3_spotOf
theorem dL_spotOf_0 : decode cL_spotOf 0 = .ok (.aload_n 2, 1) := by decide +kernel
theorem dL_spotOf_1 : decode cL_spotOf 1 = .ok (.iconst 0, 1) := by decide +kernel
theorem dL_spotOf_2 : decode cL_spotOf 2 = .ok (.aload_n 0, 1) := by decide +kernel
theorem dL_spotOf_3 : decode cL_spotOf 3 = .ok (.iload_n 1, 1) := by decide +kernel
theorem dL_spotOf_4 : decode cL_spotOf 4 = .ok (.invokevirtual 30, 3) := by decide +kernel
theorem dL_spotOf_7 : decode cL_spotOf 7 = .ok (.i2l, 1) := by decide +kernel
theorem dL_spotOf_8 : decode cL_spotOf 8 = .ok (.lastore, 1) := by decide +kernel
theorem dL_spotOf_9 : decode cL_spotOf 9 = .ok (.goto 6, 3) := by decide +kernel
theorem dL_spotOf_12 : decode cL_spotOf 12 = .ok (.astore_n 3, 1) := by decide +kernel
theorem dL_spotOf_13 : decode cL_spotOf 13 = .ok (.iconst 1, 1) := by decide +kernel
theorem dL_spotOf_14 : decode cL_spotOf 14 = .ok (.ireturn, 1) := by decide +kernel
theorem dL_spotOf_15 : decode cL_spotOf 15 = .ok (.iconst 0, 1) := by decide +kernel
theorem dL_spotOf_16 : decode cL_spotOf 16 = .ok (.ireturn, 1) := by decide +kernel
set_option maxRecDepth 20000 in
theorem ggL_boxAt_X3_boxAt : GoodIn wsL_boxAt wsX3_boxAt := goodIn_ca (goodIn_r _ [6, 7, 8, 9, 10, 5, 11, 12, 13, 14, 15, 16, 17, 18, 19, 20, 21, 22, 23, 24, 25, 26, 27, 28, 29, 30, 31, 32, 33, 34, 35, 36, 37, 38, 39, 40, 41, 42] (by decide +kernel) (by decide +kernel)) (goodIn_sub (fun _ h => List.mem_cons_of_mem _ (List.mem_append_right _ h)) (by decide +kernel))
set_option maxRecDepth 20000 in
theorem gL_boxAt_X3_boxAt : GoodIn wsL_boxAt (wsV RL 33 RX3 yX3_boxAt wsX3_boxAt) := goodIn_app (goodIn_of _ (by decide +kernel)) ggL_boxAt_X3_boxAt
theorem dL_boxAt_0 : decode cL_boxAt 0 = .ok (.aload_n 2, 1) := by decide +kernel
theorem dL_boxAt_1 : decode cL_boxAt 1 = .ok (.iconst 0, 1) := by decide +kernel
theorem dL_boxAt_2 : decode cL_boxAt 2 = .ok (.aload_n 0, 1) := by decide +kernel
theorem dL_boxAt_3 : decode cL_boxAt 3 = .ok (.iload_n 1, 1) := by decide +kernel
theorem dL_boxAt_4 : decode cL_boxAt 4 = .ok (.invokevirtual 33, 3) := by decide +kernel
theorem dL_boxAt_7 : decode cL_boxAt 7 = .ok (.i2l, 1) := by decide +kernel
theorem dL_boxAt_8 : decode cL_boxAt 8 = .ok (.lastore, 1) := by decide +kernel
theorem dL_boxAt_9 : decode cL_boxAt 9 = .ok (.goto 6, 3) := by decide +kernel
theorem dL_boxAt_12 : decode cL_boxAt 12 = .ok (.astore_n 3, 1) := by decide +kernel
theorem dL_boxAt_13 : decode cL_boxAt 13 = .ok (.iconst 1, 1) := by decide +kernel
theorem dL_boxAt_14 : decode cL_boxAt 14 = .ok (.ireturn, 1) := by decide +kernel
theorem dL_boxAt_15 : decode cL_boxAt 15 = .ok (.iconst 0, 1) := by decide +kernel
theorem dL_boxAt_16 : decode cL_boxAt 16 = .ok (.ireturn, 1) := by decide +kernel
set_option maxRecDepth 20000 in
theorem ggL_weight_X3_weight : GoodIn wsL_weight wsX3_weight := goodIn_ca (goodIn_r _ [6, 7, 8, 9, 10, 5, 11, 12, 13, 14, 15, 16, 17, 18, 19, 20, 21, 22, 23, 24, 25, 26, 27, 28, 29, 30, 31, 32, 33, 34, 35, 36, 37, 38, 39, 40, 41, 42, 43, 44, 45, 46, 47, 48] (by decide +kernel) (by decide +kernel)) (goodIn_sub (fun _ h => List.mem_cons_of_mem _ (List.mem_append_right _ h)) (by decide +kernel))
set_option maxRecDepth 20000 in
theorem gL_weight_X3_weight : GoodIn wsL_weight (wsV RL 36 RX3 yX3_weight wsX3_weight) := goodIn_app (goodIn_of _ (by decide +kernel)) ggL_weight_X3_weight
theorem dL_weight_0 : decode cL_weight 0 = .ok (.aload_n 2, 1) := by decide +kernel
theorem dL_weight_1 : decode cL_weight 1 = .ok (.iconst 0, 1) := by decide +kernel
theorem dL_weight_2 : decode cL_weight 2 = .ok (.aload_n 0, 1) := by decide +kernel
theorem dL_weight_3 : decode cL_weight 3 = .ok (.iload_n 1, 1) := by decide +kernel
theorem dL_weight_4 : decode cL_weight 4 = .ok (.invokevirtual 36, 3) := by decide +kernel
theorem dL_weight_7 : decode cL_weight 7 = .ok (.i2l, 1) := by decide +kernel
theorem dL_weight_8 : decode cL_weight 8 = .ok (.lastore, 1) := by decide +kernel
theorem dL_weight_9 : decode cL_weight 9 = .ok (.goto 6, 3) := by decide +kernel
theorem dL_weight_12 : decode cL_weight 12 = .ok (.astore_n 3, 1) := by decide +kernel
theorem dL_weight_13 : decode cL_weight 13 = .ok (.iconst 1, 1) := by decide +kernel
theorem dL_weight_14 : decode cL_weight 14 = .ok (.ireturn, 1) := by decide +kernel
theorem dL_weight_15 : decode cL_weight 15 = .ok (.iconst 0, 1) := by decide +kernel
theorem dL_weight_16 : decode cL_weight 16 = .ok (.ireturn, 1) := by decide +kernel
set_option maxRecDepth 20000 in
theorem ggL_open_X3_open : GoodIn wsL_open wsX3_open := goodIn_ca (goodIn_ca (goodIn_r _ [7, 8, 9, 10, 11, 12, 13, 6, 14, 15, 16, 17, 18, 19, 20, 21, 22, 23, 24, 25, 26, 27, 28, 29, 30, 31, 32, 33, 34, 35, 36, 37, 38, 39, 40, 41, 42, 43, 44, 45, 46, 47, 48, 49, 50, 51, 52, 53, 54, 55, 56, 57, 58, 59, 60, 61, 62, 63, 64, 65] (by decide +kernel) (by decide +kernel)) (goodIn_sub (fun _ h => List.mem_cons_of_mem _ (List.mem_append_left _ (List.mem_append_right _ h))) (by decide +kernel))) (goodIn_sub (fun _ h => List.mem_cons_of_mem _ (List.mem_append_right _ h)) (by decide +kernel))
set_option maxRecDepth 20000 in
theorem gL_open_X3_open : GoodIn wsL_open (wsV RL 39 RX3 yX3_open wsX3_open) := goodIn_app (goodIn_of _ (by decide +kernel)) ggL_open_X3_open
theorem dL_open_0 : decode cL_open 0 = .ok (.aload_n 2, 1) := by decide +kernel
theorem dL_open_1 : decode cL_open 1 = .ok (.iconst 0, 1) := by decide +kernel
theorem dL_open_2 : decode cL_open 2 = .ok (.aload_n 0, 1) := by decide +kernel
theorem dL_open_3 : decode cL_open 3 = .ok (.iload_n 1, 1) := by decide +kernel
theorem dL_open_4 : decode cL_open 4 = .ok (.invokevirtual 39, 3) := by decide +kernel
theorem dL_open_7 : decode cL_open 7 = .ok (.i2l, 1) := by decide +kernel
theorem dL_open_8 : decode cL_open 8 = .ok (.lastore, 1) := by decide +kernel
theorem dL_open_9 : decode cL_open 9 = .ok (.goto 9, 3) := by decide +kernel
theorem dL_open_12 : decode cL_open 12 = .ok (.astore_n 3, 1) := by decide +kernel
theorem dL_open_13 : decode cL_open 13 = .ok (.iconst 1, 1) := by decide +kernel
theorem dL_open_14 : decode cL_open 14 = .ok (.ireturn, 1) := by decide +kernel
theorem dL_open_15 : decode cL_open 15 = .ok (.astore_n 3, 1) := by decide +kernel
theorem dL_open_16 : decode cL_open 16 = .ok (.iconst 2, 1) := by decide +kernel
theorem dL_open_17 : decode cL_open 17 = .ok (.ireturn, 1) := by decide +kernel
theorem dL_open_18 : decode cL_open 18 = .ok (.iconst 0, 1) := by decide +kernel
theorem dL_open_19 : decode cL_open 19 = .ok (.ireturn, 1) := by decide +kernel
set_option maxRecDepth 20000 in
theorem ggL_goIn_X3_goIn : GoodIn wsL_goIn wsX3_goIn := goodIn_ca (goodIn_ca (goodIn_r _ [7, 8, 9, 10, 11, 12, 13, 6, 14, 15, 16, 17, 18, 19, 20, 21, 22, 23, 24, 25, 26, 27, 28, 29, 30, 31, 32, 33, 34, 35, 36, 37, 38, 39, 40, 41, 42, 43, 44, 45, 46, 47, 48, 49, 50, 51, 52, 53, 54, 55] (by decide +kernel) (by decide +kernel)) (goodIn_sub (fun _ h => List.mem_cons_of_mem _ (List.mem_append_left _ (List.mem_append_right _ h))) (by decide +kernel))) (goodIn_sub (fun _ h => List.mem_cons_of_mem _ (List.mem_append_right _ h)) (by decide +kernel))
set_option maxRecDepth 20000 in
theorem gL_goIn_X3_goIn : GoodIn wsL_goIn (wsV RL 42 RX3 yX3_goIn wsX3_goIn) := goodIn_app (goodIn_of _ (by decide +kernel)) ggL_goIn_X3_goIn
theorem dL_goIn_0 : decode cL_goIn 0 = .ok (.aload_n 2, 1) := by decide +kernel
theorem dL_goIn_1 : decode cL_goIn 1 = .ok (.iconst 0, 1) := by decide +kernel
theorem dL_goIn_2 : decode cL_goIn 2 = .ok (.aload_n 0, 1) := by decide +kernel
theorem dL_goIn_3 : decode cL_goIn 3 = .ok (.iload_n 1, 1) := by decide +kernel
theorem dL_goIn_4 : decode cL_goIn 4 = .ok (.invokevirtual 42, 3) := by decide +kernel
theorem dL_goIn_7 : decode cL_goIn 7 = .ok (.i2l, 1) := by decide +kernel
theorem dL_goIn_8 : decode cL_goIn 8 = .ok (.lastore, 1) := by decide +kernel
theorem dL_goIn_9 : decode cL_goIn 9 = .ok (.goto 9, 3) := by decide +kernel
theorem dL_goIn_12 : decode cL_goIn 12 = .ok (.astore_n 3, 1) := by decide +kernel
theorem dL_goIn_13 : decode cL_goIn 13 = .ok (.iconst 1, 1) := by decide +kernel
theorem dL_goIn_14 : decode cL_goIn 14 = .ok (.ireturn, 1) := by decide +kernel
theorem dL_goIn_15 : decode cL_goIn 15 = .ok (.astore_n 3, 1) := by decide +kernel
theorem dL_goIn_16 : decode cL_goIn 16 = .ok (.iconst 2, 1) := by decide +kernel
theorem dL_goIn_17 : decode cL_goIn 17 = .ok (.ireturn, 1) := by decide +kernel
theorem dL_goIn_18 : decode cL_goIn 18 = .ok (.iconst 0, 1) := by decide +kernel
theorem dL_goIn_19 : decode cL_goIn 19 = .ok (.ireturn, 1) := by decide +kernel
set_option maxRecDepth 20000 in
theorem ggL_goOut_X3_goOut : GoodIn wsL_goOut wsX3_goOut := goodIn_ca (goodIn_ca (goodIn_r _ [7, 8, 9, 10, 11, 6, 12, 13, 14, 15, 16, 17, 18, 19, 20, 21, 22, 23, 24, 25, 26, 27, 28, 29, 30, 31, 32, 33, 34, 35, 36, 37, 38, 39, 40, 41, 42, 43, 44, 45, 46, 47, 48] (by decide +kernel) (by decide +kernel)) (goodIn_sub (fun _ h => List.mem_cons_of_mem _ (List.mem_append_left _ (List.mem_append_right _ h))) (by decide +kernel))) (goodIn_sub (fun _ h => List.mem_cons_of_mem _ (List.mem_append_right _ h)) (by decide +kernel))
set_option maxRecDepth 20000 in
theorem gL_goOut_X3_goOut : GoodIn wsL_goOut (wsV RL 45 RX3 yX3_goOut wsX3_goOut) := goodIn_app (goodIn_of _ (by decide +kernel)) ggL_goOut_X3_goOut
theorem dL_goOut_0 : decode cL_goOut 0 = .ok (.aload_n 2, 1) := by decide +kernel
theorem dL_goOut_1 : decode cL_goOut 1 = .ok (.iconst 0, 1) := by decide +kernel
theorem dL_goOut_2 : decode cL_goOut 2 = .ok (.aload_n 0, 1) := by decide +kernel
theorem dL_goOut_3 : decode cL_goOut 3 = .ok (.iload_n 1, 1) := by decide +kernel
theorem dL_goOut_4 : decode cL_goOut 4 = .ok (.invokevirtual 45, 3) := by decide +kernel
theorem dL_goOut_7 : decode cL_goOut 7 = .ok (.i2l, 1) := by decide +kernel
theorem dL_goOut_8 : decode cL_goOut 8 = .ok (.lastore, 1) := by decide +kernel
theorem dL_goOut_9 : decode cL_goOut 9 = .ok (.goto 9, 3) := by decide +kernel
theorem dL_goOut_12 : decode cL_goOut 12 = .ok (.astore_n 3, 1) := by decide +kernel
theorem dL_goOut_13 : decode cL_goOut 13 = .ok (.iconst 1, 1) := by decide +kernel
theorem dL_goOut_14 : decode cL_goOut 14 = .ok (.ireturn, 1) := by decide +kernel
theorem dL_goOut_15 : decode cL_goOut 15 = .ok (.astore_n 3, 1) := by decide +kernel
theorem dL_goOut_16 : decode cL_goOut 16 = .ok (.iconst 2, 1) := by decide +kernel
theorem dL_goOut_17 : decode cL_goOut 17 = .ok (.ireturn, 1) := by decide +kernel
theorem dL_goOut_18 : decode cL_goOut 18 = .ok (.iconst 0, 1) := by decide +kernel
theorem dL_goOut_19 : decode cL_goOut 19 = .ok (.ireturn, 1) := by decide +kernel
set_option maxRecDepth 20000 in
theorem ggL_doubt_X3_doubt : GoodIn wsL_doubt wsX3_doubt := goodIn_ca (goodIn_r _ [6, 7, 8, 9, 10, 5, 11, 12, 13, 14, 15, 16, 17, 18, 19, 20, 21, 22, 23, 24, 25, 26, 27, 28, 29, 30, 31, 32, 33, 34, 35, 36, 37] (by decide +kernel) (by decide +kernel)) (goodIn_sub (fun _ h => List.mem_cons_of_mem _ (List.mem_append_right _ h)) (by decide +kernel))
set_option maxRecDepth 20000 in
theorem gL_doubt_X3_doubt : GoodIn wsL_doubt (wsV RL 48 RX3 yX3_doubt wsX3_doubt) := goodIn_app (goodIn_of _ (by decide +kernel)) ggL_doubt_X3_doubt
theorem dL_doubt_0 : decode cL_doubt 0 = .ok (.aload_n 2, 1) := by decide +kernel
theorem dL_doubt_1 : decode cL_doubt 1 = .ok (.iconst 0, 1) := by decide +kernel
theorem dL_doubt_2 : decode cL_doubt 2 = .ok (.aload_n 0, 1) := by decide +kernel
theorem dL_doubt_3 : decode cL_doubt 3 = .ok (.iload_n 1, 1) := by decide +kernel
theorem dL_doubt_4 : decode cL_doubt 4 = .ok (.invokevirtual 48, 3) := by decide +kernel
theorem dL_doubt_7 : decode cL_doubt 7 = .ok (.ifCond .eq 7, 3) := by decide +kernel
theorem dL_doubt_10 : decode cL_doubt 10 = .ok (.lconst 1, 1) := by decide +kernel
theorem dL_doubt_11 : decode cL_doubt 11 = .ok (.goto 4, 3) := by decide +kernel
theorem dL_doubt_14 : decode cL_doubt 14 = .ok (.lconst 0, 1) := by decide +kernel
theorem dL_doubt_15 : decode cL_doubt 15 = .ok (.lastore, 1) := by decide +kernel
theorem dL_doubt_16 : decode cL_doubt 16 = .ok (.goto 6, 3) := by decide +kernel
theorem dL_doubt_19 : decode cL_doubt 19 = .ok (.astore_n 3, 1) := by decide +kernel
theorem dL_doubt_20 : decode cL_doubt 20 = .ok (.iconst 1, 1) := by decide +kernel
theorem dL_doubt_21 : decode cL_doubt 21 = .ok (.ireturn, 1) := by decide +kernel
theorem dL_doubt_22 : decode cL_doubt 22 = .ok (.iconst 0, 1) := by decide +kernel
theorem dL_doubt_23 : decode cL_doubt 23 = .ok (.ireturn, 1) := by decide +kernel
set_option maxRecDepth 20000 in
theorem ggL_look_X3_look : GoodIn wsL_look wsX3_look := goodIn_ca (goodIn_r _ [6, 7, 8, 9, 10, 11, 12, 13, 14, 15, 16, 17, 18, 19, 20, 21, 22, 5, 23, 24, 25, 26, 27, 28, 29, 30, 31, 32, 33, 34, 35, 36, 37, 38] (by decide +kernel) (by decide +kernel)) (goodIn_sub (fun _ h => List.mem_cons_of_mem _ (List.mem_append_right _ h)) (by decide +kernel))
set_option maxRecDepth 20000 in
theorem gL_look_X3_look : GoodIn wsL_look (wsV RL 52 RX3 yX3_look wsX3_look) := goodIn_app (goodIn_of _ (by decide +kernel)) ggL_look_X3_look
theorem dL_look_0 : decode cL_look 0 = .ok (.aload_n 1, 1) := by decide +kernel
theorem dL_look_1 : decode cL_look 1 = .ok (.iconst 0, 1) := by decide +kernel
theorem dL_look_2 : decode cL_look 2 = .ok (.aload_n 0, 1) := by decide +kernel
theorem dL_look_3 : decode cL_look 3 = .ok (.invokevirtual 52, 3) := by decide +kernel
theorem dL_look_6 : decode cL_look 6 = .ok (.ifCond .eq 7, 3) := by decide +kernel
theorem dL_look_9 : decode cL_look 9 = .ok (.lconst 1, 1) := by decide +kernel
theorem dL_look_10 : decode cL_look 10 = .ok (.goto 4, 3) := by decide +kernel
theorem dL_look_13 : decode cL_look 13 = .ok (.lconst 0, 1) := by decide +kernel
theorem dL_look_14 : decode cL_look 14 = .ok (.lastore, 1) := by decide +kernel
theorem dL_look_15 : decode cL_look 15 = .ok (.goto 6, 3) := by decide +kernel
theorem dL_look_18 : decode cL_look 18 = .ok (.astore_n 2, 1) := by decide +kernel
theorem dL_look_19 : decode cL_look 19 = .ok (.iconst 1, 1) := by decide +kernel
theorem dL_look_20 : decode cL_look 20 = .ok (.ireturn, 1) := by decide +kernel
theorem dL_look_21 : decode cL_look 21 = .ok (.iconst 0, 1) := by decide +kernel
theorem dL_look_22 : decode cL_look 22 = .ok (.ireturn, 1) := by decide +kernel
set_option maxRecDepth 20000 in
theorem ggL_pass_X3_pass : GoodIn wsL_pass wsX3_pass := goodIn_ca (goodIn_ca (goodIn_r _ [7, 8, 9, 10, 11, 12, 13, 14, 15, 16, 17, 18, 19, 20, 21, 22, 23, 24, 25, 26, 27, 28, 29, 30, 31, 32, 33, 34, 35, 36, 37, 38, 39, 6, 40, 41, 42, 43, 44, 45, 46, 47, 48, 49, 50, 51] (by decide +kernel) (by decide +kernel)) (goodIn_sub (fun _ h => List.mem_cons_of_mem _ (List.mem_append_left _ (List.mem_append_right _ h))) (by decide +kernel))) (goodIn_sub (fun _ h => List.mem_cons_of_mem _ (List.mem_append_right _ h)) (by decide +kernel))
set_option maxRecDepth 20000 in
theorem gL_pass_X3_pass : GoodIn wsL_pass (wsV RL 56 RX3 yX3_pass wsX3_pass) := goodIn_app (goodIn_of _ (by decide +kernel)) ggL_pass_X3_pass
theorem dL_pass_0 : decode cL_pass 0 = .ok (.aload_n 2, 1) := by decide +kernel
theorem dL_pass_1 : decode cL_pass 1 = .ok (.iconst 0, 1) := by decide +kernel
theorem dL_pass_2 : decode cL_pass 2 = .ok (.aload_n 0, 1) := by decide +kernel
theorem dL_pass_3 : decode cL_pass 3 = .ok (.iload_n 1, 1) := by decide +kernel
theorem dL_pass_4 : decode cL_pass 4 = .ok (.invokevirtual 56, 3) := by decide +kernel
theorem dL_pass_7 : decode cL_pass 7 = .ok (.i2l, 1) := by decide +kernel
theorem dL_pass_8 : decode cL_pass 8 = .ok (.lastore, 1) := by decide +kernel
theorem dL_pass_9 : decode cL_pass 9 = .ok (.goto 9, 3) := by decide +kernel
theorem dL_pass_12 : decode cL_pass 12 = .ok (.astore_n 3, 1) := by decide +kernel
theorem dL_pass_13 : decode cL_pass 13 = .ok (.iconst 1, 1) := by decide +kernel
theorem dL_pass_14 : decode cL_pass 14 = .ok (.ireturn, 1) := by decide +kernel
theorem dL_pass_15 : decode cL_pass 15 = .ok (.astore_n 3, 1) := by decide +kernel
theorem dL_pass_16 : decode cL_pass 16 = .ok (.iconst 2, 1) := by decide +kernel
theorem dL_pass_17 : decode cL_pass 17 = .ok (.ireturn, 1) := by decide +kernel
theorem dL_pass_18 : decode cL_pass 18 = .ok (.iconst 0, 1) := by decide +kernel
theorem dL_pass_19 : decode cL_pass 19 = .ok (.ireturn, 1) := by decide +kernel
set_option maxRecDepth 20000 in
theorem ggL_order_X3_order : GoodIn wsL_order wsX3_order := goodIn_ca (goodIn_ca (goodIn_ca (goodIn_r _ [8, 9, 10, 11, 12, 13, 14, 15, 16, 7, 17, 18, 19, 20, 21, 22, 23, 24, 25, 26, 27, 28, 29, 30, 31, 32, 33, 34, 35, 36, 37, 38, 39, 40, 41, 42, 43, 44, 45, 46, 47, 48, 49, 50, 51, 52, 53, 54, 55, 56, 57, 58, 59, 60, 61] (by decide +kernel) (by decide +kernel)) (goodIn_sub (fun _ h => List.mem_cons_of_mem _ (List.mem_append_left _ (List.mem_append_left _ (List.mem_append_right _ h)))) (by decide +kernel))) (goodIn_sub (fun _ h => List.mem_cons_of_mem _ (List.mem_append_left _ (List.mem_append_right _ h))) (by decide +kernel))) (goodIn_sub (fun _ h => List.mem_cons_of_mem _ (List.mem_append_right _ h)) (by decide +kernel))
set_option maxRecDepth 20000 in
theorem gL_order_X3_order : GoodIn wsL_order (wsV RL 59 RX3 yX3_order wsX3_order) := goodIn_app (goodIn_of _ (by decide +kernel)) ggL_order_X3_order
theorem dL_order_0 : decode cL_order 0 = .ok (.aload_n 3, 1) := by decide +kernel
theorem dL_order_1 : decode cL_order 1 = .ok (.iconst 0, 1) := by decide +kernel
theorem dL_order_2 : decode cL_order 2 = .ok (.aload_n 0, 1) := by decide +kernel
theorem dL_order_3 : decode cL_order 3 = .ok (.iload_n 1, 1) := by decide +kernel
theorem dL_order_4 : decode cL_order 4 = .ok (.iload_n 2, 1) := by decide +kernel
theorem dL_order_5 : decode cL_order 5 = .ok (.invokevirtual 59, 3) := by decide +kernel
theorem dL_order_8 : decode cL_order 8 = .ok (.i2l, 1) := by decide +kernel
theorem dL_order_9 : decode cL_order 9 = .ok (.lastore, 1) := by decide +kernel
theorem dL_order_10 : decode cL_order 10 = .ok (.goto 15, 3) := by decide +kernel
theorem dL_order_13 : decode cL_order 13 = .ok (.astore 4, 2) := by decide +kernel
theorem dL_order_15 : decode cL_order 15 = .ok (.iconst 1, 1) := by decide +kernel
theorem dL_order_16 : decode cL_order 16 = .ok (.ireturn, 1) := by decide +kernel
theorem dL_order_17 : decode cL_order 17 = .ok (.astore 4, 2) := by decide +kernel
theorem dL_order_19 : decode cL_order 19 = .ok (.iconst 2, 1) := by decide +kernel
theorem dL_order_20 : decode cL_order 20 = .ok (.ireturn, 1) := by decide +kernel
theorem dL_order_21 : decode cL_order 21 = .ok (.astore 4, 2) := by decide +kernel
theorem dL_order_23 : decode cL_order 23 = .ok (.iconst 3, 1) := by decide +kernel
theorem dL_order_24 : decode cL_order 24 = .ok (.ireturn, 1) := by decide +kernel
theorem dL_order_25 : decode cL_order 25 = .ok (.iconst 0, 1) := by decide +kernel
theorem dL_order_26 : decode cL_order 26 = .ok (.ireturn, 1) := by decide +kernel
set_option maxRecDepth 20000 in
theorem ggL_fetch_X3_fetch : GoodIn wsL_fetch wsX3_fetch := goodIn_ca (goodIn_ca (goodIn_r _ [7, 8, 9, 10, 11, 12, 13, 14, 15, 16, 6, 17, 18, 19, 20, 21, 22, 23, 24, 25, 26, 27, 28, 29, 30, 31, 32, 33, 34, 35, 36, 37, 38, 39, 40, 41, 42, 43, 44, 45, 46, 47, 48, 49, 50, 51, 52, 53, 54, 55, 56, 57, 58, 59, 60, 61, 62, 63, 64, 65, 66, 67, 68, 69, 70, 71, 72, 73, 74, 75, 76, 77, 78, 79, 80, 81, 82, 83, 84, 85, 86, 87, 88, 89, 90, 91, 92, 93, 94, 95, 96, 97, 98, 99, 100, 101, 102, 103, 104, 105] (by decide +kernel) (by decide +kernel)) (goodIn_sub (fun _ h => List.mem_cons_of_mem _ (List.mem_append_left _ (List.mem_append_right _ h))) (by decide +kernel))) (goodIn_sub (fun _ h => List.mem_cons_of_mem _ (List.mem_append_right _ h)) (by decide +kernel))
set_option maxRecDepth 20000 in
theorem gL_fetch_X3_fetch : GoodIn wsL_fetch (wsV RL 62 RX3 yX3_fetch wsX3_fetch) := goodIn_app (goodIn_of _ (by decide +kernel)) ggL_fetch_X3_fetch
theorem dL_fetch_0 : decode cL_fetch 0 = .ok (.aload_n 2, 1) := by decide +kernel
theorem dL_fetch_1 : decode cL_fetch 1 = .ok (.iconst 0, 1) := by decide +kernel
theorem dL_fetch_2 : decode cL_fetch 2 = .ok (.aload_n 0, 1) := by decide +kernel
theorem dL_fetch_3 : decode cL_fetch 3 = .ok (.iload_n 1, 1) := by decide +kernel
theorem dL_fetch_4 : decode cL_fetch 4 = .ok (.invokevirtual 62, 3) := by decide +kernel
theorem dL_fetch_7 : decode cL_fetch 7 = .ok (.i2l, 1) := by decide +kernel
theorem dL_fetch_8 : decode cL_fetch 8 = .ok (.lastore, 1) := by decide +kernel
theorem dL_fetch_9 : decode cL_fetch 9 = .ok (.goto 9, 3) := by decide +kernel
theorem dL_fetch_12 : decode cL_fetch 12 = .ok (.astore_n 3, 1) := by decide +kernel
theorem dL_fetch_13 : decode cL_fetch 13 = .ok (.iconst 1, 1) := by decide +kernel
theorem dL_fetch_14 : decode cL_fetch 14 = .ok (.ireturn, 1) := by decide +kernel
theorem dL_fetch_15 : decode cL_fetch 15 = .ok (.astore_n 3, 1) := by decide +kernel
theorem dL_fetch_16 : decode cL_fetch 16 = .ok (.iconst 2, 1) := by decide +kernel
theorem dL_fetch_17 : decode cL_fetch 17 = .ok (.ireturn, 1) := by decide +kernel
theorem dL_fetch_18 : decode cL_fetch 18 = .ok (.iconst 0, 1) := by decide +kernel
theorem dL_fetch_19 : decode cL_fetch 19 = .ok (.ireturn, 1) := by decide +kernel
set_option maxRecDepth 20000 in
theorem ggL_giveBack_X3_giveBack : GoodIn wsL_giveBack wsX3_giveBack := goodIn_ca (goodIn_ca (goodIn_r _ [7, 8, 9, 10, 11, 12, 13, 14, 6, 15, 16, 17, 18, 19, 20, 21, 22, 23, 24, 25, 26, 27, 28, 29, 30, 31, 32, 33, 34, 35, 36, 37, 38, 39, 40, 41, 42, 43, 44, 45, 46, 47, 48, 49, 50, 51, 52, 53, 54, 55, 56, 57, 58, 59, 60, 61, 62, 63, 64, 65, 66, 67, 68, 69, 70, 71, 72, 73, 74, 75, 76, 77, 78, 79, 80, 81, 82, 83, 84, 85, 86, 87, 88, 89, 90, 91, 92, 93, 94, 95, 96, 97, 98, 99, 100, 101, 102, 103, 104, 105, 106, 107, 108, 109, 110, 111] (by decide +kernel) (by decide +kernel)) (goodIn_sub (fun _ h => List.mem_cons_of_mem _ (List.mem_append_left _ (List.mem_append_right _ h))) (by decide +kernel))) (goodIn_sub (fun _ h => List.mem_cons_of_mem _ (List.mem_append_right _ h)) (by decide +kernel))
set_option maxRecDepth 20000 in
theorem gL_giveBack_X3_giveBack : GoodIn wsL_giveBack (wsV RL 65 RX3 yX3_giveBack wsX3_giveBack) := goodIn_app (goodIn_of _ (by decide +kernel)) ggL_giveBack_X3_giveBack
theorem dL_giveBack_0 : decode cL_giveBack 0 = .ok (.aload 4, 2) := by decide +kernel
theorem dL_giveBack_2 : decode cL_giveBack 2 = .ok (.iconst 0, 1) := by decide +kernel
theorem dL_giveBack_3 : decode cL_giveBack 3 = .ok (.aload_n 0, 1) := by decide +kernel
theorem dL_giveBack_4 : decode cL_giveBack 4 = .ok (.iload_n 1, 1) := by decide +kernel
theorem dL_giveBack_5 : decode cL_giveBack 5 = .ok (.iload_n 2, 1) := by decide +kernel
theorem dL_giveBack_6 : decode cL_giveBack 6 = .ok (.iload_n 3, 1) := by decide +kernel
theorem dL_giveBack_7 : decode cL_giveBack 7 = .ok (.invokevirtual 65, 3) := by decide +kernel
theorem dL_giveBack_10 : decode cL_giveBack 10 = .ok (.ifCond .eq 7, 3) := by decide +kernel
theorem dL_giveBack_13 : decode cL_giveBack 13 = .ok (.lconst 1, 1) := by decide +kernel
theorem dL_giveBack_14 : decode cL_giveBack 14 = .ok (.goto 4, 3) := by decide +kernel
theorem dL_giveBack_17 : decode cL_giveBack 17 = .ok (.lconst 0, 1) := by decide +kernel
theorem dL_giveBack_18 : decode cL_giveBack 18 = .ok (.lastore, 1) := by decide +kernel
theorem dL_giveBack_19 : decode cL_giveBack 19 = .ok (.goto 11, 3) := by decide +kernel
theorem dL_giveBack_22 : decode cL_giveBack 22 = .ok (.astore 5, 2) := by decide +kernel
theorem dL_giveBack_24 : decode cL_giveBack 24 = .ok (.iconst 1, 1) := by decide +kernel
theorem dL_giveBack_25 : decode cL_giveBack 25 = .ok (.ireturn, 1) := by decide +kernel
theorem dL_giveBack_26 : decode cL_giveBack 26 = .ok (.astore 5, 2) := by decide +kernel
theorem dL_giveBack_28 : decode cL_giveBack 28 = .ok (.iconst 2, 1) := by decide +kernel
theorem dL_giveBack_29 : decode cL_giveBack 29 = .ok (.ireturn, 1) := by decide +kernel
theorem dL_giveBack_30 : decode cL_giveBack 30 = .ok (.iconst 0, 1) := by decide +kernel
theorem dL_giveBack_31 : decode cL_giveBack 31 = .ok (.ireturn, 1) := by decide +kernel
