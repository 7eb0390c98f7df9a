set_option maxRecDepth 20000 in
theorem ggX3_init_X2_init : GoodIn wsX3_init wsX2_init := goodIn_r _ [18, 19, 2, 3, 20, 21, 22, 23, 24, 25, 26, 46, 47, 48, 49, 50, 51] (by decide +kernel) (by decide +kernel)
set_option maxRecDepth 20000 in
theorem gX3_init_X2_init_n11 : GoodIn wsX3_init (wsX2_init) := ggX3_init_X2_init
set_option maxRecDepth 20000 in
theorem ggX3_init_X1_init : GoodIn wsX3_init wsX1_init := goodIn_r _ [28, 29, 2, 3, 30, 31, 32, 20, 33, 34, 35, 36, 37, 56, 57, 58, 59, 60, 61, 62] (by decide +kernel) (by decide +kernel)
set_option maxRecDepth 20000 in
theorem gX3_init_X1_init_n18 : GoodIn wsX3_init (wsX1_init) := ggX3_init_X1_init
set_option maxRecDepth 20000 in
theorem ggX3_init_X0_init : GoodIn wsX3_init wsX0_init := goodIn_r _ [39, 40, 2, 3, 20, 41, 42, 30, 43, 44, 45, 63, 64, 65, 66, 67] (by decide +kernel) (by decide +kernel)
set_option maxRecDepth 20000 in
theorem gX3_init_X0_init_n25 : GoodIn wsX3_init (wsX0_init) := ggX3_init_X0_init
theorem dX3_init_0 : decode cX3_init 0 = .ok (.aload_n 0, 1) := by decide +kernel
theorem dX3_init_1 : decode cX3_init 1 = .ok (.invokespecial 3, 3) := by decide +kernel
theorem dX3_init_4 : decode cX3_init 4 = .ok (.aload_n 0, 1) := by decide +kernel
theorem dX3_init_5 : decode cX3_init 5 = .ok (.new 9, 3) := by decide +kernel
theorem dX3_init_8 : decode cX3_init 8 = .ok (.dup, 1) := by decide +kernel
theorem dX3_init_9 : decode cX3_init 9 = .ok (.invokespecial 11, 3) := by decide +kernel
theorem dX3_init_12 : decode cX3_init 12 = .ok (.putfield 12, 3) := by decide +kernel
theorem dX3_init_15 : decode cX3_init 15 = .ok (.aload_n 0, 1) := by decide +kernel
theorem dX3_init_16 : decode cX3_init 16 = .ok (.new 16, 3) := by decide +kernel
theorem dX3_init_19 : decode cX3_init 19 = .ok (.dup, 1) := by decide +kernel
theorem dX3_init_20 : decode cX3_init 20 = .ok (.invokespecial 18, 3) := by decide +kernel
theorem dX3_init_23 : decode cX3_init 23 = .ok (.putfield 19, 3) := by decide +kernel
theorem dX3_init_26 : decode cX3_init 26 = .ok (.aload_n 0, 1) := by decide +kernel
theorem dX3_init_27 : decode cX3_init 27 = .ok (.new 23, 3) := by decide +kernel
theorem dX3_init_30 : decode cX3_init 30 = .ok (.dup, 1) := by decide +kernel
theorem dX3_init_31 : decode cX3_init 31 = .ok (.invokespecial 25, 3) := by decide +kernel
theorem dX3_init_34 : decode cX3_init 34 = .ok (.putfield 26, 3) := by decide +kernel
theorem dX3_init_37 : decode cX3_init 37 = .ok (.aload_n 0, 1) := by decide +kernel
theorem dX3_init_38 : decode cX3_init 38 = .ok (.iconst 0, 1) := by decide +kernel
theorem dX3_init_39 : decode cX3_init 39 = .ok (.putfield 30, 3) := by decide +kernel
theorem dX3_init_42 : decode cX3_init 42 = .ok (.return_, 1) := by decide +kernel
set_option maxRecDepth 20000 in
theorem ggX3_setClimate_X3_requireShelf : GoodIn wsX3_setClimate wsX3_requireShelf := goodIn_ca (goodIn_r _ [8, 9, 10, 11, 12, 7, 13] (by decide +kernel) (by decide +kernel)) (goodIn_sub (fun _ h => List.mem_cons_of_mem _ (List.mem_append_right _ h)) (by decide +kernel))
set_option maxRecDepth 20000 in
theorem gX3_setClimate_X3_requireShelf : GoodIn wsX3_setClimate (wsV RX3 34 RX3 yX3_requireShelf wsX3_requireShelf) := goodIn_app (goodIn_of _ (by decide +kernel)) ggX3_setClimate_X3_requireShelf
set_option maxRecDepth 20000 in
theorem ggX3_setClimate_X3_isBelow : GoodIn wsX3_setClimate wsX3_isBelow := goodIn_r _ [13] (by decide +kernel) (by decide +kernel)
set_option maxRecDepth 20000 in
theorem gX3_setClimate_X3_isBelow : GoodIn wsX3_setClimate (va_wsS RX3 38 yX3_isBelow wsX3_isBelow) := goodIn_app (goodIn_of _ (by decide +kernel)) ggX3_setClimate_X3_isBelow
set_option maxRecDepth 20000 in
theorem ggX3_setClimate_X2_climateOf : GoodIn wsX3_setClimate wsX2_climateOf := goodIn_r _ [18, 19, 12, 7, 13, 28, 29, 30, 31, 32, 33] (by decide +kernel) (by decide +kernel)
set_option maxRecDepth 20000 in
theorem gX3_setClimate_X2_climateOf : GoodIn wsX3_setClimate (wsV RX3 49 RX2 yX2_climateOf wsX2_climateOf) := goodIn_app (goodIn_of _ (by decide +kernel)) ggX3_setClimate_X2_climateOf
set_option maxRecDepth 20000 in
theorem ggX3_setClimate_X2_changeClimate : GoodIn wsX3_setClimate wsX2_changeClimate := goodIn_r _ [23, 19, 12, 7, 13, 28, 29, 30, 31, 32, 33] (by decide +kernel) (by decide +kernel)
set_option maxRecDepth 20000 in
theorem gX3_setClimate_X2_changeClimate : GoodIn wsX3_setClimate (wsV RX3 53 RX2 yX2_changeClimate wsX2_changeClimate) := goodIn_app (goodIn_of _ (by decide +kernel)) ggX3_setClimate_X2_changeClimate
theorem dX3_setClimate_0 : decode cX3_setClimate 0 = .ok (.aload_n 0, 1) := by decide +kernel
theorem dX3_setClimate_1 : decode cX3_setClimate 1 = .ok (.iload_n 1, 1) := by decide +kernel
theorem dX3_setClimate_2 : decode cX3_setClimate 2 = .ok (.invokevirtual 34, 3) := by decide +kernel
theorem dX3_setClimate_5 : decode cX3_setClimate 5 = .ok (.iload_n 2, 1) := by decide +kernel
theorem dX3_setClimate_6 : decode cX3_setClimate 6 = .ok (.iconst 3, 1) := by decide +kernel
theorem dX3_setClimate_7 : decode cX3_setClimate 7 = .ok (.invokestatic 38, 3) := by decide +kernel
theorem dX3_setClimate_10 : decode cX3_setClimate 10 = .ok (.ifCond .ne 13, 3) := by decide +kernel
theorem dX3_setClimate_13 : decode cX3_setClimate 13 = .ok (.new 42, 3) := by decide +kernel
theorem dX3_setClimate_16 : decode cX3_setClimate 16 = .ok (.dup, 1) := by decide +kernel
theorem dX3_setClimate_17 : decode cX3_setClimate 17 = .ok (.ldc 44, 2) := by decide +kernel
theorem dX3_setClimate_19 : decode cX3_setClimate 19 = .ok (.invokespecial 46, 3) := by decide +kernel
theorem dX3_setClimate_22 : decode cX3_setClimate 22 = .ok (.athrow, 1) := by decide +kernel
theorem dX3_setClimate_23 : decode cX3_setClimate 23 = .ok (.aload_n 0, 1) := by decide +kernel
theorem dX3_setClimate_24 : decode cX3_setClimate 24 = .ok (.getfield 12, 3) := by decide +kernel
theorem dX3_setClimate_27 : decode cX3_setClimate 27 = .ok (.iload_n 1, 1) := by decide +kernel
theorem dX3_setClimate_28 : decode cX3_setClimate 28 = .ok (.invokevirtual 49, 3) := by decide +kernel
theorem dX3_setClimate_31 : decode cX3_setClimate 31 = .ok (.istore_n 3, 1) := by decide +kernel
theorem dX3_setClimate_32 : decode cX3_setClimate 32 = .ok (.aload_n 0, 1) := by decide +kernel
theorem dX3_setClimate_33 : decode cX3_setClimate 33 = .ok (.getfield 12, 3) := by decide +kernel
theorem dX3_setClimate_36 : decode cX3_setClimate 36 = .ok (.iload_n 1, 1) := by decide +kernel
theorem dX3_setClimate_37 : decode cX3_setClimate 37 = .ok (.iload_n 2, 1) := by decide +kernel
theorem dX3_setClimate_38 : decode cX3_setClimate 38 = .ok (.invokevirtual 53, 3) := by decide +kernel
theorem dX3_setClimate_41 : decode cX3_setClimate 41 = .ok (.iload_n 3, 1) := by decide +kernel
theorem dX3_setClimate_42 : decode cX3_setClimate 42 = .ok (.ireturn, 1) := by decide +kernel
set_option maxRecDepth 20000 in
theorem ggX3_addBox_X3_isBelow : GoodIn wsX3_addBox wsX3_isBelow := goodIn_r _ [9] (by decide +kernel) (by decide +kernel)
set_option maxRecDepth 20000 in
theorem gX3_addBox_X3_isBelow : GoodIn wsX3_addBox (va_wsS RX3 38 yX3_isBelow wsX3_isBelow) := goodIn_app (goodIn_of _ (by decide +kernel)) ggX3_addBox_X3_isBelow
set_option maxRecDepth 20000 in
theorem ggX3_addBox_X2_isFull : GoodIn wsX3_addBox wsX2_isFull := goodIn_r _ [14, 15, 29, 30, 31, 32, 33, 34] (by decide +kernel) (by decide +kernel)
set_option maxRecDepth 20000 in
theorem gX3_addBox_X2_isFull : GoodIn wsX3_addBox (wsV RX3 61 RX2 yX2_isFull wsX2_isFull) := goodIn_app (goodIn_of _ (by decide +kernel)) ggX3_addBox_X2_isFull
set_option maxRecDepth 20000 in
theorem ggX3_addBox_X2_enter : GoodIn wsX3_addBox wsX2_enter := goodIn_r _ [19, 15, 20, 21, 22, 23, 24, 11, 12, 13, 14, 29, 30, 31, 32, 33, 34] (by decide +kernel) (by decide +kernel)
set_option maxRecDepth 20000 in
theorem gX3_addBox_X2_enter : GoodIn wsX3_addBox (wsV RX3 70 RX2 yX2_enter wsX2_enter) := goodIn_app (goodIn_of _ (by decide +kernel)) ggX3_addBox_X2_enter
theorem dX3_addBox_0 : decode cX3_addBox 0 = .ok (.iload_n 1, 1) := by decide +kernel
theorem dX3_addBox_1 : decode cX3_addBox 1 = .ok (.iconst 3, 1) := by decide +kernel
theorem dX3_addBox_2 : decode cX3_addBox 2 = .ok (.invokestatic 38, 3) := by decide +kernel
theorem dX3_addBox_5 : decode cX3_addBox 5 = .ok (.ifCond .ne 13, 3) := by decide +kernel
theorem dX3_addBox_8 : decode cX3_addBox 8 = .ok (.new 42, 3) := by decide +kernel
theorem dX3_addBox_11 : decode cX3_addBox 11 = .ok (.dup, 1) := by decide +kernel
theorem dX3_addBox_12 : decode cX3_addBox 12 = .ok (.ldc 44, 2) := by decide +kernel
theorem dX3_addBox_14 : decode cX3_addBox 14 = .ok (.invokespecial 46, 3) := by decide +kernel
theorem dX3_addBox_17 : decode cX3_addBox 17 = .ok (.athrow, 1) := by decide +kernel
theorem dX3_addBox_18 : decode cX3_addBox 18 = .ok (.iload_n 2, 1) := by decide +kernel
theorem dX3_addBox_19 : decode cX3_addBox 19 = .ok (.iconst 1, 1) := by decide +kernel
theorem dX3_addBox_20 : decode cX3_addBox 20 = .ok (.if_icmp .lt 9, 3) := by decide +kernel
theorem dX3_addBox_23 : decode cX3_addBox 23 = .ok (.iload_n 2, 1) := by decide +kernel
theorem dX3_addBox_24 : decode cX3_addBox 24 = .ok (.bipush 60, 2) := by decide +kernel
theorem dX3_addBox_26 : decode cX3_addBox 26 = .ok (.if_icmp .le 13, 3) := by decide +kernel
theorem dX3_addBox_29 : decode cX3_addBox 29 = .ok (.new 42, 3) := by decide +kernel
theorem dX3_addBox_32 : decode cX3_addBox 32 = .ok (.dup, 1) := by decide +kernel
theorem dX3_addBox_33 : decode cX3_addBox 33 = .ok (.ldc 57, 2) := by decide +kernel
theorem dX3_addBox_35 : decode cX3_addBox 35 = .ok (.invokespecial 46, 3) := by decide +kernel
theorem dX3_addBox_38 : decode cX3_addBox 38 = .ok (.athrow, 1) := by decide +kernel
theorem dX3_addBox_39 : decode cX3_addBox 39 = .ok (.iload_n 3, 1) := by decide +kernel
theorem dX3_addBox_40 : decode cX3_addBox 40 = .ok (.bipush 10, 2) := by decide +kernel
theorem dX3_addBox_42 : decode cX3_addBox 42 = .ok (.invokestatic 38, 3) := by decide +kernel
theorem dX3_addBox_45 : decode cX3_addBox 45 = .ok (.ifCond .ne 13, 3) := by decide +kernel
theorem dX3_addBox_48 : decode cX3_addBox 48 = .ok (.new 42, 3) := by decide +kernel
theorem dX3_addBox_51 : decode cX3_addBox 51 = .ok (.dup, 1) := by decide +kernel
theorem dX3_addBox_52 : decode cX3_addBox 52 = .ok (.ldc 59, 2) := by decide +kernel
theorem dX3_addBox_54 : decode cX3_addBox 54 = .ok (.invokespecial 46, 3) := by decide +kernel
theorem dX3_addBox_57 : decode cX3_addBox 57 = .ok (.athrow, 1) := by decide +kernel
theorem dX3_addBox_58 : decode cX3_addBox 58 = .ok (.aload_n 0, 1) := by decide +kernel
theorem dX3_addBox_59 : decode cX3_addBox 59 = .ok (.getfield 12, 3) := by decide +kernel
theorem dX3_addBox_62 : decode cX3_addBox 62 = .ok (.invokevirtual 61, 3) := by decide +kernel
theorem dX3_addBox_65 : decode cX3_addBox 65 = .ok (.ifCond .eq 13, 3) := by decide +kernel
theorem dX3_addBox_68 : decode cX3_addBox 68 = .ok (.new 65, 3) := by decide +kernel
theorem dX3_addBox_71 : decode cX3_addBox 71 = .ok (.dup, 1) := by decide +kernel
theorem dX3_addBox_72 : decode cX3_addBox 72 = .ok (.ldc 67, 2) := by decide +kernel
theorem dX3_addBox_74 : decode cX3_addBox 74 = .ok (.invokespecial 69, 3) := by decide +kernel
theorem dX3_addBox_77 : decode cX3_addBox 77 = .ok (.athrow, 1) := by decide +kernel
theorem dX3_addBox_78 : decode cX3_addBox 78 = .ok (.aload_n 0, 1) := by decide +kernel
theorem dX3_addBox_79 : decode cX3_addBox 79 = .ok (.getfield 12, 3) := by decide +kernel
theorem dX3_addBox_82 : decode cX3_addBox 82 = .ok (.iload_n 1, 1) := by decide +kernel
theorem dX3_addBox_83 : decode cX3_addBox 83 = .ok (.iload_n 2, 1) := by decide +kernel
theorem dX3_addBox_84 : decode cX3_addBox 84 = .ok (.iload_n 3, 1) := by decide +kernel
theorem dX3_addBox_85 : decode cX3_addBox 85 = .ok (.invokevirtual 70, 3) := by decide +kernel
theorem dX3_addBox_88 : decode cX3_addBox 88 = .ok (.ireturn, 1) := by decide +kernel
set_option maxRecDepth 20000 in
theorem ggX3_bestSpot_X3_requireBox : GoodIn wsX3_bestSpot wsX3_requireBox := goodIn_ca (goodIn_r _ [6, 7, 8, 1, 9, 10, 11, 12, 13, 14, 15, 5, 16, 62, 63, 64, 65, 66, 67, 68, 69, 70, 71] (by decide +kernel) (by decide +kernel)) (goodIn_sub (fun _ h => List.mem_cons_of_mem _ (List.mem_append_left _ (List.mem_append_right _ h))) (by decide +kernel))
set_option maxRecDepth 20000 in
theorem gX3_bestSpot_X3_requireBox : GoodIn wsX3_bestSpot (wsV RX3 74 RX3 yX3_requireBox wsX3_requireBox) := goodIn_app (goodIn_of _ (by decide +kernel)) ggX3_bestSpot_X3_requireBox
set_option maxRecDepth 20000 in
theorem ggX3_bestSpot_X3_requireOut : GoodIn wsX3_bestSpot wsX3_requireOut := goodIn_ca (goodIn_r _ [20, 21, 22, 1, 23, 24, 25, 12, 26, 27, 28, 10, 11, 13, 14, 15, 5, 16, 62, 63, 64, 65, 66, 67, 68, 69, 70, 71] (by decide +kernel) (by decide +kernel)) (goodIn_sub (fun _ h => List.mem_cons_of_mem _ (List.mem_append_right _ h)) (by decide +kernel))
set_option maxRecDepth 20000 in
theorem gX3_bestSpot_X3_requireOut : GoodIn wsX3_bestSpot (wsV RX3 77 RX3 yX3_requireOut wsX3_requireOut) := goodIn_app (goodIn_of _ (by decide +kernel)) ggX3_bestSpot_X3_requireOut
set_option maxRecDepth 20000 in
theorem ggX3_bestSpot_X2_bestSpotFor : GoodIn wsX3_bestSpot wsX2_bestSpotFor := goodIn_r _ [32, 33, 34, 35, 36, 28, 10, 11, 12, 13, 14, 15, 5, 16, 37, 38, 39, 40, 41, 42, 43, 44, 45, 24, 25, 26, 27, 46, 47, 48, 49, 50, 51, 52, 53, 54, 55, 56, 57, 58, 59, 60, 61, 66, 67, 68, 69, 70, 71] (by decide +kernel) (by decide +kernel)
set_option maxRecDepth 20000 in
theorem gX3_bestSpot_X2_bestSpotFor : GoodIn wsX3_bestSpot (wsV RX3 80 RX2 yX2_bestSpotFor wsX2_bestSpotFor) := goodIn_app (goodIn_of _ (by decide +kernel)) ggX3_bestSpot_X2_bestSpotFor
theorem dX3_bestSpot_0 : decode cX3_bestSpot 0 = .ok (.aload_n 0, 1) := by decide +kernel
theorem dX3_bestSpot_1 : decode cX3_bestSpot 1 = .ok (.iload_n 1, 1) := by decide +kernel
theorem dX3_bestSpot_2 : decode cX3_bestSpot 2 = .ok (.invokevirtual 74, 3) := by decide +kernel
theorem dX3_bestSpot_5 : decode cX3_bestSpot 5 = .ok (.aload_n 0, 1) := by decide +kernel
theorem dX3_bestSpot_6 : decode cX3_bestSpot 6 = .ok (.iload_n 1, 1) := by decide +kernel
theorem dX3_bestSpot_7 : decode cX3_bestSpot 7 = .ok (.invokevirtual 77, 3) := by decide +kernel
theorem dX3_bestSpot_10 : decode cX3_bestSpot 10 = .ok (.aload_n 0, 1) := by decide +kernel
theorem dX3_bestSpot_11 : decode cX3_bestSpot 11 = .ok (.getfield 12, 3) := by decide +kernel
theorem dX3_bestSpot_14 : decode cX3_bestSpot 14 = .ok (.iload_n 1, 1) := by decide +kernel
theorem dX3_bestSpot_15 : decode cX3_bestSpot 15 = .ok (.invokevirtual 80, 3) := by decide +kernel
theorem dX3_bestSpot_18 : decode cX3_bestSpot 18 = .ok (.ireturn, 1) := by decide +kernel
set_option maxRecDepth 20000 in
theorem ggX3_lay_X3_requireBox : GoodIn wsX3_lay wsX3_requireBox := goodIn_ca (goodIn_r _ [8, 9, 10, 3, 11, 12, 13, 14, 15, 16, 17, 7, 18, 66, 67, 68, 69, 70, 71, 72, 73, 74, 75] (by decide +kernel) (by decide +kernel)) (goodIn_sub (fun _ h => List.mem_cons_of_mem _ (List.mem_append_right _ h)) (by decide +kernel))
set_option maxRecDepth 20000 in
theorem gX3_lay_X3_requireBox : GoodIn wsX3_lay (wsV RX3 74 RX3 yX3_requireBox wsX3_requireBox) := goodIn_app (goodIn_of _ (by decide +kernel)) ggX3_lay_X3_requireBox
set_option maxRecDepth 20000 in
theorem ggX3_lay_X3_requireOut : GoodIn wsX3_lay wsX3_requireOut := goodIn_ca (goodIn_r _ [22, 1, 2, 3, 23, 24, 25, 14, 26, 27, 28, 12, 13, 15, 16, 17, 7, 18, 66, 67, 68, 69, 70, 71, 72, 73, 74, 75] (by decide +kernel) (by decide +kernel)) (goodIn_sub (fun _ h => List.mem_cons_of_mem _ (List.mem_append_left _ (List.mem_append_right _ h))) (by decide +kernel))
set_option maxRecDepth 20000 in
theorem gX3_lay_X3_requireOut : GoodIn wsX3_lay (wsV RX3 77 RX3 yX3_requireOut wsX3_requireOut) := goodIn_app (goodIn_of _ (by decide +kernel)) ggX3_lay_X3_requireOut
set_option maxRecDepth 20000 in
theorem ggX3_lay_X2_bestSpotFor : GoodIn wsX3_lay wsX2_bestSpotFor := goodIn_r _ [32, 33, 34, 35, 36, 28, 12, 13, 14, 15, 16, 17, 7, 18, 37, 38, 39, 40, 41, 42, 43, 44, 45, 24, 25, 26, 27, 46, 47, 48, 49, 50, 51, 52, 53, 54, 55, 56, 57, 58, 59, 60, 61, 70, 71, 72, 73, 74, 75] (by decide +kernel) (by decide +kernel)
set_option maxRecDepth 20000 in
theorem gX3_lay_X2_bestSpotFor : GoodIn wsX3_lay (wsV RX3 80 RX2 yX2_bestSpotFor wsX2_bestSpotFor) := goodIn_app (goodIn_of _ (by decide +kernel)) ggX3_lay_X2_bestSpotFor
set_option maxRecDepth 20000 in
theorem ggX3_lay_X2_put : GoodIn wsX3_lay wsX2_put := goodIn_r _ [65, 27, 28, 12, 13, 14, 15, 16, 17, 7, 18, 70, 71, 72, 73, 74, 75] (by decide +kernel) (by decide +kernel)
set_option maxRecDepth 20000 in
theorem gX3_lay_X2_put : GoodIn wsX3_lay (wsV RX3 85 RX2 yX2_put wsX2_put) := goodIn_app (goodIn_of _ (by decide +kernel)) ggX3_lay_X2_put
theorem dX3_lay_0 : decode cX3_lay 0 = .ok (.aload_n 0, 1) := by decide +kernel
theorem dX3_lay_1 : decode cX3_lay 1 = .ok (.iload_n 1, 1) := by decide +kernel
theorem dX3_lay_2 : decode cX3_lay 2 = .ok (.invokevirtual 74, 3) := by decide +kernel
theorem dX3_lay_5 : decode cX3_lay 5 = .ok (.aload_n 0, 1) := by decide +kernel
theorem dX3_lay_6 : decode cX3_lay 6 = .ok (.iload_n 1, 1) := by decide +kernel
theorem dX3_lay_7 : decode cX3_lay 7 = .ok (.invokevirtual 77, 3) := by decide +kernel
theorem dX3_lay_10 : decode cX3_lay 10 = .ok (.aload_n 0, 1) := by decide +kernel
theorem dX3_lay_11 : decode cX3_lay 11 = .ok (.getfield 12, 3) := by decide +kernel
theorem dX3_lay_14 : decode cX3_lay 14 = .ok (.iload_n 1, 1) := by decide +kernel
theorem dX3_lay_15 : decode cX3_lay 15 = .ok (.invokevirtual 80, 3) := by decide +kernel
theorem dX3_lay_18 : decode cX3_lay 18 = .ok (.istore_n 2, 1) := by decide +kernel
theorem dX3_lay_19 : decode cX3_lay 19 = .ok (.iload_n 2, 1) := by decide +kernel
theorem dX3_lay_20 : decode cX3_lay 20 = .ok (.iconst (-1), 1) := by decide +kernel
theorem dX3_lay_21 : decode cX3_lay 21 = .ok (.if_icmp .ne 13, 3) := by decide +kernel
theorem dX3_lay_24 : decode cX3_lay 24 = .ok (.new 65, 3) := by decide +kernel
theorem dX3_lay_27 : decode cX3_lay 27 = .ok (.dup, 1) := by decide +kernel
theorem dX3_lay_28 : decode cX3_lay 28 = .ok (.ldc 83, 2) := by decide +kernel
theorem dX3_lay_30 : decode cX3_lay 30 = .ok (.invokespecial 69, 3) := by decide +kernel
theorem dX3_lay_33 : decode cX3_lay 33 = .ok (.athrow, 1) := by decide +kernel
theorem dX3_lay_34 : decode cX3_lay 34 = .ok (.aload_n 0, 1) := by decide +kernel
theorem dX3_lay_35 : decode cX3_lay 35 = .ok (.getfield 12, 3) := by decide +kernel
theorem dX3_lay_38 : decode cX3_lay 38 = .ok (.iload_n 1, 1) := by decide +kernel
theorem dX3_lay_39 : decode cX3_lay 39 = .ok (.iload_n 2, 1) := by decide +kernel
theorem dX3_lay_40 : decode cX3_lay 40 = .ok (.invokevirtual 85, 3) := by decide +kernel
theorem dX3_lay_43 : decode cX3_lay 43 = .ok (.iload_n 2, 1) := by decide +kernel
theorem dX3_lay_44 : decode cX3_lay 44 = .ok (.ireturn, 1) := by decide +kernel
set_option maxRecDepth 20000 in
theorem ggX3_spotOf_X3_requireBox : GoodIn wsX3_spotOf wsX3_requireBox := goodIn_ca (goodIn_r _ [6, 7, 8, 1, 9, 10, 11, 12, 13, 14, 15, 5, 16, 23, 24, 25, 26, 27, 28, 29, 30, 31, 32] (by decide +kernel) (by decide +kernel)) (goodIn_sub (fun _ h => List.mem_cons_of_mem _ (List.mem_append_right _ h)) (by decide +kernel))
set_option maxRecDepth 20000 in
theorem gX3_spotOf_X3_requireBox : GoodIn wsX3_spotOf (wsV RX3 74 RX3 yX3_requireBox wsX3_requireBox) := goodIn_app (goodIn_of _ (by decide +kernel)) ggX3_spotOf_X3_requireBox
set_option maxRecDepth 20000 in
theorem ggX3_spotOf_X2_whereIs : GoodIn wsX3_spotOf wsX2_whereIs := goodIn_r _ [20, 21, 22, 10, 11, 12, 13, 14, 15, 5, 16, 27, 28, 29, 30, 31, 32] (by decide +kernel) (by decide +kernel)
set_option maxRecDepth 20000 in
theorem gX3_spotOf_X2_whereIs : GoodIn wsX3_spotOf (wsV RX3 88 RX2 yX2_whereIs wsX2_whereIs) := goodIn_app (goodIn_of _ (by decide +kernel)) ggX3_spotOf_X2_whereIs
theorem dX3_spotOf_0 : decode cX3_spotOf 0 = .ok (.aload_n 0, 1) := by decide +kernel
theorem dX3_spotOf_1 : decode cX3_spotOf 1 = .ok (.iload_n 1, 1) := by decide +kernel
theorem dX3_spotOf_2 : decode cX3_spotOf 2 = .ok (.invokevirtual 74, 3) := by decide +kernel
theorem dX3_spotOf_5 : decode cX3_spotOf 5 = .ok (.aload_n 0, 1) := by decide +kernel
theorem dX3_spotOf_6 : decode cX3_spotOf 6 = .ok (.getfield 12, 3) := by decide +kernel
theorem dX3_spotOf_9 : decode cX3_spotOf 9 = .ok (.iload_n 1, 1) := by decide +kernel
theorem dX3_spotOf_10 : decode cX3_spotOf 10 = .ok (.invokevirtual 88, 3) := by decide +kernel
theorem dX3_spotOf_13 : decode cX3_spotOf 13 = .ok (.ireturn, 1) := by decide +kernel
set_option maxRecDepth 20000 in
theorem ggX3_boxAt_X3_requireSpot : GoodIn wsX3_boxAt wsX3_requireSpot := goodIn_ca (goodIn_r _ [6, 7, 8, 9, 10, 5, 11, 12, 13, 14, 15, 16, 17, 18, 19, 20] (by decide +kernel) (by decide +kernel)) (goodIn_sub (fun _ h => List.mem_cons_of_mem _ (List.mem_append_right _ h)) (by decide +kernel))
set_option maxRecDepth 20000 in
theorem gX3_boxAt_X3_requireSpot : GoodIn wsX3_boxAt (wsV RX3 91 RX3 yX3_requireSpot wsX3_requireSpot) := goodIn_app (goodIn_of _ (by decide +kernel)) ggX3_boxAt_X3_requireSpot
set_option maxRecDepth 20000 in
theorem ggX3_boxAt_X2_boxIn : GoodIn wsX3_boxAt wsX2_boxIn := goodIn_r _ [25, 26, 27, 32, 33, 34, 35, 36, 37] (by decide +kernel) (by decide +kernel)
set_option maxRecDepth 20000 in
theorem gX3_boxAt_X2_boxIn : GoodIn wsX3_boxAt (wsV RX3 94 RX2 yX2_boxIn wsX2_boxIn) := goodIn_app (goodIn_of _ (by decide +kernel)) ggX3_boxAt_X2_boxIn
theorem dX3_boxAt_0 : decode cX3_boxAt 0 = .ok (.aload_n 0, 1) := by decide +kernel
theorem dX3_boxAt_1 : decode cX3_boxAt 1 = .ok (.iload_n 1, 1) := by decide +kernel
theorem dX3_boxAt_2 : decode cX3_boxAt 2 = .ok (.invokevirtual 91, 3) := by decide +kernel
theorem dX3_boxAt_5 : decode cX3_boxAt 5 = .ok (.aload_n 0, 1) := by decide +kernel
theorem dX3_boxAt_6 : decode cX3_boxAt 6 = .ok (.getfield 12, 3) := by decide +kernel
theorem dX3_boxAt_9 : decode cX3_boxAt 9 = .ok (.iload_n 1, 1) := by decide +kernel
theorem dX3_boxAt_10 : decode cX3_boxAt 10 = .ok (.invokevirtual 94, 3) := by decide +kernel
theorem dX3_boxAt_13 : decode cX3_boxAt 13 = .ok (.ireturn, 1) := by decide +kernel
set_option maxRecDepth 20000 in
theorem ggX3_weight_X3_requireShelf : GoodIn wsX3_weight wsX3_requireShelf := goodIn_ca (goodIn_r _ [6, 7, 8, 9, 10, 5, 11] (by decide +kernel) (by decide +kernel)) (goodIn_sub (fun _ h => List.mem_cons_of_mem _ (List.mem_append_right _ h)) (by decide +kernel))
set_option maxRecDepth 20000 in
theorem gX3_weight_X3_requireShelf : GoodIn wsX3_weight (wsV RX3 34 RX3 yX3_requireShelf wsX3_requireShelf) := goodIn_app (goodIn_of _ (by decide +kernel)) ggX3_weight_X3_requireShelf
set_option maxRecDepth 20000 in
theorem ggX3_weight_X2_weightOn : GoodIn wsX3_weight wsX2_weightOn := goodIn_r _ [16, 17, 18, 19, 20, 21, 15, 22, 23, 24, 25, 26, 27, 28, 29, 30, 31, 10, 5, 11, 32, 33, 38, 39, 40, 41, 42, 43] (by decide +kernel) (by decide +kernel)
set_option maxRecDepth 20000 in
theorem gX3_weight_X2_weightOn : GoodIn wsX3_weight (wsV RX3 97 RX2 yX2_weightOn wsX2_weightOn) := goodIn_app (goodIn_of _ (by decide +kernel)) ggX3_weight_X2_weightOn
theorem dX3_weight_0 : decode cX3_weight 0 = .ok (.aload_n 0, 1) := by decide +kernel
theorem dX3_weight_1 : decode cX3_weight 1 = .ok (.iload_n 1, 1) := by decide +kernel
theorem dX3_weight_2 : decode cX3_weight 2 = .ok (.invokevirtual 34, 3) := by decide +kernel
theorem dX3_weight_5 : decode cX3_weight 5 = .ok (.aload_n 0, 1) := by decide +kernel
theorem dX3_weight_6 : decode cX3_weight 6 = .ok (.getfield 12, 3) := by decide +kernel
theorem dX3_weight_9 : decode cX3_weight 9 = .ok (.iload_n 1, 1) := by decide +kernel
theorem dX3_weight_10 : decode cX3_weight 10 = .ok (.invokevirtual 97, 3) := by decide +kernel
theorem dX3_weight_13 : decode cX3_weight 13 = .ok (.ireturn, 1) := by decide +kernel
set_option maxRecDepth 20000 in
theorem ggX3_wrong_X2_countWrong : GoodIn wsX3_wrong wsX2_countWrong := goodIn_r _ [6, 7, 8, 9, 10, 5, 11, 12, 13, 14, 15, 16, 17, 18, 19, 20, 21, 22, 23, 24, 25, 26, 27, 28, 29, 30, 31, 36, 37, 38, 39, 40, 41] (by decide +kernel) (by decide +kernel)
set_option maxRecDepth 20000 in
theorem gX3_wrong_X2_countWrong : GoodIn wsX3_wrong (wsV RX3 100 RX2 yX2_countWrong wsX2_countWrong) := goodIn_app (goodIn_of _ (by decide +kernel)) ggX3_wrong_X2_countWrong
theorem dX3_wrong_0 : decode cX3_wrong 0 = .ok (.aload_n 0, 1) := by decide +kernel
theorem dX3_wrong_1 : decode cX3_wrong 1 = .ok (.getfield 12, 3) := by decide +kernel
theorem dX3_wrong_4 : decode cX3_wrong 4 = .ok (.invokevirtual 100, 3) := by decide +kernel
theorem dX3_wrong_7 : decode cX3_wrong 7 = .ok (.ireturn, 1) := by decide +kernel
set_option maxRecDepth 20000 in
theorem ggX3_open_X3_requireAisle : GoodIn wsX3_open wsX3_requireAisle := goodIn_ca (goodIn_r _ [8, 9, 10, 11, 12, 7, 13] (by decide +kernel) (by decide +kernel)) (goodIn_sub (fun _ h => List.mem_cons_of_mem _ (List.mem_append_right _ h)) (by decide +kernel))
set_option maxRecDepth 20000 in
theorem gX3_open_X3_requireAisle : GoodIn wsX3_open (wsV RX3 104 RX3 yX3_requireAisle wsX3_requireAisle) := goodIn_app (goodIn_of _ (by decide +kernel)) ggX3_open_X3_requireAisle
set_option maxRecDepth 20000 in
theorem ggX3_open_X1_mayOpen : GoodIn wsX3_open wsX1_mayOpen := goodIn_r _ [18, 19, 20, 21, 22, 23, 17, 24, 25, 26, 27, 28, 29, 30, 31, 32, 33, 34, 35, 36, 12, 7, 13, 53, 54, 55, 56, 57, 58, 59] (by decide +kernel) (by decide +kernel)
set_option maxRecDepth 20000 in
theorem gX3_open_X1_mayOpen : GoodIn wsX3_open (wsV RX3 107 RX1 yX1_mayOpen wsX1_mayOpen) := goodIn_app (goodIn_of _ (by decide +kernel)) ggX3_open_X1_mayOpen
set_option maxRecDepth 20000 in
theorem ggX3_open_X1_aimAt : GoodIn wsX3_open wsX1_aimAt := goodIn_r _ [40, 26, 53, 54, 55, 56, 57, 58, 59] (by decide +kernel) (by decide +kernel)
set_option maxRecDepth 20000 in
theorem gX3_open_X1_aimAt : GoodIn wsX3_open (wsV RX3 112 RX1 yX1_aimAt wsX1_aimAt) := goodIn_app (goodIn_of _ (by decide +kernel)) ggX3_open_X1_aimAt
set_option maxRecDepth 20000 in
theorem ggX3_open_X1_movesToCome : GoodIn wsX3_open wsX1_movesToCome := goodIn_r _ [44, 26, 25, 45, 46, 47, 48, 53, 54, 55, 56, 57, 58, 59] (by decide +kernel) (by decide +kernel)
set_option maxRecDepth 20000 in
theorem gX3_open_X1_movesToCome : GoodIn wsX3_open (wsV RX3 115 RX1 yX1_movesToCome wsX1_movesToCome) := goodIn_app (goodIn_of _ (by decide +kernel)) ggX3_open_X1_movesToCome
theorem dX3_open_0 : decode cX3_open 0 = .ok (.aload_n 0, 1) := by decide +kernel
theorem dX3_open_1 : decode cX3_open 1 = .ok (.iload_n 1, 1) := by decide +kernel
theorem dX3_open_2 : decode cX3_open 2 = .ok (.invokevirtual 104, 3) := by decide +kernel
theorem dX3_open_5 : decode cX3_open 5 = .ok (.aload_n 0, 1) := by decide +kernel
theorem dX3_open_6 : decode cX3_open 6 = .ok (.getfield 19, 3) := by decide +kernel
theorem dX3_open_9 : decode cX3_open 9 = .ok (.invokevirtual 107, 3) := by decide +kernel
theorem dX3_open_12 : decode cX3_open 12 = .ok (.ifCond .ne 13, 3) := by decide +kernel
theorem dX3_open_15 : decode cX3_open 15 = .ok (.new 65, 3) := by decide +kernel
theorem dX3_open_18 : decode cX3_open 18 = .ok (.dup, 1) := by decide +kernel
theorem dX3_open_19 : decode cX3_open 19 = .ok (.ldc 110, 2) := by decide +kernel
theorem dX3_open_21 : decode cX3_open 21 = .ok (.invokespecial 69, 3) := by decide +kernel
theorem dX3_open_24 : decode cX3_open 24 = .ok (.athrow, 1) := by decide +kernel
theorem dX3_open_25 : decode cX3_open 25 = .ok (.aload_n 0, 1) := by decide +kernel
theorem dX3_open_26 : decode cX3_open 26 = .ok (.getfield 19, 3) := by decide +kernel
theorem dX3_open_29 : decode cX3_open 29 = .ok (.iload_n 1, 1) := by decide +kernel
theorem dX3_open_30 : decode cX3_open 30 = .ok (.invokevirtual 112, 3) := by decide +kernel
theorem dX3_open_33 : decode cX3_open 33 = .ok (.aload_n 0, 1) := by decide +kernel
theorem dX3_open_34 : decode cX3_open 34 = .ok (.getfield 19, 3) := by decide +kernel
theorem dX3_open_37 : decode cX3_open 37 = .ok (.invokevirtual 115, 3) := by decide +kernel
theorem dX3_open_40 : decode cX3_open 40 = .ok (.ireturn, 1) := by decide +kernel
set_option maxRecDepth 20000 in
theorem ggX3_opened_X1_openAisle : GoodIn wsX3_opened wsX1_openAisle := goodIn_r _ [6, 7, 8, 13, 14, 15, 16, 17, 18, 19] (by decide +kernel) (by decide +kernel)
set_option maxRecDepth 20000 in
theorem gX3_opened_X1_openAisle : GoodIn wsX3_opened (wsV RX3 118 RX1 yX1_openAisle wsX1_openAisle) := goodIn_app (goodIn_of _ (by decide +kernel)) ggX3_opened_X1_openAisle
theorem dX3_opened_0 : decode cX3_opened 0 = .ok (.aload_n 0, 1) := by decide +kernel
theorem dX3_opened_1 : decode cX3_opened 1 = .ok (.getfield 19, 3) := by decide +kernel
theorem dX3_opened_4 : decode cX3_opened 4 = .ok (.invokevirtual 118, 3) := by decide +kernel
theorem dX3_opened_7 : decode cX3_opened 7 = .ok (.ireturn, 1) := by decide +kernel
set_option maxRecDepth 20000 in
theorem ggX3_openedByMoves_X1_openAisleByMoves : GoodIn wsX3_openedByMoves wsX1_openAisleByMoves := goodIn_r _ [6, 7, 8, 13, 14, 15, 16, 17, 18, 19] (by decide +kernel) (by decide +kernel)
set_option maxRecDepth 20000 in
theorem gX3_openedByMoves_X1_openAisleByMoves : GoodIn wsX3_openedByMoves (wsV RX3 121 RX1 yX1_openAisleByMoves wsX1_openAisleByMoves) := goodIn_app (goodIn_of _ (by decide +kernel)) ggX3_openedByMoves_X1_openAisleByMoves
theorem dX3_openedByMoves_0 : decode cX3_openedByMoves 0 = .ok (.aload_n 0, 1) := by decide +kernel
theorem dX3_openedByMoves_1 : decode cX3_openedByMoves 1 = .ok (.getfield 19, 3) := by decide +kernel
theorem dX3_openedByMoves_4 : decode cX3_openedByMoves 4 = .ok (.invokevirtual 121, 3) := by decide +kernel
theorem dX3_openedByMoves_7 : decode cX3_openedByMoves 7 = .ok (.ireturn, 1) := by decide +kernel
set_option maxRecDepth 20000 in
theorem ggX3_goIn_X3_requirePerson : GoodIn wsX3_goIn wsX3_requirePerson := goodIn_ca (goodIn_r _ [8, 9, 10, 11, 12, 7, 13] (by decide +kernel) (by decide +kernel)) (goodIn_sub (fun _ h => List.mem_cons_of_mem _ (List.mem_append_right _ h)) (by decide +kernel))
set_option maxRecDepth 20000 in
theorem gX3_goIn_X3_requirePerson : GoodIn wsX3_goIn (wsV RX3 124 RX3 yX3_requirePerson wsX3_requirePerson) := goodIn_app (goodIn_of _ (by decide +kernel)) ggX3_goIn_X3_requirePerson
set_option maxRecDepth 20000 in
theorem ggX3_goIn_X1_isInside : GoodIn wsX3_goIn wsX1_isInside := goodIn_r _ [18, 19, 12, 7, 13, 43, 44, 45, 46, 47, 48, 49] (by decide +kernel) (by decide +kernel)
set_option maxRecDepth 20000 in
theorem gX3_goIn_X1_isInside : GoodIn wsX3_goIn (wsV RX3 127 RX1 yX1_isInside wsX1_isInside) := goodIn_app (goodIn_of _ (by decide +kernel)) ggX3_goIn_X1_isInside
set_option maxRecDepth 20000 in
theorem ggX3_goIn_X1_mayGoIn : GoodIn wsX3_goIn wsX1_mayGoIn := goodIn_r _ [23, 24, 25, 26, 27, 17, 28, 29, 30, 43, 44, 45, 46, 47, 48, 49] (by decide +kernel) (by decide +kernel)
set_option maxRecDepth 20000 in
theorem gX3_goIn_X1_mayGoIn : GoodIn wsX3_goIn (wsV RX3 133 RX1 yX1_mayGoIn wsX1_mayGoIn) := goodIn_app (goodIn_of _ (by decide +kernel)) ggX3_goIn_X1_mayGoIn
set_option maxRecDepth 20000 in
theorem ggX3_goIn_X1_setInside : GoodIn wsX3_goIn wsX1_setInside := goodIn_r _ [34, 19, 12, 7, 13, 43, 44, 45, 46, 47, 48, 49] (by decide +kernel) (by decide +kernel)
set_option maxRecDepth 20000 in
theorem gX3_goIn_X1_setInside : GoodIn wsX3_goIn (wsV RX3 138 RX1 yX1_setInside wsX1_setInside) := goodIn_app (goodIn_of _ (by decide +kernel)) ggX3_goIn_X1_setInside
set_option maxRecDepth 20000 in
theorem ggX3_goIn_X1_countInside : GoodIn wsX3_goIn wsX1_countInside := goodIn_r _ [38, 19, 43, 44, 45, 46, 47, 48, 49] (by decide +kernel) (by decide +kernel)
set_option maxRecDepth 20000 in
theorem gX3_goIn_X1_countInside : GoodIn wsX3_goIn (wsV RX3 142 RX1 yX1_countInside wsX1_countInside) := goodIn_app (goodIn_of _ (by decide +kernel)) ggX3_goIn_X1_countInside
theorem dX3_goIn_0 : decode cX3_goIn 0 = .ok (.aload_n 0, 1) := by decide +kernel
theorem dX3_goIn_1 : decode cX3_goIn 1 = .ok (.iload_n 1, 1) := by decide +kernel
theorem dX3_goIn_2 : decode cX3_goIn 2 = .ok (.invokevirtual 124, 3) := by decide +kernel
theorem dX3_goIn_5 : decode cX3_goIn 5 = .ok (.aload_n 0, 1) := by decide +kernel
theorem dX3_goIn_6 : decode cX3_goIn 6 = .ok (.getfield 19, 3) := by decide +kernel
theorem dX3_goIn_9 : decode cX3_goIn 9 = .ok (.iload_n 1, 1) := by decide +kernel
theorem dX3_goIn_10 : decode cX3_goIn 10 = .ok (.invokevirtual 127, 3) := by decide +kernel
theorem dX3_goIn_13 : decode cX3_goIn 13 = .ok (.ifCond .eq 13, 3) := by decide +kernel
theorem dX3_goIn_16 : decode cX3_goIn 16 = .ok (.new 65, 3) := by decide +kernel
theorem dX3_goIn_19 : decode cX3_goIn 19 = .ok (.dup, 1) := by decide +kernel
theorem dX3_goIn_20 : decode cX3_goIn 20 = .ok (.ldc 131, 2) := by decide +kernel
theorem dX3_goIn_22 : decode cX3_goIn 22 = .ok (.invokespecial 69, 3) := by decide +kernel
theorem dX3_goIn_25 : decode cX3_goIn 25 = .ok (.athrow, 1) := by decide +kernel
theorem dX3_goIn_26 : decode cX3_goIn 26 = .ok (.aload_n 0, 1) := by decide +kernel
theorem dX3_goIn_27 : decode cX3_goIn 27 = .ok (.getfield 19, 3) := by decide +kernel
theorem dX3_goIn_30 : decode cX3_goIn 30 = .ok (.invokevirtual 133, 3) := by decide +kernel
theorem dX3_goIn_33 : decode cX3_goIn 33 = .ok (.ifCond .ne 13, 3) := by decide +kernel
theorem dX3_goIn_36 : decode cX3_goIn 36 = .ok (.new 65, 3) := by decide +kernel
theorem dX3_goIn_39 : decode cX3_goIn 39 = .ok (.dup, 1) := by decide +kernel
theorem dX3_goIn_40 : decode cX3_goIn 40 = .ok (.ldc 136, 2) := by decide +kernel
theorem dX3_goIn_42 : decode cX3_goIn 42 = .ok (.invokespecial 69, 3) := by decide +kernel
theorem dX3_goIn_45 : decode cX3_goIn 45 = .ok (.athrow, 1) := by decide +kernel
theorem dX3_goIn_46 : decode cX3_goIn 46 = .ok (.aload_n 0, 1) := by decide +kernel
theorem dX3_goIn_47 : decode cX3_goIn 47 = .ok (.getfield 19, 3) := by decide +kernel
theorem dX3_goIn_50 : decode cX3_goIn 50 = .ok (.iload_n 1, 1) := by decide +kernel
theorem dX3_goIn_51 : decode cX3_goIn 51 = .ok (.iconst 1, 1) := by decide +kernel
theorem dX3_goIn_52 : decode cX3_goIn 52 = .ok (.invokevirtual 138, 3) := by decide +kernel
theorem dX3_goIn_55 : decode cX3_goIn 55 = .ok (.aload_n 0, 1) := by decide +kernel
theorem dX3_goIn_56 : decode cX3_goIn 56 = .ok (.getfield 19, 3) := by decide +kernel
theorem dX3_goIn_59 : decode cX3_goIn 59 = .ok (.invokevirtual 142, 3) := by decide +kernel
theorem dX3_goIn_62 : decode cX3_goIn 62 = .ok (.ireturn, 1) := by decide +kernel
set_option maxRecDepth 20000 in
theorem ggX3_goOut_X3_requirePerson : GoodIn wsX3_goOut wsX3_requirePerson := goodIn_ca (goodIn_r _ [6, 7, 8, 9, 10, 5, 11] (by decide +kernel) (by decide +kernel)) (goodIn_sub (fun _ h => List.mem_cons_of_mem _ (List.mem_append_left _ (List.mem_append_right _ h))) (by decide +kernel))
set_option maxRecDepth 20000 in
theorem gX3_goOut_X3_requirePerson : GoodIn wsX3_goOut (wsV RX3 124 RX3 yX3_requirePerson wsX3_requirePerson) := goodIn_app (goodIn_of _ (by decide +kernel)) ggX3_goOut_X3_requirePerson
set_option maxRecDepth 20000 in
theorem ggX3_goOut_X3_requireInside : GoodIn wsX3_goOut wsX3_requireInside := goodIn_ca (goodIn_r _ [15, 16, 17, 1, 18, 19, 20, 21, 22, 23, 10, 5, 11, 32, 33, 34, 35, 36, 37, 38, 39, 40, 41, 42] (by decide +kernel) (by decide +kernel)) (goodIn_sub (fun _ h => List.mem_cons_of_mem _ (List.mem_append_right _ h)) (by decide +kernel))
set_option maxRecDepth 20000 in
theorem gX3_goOut_X3_requireInside : GoodIn wsX3_goOut (wsV RX3 145 RX3 yX3_requireInside wsX3_requireInside) := goodIn_app (goodIn_of _ (by decide +kernel)) ggX3_goOut_X3_requireInside
set_option maxRecDepth 20000 in
theorem ggX3_goOut_X1_setInside : GoodIn wsX3_goOut wsX1_setInside := goodIn_r _ [27, 23, 10, 5, 11, 36, 37, 38, 39, 40, 41, 42] (by decide +kernel) (by decide +kernel)
set_option maxRecDepth 20000 in
theorem gX3_goOut_X1_setInside : GoodIn wsX3_goOut (wsV RX3 138 RX1 yX1_setInside wsX1_setInside) := goodIn_app (goodIn_of _ (by decide +kernel)) ggX3_goOut_X1_setInside
set_option maxRecDepth 20000 in
theorem ggX3_goOut_X1_countInside : GoodIn wsX3_goOut wsX1_countInside := goodIn_r _ [31, 23, 36, 37, 38, 39, 40, 41, 42] (by decide +kernel) (by decide +kernel)
set_option maxRecDepth 20000 in
theorem gX3_goOut_X1_countInside : GoodIn wsX3_goOut (wsV RX3 142 RX1 yX1_countInside wsX1_countInside) := goodIn_app (goodIn_of _ (by decide +kernel)) ggX3_goOut_X1_countInside
theorem dX3_goOut_0 : decode cX3_goOut 0 = .ok (.aload_n 0, 1) := by decide +kernel
theorem dX3_goOut_1 : decode cX3_goOut 1 = .ok (.iload_n 1, 1) := by decide +kernel
theorem dX3_goOut_2 : decode cX3_goOut 2 = .ok (.invokevirtual 124, 3) := by decide +kernel
theorem dX3_goOut_5 : decode cX3_goOut 5 = .ok (.aload_n 0, 1) := by decide +kernel
theorem dX3_goOut_6 : decode cX3_goOut 6 = .ok (.iload_n 1, 1) := by decide +kernel
theorem dX3_goOut_7 : decode cX3_goOut 7 = .ok (.invokevirtual 145, 3) := by decide +kernel
theorem dX3_goOut_10 : decode cX3_goOut 10 = .ok (.aload_n 0, 1) := by decide +kernel
theorem dX3_goOut_11 : decode cX3_goOut 11 = .ok (.getfield 19, 3) := by decide +kernel
theorem dX3_goOut_14 : decode cX3_goOut 14 = .ok (.iload_n 1, 1) := by decide +kernel
theorem dX3_goOut_15 : decode cX3_goOut 15 = .ok (.iconst 0, 1) := by decide +kernel
theorem dX3_goOut_16 : decode cX3_goOut 16 = .ok (.invokevirtual 138, 3) := by decide +kernel
theorem dX3_goOut_19 : decode cX3_goOut 19 = .ok (.aload_n 0, 1) := by decide +kernel
theorem dX3_goOut_20 : decode cX3_goOut 20 = .ok (.getfield 19, 3) := by decide +kernel
theorem dX3_goOut_23 : decode cX3_goOut 23 = .ok (.invokevirtual 142, 3) := by decide +kernel
theorem dX3_goOut_26 : decode cX3_goOut 26 = .ok (.ireturn, 1) := by decide +kernel
set_option maxRecDepth 20000 in
theorem ggX3_doubt_X3_requireAisle : GoodIn wsX3_doubt wsX3_requireAisle := goodIn_ca (goodIn_r _ [6, 7, 8, 9, 10, 5, 11] (by decide +kernel) (by decide +kernel)) (goodIn_sub (fun _ h => List.mem_cons_of_mem _ (List.mem_append_right _ h)) (by decide +kernel))
set_option maxRecDepth 20000 in
theorem gX3_doubt_X3_requireAisle : GoodIn wsX3_doubt (wsV RX3 104 RX3 yX3_requireAisle wsX3_requireAisle) := goodIn_app (goodIn_of _ (by decide +kernel)) ggX3_doubt_X3_requireAisle
set_option maxRecDepth 20000 in
theorem ggX3_doubt_X1_hasDoubt : GoodIn wsX3_doubt wsX1_hasDoubt := goodIn_r _ [16, 17, 10, 5, 11, 26, 27, 28, 29, 30, 31, 32] (by decide +kernel) (by decide +kernel)
set_option maxRecDepth 20000 in
theorem gX3_doubt_X1_hasDoubt : GoodIn wsX3_doubt (wsV RX3 148 RX1 yX1_hasDoubt wsX1_hasDoubt) := goodIn_app (goodIn_of _ (by decide +kernel)) ggX3_doubt_X1_hasDoubt
set_option maxRecDepth 20000 in
theorem ggX3_doubt_X1_setDoubt : GoodIn wsX3_doubt wsX1_setDoubt := goodIn_r _ [21, 17, 10, 5, 11, 26, 27, 28, 29, 30, 31, 32] (by decide +kernel) (by decide +kernel)
set_option maxRecDepth 20000 in
theorem gX3_doubt_X1_setDoubt : GoodIn wsX3_doubt (wsV RX3 151 RX1 yX1_setDoubt wsX1_setDoubt) := goodIn_app (goodIn_of _ (by decide +kernel)) ggX3_doubt_X1_setDoubt
theorem dX3_doubt_0 : decode cX3_doubt 0 = .ok (.aload_n 0, 1) := by decide +kernel
theorem dX3_doubt_1 : decode cX3_doubt 1 = .ok (.iload_n 1, 1) := by decide +kernel
theorem dX3_doubt_2 : decode cX3_doubt 2 = .ok (.invokevirtual 104, 3) := by decide +kernel
theorem dX3_doubt_5 : decode cX3_doubt 5 = .ok (.aload_n 0, 1) := by decide +kernel
theorem dX3_doubt_6 : decode cX3_doubt 6 = .ok (.getfield 19, 3) := by decide +kernel
theorem dX3_doubt_9 : decode cX3_doubt 9 = .ok (.iload_n 1, 1) := by decide +kernel
theorem dX3_doubt_10 : decode cX3_doubt 10 = .ok (.invokevirtual 148, 3) := by decide +kernel
theorem dX3_doubt_13 : decode cX3_doubt 13 = .ok (.istore_n 2, 1) := by decide +kernel
theorem dX3_doubt_14 : decode cX3_doubt 14 = .ok (.aload_n 0, 1) := by decide +kernel
theorem dX3_doubt_15 : decode cX3_doubt 15 = .ok (.getfield 19, 3) := by decide +kernel
theorem dX3_doubt_18 : decode cX3_doubt 18 = .ok (.iload_n 1, 1) := by decide +kernel
theorem dX3_doubt_19 : decode cX3_doubt 19 = .ok (.iconst 1, 1) := by decide +kernel
theorem dX3_doubt_20 : decode cX3_doubt 20 = .ok (.invokevirtual 151, 3) := by decide +kernel
theorem dX3_doubt_23 : decode cX3_doubt 23 = .ok (.iload_n 2, 1) := by decide +kernel
theorem dX3_doubt_24 : decode cX3_doubt 24 = .ok (.ifCond .ne 7, 3) := by decide +kernel
theorem dX3_doubt_27 : decode cX3_doubt 27 = .ok (.iconst 1, 1) := by decide +kernel
theorem dX3_doubt_28 : decode cX3_doubt 28 = .ok (.goto 4, 3) := by decide +kernel
theorem dX3_doubt_31 : decode cX3_doubt 31 = .ok (.iconst 0, 1) := by decide +kernel
theorem dX3_doubt_32 : decode cX3_doubt 32 = .ok (.ireturn, 1) := by decide +kernel
set_option maxRecDepth 20000 in
theorem ggX3_look_X1_openAisle : GoodIn wsX3_look wsX1_openAisle := goodIn_r _ [8, 9, 10, 27, 28, 29, 30, 31, 32, 33] (by decide +kernel) (by decide +kernel)
set_option maxRecDepth 20000 in
theorem gX3_look_X1_openAisle : GoodIn wsX3_look (wsV RX3 118 RX1 yX1_openAisle wsX1_openAisle) := goodIn_app (goodIn_of _ (by decide +kernel)) ggX3_look_X1_openAisle
set_option maxRecDepth 20000 in
theorem ggX3_look_X1_hasDoubt : GoodIn wsX3_look wsX1_hasDoubt := goodIn_r _ [14, 15, 16, 17, 18, 27, 28, 29, 30, 31, 32, 33] (by decide +kernel) (by decide +kernel)
set_option maxRecDepth 20000 in
theorem gX3_look_X1_hasDoubt : GoodIn wsX3_look (wsV RX3 148 RX1 yX1_hasDoubt wsX1_hasDoubt) := goodIn_app (goodIn_of _ (by decide +kernel)) ggX3_look_X1_hasDoubt
set_option maxRecDepth 20000 in
theorem ggX3_look_X1_setDoubt : GoodIn wsX3_look wsX1_setDoubt := goodIn_r _ [22, 15, 16, 17, 18, 27, 28, 29, 30, 31, 32, 33] (by decide +kernel) (by decide +kernel)
set_option maxRecDepth 20000 in
theorem gX3_look_X1_setDoubt : GoodIn wsX3_look (wsV RX3 151 RX1 yX1_setDoubt wsX1_setDoubt) := goodIn_app (goodIn_of _ (by decide +kernel)) ggX3_look_X1_setDoubt
theorem dX3_look_0 : decode cX3_look 0 = .ok (.aload_n 0, 1) := by decide +kernel
theorem dX3_look_1 : decode cX3_look 1 = .ok (.getfield 19, 3) := by decide +kernel
theorem dX3_look_4 : decode cX3_look 4 = .ok (.invokevirtual 118, 3) := by decide +kernel
theorem dX3_look_7 : decode cX3_look 7 = .ok (.istore_n 1, 1) := by decide +kernel
theorem dX3_look_8 : decode cX3_look 8 = .ok (.iload_n 1, 1) := by decide +kernel
theorem dX3_look_9 : decode cX3_look 9 = .ok (.iconst (-1), 1) := by decide +kernel
theorem dX3_look_10 : decode cX3_look 10 = .ok (.if_icmp .ne 13, 3) := by decide +kernel
theorem dX3_look_13 : decode cX3_look 13 = .ok (.new 65, 3) := by decide +kernel
theorem dX3_look_16 : decode cX3_look 16 = .ok (.dup, 1) := by decide +kernel
theorem dX3_look_17 : decode cX3_look 17 = .ok (.ldc 154, 2) := by decide +kernel
theorem dX3_look_19 : decode cX3_look 19 = .ok (.invokespecial 69, 3) := by decide +kernel
theorem dX3_look_22 : decode cX3_look 22 = .ok (.athrow, 1) := by decide +kernel
theorem dX3_look_23 : decode cX3_look 23 = .ok (.aload_n 0, 1) := by decide +kernel
theorem dX3_look_24 : decode cX3_look 24 = .ok (.getfield 19, 3) := by decide +kernel
theorem dX3_look_27 : decode cX3_look 27 = .ok (.iload_n 1, 1) := by decide +kernel
theorem dX3_look_28 : decode cX3_look 28 = .ok (.invokevirtual 148, 3) := by decide +kernel
theorem dX3_look_31 : decode cX3_look 31 = .ok (.istore_n 2, 1) := by decide +kernel
theorem dX3_look_32 : decode cX3_look 32 = .ok (.aload_n 0, 1) := by decide +kernel
theorem dX3_look_33 : decode cX3_look 33 = .ok (.getfield 19, 3) := by decide +kernel
theorem dX3_look_36 : decode cX3_look 36 = .ok (.iload_n 1, 1) := by decide +kernel
theorem dX3_look_37 : decode cX3_look 37 = .ok (.iconst 0, 1) := by decide +kernel
theorem dX3_look_38 : decode cX3_look 38 = .ok (.invokevirtual 151, 3) := by decide +kernel
theorem dX3_look_41 : decode cX3_look 41 = .ok (.iload_n 2, 1) := by decide +kernel
theorem dX3_look_42 : decode cX3_look 42 = .ok (.ireturn, 1) := by decide +kernel
set_option maxRecDepth 20000 in
theorem ggX3_stall_X1_changeStall : GoodIn wsX3_stall wsX1_changeStall := goodIn_r _ [6, 7, 12, 13, 14, 15, 16, 17, 18] (by decide +kernel) (by decide +kernel)
set_option maxRecDepth 20000 in
theorem gX3_stall_X1_changeStall : GoodIn wsX3_stall (wsV RX3 156 RX1 yX1_changeStall wsX1_changeStall) := goodIn_app (goodIn_of _ (by decide +kernel)) ggX3_stall_X1_changeStall
theorem dX3_stall_0 : decode cX3_stall 0 = .ok (.aload_n 0, 1) := by decide +kernel
theorem dX3_stall_1 : decode cX3_stall 1 = .ok (.getfield 19, 3) := by decide +kernel
theorem dX3_stall_4 : decode cX3_stall 4 = .ok (.iload_n 1, 1) := by decide +kernel
theorem dX3_stall_5 : decode cX3_stall 5 = .ok (.invokevirtual 156, 3) := by decide +kernel
theorem dX3_stall_8 : decode cX3_stall 8 = .ok (.ireturn, 1) := by decide +kernel
set_option maxRecDepth 20000 in
theorem ggX3_smoke_X1_changeSmoke : GoodIn wsX3_smoke wsX1_changeSmoke := goodIn_r _ [6, 7, 21, 22, 23, 24, 25, 26, 27] (by decide +kernel) (by decide +kernel)
set_option maxRecDepth 20000 in
theorem gX3_smoke_X1_changeSmoke : GoodIn wsX3_smoke (wsV RX3 160 RX1 yX1_changeSmoke wsX1_changeSmoke) := goodIn_app (goodIn_of _ (by decide +kernel)) ggX3_smoke_X1_changeSmoke
set_option maxRecDepth 20000 in
theorem ggX3_smoke_X1_sendAllOut : GoodIn wsX3_smoke wsX1_sendAllOut := goodIn_r _ [11, 12, 13, 14, 15, 5, 16, 21, 22, 23, 24, 25, 26, 27] (by decide +kernel) (by decide +kernel)
set_option maxRecDepth 20000 in
theorem gX3_smoke_X1_sendAllOut : GoodIn wsX3_smoke (wsV RX3 164 RX1 yX1_sendAllOut wsX1_sendAllOut) := goodIn_app (goodIn_of _ (by decide +kernel)) ggX3_smoke_X1_sendAllOut
theorem dX3_smoke_0 : decode cX3_smoke 0 = .ok (.aload_n 0, 1) := by decide +kernel
theorem dX3_smoke_1 : decode cX3_smoke 1 = .ok (.getfield 19, 3) := by decide +kernel
theorem dX3_smoke_4 : decode cX3_smoke 4 = .ok (.iload_n 1, 1) := by decide +kernel
theorem dX3_smoke_5 : decode cX3_smoke 5 = .ok (.invokevirtual 160, 3) := by decide +kernel
theorem dX3_smoke_8 : decode cX3_smoke 8 = .ok (.iload_n 1, 1) := by decide +kernel
theorem dX3_smoke_9 : decode cX3_smoke 9 = .ok (.ifCond .eq 13, 3) := by decide +kernel
theorem dX3_smoke_12 : decode cX3_smoke 12 = .ok (.aload_n 0, 1) := by decide +kernel
theorem dX3_smoke_13 : decode cX3_smoke 13 = .ok (.getfield 19, 3) := by decide +kernel
theorem dX3_smoke_16 : decode cX3_smoke 16 = .ok (.invokevirtual 164, 3) := by decide +kernel
theorem dX3_smoke_19 : decode cX3_smoke 19 = .ok (.goto 4, 3) := by decide +kernel
theorem dX3_smoke_22 : decode cX3_smoke 22 = .ok (.iconst 0, 1) := by decide +kernel
theorem dX3_smoke_23 : decode cX3_smoke 23 = .ok (.ireturn, 1) := by decide +kernel
set_option maxRecDepth 20000 in
theorem ggX3_pass_X1_moveFor : GoodIn wsX3_pass wsX1_moveFor := goodIn_r _ [11, 12, 13, 14, 15, 16, 17, 18, 19, 20, 10, 21, 22, 23, 24, 25, 26, 27, 28, 29, 30, 31, 32, 33, 34, 39, 40, 41, 42, 43, 44, 45] (by decide +kernel) (by decide +kernel)
set_option maxRecDepth 20000 in
theorem gX3_pass_X1_moveFor : GoodIn wsX3_pass (wsV RX3 171 RX1 yX1_moveFor wsX1_moveFor) := goodIn_app (goodIn_of _ (by decide +kernel)) ggX3_pass_X1_moveFor
theorem dX3_pass_0 : decode cX3_pass 0 = .ok (.iload_n 1, 1) := by decide +kernel
theorem dX3_pass_1 : decode cX3_pass 1 = .ok (.iconst 1, 1) := by decide +kernel
theorem dX3_pass_2 : decode cX3_pass 2 = .ok (.if_icmp .lt 9, 3) := by decide +kernel
theorem dX3_pass_5 : decode cX3_pass 5 = .ok (.iload_n 1, 1) := by decide +kernel
theorem dX3_pass_6 : decode cX3_pass 6 = .ok (.bipush 100, 2) := by decide +kernel
theorem dX3_pass_8 : decode cX3_pass 8 = .ok (.if_icmp .le 13, 3) := by decide +kernel
theorem dX3_pass_11 : decode cX3_pass 11 = .ok (.new 42, 3) := by decide +kernel
theorem dX3_pass_14 : decode cX3_pass 14 = .ok (.dup, 1) := by decide +kernel
theorem dX3_pass_15 : decode cX3_pass 15 = .ok (.ldc 167, 2) := by decide +kernel
theorem dX3_pass_17 : decode cX3_pass 17 = .ok (.invokespecial 46, 3) := by decide +kernel
theorem dX3_pass_20 : decode cX3_pass 20 = .ok (.athrow, 1) := by decide +kernel
theorem dX3_pass_21 : decode cX3_pass 21 = .ok (.aload_n 0, 1) := by decide +kernel
theorem dX3_pass_22 : decode cX3_pass 22 = .ok (.getfield 30, 3) := by decide +kernel
theorem dX3_pass_25 : decode cX3_pass 25 = .ok (.iload_n 1, 1) := by decide +kernel
theorem dX3_pass_26 : decode cX3_pass 26 = .ok (.iadd, 1) := by decide +kernel
theorem dX3_pass_27 : decode cX3_pass 27 = .ok (.sipush 10000, 3) := by decide +kernel
theorem dX3_pass_30 : decode cX3_pass 30 = .ok (.if_icmp .le 13, 3) := by decide +kernel
theorem dX3_pass_33 : decode cX3_pass 33 = .ok (.new 65, 3) := by decide +kernel
theorem dX3_pass_36 : decode cX3_pass 36 = .ok (.dup, 1) := by decide +kernel
theorem dX3_pass_37 : decode cX3_pass 37 = .ok (.ldc 169, 2) := by decide +kernel
theorem dX3_pass_39 : decode cX3_pass 39 = .ok (.invokespecial 69, 3) := by decide +kernel
theorem dX3_pass_42 : decode cX3_pass 42 = .ok (.athrow, 1) := by decide +kernel
theorem dX3_pass_43 : decode cX3_pass 43 = .ok (.aload_n 0, 1) := by decide +kernel
theorem dX3_pass_44 : decode cX3_pass 44 = .ok (.dup, 1) := by decide +kernel
theorem dX3_pass_45 : decode cX3_pass 45 = .ok (.getfield 30, 3) := by decide +kernel
theorem dX3_pass_48 : decode cX3_pass 48 = .ok (.iload_n 1, 1) := by decide +kernel
theorem dX3_pass_49 : decode cX3_pass 49 = .ok (.iadd, 1) := by decide +kernel
theorem dX3_pass_50 : decode cX3_pass 50 = .ok (.putfield 30, 3) := by decide +kernel
theorem dX3_pass_53 : decode cX3_pass 53 = .ok (.aload_n 0, 1) := by decide +kernel
theorem dX3_pass_54 : decode cX3_pass 54 = .ok (.getfield 19, 3) := by decide +kernel
theorem dX3_pass_57 : decode cX3_pass 57 = .ok (.iload_n 1, 1) := by decide +kernel
theorem dX3_pass_58 : decode cX3_pass 58 = .ok (.invokevirtual 171, 3) := by decide +kernel
theorem dX3_pass_61 : decode cX3_pass 61 = .ok (.aload_n 0, 1) := by decide +kernel
theorem dX3_pass_62 : decode cX3_pass 62 = .ok (.getfield 30, 3) := by decide +kernel
theorem dX3_pass_65 : decode cX3_pass 65 = .ok (.ireturn, 1) := by decide +kernel
set_option maxRecDepth 20000 in
theorem ggX3_order_X3_requireBox : GoodIn wsX3_order wsX3_requireBox := goodIn_ca (goodIn_r _ [10, 11, 12, 13, 14, 15, 16, 17, 18, 19, 20, 9, 21, 40, 41, 42, 43, 44, 45, 46, 47, 48, 49] (by decide +kernel) (by decide +kernel)) (goodIn_sub (fun _ h => List.mem_cons_of_mem _ (List.mem_append_right _ h)) (by decide +kernel))
set_option maxRecDepth 20000 in
theorem gX3_order_X3_requireBox : GoodIn wsX3_order (wsV RX3 74 RX3 yX3_requireBox wsX3_requireBox) := goodIn_app (goodIn_of _ (by decide +kernel)) ggX3_order_X3_requireBox
set_option maxRecDepth 20000 in
theorem ggX3_order_X0_isOpenFor : GoodIn wsX3_order wsX0_isOpenFor := goodIn_r _ [26, 27, 28, 29, 50, 51, 52, 53, 54] (by decide +kernel) (by decide +kernel)
set_option maxRecDepth 20000 in
theorem gX3_order_X0_isOpenFor : GoodIn wsX3_order (wsV RX3 176 RX0 yX0_isOpenFor wsX0_isOpenFor) := goodIn_app (goodIn_of _ (by decide +kernel)) ggX3_order_X0_isOpenFor
set_option maxRecDepth 20000 in
theorem ggX3_order_X0_isFull : GoodIn wsX3_order wsX0_isFull := goodIn_r _ [33, 27, 50, 51, 52, 53, 54] (by decide +kernel) (by decide +kernel)
set_option maxRecDepth 20000 in
theorem gX3_order_X0_isFull : GoodIn wsX3_order (wsV RX3 181 RX0 yX0_isFull wsX0_isFull) := goodIn_app (goodIn_of _ (by decide +kernel)) ggX3_order_X0_isFull
set_option maxRecDepth 20000 in
theorem ggX3_order_X0_enter : GoodIn wsX3_order wsX0_enter := goodIn_r _ [37, 27, 29, 38, 39, 31, 32, 25, 33, 50, 51, 52, 53, 54] (by decide +kernel) (by decide +kernel)
set_option maxRecDepth 20000 in
theorem gX3_order_X0_enter : GoodIn wsX3_order (wsV RX3 184 RX0 yX0_enter wsX0_enter) := goodIn_app (goodIn_of _ (by decide +kernel)) ggX3_order_X0_enter
theorem dX3_order_0 : decode cX3_order 0 = .ok (.aload_n 0, 1) := by decide +kernel
theorem dX3_order_1 : decode cX3_order 1 = .ok (.iload_n 1, 1) := by decide +kernel
theorem dX3_order_2 : decode cX3_order 2 = .ok (.invokevirtual 74, 3) := by decide +kernel
theorem dX3_order_5 : decode cX3_order 5 = .ok (.iload_n 2, 1) := by decide +kernel
theorem dX3_order_6 : decode cX3_order 6 = .ok (.ifCond .lt 10, 3) := by decide +kernel
theorem dX3_order_9 : decode cX3_order 9 = .ok (.iload_n 2, 1) := by decide +kernel
theorem dX3_order_10 : decode cX3_order 10 = .ok (.sipush 10000, 3) := by decide +kernel
theorem dX3_order_13 : decode cX3_order 13 = .ok (.if_icmp .le 13, 3) := by decide +kernel
theorem dX3_order_16 : decode cX3_order 16 = .ok (.new 42, 3) := by decide +kernel
theorem dX3_order_19 : decode cX3_order 19 = .ok (.dup, 1) := by decide +kernel
theorem dX3_order_20 : decode cX3_order 20 = .ok (.ldc 174, 2) := by decide +kernel
theorem dX3_order_22 : decode cX3_order 22 = .ok (.invokespecial 46, 3) := by decide +kernel
theorem dX3_order_25 : decode cX3_order 25 = .ok (.athrow, 1) := by decide +kernel
theorem dX3_order_26 : decode cX3_order 26 = .ok (.aload_n 0, 1) := by decide +kernel
theorem dX3_order_27 : decode cX3_order 27 = .ok (.getfield 26, 3) := by decide +kernel
theorem dX3_order_30 : decode cX3_order 30 = .ok (.iload_n 1, 1) := by decide +kernel
theorem dX3_order_31 : decode cX3_order 31 = .ok (.invokevirtual 176, 3) := by decide +kernel
theorem dX3_order_34 : decode cX3_order 34 = .ok (.ifCond .eq 13, 3) := by decide +kernel
theorem dX3_order_37 : decode cX3_order 37 = .ok (.new 65, 3) := by decide +kernel
theorem dX3_order_40 : decode cX3_order 40 = .ok (.dup, 1) := by decide +kernel
theorem dX3_order_41 : decode cX3_order 41 = .ok (.ldc 179, 2) := by decide +kernel
theorem dX3_order_43 : decode cX3_order 43 = .ok (.invokespecial 69, 3) := by decide +kernel
theorem dX3_order_46 : decode cX3_order 46 = .ok (.athrow, 1) := by decide +kernel
theorem dX3_order_47 : decode cX3_order 47 = .ok (.aload_n 0, 1) := by decide +kernel
theorem dX3_order_48 : decode cX3_order 48 = .ok (.getfield 26, 3) := by decide +kernel
theorem dX3_order_51 : decode cX3_order 51 = .ok (.invokevirtual 181, 3) := by decide +kernel
theorem dX3_order_54 : decode cX3_order 54 = .ok (.ifCond .eq 13, 3) := by decide +kernel
theorem dX3_order_57 : decode cX3_order 57 = .ok (.new 65, 3) := by decide +kernel
theorem dX3_order_60 : decode cX3_order 60 = .ok (.dup, 1) := by decide +kernel
theorem dX3_order_61 : decode cX3_order 61 = .ok (.ldc 182, 2) := by decide +kernel
theorem dX3_order_63 : decode cX3_order 63 = .ok (.invokespecial 69, 3) := by decide +kernel
theorem dX3_order_66 : decode cX3_order 66 = .ok (.athrow, 1) := by decide +kernel
theorem dX3_order_67 : decode cX3_order 67 = .ok (.aload_n 0, 1) := by decide +kernel
theorem dX3_order_68 : decode cX3_order 68 = .ok (.getfield 26, 3) := by decide +kernel
theorem dX3_order_71 : decode cX3_order 71 = .ok (.iload_n 1, 1) := by decide +kernel
theorem dX3_order_72 : decode cX3_order 72 = .ok (.iload_n 2, 1) := by decide +kernel
theorem dX3_order_73 : decode cX3_order 73 = .ok (.invokevirtual 184, 3) := by decide +kernel
theorem dX3_order_76 : decode cX3_order 76 = .ok (.ireturn, 1) := by decide +kernel
set_option maxRecDepth 20000 in
theorem ggX3_nextAisle_X0_earliest : GoodIn wsX3_nextAisle wsX0_earliest := goodIn_r _ [7, 8, 9, 10, 11, 12, 13, 14, 15, 16, 17, 18, 19, 20, 21, 22, 23, 24, 25, 26, 27, 28, 29, 30, 31, 32, 33, 34, 35, 36, 37, 47, 48, 49, 50, 51, 52, 53, 54, 55, 56, 57] (by decide +kernel) (by decide +kernel)
set_option maxRecDepth 20000 in
theorem gX3_nextAisle_X0_earliest : GoodIn wsX3_nextAisle (wsV RX3 187 RX0 yX0_earliest wsX0_earliest) := goodIn_app (goodIn_of _ (by decide +kernel)) ggX3_nextAisle_X0_earliest
set_option maxRecDepth 20000 in
theorem ggX3_nextAisle_X0_boxOf : GoodIn wsX3_nextAisle wsX0_boxOf := goodIn_r _ [41, 8, 9, 27, 28, 29, 47, 48, 49, 50, 51] (by decide +kernel) (by decide +kernel)
set_option maxRecDepth 20000 in
theorem gX3_nextAisle_X0_boxOf : GoodIn wsX3_nextAisle (wsV RX3 191 RX0 yX0_boxOf wsX0_boxOf) := goodIn_app (goodIn_of _ (by decide +kernel)) ggX3_nextAisle_X0_boxOf
set_option maxRecDepth 20000 in
theorem ggX3_nextAisle_X2_aisleOfBox : GoodIn wsX3_nextAisle wsX2_aisleOfBox := goodIn_r _ [16, 17, 18, 19, 15, 20, 21, 22, 23, 24, 25, 26, 27, 28, 29, 30, 31, 32, 33, 34, 35, 36, 37, 52, 53, 54, 55, 56, 57] (by decide +kernel) (by decide +kernel)
set_option maxRecDepth 20000 in
theorem gX3_nextAisle_X2_aisleOfBox : GoodIn wsX3_nextAisle (wsV RX3 194 RX2 yX2_aisleOfBox wsX2_aisleOfBox) := goodIn_app (goodIn_of _ (by decide +kernel)) ggX3_nextAisle_X2_aisleOfBox
theorem dX3_nextAisle_0 : decode cX3_nextAisle 0 = .ok (.aload_n 0, 1) := by decide +kernel
theorem dX3_nextAisle_1 : decode cX3_nextAisle 1 = .ok (.getfield 26, 3) := by decide +kernel
theorem dX3_nextAisle_4 : decode cX3_nextAisle 4 = .ok (.aload_n 0, 1) := by decide +kernel
theorem dX3_nextAisle_5 : decode cX3_nextAisle 5 = .ok (.getfield 12, 3) := by decide +kernel
theorem dX3_nextAisle_8 : decode cX3_nextAisle 8 = .ok (.bipush (-2), 2) := by decide +kernel
theorem dX3_nextAisle_10 : decode cX3_nextAisle 10 = .ok (.invokevirtual 187, 3) := by decide +kernel
theorem dX3_nextAisle_13 : decode cX3_nextAisle 13 = .ok (.istore_n 1, 1) := by decide +kernel
theorem dX3_nextAisle_14 : decode cX3_nextAisle 14 = .ok (.aload_n 0, 1) := by decide +kernel
theorem dX3_nextAisle_15 : decode cX3_nextAisle 15 = .ok (.getfield 12, 3) := by decide +kernel
theorem dX3_nextAisle_18 : decode cX3_nextAisle 18 = .ok (.aload_n 0, 1) := by decide +kernel
theorem dX3_nextAisle_19 : decode cX3_nextAisle 19 = .ok (.getfield 26, 3) := by decide +kernel
theorem dX3_nextAisle_22 : decode cX3_nextAisle 22 = .ok (.iload_n 1, 1) := by decide +kernel
theorem dX3_nextAisle_23 : decode cX3_nextAisle 23 = .ok (.invokevirtual 191, 3) := by decide +kernel
theorem dX3_nextAisle_26 : decode cX3_nextAisle 26 = .ok (.invokevirtual 194, 3) := by decide +kernel
theorem dX3_nextAisle_29 : decode cX3_nextAisle 29 = .ok (.ireturn, 1) := by decide +kernel
set_option maxRecDepth 20000 in
theorem ggX3_fetch_X3_requirePerson : GoodIn wsX3_fetch wsX3_requirePerson := goodIn_ca (goodIn_r _ [11, 12, 13, 14, 15, 10, 16] (by decide +kernel) (by decide +kernel)) (goodIn_sub (fun _ h => List.mem_cons_of_mem _ (List.mem_append_right _ h)) (by decide +kernel))
set_option maxRecDepth 20000 in
theorem gX3_fetch_X3_requirePerson : GoodIn wsX3_fetch (wsV RX3 124 RX3 yX3_requirePerson wsX3_requirePerson) := goodIn_app (goodIn_of _ (by decide +kernel)) ggX3_fetch_X3_requirePerson
set_option maxRecDepth 20000 in
theorem ggX3_fetch_X3_requireInside : GoodIn wsX3_fetch wsX3_requireInside := goodIn_ca (goodIn_r _ [20, 1, 2, 5, 21, 22, 23, 24, 25, 26, 15, 10, 16, 78, 79, 80, 81, 82, 83, 84, 85, 86, 87, 88] (by decide +kernel) (by decide +kernel)) (goodIn_sub (fun _ h => List.mem_cons_of_mem _ (List.mem_append_left _ (List.mem_append_right _ h))) (by decide +kernel))
set_option maxRecDepth 20000 in
theorem gX3_fetch_X3_requireInside : GoodIn wsX3_fetch (wsV RX3 145 RX3 yX3_requireInside wsX3_requireInside) := goodIn_app (goodIn_of _ (by decide +kernel)) ggX3_fetch_X3_requireInside
set_option maxRecDepth 20000 in
theorem ggX3_fetch_X1_openAisle : GoodIn wsX3_fetch wsX1_openAisle := goodIn_r _ [30, 31, 32, 82, 83, 84, 85, 86, 87, 88] (by decide +kernel) (by decide +kernel)
set_option maxRecDepth 20000 in
theorem gX3_fetch_X1_openAisle : GoodIn wsX3_fetch (wsV RX3 118 RX1 yX1_openAisle wsX1_openAisle) := goodIn_app (goodIn_of _ (by decide +kernel)) ggX3_fetch_X1_openAisle
set_option maxRecDepth 20000 in
theorem ggX3_fetch_X0_earliest : GoodIn wsX3_fetch wsX0_earliest := goodIn_r _ [37, 38, 39, 40, 41, 42, 43, 44, 45, 46, 47, 48, 49, 50, 51, 52, 53, 54, 55, 56, 15, 10, 16, 57, 58, 59, 60, 61, 62, 63, 64, 89, 90, 91, 92, 93, 94, 95, 96, 97, 98, 99] (by decide +kernel) (by decide +kernel)
set_option maxRecDepth 20000 in
theorem gX3_fetch_X0_earliest : GoodIn wsX3_fetch (wsV RX3 187 RX0 yX0_earliest wsX0_earliest) := goodIn_app (goodIn_of _ (by decide +kernel)) ggX3_fetch_X0_earliest
set_option maxRecDepth 20000 in
theorem ggX3_fetch_X0_finish : GoodIn wsX3_fetch wsX0_finish := goodIn_r _ [68, 38, 40, 41, 69, 15, 10, 16, 89, 90, 91, 92, 93] (by decide +kernel) (by decide +kernel)
set_option maxRecDepth 20000 in
theorem gX3_fetch_X0_finish : GoodIn wsX3_fetch (wsV RX3 199 RX0 yX0_finish wsX0_finish) := goodIn_app (goodIn_of _ (by decide +kernel)) ggX3_fetch_X0_finish
set_option maxRecDepth 20000 in
theorem ggX3_fetch_X0_boxOf : GoodIn wsX3_fetch wsX0_boxOf := goodIn_r _ [73, 38, 39, 15, 10, 16, 89, 90, 91, 92, 93] (by decide +kernel) (by decide +kernel)
set_option maxRecDepth 20000 in
theorem gX3_fetch_X0_boxOf : GoodIn wsX3_fetch (wsV RX3 191 RX0 yX0_boxOf wsX0_boxOf) := goodIn_app (goodIn_of _ (by decide +kernel)) ggX3_fetch_X0_boxOf
set_option maxRecDepth 20000 in
theorem ggX3_fetch_X2_put : GoodIn wsX3_fetch wsX2_put := goodIn_r _ [77, 51, 52, 53, 54, 45, 55, 56, 15, 10, 16, 94, 95, 96, 97, 98, 99] (by decide +kernel) (by decide +kernel)
set_option maxRecDepth 20000 in
theorem gX3_fetch_X2_put : GoodIn wsX3_fetch (wsV RX3 85 RX2 yX2_put wsX2_put) := goodIn_app (goodIn_of _ (by decide +kernel)) ggX3_fetch_X2_put
theorem dX3_fetch_0 : decode cX3_fetch 0 = .ok (.aload_n 0, 1) := by decide +kernel
theorem dX3_fetch_1 : decode cX3_fetch 1 = .ok (.iload_n 1, 1) := by decide +kernel
theorem dX3_fetch_2 : decode cX3_fetch 2 = .ok (.invokevirtual 124, 3) := by decide +kernel
theorem dX3_fetch_5 : decode cX3_fetch 5 = .ok (.aload_n 0, 1) := by decide +kernel
theorem dX3_fetch_6 : decode cX3_fetch 6 = .ok (.iload_n 1, 1) := by decide +kernel
theorem dX3_fetch_7 : decode cX3_fetch 7 = .ok (.invokevirtual 145, 3) := by decide +kernel
theorem dX3_fetch_10 : decode cX3_fetch 10 = .ok (.aload_n 0, 1) := by decide +kernel
theorem dX3_fetch_11 : decode cX3_fetch 11 = .ok (.getfield 26, 3) := by decide +kernel
theorem dX3_fetch_14 : decode cX3_fetch 14 = .ok (.aload_n 0, 1) := by decide +kernel
theorem dX3_fetch_15 : decode cX3_fetch 15 = .ok (.getfield 12, 3) := by decide +kernel
theorem dX3_fetch_18 : decode cX3_fetch 18 = .ok (.aload_n 0, 1) := by decide +kernel
theorem dX3_fetch_19 : decode cX3_fetch 19 = .ok (.getfield 19, 3) := by decide +kernel
theorem dX3_fetch_22 : decode cX3_fetch 22 = .ok (.invokevirtual 118, 3) := by decide +kernel
theorem dX3_fetch_25 : decode cX3_fetch 25 = .ok (.invokevirtual 187, 3) := by decide +kernel
theorem dX3_fetch_28 : decode cX3_fetch 28 = .ok (.istore_n 2, 1) := by decide +kernel
theorem dX3_fetch_29 : decode cX3_fetch 29 = .ok (.iload_n 2, 1) := by decide +kernel
theorem dX3_fetch_30 : decode cX3_fetch 30 = .ok (.iconst (-1), 1) := by decide +kernel
theorem dX3_fetch_31 : decode cX3_fetch 31 = .ok (.if_icmp .ne 13, 3) := by decide +kernel
theorem dX3_fetch_34 : decode cX3_fetch 34 = .ok (.new 65, 3) := by decide +kernel
theorem dX3_fetch_37 : decode cX3_fetch 37 = .ok (.dup, 1) := by decide +kernel
theorem dX3_fetch_38 : decode cX3_fetch 38 = .ok (.ldc 197, 2) := by decide +kernel
theorem dX3_fetch_40 : decode cX3_fetch 40 = .ok (.invokespecial 69, 3) := by decide +kernel
theorem dX3_fetch_43 : decode cX3_fetch 43 = .ok (.athrow, 1) := by decide +kernel
theorem dX3_fetch_44 : decode cX3_fetch 44 = .ok (.aload_n 0, 1) := by decide +kernel
theorem dX3_fetch_45 : decode cX3_fetch 45 = .ok (.getfield 26, 3) := by decide +kernel
theorem dX3_fetch_48 : decode cX3_fetch 48 = .ok (.iload_n 2, 1) := by decide +kernel
theorem dX3_fetch_49 : decode cX3_fetch 49 = .ok (.aload_n 0, 1) := by decide +kernel
theorem dX3_fetch_50 : decode cX3_fetch 50 = .ok (.getfield 30, 3) := by decide +kernel
theorem dX3_fetch_53 : decode cX3_fetch 53 = .ok (.invokevirtual 199, 3) := by decide +kernel
theorem dX3_fetch_56 : decode cX3_fetch 56 = .ok (.aload_n 0, 1) := by decide +kernel
theorem dX3_fetch_57 : decode cX3_fetch 57 = .ok (.getfield 12, 3) := by decide +kernel
theorem dX3_fetch_60 : decode cX3_fetch 60 = .ok (.aload_n 0, 1) := by decide +kernel
theorem dX3_fetch_61 : decode cX3_fetch 61 = .ok (.getfield 26, 3) := by decide +kernel
theorem dX3_fetch_64 : decode cX3_fetch 64 = .ok (.iload_n 2, 1) := by decide +kernel
theorem dX3_fetch_65 : decode cX3_fetch 65 = .ok (.invokevirtual 191, 3) := by decide +kernel
theorem dX3_fetch_68 : decode cX3_fetch 68 = .ok (.iconst (-1), 1) := by decide +kernel
theorem dX3_fetch_69 : decode cX3_fetch 69 = .ok (.invokevirtual 85, 3) := by decide +kernel
theorem dX3_fetch_72 : decode cX3_fetch 72 = .ok (.iload_n 2, 1) := by decide +kernel
theorem dX3_fetch_73 : decode cX3_fetch 73 = .ok (.ireturn, 1) := by decide +kernel
set_option maxRecDepth 20000 in
theorem ggX3_waiting_X0_countOpen : GoodIn wsX3_waiting wsX0_countOpen := goodIn_r _ [6, 7, 8, 13, 14, 15, 16, 17] (by decide +kernel) (by decide +kernel)
set_option maxRecDepth 20000 in
theorem gX3_waiting_X0_countOpen : GoodIn wsX3_waiting (wsV RX3 212 RX0 yX0_countOpen wsX0_countOpen) := goodIn_app (goodIn_of _ (by decide +kernel)) ggX3_waiting_X0_countOpen
theorem dX3_waiting_0 : decode cX3_waiting 0 = .ok (.aload_n 0, 1) := by decide +kernel
theorem dX3_waiting_1 : decode cX3_waiting 1 = .ok (.getfield 26, 3) := by decide +kernel
theorem dX3_waiting_4 : decode cX3_waiting 4 = .ok (.invokevirtual 212, 3) := by decide +kernel
theorem dX3_waiting_7 : decode cX3_waiting 7 = .ok (.ireturn, 1) := by decide +kernel
set_option maxRecDepth 20000 in
theorem ggX3_late_X0_countLate : GoodIn wsX3_late wsX0_countLate := goodIn_r _ [6, 7, 12, 13, 14, 15, 16] (by decide +kernel) (by decide +kernel)
set_option maxRecDepth 20000 in
theorem gX3_late_X0_countLate : GoodIn wsX3_late (wsV RX3 215 RX0 yX0_countLate wsX0_countLate) := goodIn_app (goodIn_of _ (by decide +kernel)) ggX3_late_X0_countLate
theorem dX3_late_0 : decode cX3_late 0 = .ok (.aload_n 0, 1) := by decide +kernel
theorem dX3_late_1 : decode cX3_late 1 = .ok (.getfield 26, 3) := by decide +kernel
theorem dX3_late_4 : decode cX3_late 4 = .ok (.invokevirtual 215, 3) := by decide +kernel
theorem dX3_late_7 : decode cX3_late 7 = .ok (.ireturn, 1) := by decide +kernel
set_option maxRecDepth 20000 in
theorem ggX3_requireShelf_X3_isBelow : GoodIn wsX3_requireShelf wsX3_isBelow := goodIn_r _ [6] (by decide +kernel) (by decide +kernel)
set_option maxRecDepth 20000 in
theorem gX3_requireShelf_X3_isBelow : GoodIn wsX3_requireShelf (va_wsS RX3 38 yX3_isBelow wsX3_isBelow) := goodIn_app (goodIn_of _ (by decide +kernel)) ggX3_requireShelf_X3_isBelow
theorem dX3_requireShelf_0 : decode cX3_requireShelf 0 = .ok (.iload_n 1, 1) := by decide +kernel
theorem dX3_requireShelf_1 : decode cX3_requireShelf 1 = .ok (.bipush 6, 2) := by decide +kernel
theorem dX3_requireShelf_3 : decode cX3_requireShelf 3 = .ok (.invokestatic 38, 3) := by decide +kernel
theorem dX3_requireShelf_6 : decode cX3_requireShelf 6 = .ok (.ifCond .ne 13, 3) := by decide +kernel
theorem dX3_requireShelf_9 : decode cX3_requireShelf 9 = .ok (.new 218, 3) := by decide +kernel
theorem dX3_requireShelf_12 : decode cX3_requireShelf 12 = .ok (.dup, 1) := by decide +kernel
theorem dX3_requireShelf_13 : decode cX3_requireShelf 13 = .ok (.ldc 220, 2) := by decide +kernel
theorem dX3_requireShelf_15 : decode cX3_requireShelf 15 = .ok (.invokespecial 222, 3) := by decide +kernel
theorem dX3_requireShelf_18 : decode cX3_requireShelf 18 = .ok (.athrow, 1) := by decide +kernel
theorem dX3_requireShelf_19 : decode cX3_requireShelf 19 = .ok (.return_, 1) := by decide +kernel
set_option maxRecDepth 20000 in
theorem ggX3_requireAisle_X3_isBelow : GoodIn wsX3_requireAisle wsX3_isBelow := goodIn_r _ [6] (by decide +kernel) (by decide +kernel)
set_option maxRecDepth 20000 in
theorem gX3_requireAisle_X3_isBelow : GoodIn wsX3_requireAisle (va_wsS RX3 38 yX3_isBelow wsX3_isBelow) := goodIn_app (goodIn_of _ (by decide +kernel)) ggX3_requireAisle_X3_isBelow
theorem dX3_requireAisle_0 : decode cX3_requireAisle 0 = .ok (.iload_n 1, 1) := by decide +kernel
theorem dX3_requireAisle_1 : decode cX3_requireAisle 1 = .ok (.bipush 7, 2) := by decide +kernel
theorem dX3_requireAisle_3 : decode cX3_requireAisle 3 = .ok (.invokestatic 38, 3) := by decide +kernel
theorem dX3_requireAisle_6 : decode cX3_requireAisle 6 = .ok (.ifCond .ne 13, 3) := by decide +kernel
theorem dX3_requireAisle_9 : decode cX3_requireAisle 9 = .ok (.new 218, 3) := by decide +kernel
theorem dX3_requireAisle_12 : decode cX3_requireAisle 12 = .ok (.dup, 1) := by decide +kernel
theorem dX3_requireAisle_13 : decode cX3_requireAisle 13 = .ok (.ldc 223, 2) := by decide +kernel
theorem dX3_requireAisle_15 : decode cX3_requireAisle 15 = .ok (.invokespecial 222, 3) := by decide +kernel
theorem dX3_requireAisle_18 : decode cX3_requireAisle 18 = .ok (.athrow, 1) := by decide +kernel
theorem dX3_requireAisle_19 : decode cX3_requireAisle 19 = .ok (.return_, 1) := by decide +kernel
set_option maxRecDepth 20000 in
theorem ggX3_requireSpot_X3_isSpot : GoodIn wsX3_requireSpot wsX3_isSpot := goodIn_r _ [6, 7, 8, 5, 9, 10, 11, 12, 13, 14, 15] (by decide +kernel) (by decide +kernel)
set_option maxRecDepth 20000 in
theorem gX3_requireSpot_X3_isSpot : GoodIn wsX3_requireSpot (va_wsS RX3 225 yX3_isSpot wsX3_isSpot) := goodIn_app (goodIn_of _ (by decide +kernel)) ggX3_requireSpot_X3_isSpot
theorem dX3_requireSpot_0 : decode cX3_requireSpot 0 = .ok (.iload_n 1, 1) := by decide +kernel
theorem dX3_requireSpot_1 : decode cX3_requireSpot 1 = .ok (.invokestatic 225, 3) := by decide +kernel
theorem dX3_requireSpot_4 : decode cX3_requireSpot 4 = .ok (.ifCond .ne 13, 3) := by decide +kernel
theorem dX3_requireSpot_7 : decode cX3_requireSpot 7 = .ok (.new 218, 3) := by decide +kernel
theorem dX3_requireSpot_10 : decode cX3_requireSpot 10 = .ok (.dup, 1) := by decide +kernel
theorem dX3_requireSpot_11 : decode cX3_requireSpot 11 = .ok (.ldc 228, 2) := by decide +kernel
theorem dX3_requireSpot_13 : decode cX3_requireSpot 13 = .ok (.invokespecial 222, 3) := by decide +kernel
theorem dX3_requireSpot_16 : decode cX3_requireSpot 16 = .ok (.athrow, 1) := by decide +kernel
theorem dX3_requireSpot_17 : decode cX3_requireSpot 17 = .ok (.return_, 1) := by decide +kernel
set_option maxRecDepth 20000 in
theorem ggX3_requirePerson_X3_isBelow : GoodIn wsX3_requirePerson wsX3_isBelow := goodIn_r _ [6] (by decide +kernel) (by decide +kernel)
set_option maxRecDepth 20000 in
theorem gX3_requirePerson_X3_isBelow : GoodIn wsX3_requirePerson (va_wsS RX3 38 yX3_isBelow wsX3_isBelow) := goodIn_app (goodIn_of _ (by decide +kernel)) ggX3_requirePerson_X3_isBelow
theorem dX3_requirePerson_0 : decode cX3_requirePerson 0 = .ok (.iload_n 1, 1) := by decide +kernel
theorem dX3_requirePerson_1 : decode cX3_requirePerson 1 = .ok (.iconst 4, 1) := by decide +kernel
theorem dX3_requirePerson_2 : decode cX3_requirePerson 2 = .ok (.invokestatic 38, 3) := by decide +kernel
theorem dX3_requirePerson_5 : decode cX3_requirePerson 5 = .ok (.ifCond .ne 13, 3) := by decide +kernel
theorem dX3_requirePerson_8 : decode cX3_requirePerson 8 = .ok (.new 218, 3) := by decide +kernel
theorem dX3_requirePerson_11 : decode cX3_requirePerson 11 = .ok (.dup, 1) := by decide +kernel
theorem dX3_requirePerson_12 : decode cX3_requirePerson 12 = .ok (.ldc 230, 2) := by decide +kernel
theorem dX3_requirePerson_14 : decode cX3_requirePerson 14 = .ok (.invokespecial 222, 3) := by decide +kernel
theorem dX3_requirePerson_17 : decode cX3_requirePerson 17 = .ok (.athrow, 1) := by decide +kernel
theorem dX3_requirePerson_18 : decode cX3_requirePerson 18 = .ok (.return_, 1) := by decide +kernel
set_option maxRecDepth 20000 in
theorem ggX3_requireBox_X2_has : GoodIn wsX3_requireBox wsX2_has := goodIn_r _ [8, 9, 10, 11, 12, 17, 18, 19, 20, 21, 22] (by decide +kernel) (by decide +kernel)
set_option maxRecDepth 20000 in
theorem gX3_requireBox_X2_has : GoodIn wsX3_requireBox (wsV RX3 232 RX2 yX2_has wsX2_has) := goodIn_app (goodIn_of _ (by decide +kernel)) ggX3_requireBox_X2_has
theorem dX3_requireBox_0 : decode cX3_requireBox 0 = .ok (.aload_n 0, 1) := by decide +kernel
theorem dX3_requireBox_1 : decode cX3_requireBox 1 = .ok (.getfield 12, 3) := by decide +kernel
theorem dX3_requireBox_4 : decode cX3_requireBox 4 = .ok (.iload_n 1, 1) := by decide +kernel
theorem dX3_requireBox_5 : decode cX3_requireBox 5 = .ok (.invokevirtual 232, 3) := by decide +kernel
theorem dX3_requireBox_8 : decode cX3_requireBox 8 = .ok (.ifCond .ne 13, 3) := by decide +kernel
theorem dX3_requireBox_11 : decode cX3_requireBox 11 = .ok (.new 218, 3) := by decide +kernel
theorem dX3_requireBox_14 : decode cX3_requireBox 14 = .ok (.dup, 1) := by decide +kernel
theorem dX3_requireBox_15 : decode cX3_requireBox 15 = .ok (.ldc 235, 2) := by decide +kernel
theorem dX3_requireBox_17 : decode cX3_requireBox 17 = .ok (.invokespecial 222, 3) := by decide +kernel
theorem dX3_requireBox_20 : decode cX3_requireBox 20 = .ok (.athrow, 1) := by decide +kernel
theorem dX3_requireBox_21 : decode cX3_requireBox 21 = .ok (.return_, 1) := by decide +kernel
set_option maxRecDepth 20000 in
theorem ggX3_requireOut_X2_whereIs : GoodIn wsX3_requireOut wsX2_whereIs := goodIn_r _ [8, 9, 10, 11, 12, 7, 13, 14, 15, 16, 17, 22, 23, 24, 25, 26, 27] (by decide +kernel) (by decide +kernel)
set_option maxRecDepth 20000 in
theorem gX3_requireOut_X2_whereIs : GoodIn wsX3_requireOut (wsV RX3 88 RX2 yX2_whereIs wsX2_whereIs) := goodIn_app (goodIn_of _ (by decide +kernel)) ggX3_requireOut_X2_whereIs
theorem dX3_requireOut_0 : decode cX3_requireOut 0 = .ok (.aload_n 0, 1) := by decide +kernel
theorem dX3_requireOut_1 : decode cX3_requireOut 1 = .ok (.getfield 12, 3) := by decide +kernel
theorem dX3_requireOut_4 : decode cX3_requireOut 4 = .ok (.iload_n 1, 1) := by decide +kernel
theorem dX3_requireOut_5 : decode cX3_requireOut 5 = .ok (.invokevirtual 88, 3) := by decide +kernel
theorem dX3_requireOut_8 : decode cX3_requireOut 8 = .ok (.iconst (-1), 1) := by decide +kernel
theorem dX3_requireOut_9 : decode cX3_requireOut 9 = .ok (.if_icmp .eq 13, 3) := by decide +kernel
theorem dX3_requireOut_12 : decode cX3_requireOut 12 = .ok (.new 65, 3) := by decide +kernel
theorem dX3_requireOut_15 : decode cX3_requireOut 15 = .ok (.dup, 1) := by decide +kernel
theorem dX3_requireOut_16 : decode cX3_requireOut 16 = .ok (.ldc 237, 2) := by decide +kernel
theorem dX3_requireOut_18 : decode cX3_requireOut 18 = .ok (.invokespecial 69, 3) := by decide +kernel
theorem dX3_requireOut_21 : decode cX3_requireOut 21 = .ok (.athrow, 1) := by decide +kernel
theorem dX3_requireOut_22 : decode cX3_requireOut 22 = .ok (.return_, 1) := by decide +kernel
set_option maxRecDepth 20000 in
theorem ggX3_requireInside_X1_isInside : GoodIn wsX3_requireInside wsX1_isInside := goodIn_r _ [8, 9, 10, 11, 12, 17, 18, 19, 20, 21, 22, 23] (by decide +kernel) (by decide +kernel)
set_option maxRecDepth 20000 in
theorem gX3_requireInside_X1_isInside : GoodIn wsX3_requireInside (wsV RX3 127 RX1 yX1_isInside wsX1_isInside) := goodIn_app (goodIn_of _ (by decide +kernel)) ggX3_requireInside_X1_isInside
theorem dX3_requireInside_0 : decode cX3_requireInside 0 = .ok (.aload_n 0, 1) := by decide +kernel
theorem dX3_requireInside_1 : decode cX3_requireInside 1 = .ok (.getfield 19, 3) := by decide +kernel
theorem dX3_requireInside_4 : decode cX3_requireInside 4 = .ok (.iload_n 1, 1) := by decide +kernel
theorem dX3_requireInside_5 : decode cX3_requireInside 5 = .ok (.invokevirtual 127, 3) := by decide +kernel
theorem dX3_requireInside_8 : decode cX3_requireInside 8 = .ok (.ifCond .ne 13, 3) := by decide +kernel
theorem dX3_requireInside_11 : decode cX3_requireInside 11 = .ok (.new 65, 3) := by decide +kernel
theorem dX3_requireInside_14 : decode cX3_requireInside 14 = .ok (.dup, 1) := by decide +kernel
theorem dX3_requireInside_15 : decode cX3_requireInside 15 = .ok (.ldc 239, 2) := by decide +kernel
theorem dX3_requireInside_17 : decode cX3_requireInside 17 = .ok (.invokespecial 69, 3) := by decide +kernel
theorem dX3_requireInside_20 : decode cX3_requireInside 20 = .ok (.athrow, 1) := by decide +kernel
theorem dX3_requireInside_21 : decode cX3_requireInside 21 = .ok (.return_, 1) := by decide +kernel
theorem dX3_isBelow_0 : decode cX3_isBelow 0 = .ok (.iload_n 0, 1) := by decide +kernel
theorem dX3_isBelow_1 : decode cX3_isBelow 1 = .ok (.ifCond .lt 12, 3) := by decide +kernel
theorem dX3_isBelow_4 : decode cX3_isBelow 4 = .ok (.iload_n 0, 1) := by decide +kernel
theorem dX3_isBelow_5 : decode cX3_isBelow 5 = .ok (.iload_n 1, 1) := by decide +kernel
theorem dX3_isBelow_6 : decode cX3_isBelow 6 = .ok (.if_icmp .ge 7, 3) := by decide +kernel
theorem dX3_isBelow_9 : decode cX3_isBelow 9 = .ok (.iconst 1, 1) := by decide +kernel
theorem dX3_isBelow_10 : decode cX3_isBelow 10 = .ok (.goto 4, 3) := by decide +kernel
theorem dX3_isBelow_13 : decode cX3_isBelow 13 = .ok (.iconst 0, 1) := by decide +kernel
theorem dX3_isBelow_14 : decode cX3_isBelow 14 = .ok (.ireturn, 1) := by decide +kernel
theorem dX3_spotAt_0 : decode cX3_spotAt 0 = .ok (.bipush 100, 2) := by decide +kernel
theorem dX3_spotAt_2 : decode cX3_spotAt 2 = .ok (.iload_n 0, 1) := by decide +kernel
theorem dX3_spotAt_3 : decode cX3_spotAt 3 = .ok (.imul, 1) := by decide +kernel
theorem dX3_spotAt_4 : decode cX3_spotAt 4 = .ok (.bipush 10, 2) := by decide +kernel
theorem dX3_spotAt_6 : decode cX3_spotAt 6 = .ok (.iload_n 1, 1) := by decide +kernel
theorem dX3_spotAt_7 : decode cX3_spotAt 7 = .ok (.imul, 1) := by decide +kernel
theorem dX3_spotAt_8 : decode cX3_spotAt 8 = .ok (.iadd, 1) := by decide +kernel
theorem dX3_spotAt_9 : decode cX3_spotAt 9 = .ok (.iload_n 2, 1) := by decide +kernel
theorem dX3_spotAt_10 : decode cX3_spotAt 10 = .ok (.iadd, 1) := by decide +kernel
theorem dX3_spotAt_11 : decode cX3_spotAt 11 = .ok (.ireturn, 1) := by decide +kernel
theorem dX3_shelfAt_0 : decode cX3_shelfAt 0 = .ok (.iload_n 0, 1) := by decide +kernel
theorem dX3_shelfAt_1 : decode cX3_shelfAt 1 = .ok (.bipush 100, 2) := by decide +kernel
theorem dX3_shelfAt_3 : decode cX3_shelfAt 3 = .ok (.idiv, 1) := by decide +kernel
theorem dX3_shelfAt_4 : decode cX3_shelfAt 4 = .ok (.ireturn, 1) := by decide +kernel
theorem dX3_sideAt_0 : decode cX3_sideAt 0 = .ok (.iload_n 0, 1) := by decide +kernel
theorem dX3_sideAt_1 : decode cX3_sideAt 1 = .ok (.bipush 10, 2) := by decide +kernel
theorem dX3_sideAt_3 : decode cX3_sideAt 3 = .ok (.idiv, 1) := by decide +kernel
theorem dX3_sideAt_4 : decode cX3_sideAt 4 = .ok (.bipush 10, 2) := by decide +kernel
theorem dX3_sideAt_6 : decode cX3_sideAt 6 = .ok (.irem, 1) := by decide +kernel
theorem dX3_sideAt_7 : decode cX3_sideAt 7 = .ok (.ireturn, 1) := by decide +kernel
theorem dX3_placeAt_0 : decode cX3_placeAt 0 = .ok (.iload_n 0, 1) := by decide +kernel
theorem dX3_placeAt_1 : decode cX3_placeAt 1 = .ok (.bipush 10, 2) := by decide +kernel
theorem dX3_placeAt_3 : decode cX3_placeAt 3 = .ok (.irem, 1) := by decide +kernel
theorem dX3_placeAt_4 : decode cX3_placeAt 4 = .ok (.ireturn, 1) := by decide +kernel
set_option maxRecDepth 20000 in
theorem ggX3_isSpot_X3_shelfAt : GoodIn wsX3_isSpot wsX3_shelfAt := goodIn_r _ [4] (by decide +kernel) (by decide +kernel)
set_option maxRecDepth 20000 in
theorem gX3_isSpot_X3_shelfAt : GoodIn wsX3_isSpot (va_wsS RX3 241 yX3_shelfAt wsX3_shelfAt) := goodIn_app (goodIn_of _ (by decide +kernel)) ggX3_isSpot_X3_shelfAt
set_option maxRecDepth 20000 in
theorem ggX3_isSpot_X3_sideAt : GoodIn wsX3_isSpot wsX3_sideAt := goodIn_r _ [7] (by decide +kernel) (by decide +kernel)
set_option maxRecDepth 20000 in
theorem gX3_isSpot_X3_sideAt : GoodIn wsX3_isSpot (va_wsS RX3 244 yX3_sideAt wsX3_sideAt) := goodIn_app (goodIn_of _ (by decide +kernel)) ggX3_isSpot_X3_sideAt
set_option maxRecDepth 20000 in
theorem ggX3_isSpot_X3_placeAt : GoodIn wsX3_isSpot wsX3_placeAt := goodIn_r _ [10] (by decide +kernel) (by decide +kernel)
set_option maxRecDepth 20000 in
theorem gX3_isSpot_X3_placeAt : GoodIn wsX3_isSpot (va_wsS RX3 247 yX3_placeAt wsX3_placeAt) := goodIn_app (goodIn_of _ (by decide +kernel)) ggX3_isSpot_X3_placeAt
theorem dX3_isSpot_0 : decode cX3_isSpot 0 = .ok (.iload_n 0, 1) := by decide +kernel
theorem dX3_isSpot_1 : decode cX3_isSpot 1 = .ok (.ifCond .lt 32, 3) := by decide +kernel
theorem dX3_isSpot_4 : decode cX3_isSpot 4 = .ok (.iload_n 0, 1) := by decide +kernel
theorem dX3_isSpot_5 : decode cX3_isSpot 5 = .ok (.invokestatic 241, 3) := by decide +kernel
theorem dX3_isSpot_8 : decode cX3_isSpot 8 = .ok (.bipush 6, 2) := by decide +kernel
theorem dX3_isSpot_10 : decode cX3_isSpot 10 = .ok (.if_icmp .ge 23, 3) := by decide +kernel
theorem dX3_isSpot_13 : decode cX3_isSpot 13 = .ok (.iload_n 0, 1) := by decide +kernel
theorem dX3_isSpot_14 : decode cX3_isSpot 14 = .ok (.invokestatic 244, 3) := by decide +kernel
theorem dX3_isSpot_17 : decode cX3_isSpot 17 = .ok (.iconst 2, 1) := by decide +kernel
theorem dX3_isSpot_18 : decode cX3_isSpot 18 = .ok (.if_icmp .ge 15, 3) := by decide +kernel
theorem dX3_isSpot_21 : decode cX3_isSpot 21 = .ok (.iload_n 0, 1) := by decide +kernel
theorem dX3_isSpot_22 : decode cX3_isSpot 22 = .ok (.invokestatic 247, 3) := by decide +kernel
theorem dX3_isSpot_25 : decode cX3_isSpot 25 = .ok (.iconst 3, 1) := by decide +kernel
theorem dX3_isSpot_26 : decode cX3_isSpot 26 = .ok (.if_icmp .ge 7, 3) := by decide +kernel
theorem dX3_isSpot_29 : decode cX3_isSpot 29 = .ok (.iconst 1, 1) := by decide +kernel
theorem dX3_isSpot_30 : decode cX3_isSpot 30 = .ok (.goto 4, 3) := by decide +kernel
theorem dX3_isSpot_33 : decode cX3_isSpot 33 = .ok (.iconst 0, 1) := by decide +kernel
theorem dX3_isSpot_34 : decode cX3_isSpot 34 = .ok (.ireturn, 1) := by decide +kernel
set_option maxRecDepth 20000 in
theorem ggX3_aisleAt_X3_shelfAt : GoodIn wsX3_aisleAt wsX3_shelfAt := goodIn_r _ [4] (by decide +kernel) (by decide +kernel)
set_option maxRecDepth 20000 in
theorem gX3_aisleAt_X3_shelfAt : GoodIn wsX3_aisleAt (va_wsS RX3 241 yX3_shelfAt wsX3_shelfAt) := goodIn_app (goodIn_of _ (by decide +kernel)) ggX3_aisleAt_X3_shelfAt
set_option maxRecDepth 20000 in
theorem ggX3_aisleAt_X3_sideAt : GoodIn wsX3_aisleAt wsX3_sideAt := goodIn_r _ [7] (by decide +kernel) (by decide +kernel)
set_option maxRecDepth 20000 in
theorem gX3_aisleAt_X3_sideAt : GoodIn wsX3_aisleAt (va_wsS RX3 244 yX3_sideAt wsX3_sideAt) := goodIn_app (goodIn_of _ (by decide +kernel)) ggX3_aisleAt_X3_sideAt
theorem dX3_aisleAt_0 : decode cX3_aisleAt 0 = .ok (.iload_n 0, 1) := by decide +kernel
theorem dX3_aisleAt_1 : decode cX3_aisleAt 1 = .ok (.invokestatic 241, 3) := by decide +kernel
theorem dX3_aisleAt_4 : decode cX3_aisleAt 4 = .ok (.iload_n 0, 1) := by decide +kernel
theorem dX3_aisleAt_5 : decode cX3_aisleAt 5 = .ok (.invokestatic 244, 3) := by decide +kernel
theorem dX3_aisleAt_8 : decode cX3_aisleAt 8 = .ok (.iadd, 1) := by decide +kernel
theorem dX3_aisleAt_9 : decode cX3_aisleAt 9 = .ok (.ireturn, 1) := by decide +kernel
