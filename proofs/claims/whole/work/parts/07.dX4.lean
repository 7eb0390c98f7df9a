theorem dX4_init_0 : decode cX4_init 0 = .ok (.aload_n 0, 1) := by decide +kernel
theorem dX4_init_1 : decode cX4_init 1 = .ok (.invokespecial 1, 3) := by decide +kernel
theorem dX4_init_4 : decode cX4_init 4 = .ok (.aload_n 0, 1) := by decide +kernel
theorem dX4_init_5 : decode cX4_init 5 = .ok (.bipush 6, 2) := by decide +kernel
theorem dX4_init_7 : decode cX4_init 7 = .ok (.newarray .int, 2) := by decide +kernel
theorem dX4_init_9 : decode cX4_init 9 = .ok (.putfield 7, 3) := by decide +kernel
theorem dX4_init_12 : decode cX4_init 12 = .ok (.aload_n 0, 1) := by decide +kernel
theorem dX4_init_13 : decode cX4_init 13 = .ok (.bipush 20, 2) := by decide +kernel
theorem dX4_init_15 : decode cX4_init 15 = .ok (.newarray .int, 2) := by decide +kernel
theorem dX4_init_17 : decode cX4_init 17 = .ok (.putfield 13, 3) := by decide +kernel
theorem dX4_init_20 : decode cX4_init 20 = .ok (.aload_n 0, 1) := by decide +kernel
theorem dX4_init_21 : decode cX4_init 21 = .ok (.bipush 20, 2) := by decide +kernel
theorem dX4_init_23 : decode cX4_init 23 = .ok (.newarray .int, 2) := by decide +kernel
theorem dX4_init_25 : decode cX4_init 25 = .ok (.putfield 16, 3) := by decide +kernel
theorem dX4_init_28 : decode cX4_init 28 = .ok (.aload_n 0, 1) := by decide +kernel
theorem dX4_init_29 : decode cX4_init 29 = .ok (.bipush 20, 2) := by decide +kernel
theorem dX4_init_31 : decode cX4_init 31 = .ok (.newarray .int, 2) := by decide +kernel
theorem dX4_init_33 : decode cX4_init 33 = .ok (.putfield 19, 3) := by decide +kernel
theorem dX4_init_36 : decode cX4_init 36 = .ok (.aload_n 0, 1) := by decide +kernel
theorem dX4_init_37 : decode cX4_init 37 = .ok (.bipush 36, 2) := by decide +kernel
theorem dX4_init_39 : decode cX4_init 39 = .ok (.newarray .int, 2) := by decide +kernel
theorem dX4_init_41 : decode cX4_init 41 = .ok (.putfield 22, 3) := by decide +kernel
theorem dX4_init_44 : decode cX4_init 44 = .ok (.aload_n 0, 1) := by decide +kernel
theorem dX4_init_45 : decode cX4_init 45 = .ok (.bipush 7, 2) := by decide +kernel
theorem dX4_init_47 : decode cX4_init 47 = .ok (.newarray .boolean, 2) := by decide +kernel
theorem dX4_init_49 : decode cX4_init 49 = .ok (.putfield 25, 3) := by decide +kernel
theorem dX4_init_52 : decode cX4_init 52 = .ok (.aload_n 0, 1) := by decide +kernel
theorem dX4_init_53 : decode cX4_init 53 = .ok (.iconst 4, 1) := by decide +kernel
theorem dX4_init_54 : decode cX4_init 54 = .ok (.newarray .boolean, 2) := by decide +kernel
theorem dX4_init_56 : decode cX4_init 56 = .ok (.putfield 29, 3) := by decide +kernel
theorem dX4_init_59 : decode cX4_init 59 = .ok (.aload_n 0, 1) := by decide +kernel
theorem dX4_init_60 : decode cX4_init 60 = .ok (.bipush 30, 2) := by decide +kernel
theorem dX4_init_62 : decode cX4_init 62 = .ok (.newarray .int, 2) := by decide +kernel
theorem dX4_init_64 : decode cX4_init 64 = .ok (.putfield 32, 3) := by decide +kernel
theorem dX4_init_67 : decode cX4_init 67 = .ok (.aload_n 0, 1) := by decide +kernel
theorem dX4_init_68 : decode cX4_init 68 = .ok (.bipush 30, 2) := by decide +kernel
theorem dX4_init_70 : decode cX4_init 70 = .ok (.newarray .int, 2) := by decide +kernel
theorem dX4_init_72 : decode cX4_init 72 = .ok (.putfield 35, 3) := by decide +kernel
theorem dX4_init_75 : decode cX4_init 75 = .ok (.aload_n 0, 1) := by decide +kernel
theorem dX4_init_76 : decode cX4_init 76 = .ok (.bipush 30, 2) := by decide +kernel
theorem dX4_init_78 : decode cX4_init 78 = .ok (.newarray .boolean, 2) := by decide +kernel
theorem dX4_init_80 : decode cX4_init 80 = .ok (.putfield 38, 3) := by decide +kernel
theorem dX4_init_83 : decode cX4_init 83 = .ok (.aload_n 0, 1) := by decide +kernel
theorem dX4_init_84 : decode cX4_init 84 = .ok (.iconst 0, 1) := by decide +kernel
theorem dX4_init_85 : decode cX4_init 85 = .ok (.putfield 41, 3) := by decide +kernel
theorem dX4_init_88 : decode cX4_init 88 = .ok (.return_, 1) := by decide +kernel
theorem dX4_thrown_0 : decode cX4_thrown 0 = .ok (.aload_n 0, 1) := by decide +kernel
theorem dX4_thrown_1 : decode cX4_thrown 1 = .ok (.getfield 41, 3) := by decide +kernel
theorem dX4_thrown_4 : decode cX4_thrown 4 = .ok (.ireturn, 1) := by decide +kernel
theorem dX4_fails_0 : decode cX4_fails 0 = .ok (.aload_n 0, 1) := by decide +kernel
theorem dX4_fails_1 : decode cX4_fails 1 = .ok (.iload_n 1, 1) := by decide +kernel
theorem dX4_fails_2 : decode cX4_fails 2 = .ok (.putfield 41, 3) := by decide +kernel
theorem dX4_fails_5 : decode cX4_fails 5 = .ok (.iconst 0, 1) := by decide +kernel
theorem dX4_fails_6 : decode cX4_fails 6 = .ok (.ireturn, 1) := by decide +kernel
theorem dX4_in_0 : decode cX4_in 0 = .ok (.iload_n 0, 1) := by decide +kernel
theorem dX4_in_1 : decode cX4_in 1 = .ok (.iload_n 1, 1) := by decide +kernel
theorem dX4_in_2 : decode cX4_in 2 = .ok (.if_icmp .lt 12, 3) := by decide +kernel
theorem dX4_in_5 : decode cX4_in 5 = .ok (.iload_n 0, 1) := by decide +kernel
theorem dX4_in_6 : decode cX4_in 6 = .ok (.iload_n 2, 1) := by decide +kernel
theorem dX4_in_7 : decode cX4_in 7 = .ok (.if_icmp .gt 7, 3) := by decide +kernel
theorem dX4_in_10 : decode cX4_in 10 = .ok (.iconst 1, 1) := by decide +kernel
theorem dX4_in_11 : decode cX4_in 11 = .ok (.goto 4, 3) := by decide +kernel
theorem dX4_in_14 : decode cX4_in 14 = .ok (.iconst 0, 1) := by decide +kernel
theorem dX4_in_15 : decode cX4_in 15 = .ok (.ireturn, 1) := by decide +kernel
set_option maxRecDepth 20000 in
theorem ggX4_isShelf_X4_in : GoodIn wsX4_isShelf wsX4_in := goodIn_r _ [4] (by decide +kernel) (by decide +kernel)
set_option maxRecDepth 20000 in
theorem gX4_isShelf_X4_in : GoodIn wsX4_isShelf (va_wsS RX4 45 yX4_in wsX4_in) := goodIn_app (goodIn_of _ (by decide +kernel)) ggX4_isShelf_X4_in
theorem dX4_isShelf_0 : decode cX4_isShelf 0 = .ok (.iload_n 0, 1) := by decide +kernel
theorem dX4_isShelf_1 : decode cX4_isShelf 1 = .ok (.iconst 0, 1) := by decide +kernel
theorem dX4_isShelf_2 : decode cX4_isShelf 2 = .ok (.iconst 5, 1) := by decide +kernel
theorem dX4_isShelf_3 : decode cX4_isShelf 3 = .ok (.invokestatic 45, 3) := by decide +kernel
theorem dX4_isShelf_6 : decode cX4_isShelf 6 = .ok (.ireturn, 1) := by decide +kernel
set_option maxRecDepth 20000 in
theorem ggX4_isBox_X4_in : GoodIn wsX4_isBox wsX4_in := goodIn_r _ [5] (by decide +kernel) (by decide +kernel)
set_option maxRecDepth 20000 in
theorem gX4_isBox_X4_in : GoodIn wsX4_isBox (va_wsS RX4 45 yX4_in wsX4_in) := goodIn_app (goodIn_of _ (by decide +kernel)) ggX4_isBox_X4_in
theorem dX4_isBox_0 : decode cX4_isBox 0 = .ok (.iload_n 1, 1) := by decide +kernel
theorem dX4_isBox_1 : decode cX4_isBox 1 = .ok (.iconst 0, 1) := by decide +kernel
theorem dX4_isBox_2 : decode cX4_isBox 2 = .ok (.aload_n 0, 1) := by decide +kernel
theorem dX4_isBox_3 : decode cX4_isBox 3 = .ok (.getfield 49, 3) := by decide +kernel
theorem dX4_isBox_6 : decode cX4_isBox 6 = .ok (.iconst 1, 1) := by decide +kernel
theorem dX4_isBox_7 : decode cX4_isBox 7 = .ok (.isub, 1) := by decide +kernel
theorem dX4_isBox_8 : decode cX4_isBox 8 = .ok (.invokestatic 45, 3) := by decide +kernel
theorem dX4_isBox_11 : decode cX4_isBox 11 = .ok (.ireturn, 1) := by decide +kernel
set_option maxRecDepth 20000 in
theorem ggX4_isPerson_X4_in : GoodIn wsX4_isPerson wsX4_in := goodIn_r _ [4] (by decide +kernel) (by decide +kernel)
set_option maxRecDepth 20000 in
theorem gX4_isPerson_X4_in : GoodIn wsX4_isPerson (va_wsS RX4 45 yX4_in wsX4_in) := goodIn_app (goodIn_of _ (by decide +kernel)) ggX4_isPerson_X4_in
theorem dX4_isPerson_0 : decode cX4_isPerson 0 = .ok (.iload_n 0, 1) := by decide +kernel
theorem dX4_isPerson_1 : decode cX4_isPerson 1 = .ok (.iconst 0, 1) := by decide +kernel
theorem dX4_isPerson_2 : decode cX4_isPerson 2 = .ok (.iconst 3, 1) := by decide +kernel
theorem dX4_isPerson_3 : decode cX4_isPerson 3 = .ok (.invokestatic 45, 3) := by decide +kernel
theorem dX4_isPerson_6 : decode cX4_isPerson 6 = .ok (.ireturn, 1) := by decide +kernel
set_option maxRecDepth 20000 in
theorem ggX4_row_X4_in : GoodIn wsX4_row wsX4_in := goodIn_r _ [4] (by decide +kernel) (by decide +kernel)
set_option maxRecDepth 20000 in
theorem gX4_row_X4_in : GoodIn wsX4_row (va_wsS RX4 45 yX4_in wsX4_in) := goodIn_app (goodIn_of _ (by decide +kernel)) ggX4_row_X4_in
theorem dX4_row_0 : decode cX4_row 0 = .ok (.iload_n 0, 1) := by decide +kernel
theorem dX4_row_1 : decode cX4_row 1 = .ok (.iconst 0, 1) := by decide +kernel
theorem dX4_row_2 : decode cX4_row 2 = .ok (.sipush 599, 3) := by decide +kernel
theorem dX4_row_5 : decode cX4_row 5 = .ok (.invokestatic 45, 3) := by decide +kernel
theorem dX4_row_8 : decode cX4_row 8 = .ok (.ifCond .eq 26, 3) := by decide +kernel
theorem dX4_row_11 : decode cX4_row 11 = .ok (.iload_n 0, 1) := by decide +kernel
theorem dX4_row_12 : decode cX4_row 12 = .ok (.bipush 10, 2) := by decide +kernel
theorem dX4_row_14 : decode cX4_row 14 = .ok (.idiv, 1) := by decide +kernel
theorem dX4_row_15 : decode cX4_row 15 = .ok (.bipush 10, 2) := by decide +kernel
theorem dX4_row_17 : decode cX4_row 17 = .ok (.irem, 1) := by decide +kernel
theorem dX4_row_18 : decode cX4_row 18 = .ok (.iconst 2, 1) := by decide +kernel
theorem dX4_row_19 : decode cX4_row 19 = .ok (.if_icmp .ge 15, 3) := by decide +kernel
theorem dX4_row_22 : decode cX4_row 22 = .ok (.iload_n 0, 1) := by decide +kernel
theorem dX4_row_23 : decode cX4_row 23 = .ok (.bipush 10, 2) := by decide +kernel
theorem dX4_row_25 : decode cX4_row 25 = .ok (.irem, 1) := by decide +kernel
theorem dX4_row_26 : decode cX4_row 26 = .ok (.iconst 3, 1) := by decide +kernel
theorem dX4_row_27 : decode cX4_row 27 = .ok (.if_icmp .ge 7, 3) := by decide +kernel
theorem dX4_row_30 : decode cX4_row 30 = .ok (.iconst 1, 1) := by decide +kernel
theorem dX4_row_31 : decode cX4_row 31 = .ok (.goto 4, 3) := by decide +kernel
theorem dX4_row_34 : decode cX4_row 34 = .ok (.iconst 0, 1) := by decide +kernel
theorem dX4_row_35 : decode cX4_row 35 = .ok (.istore_n 1, 1) := by decide +kernel
theorem dX4_row_36 : decode cX4_row 36 = .ok (.iload_n 1, 1) := by decide +kernel
theorem dX4_row_37 : decode cX4_row 37 = .ok (.ifCond .eq 28, 3) := by decide +kernel
theorem dX4_row_40 : decode cX4_row 40 = .ok (.bipush 6, 2) := by decide +kernel
theorem dX4_row_42 : decode cX4_row 42 = .ok (.iload_n 0, 1) := by decide +kernel
theorem dX4_row_43 : decode cX4_row 43 = .ok (.bipush 100, 2) := by decide +kernel
theorem dX4_row_45 : decode cX4_row 45 = .ok (.idiv, 1) := by decide +kernel
theorem dX4_row_46 : decode cX4_row 46 = .ok (.imul, 1) := by decide +kernel
theorem dX4_row_47 : decode cX4_row 47 = .ok (.iconst 3, 1) := by decide +kernel
theorem dX4_row_48 : decode cX4_row 48 = .ok (.iload_n 0, 1) := by decide +kernel
theorem dX4_row_49 : decode cX4_row 49 = .ok (.bipush 10, 2) := by decide +kernel
theorem dX4_row_51 : decode cX4_row 51 = .ok (.idiv, 1) := by decide +kernel
theorem dX4_row_52 : decode cX4_row 52 = .ok (.bipush 10, 2) := by decide +kernel
theorem dX4_row_54 : decode cX4_row 54 = .ok (.irem, 1) := by decide +kernel
theorem dX4_row_55 : decode cX4_row 55 = .ok (.imul, 1) := by decide +kernel
theorem dX4_row_56 : decode cX4_row 56 = .ok (.iadd, 1) := by decide +kernel
theorem dX4_row_57 : decode cX4_row 57 = .ok (.iload_n 0, 1) := by decide +kernel
theorem dX4_row_58 : decode cX4_row 58 = .ok (.bipush 10, 2) := by decide +kernel
theorem dX4_row_60 : decode cX4_row 60 = .ok (.irem, 1) := by decide +kernel
theorem dX4_row_61 : decode cX4_row 61 = .ok (.iadd, 1) := by decide +kernel
theorem dX4_row_62 : decode cX4_row 62 = .ok (.goto 4, 3) := by decide +kernel
theorem dX4_row_65 : decode cX4_row 65 = .ok (.iconst (-1), 1) := by decide +kernel
theorem dX4_row_66 : decode cX4_row 66 = .ok (.ireturn, 1) := by decide +kernel
theorem dX4_told_0 : decode cX4_told 0 = .ok (.bipush 100, 2) := by decide +kernel
theorem dX4_told_2 : decode cX4_told 2 = .ok (.iload_n 0, 1) := by decide +kernel
theorem dX4_told_3 : decode cX4_told 3 = .ok (.bipush 6, 2) := by decide +kernel
theorem dX4_told_5 : decode cX4_told 5 = .ok (.idiv, 1) := by decide +kernel
theorem dX4_told_6 : decode cX4_told 6 = .ok (.imul, 1) := by decide +kernel
theorem dX4_told_7 : decode cX4_told 7 = .ok (.bipush 10, 2) := by decide +kernel
theorem dX4_told_9 : decode cX4_told 9 = .ok (.iload_n 0, 1) := by decide +kernel
theorem dX4_told_10 : decode cX4_told 10 = .ok (.iconst 3, 1) := by decide +kernel
theorem dX4_told_11 : decode cX4_told 11 = .ok (.idiv, 1) := by decide +kernel
theorem dX4_told_12 : decode cX4_told 12 = .ok (.iconst 2, 1) := by decide +kernel
theorem dX4_told_13 : decode cX4_told 13 = .ok (.irem, 1) := by decide +kernel
theorem dX4_told_14 : decode cX4_told 14 = .ok (.imul, 1) := by decide +kernel
theorem dX4_told_15 : decode cX4_told 15 = .ok (.iadd, 1) := by decide +kernel
theorem dX4_told_16 : decode cX4_told 16 = .ok (.iload_n 0, 1) := by decide +kernel
theorem dX4_told_17 : decode cX4_told 17 = .ok (.iconst 3, 1) := by decide +kernel
theorem dX4_told_18 : decode cX4_told 18 = .ok (.irem, 1) := by decide +kernel
theorem dX4_told_19 : decode cX4_told 19 = .ok (.iadd, 1) := by decide +kernel
theorem dX4_told_20 : decode cX4_told 20 = .ok (.ireturn, 1) := by decide +kernel
theorem dX4_aisleOf_0 : decode cX4_aisleOf 0 = .ok (.iload_n 0, 1) := by decide +kernel
theorem dX4_aisleOf_1 : decode cX4_aisleOf 1 = .ok (.bipush 6, 2) := by decide +kernel
theorem dX4_aisleOf_3 : decode cX4_aisleOf 3 = .ok (.idiv, 1) := by decide +kernel
theorem dX4_aisleOf_4 : decode cX4_aisleOf 4 = .ok (.iload_n 0, 1) := by decide +kernel
theorem dX4_aisleOf_5 : decode cX4_aisleOf 5 = .ok (.iconst 3, 1) := by decide +kernel
theorem dX4_aisleOf_6 : decode cX4_aisleOf 6 = .ok (.idiv, 1) := by decide +kernel
theorem dX4_aisleOf_7 : decode cX4_aisleOf 7 = .ok (.iconst 2, 1) := by decide +kernel
theorem dX4_aisleOf_8 : decode cX4_aisleOf 8 = .ok (.irem, 1) := by decide +kernel
theorem dX4_aisleOf_9 : decode cX4_aisleOf 9 = .ok (.iadd, 1) := by decide +kernel
theorem dX4_aisleOf_10 : decode cX4_aisleOf 10 = .ok (.ireturn, 1) := by decide +kernel
theorem dX4_spot_0 : decode cX4_spot 0 = .ok (.iconst (-1), 1) := by decide +kernel
theorem dX4_spot_1 : decode cX4_spot 1 = .ok (.istore_n 2, 1) := by decide +kernel
theorem dX4_spot_2 : decode cX4_spot 2 = .ok (.iconst 0, 1) := by decide +kernel
theorem dX4_spot_3 : decode cX4_spot 3 = .ok (.istore_n 3, 1) := by decide +kernel
theorem dX4_spot_4 : decode cX4_spot 4 = .ok (.iload_n 3, 1) := by decide +kernel
theorem dX4_spot_5 : decode cX4_spot 5 = .ok (.bipush 36, 2) := by decide +kernel
theorem dX4_spot_7 : decode cX4_spot 7 = .ok (.if_icmp .ge 27, 3) := by decide +kernel
theorem dX4_spot_10 : decode cX4_spot 10 = .ok (.aload_n 0, 1) := by decide +kernel
theorem dX4_spot_11 : decode cX4_spot 11 = .ok (.getfield 22, 3) := by decide +kernel
theorem dX4_spot_14 : decode cX4_spot 14 = .ok (.iload_n 3, 1) := by decide +kernel
theorem dX4_spot_15 : decode cX4_spot 15 = .ok (.iaload, 1) := by decide +kernel
theorem dX4_spot_16 : decode cX4_spot 16 = .ok (.iload_n 1, 1) := by decide +kernel
theorem dX4_spot_17 : decode cX4_spot 17 = .ok (.iconst 1, 1) := by decide +kernel
theorem dX4_spot_18 : decode cX4_spot 18 = .ok (.iadd, 1) := by decide +kernel
theorem dX4_spot_19 : decode cX4_spot 19 = .ok (.if_icmp .ne 7, 3) := by decide +kernel
theorem dX4_spot_22 : decode cX4_spot 22 = .ok (.iload_n 3, 1) := by decide +kernel
theorem dX4_spot_23 : decode cX4_spot 23 = .ok (.goto 4, 3) := by decide +kernel
theorem dX4_spot_26 : decode cX4_spot 26 = .ok (.iload_n 2, 1) := by decide +kernel
theorem dX4_spot_27 : decode cX4_spot 27 = .ok (.istore_n 2, 1) := by decide +kernel
theorem dX4_spot_28 : decode cX4_spot 28 = .ok (.iinc 3 1, 3) := by decide +kernel
theorem dX4_spot_31 : decode cX4_spot 31 = .ok (.goto (-27), 3) := by decide +kernel
theorem dX4_spot_34 : decode cX4_spot 34 = .ok (.iload_n 2, 1) := by decide +kernel
theorem dX4_spot_35 : decode cX4_spot 35 = .ok (.ireturn, 1) := by decide +kernel
set_option maxRecDepth 20000 in
theorem ggX4_setClimate_X4_isShelf : GoodIn wsX4_setClimate wsX4_isShelf := goodIn_r _ [6, 7, 8, 5, 9] (by decide +kernel) (by decide +kernel)
set_option maxRecDepth 20000 in
theorem gX4_setClimate_X4_isShelf : GoodIn wsX4_setClimate (va_wsS RX4 52 yX4_isShelf wsX4_isShelf) := goodIn_app (goodIn_of _ (by decide +kernel)) ggX4_setClimate_X4_isShelf
set_option maxRecDepth 20000 in
theorem ggX4_setClimate_X4_in : GoodIn wsX4_setClimate wsX4_in := goodIn_r _ [9] (by decide +kernel) (by decide +kernel)
set_option maxRecDepth 20000 in
theorem gX4_setClimate_X4_in : GoodIn wsX4_setClimate (va_wsS RX4 45 yX4_in wsX4_in) := goodIn_app (goodIn_of _ (by decide +kernel)) ggX4_setClimate_X4_in
theorem dX4_setClimate_0 : decode cX4_setClimate 0 = .ok (.aload_n 0, 1) := by decide +kernel
theorem dX4_setClimate_1 : decode cX4_setClimate 1 = .ok (.iload_n 1, 1) := by decide +kernel
theorem dX4_setClimate_2 : decode cX4_setClimate 2 = .ok (.invokestatic 52, 3) := by decide +kernel
theorem dX4_setClimate_5 : decode cX4_setClimate 5 = .ok (.ifCond .ne 7, 3) := by decide +kernel
theorem dX4_setClimate_8 : decode cX4_setClimate 8 = .ok (.iconst 1, 1) := by decide +kernel
theorem dX4_setClimate_9 : decode cX4_setClimate 9 = .ok (.goto 17, 3) := by decide +kernel
theorem dX4_setClimate_12 : decode cX4_setClimate 12 = .ok (.iload_n 2, 1) := by decide +kernel
theorem dX4_setClimate_13 : decode cX4_setClimate 13 = .ok (.iconst 0, 1) := by decide +kernel
theorem dX4_setClimate_14 : decode cX4_setClimate 14 = .ok (.iconst 2, 1) := by decide +kernel
theorem dX4_setClimate_15 : decode cX4_setClimate 15 = .ok (.invokestatic 45, 3) := by decide +kernel
theorem dX4_setClimate_18 : decode cX4_setClimate 18 = .ok (.ifCond .eq 7, 3) := by decide +kernel
theorem dX4_setClimate_21 : decode cX4_setClimate 21 = .ok (.iconst 0, 1) := by decide +kernel
theorem dX4_setClimate_22 : decode cX4_setClimate 22 = .ok (.goto 4, 3) := by decide +kernel
theorem dX4_setClimate_25 : decode cX4_setClimate 25 = .ok (.iconst 2, 1) := by decide +kernel
theorem dX4_setClimate_26 : decode cX4_setClimate 26 = .ok (.putfield 41, 3) := by decide +kernel
theorem dX4_setClimate_29 : decode cX4_setClimate 29 = .ok (.aload_n 0, 1) := by decide +kernel
theorem dX4_setClimate_30 : decode cX4_setClimate 30 = .ok (.getfield 41, 3) := by decide +kernel
theorem dX4_setClimate_33 : decode cX4_setClimate 33 = .ok (.ifCond .le 5, 3) := by decide +kernel
theorem dX4_setClimate_36 : decode cX4_setClimate 36 = .ok (.iconst 0, 1) := by decide +kernel
theorem dX4_setClimate_37 : decode cX4_setClimate 37 = .ok (.ireturn, 1) := by decide +kernel
theorem dX4_setClimate_38 : decode cX4_setClimate 38 = .ok (.aload_n 0, 1) := by decide +kernel
theorem dX4_setClimate_39 : decode cX4_setClimate 39 = .ok (.getfield 7, 3) := by decide +kernel
theorem dX4_setClimate_42 : decode cX4_setClimate 42 = .ok (.iload_n 1, 1) := by decide +kernel
theorem dX4_setClimate_43 : decode cX4_setClimate 43 = .ok (.iaload, 1) := by decide +kernel
theorem dX4_setClimate_44 : decode cX4_setClimate 44 = .ok (.istore_n 3, 1) := by decide +kernel
theorem dX4_setClimate_45 : decode cX4_setClimate 45 = .ok (.aload_n 0, 1) := by decide +kernel
theorem dX4_setClimate_46 : decode cX4_setClimate 46 = .ok (.getfield 7, 3) := by decide +kernel
theorem dX4_setClimate_49 : decode cX4_setClimate 49 = .ok (.iload_n 1, 1) := by decide +kernel
theorem dX4_setClimate_50 : decode cX4_setClimate 50 = .ok (.iload_n 2, 1) := by decide +kernel
theorem dX4_setClimate_51 : decode cX4_setClimate 51 = .ok (.iastore, 1) := by decide +kernel
theorem dX4_setClimate_52 : decode cX4_setClimate 52 = .ok (.iload_n 3, 1) := by decide +kernel
theorem dX4_setClimate_53 : decode cX4_setClimate 53 = .ok (.ireturn, 1) := by decide +kernel
set_option maxRecDepth 20000 in
theorem ggX4_addBox_X4_in : GoodIn wsX4_addBox wsX4_in := goodIn_r _ [9] (by decide +kernel) (by decide +kernel)
set_option maxRecDepth 20000 in
theorem gX4_addBox_X4_in : GoodIn wsX4_addBox (va_wsS RX4 45 yX4_in wsX4_in) := goodIn_app (goodIn_of _ (by decide +kernel)) ggX4_addBox_X4_in
theorem dX4_addBox_0 : decode cX4_addBox 0 = .ok (.iload_n 1, 1) := by decide +kernel
theorem dX4_addBox_1 : decode cX4_addBox 1 = .ok (.iconst 0, 1) := by decide +kernel
theorem dX4_addBox_2 : decode cX4_addBox 2 = .ok (.iconst 2, 1) := by decide +kernel
theorem dX4_addBox_3 : decode cX4_addBox 3 = .ok (.invokestatic 45, 3) := by decide +kernel
theorem dX4_addBox_6 : decode cX4_addBox 6 = .ok (.ifCond .eq 27, 3) := by decide +kernel
theorem dX4_addBox_9 : decode cX4_addBox 9 = .ok (.iload_n 2, 1) := by decide +kernel
theorem dX4_addBox_10 : decode cX4_addBox 10 = .ok (.iconst 1, 1) := by decide +kernel
theorem dX4_addBox_11 : decode cX4_addBox 11 = .ok (.bipush 60, 2) := by decide +kernel
theorem dX4_addBox_13 : decode cX4_addBox 13 = .ok (.invokestatic 45, 3) := by decide +kernel
theorem dX4_addBox_16 : decode cX4_addBox 16 = .ok (.ifCond .eq 17, 3) := by decide +kernel
theorem dX4_addBox_19 : decode cX4_addBox 19 = .ok (.iload_n 3, 1) := by decide +kernel
theorem dX4_addBox_20 : decode cX4_addBox 20 = .ok (.iconst 0, 1) := by decide +kernel
theorem dX4_addBox_21 : decode cX4_addBox 21 = .ok (.bipush 9, 2) := by decide +kernel
theorem dX4_addBox_23 : decode cX4_addBox 23 = .ok (.invokestatic 45, 3) := by decide +kernel
theorem dX4_addBox_26 : decode cX4_addBox 26 = .ok (.ifCond .eq 7, 3) := by decide +kernel
theorem dX4_addBox_29 : decode cX4_addBox 29 = .ok (.iconst 1, 1) := by decide +kernel
theorem dX4_addBox_30 : decode cX4_addBox 30 = .ok (.goto 4, 3) := by decide +kernel
theorem dX4_addBox_33 : decode cX4_addBox 33 = .ok (.iconst 0, 1) := by decide +kernel
theorem dX4_addBox_34 : decode cX4_addBox 34 = .ok (.istore 4, 2) := by decide +kernel
theorem dX4_addBox_36 : decode cX4_addBox 36 = .ok (.aload_n 0, 1) := by decide +kernel
theorem dX4_addBox_37 : decode cX4_addBox 37 = .ok (.iload 4, 2) := by decide +kernel
theorem dX4_addBox_39 : decode cX4_addBox 39 = .ok (.ifCond .ne 7, 3) := by decide +kernel
theorem dX4_addBox_42 : decode cX4_addBox 42 = .ok (.iconst 1, 1) := by decide +kernel
theorem dX4_addBox_43 : decode cX4_addBox 43 = .ok (.goto 17, 3) := by decide +kernel
theorem dX4_addBox_46 : decode cX4_addBox 46 = .ok (.aload_n 0, 1) := by decide +kernel
theorem dX4_addBox_47 : decode cX4_addBox 47 = .ok (.getfield 49, 3) := by decide +kernel
theorem dX4_addBox_50 : decode cX4_addBox 50 = .ok (.bipush 20, 2) := by decide +kernel
theorem dX4_addBox_52 : decode cX4_addBox 52 = .ok (.if_icmp .ne 7, 3) := by decide +kernel
theorem dX4_addBox_55 : decode cX4_addBox 55 = .ok (.iconst 2, 1) := by decide +kernel
theorem dX4_addBox_56 : decode cX4_addBox 56 = .ok (.goto 4, 3) := by decide +kernel
theorem dX4_addBox_59 : decode cX4_addBox 59 = .ok (.iconst 0, 1) := by decide +kernel
theorem dX4_addBox_60 : decode cX4_addBox 60 = .ok (.putfield 41, 3) := by decide +kernel
theorem dX4_addBox_63 : decode cX4_addBox 63 = .ok (.aload_n 0, 1) := by decide +kernel
theorem dX4_addBox_64 : decode cX4_addBox 64 = .ok (.getfield 41, 3) := by decide +kernel
theorem dX4_addBox_67 : decode cX4_addBox 67 = .ok (.ifCond .le 5, 3) := by decide +kernel
theorem dX4_addBox_70 : decode cX4_addBox 70 = .ok (.iconst 0, 1) := by decide +kernel
theorem dX4_addBox_71 : decode cX4_addBox 71 = .ok (.ireturn, 1) := by decide +kernel
theorem dX4_addBox_72 : decode cX4_addBox 72 = .ok (.aload_n 0, 1) := by decide +kernel
theorem dX4_addBox_73 : decode cX4_addBox 73 = .ok (.getfield 13, 3) := by decide +kernel
theorem dX4_addBox_76 : decode cX4_addBox 76 = .ok (.aload_n 0, 1) := by decide +kernel
theorem dX4_addBox_77 : decode cX4_addBox 77 = .ok (.getfield 49, 3) := by decide +kernel
theorem dX4_addBox_80 : decode cX4_addBox 80 = .ok (.iload_n 1, 1) := by decide +kernel
theorem dX4_addBox_81 : decode cX4_addBox 81 = .ok (.iastore, 1) := by decide +kernel
theorem dX4_addBox_82 : decode cX4_addBox 82 = .ok (.aload_n 0, 1) := by decide +kernel
theorem dX4_addBox_83 : decode cX4_addBox 83 = .ok (.getfield 16, 3) := by decide +kernel
theorem dX4_addBox_86 : decode cX4_addBox 86 = .ok (.aload_n 0, 1) := by decide +kernel
theorem dX4_addBox_87 : decode cX4_addBox 87 = .ok (.getfield 49, 3) := by decide +kernel
theorem dX4_addBox_90 : decode cX4_addBox 90 = .ok (.iload_n 2, 1) := by decide +kernel
theorem dX4_addBox_91 : decode cX4_addBox 91 = .ok (.iastore, 1) := by decide +kernel
theorem dX4_addBox_92 : decode cX4_addBox 92 = .ok (.aload_n 0, 1) := by decide +kernel
theorem dX4_addBox_93 : decode cX4_addBox 93 = .ok (.getfield 19, 3) := by decide +kernel
theorem dX4_addBox_96 : decode cX4_addBox 96 = .ok (.aload_n 0, 1) := by decide +kernel
theorem dX4_addBox_97 : decode cX4_addBox 97 = .ok (.getfield 49, 3) := by decide +kernel
theorem dX4_addBox_100 : decode cX4_addBox 100 = .ok (.iload_n 3, 1) := by decide +kernel
theorem dX4_addBox_101 : decode cX4_addBox 101 = .ok (.iastore, 1) := by decide +kernel
theorem dX4_addBox_102 : decode cX4_addBox 102 = .ok (.aload_n 0, 1) := by decide +kernel
theorem dX4_addBox_103 : decode cX4_addBox 103 = .ok (.dup, 1) := by decide +kernel
theorem dX4_addBox_104 : decode cX4_addBox 104 = .ok (.getfield 49, 3) := by decide +kernel
theorem dX4_addBox_107 : decode cX4_addBox 107 = .ok (.iconst 1, 1) := by decide +kernel
theorem dX4_addBox_108 : decode cX4_addBox 108 = .ok (.iadd, 1) := by decide +kernel
theorem dX4_addBox_109 : decode cX4_addBox 109 = .ok (.putfield 49, 3) := by decide +kernel
theorem dX4_addBox_112 : decode cX4_addBox 112 = .ok (.aload_n 0, 1) := by decide +kernel
theorem dX4_addBox_113 : decode cX4_addBox 113 = .ok (.getfield 49, 3) := by decide +kernel
theorem dX4_addBox_116 : decode cX4_addBox 116 = .ok (.iconst 1, 1) := by decide +kernel
theorem dX4_addBox_117 : decode cX4_addBox 117 = .ok (.isub, 1) := by decide +kernel
theorem dX4_addBox_118 : decode cX4_addBox 118 = .ok (.ireturn, 1) := by decide +kernel
theorem dX4_weighs_0 : decode cX4_weighs 0 = .ok (.iconst 0, 1) := by decide +kernel
theorem dX4_weighs_1 : decode cX4_weighs 1 = .ok (.istore_n 2, 1) := by decide +kernel
theorem dX4_weighs_2 : decode cX4_weighs 2 = .ok (.bipush 6, 2) := by decide +kernel
theorem dX4_weighs_4 : decode cX4_weighs 4 = .ok (.iload_n 1, 1) := by decide +kernel
theorem dX4_weighs_5 : decode cX4_weighs 5 = .ok (.imul, 1) := by decide +kernel
theorem dX4_weighs_6 : decode cX4_weighs 6 = .ok (.istore_n 3, 1) := by decide +kernel
theorem dX4_weighs_7 : decode cX4_weighs 7 = .ok (.iload_n 3, 1) := by decide +kernel
theorem dX4_weighs_8 : decode cX4_weighs 8 = .ok (.bipush 6, 2) := by decide +kernel
theorem dX4_weighs_10 : decode cX4_weighs 10 = .ok (.iload_n 1, 1) := by decide +kernel
theorem dX4_weighs_11 : decode cX4_weighs 11 = .ok (.imul, 1) := by decide +kernel
theorem dX4_weighs_12 : decode cX4_weighs 12 = .ok (.bipush 6, 2) := by decide +kernel
theorem dX4_weighs_14 : decode cX4_weighs 14 = .ok (.iadd, 1) := by decide +kernel
theorem dX4_weighs_15 : decode cX4_weighs 15 = .ok (.if_icmp .ge 38, 3) := by decide +kernel
theorem dX4_weighs_18 : decode cX4_weighs 18 = .ok (.iload_n 2, 1) := by decide +kernel
theorem dX4_weighs_19 : decode cX4_weighs 19 = .ok (.aload_n 0, 1) := by decide +kernel
theorem dX4_weighs_20 : decode cX4_weighs 20 = .ok (.getfield 22, 3) := by decide +kernel
theorem dX4_weighs_23 : decode cX4_weighs 23 = .ok (.iload_n 3, 1) := by decide +kernel
theorem dX4_weighs_24 : decode cX4_weighs 24 = .ok (.iaload, 1) := by decide +kernel
theorem dX4_weighs_25 : decode cX4_weighs 25 = .ok (.ifCond .le 19, 3) := by decide +kernel
theorem dX4_weighs_28 : decode cX4_weighs 28 = .ok (.aload_n 0, 1) := by decide +kernel
theorem dX4_weighs_29 : decode cX4_weighs 29 = .ok (.getfield 16, 3) := by decide +kernel
theorem dX4_weighs_32 : decode cX4_weighs 32 = .ok (.aload_n 0, 1) := by decide +kernel
theorem dX4_weighs_33 : decode cX4_weighs 33 = .ok (.getfield 22, 3) := by decide +kernel
theorem dX4_weighs_36 : decode cX4_weighs 36 = .ok (.iload_n 3, 1) := by decide +kernel
theorem dX4_weighs_37 : decode cX4_weighs 37 = .ok (.iaload, 1) := by decide +kernel
theorem dX4_weighs_38 : decode cX4_weighs 38 = .ok (.iconst 1, 1) := by decide +kernel
theorem dX4_weighs_39 : decode cX4_weighs 39 = .ok (.isub, 1) := by decide +kernel
theorem dX4_weighs_40 : decode cX4_weighs 40 = .ok (.iaload, 1) := by decide +kernel
theorem dX4_weighs_41 : decode cX4_weighs 41 = .ok (.goto 4, 3) := by decide +kernel
theorem dX4_weighs_44 : decode cX4_weighs 44 = .ok (.iconst 0, 1) := by decide +kernel
theorem dX4_weighs_45 : decode cX4_weighs 45 = .ok (.iadd, 1) := by decide +kernel
theorem dX4_weighs_46 : decode cX4_weighs 46 = .ok (.istore_n 2, 1) := by decide +kernel
theorem dX4_weighs_47 : decode cX4_weighs 47 = .ok (.iinc 3 1, 3) := by decide +kernel
theorem dX4_weighs_50 : decode cX4_weighs 50 = .ok (.goto (-43), 3) := by decide +kernel
theorem dX4_weighs_53 : decode cX4_weighs 53 = .ok (.iload_n 2, 1) := by decide +kernel
theorem dX4_weighs_54 : decode cX4_weighs 54 = .ok (.ireturn, 1) := by decide +kernel
theorem dX4_kin_0 : decode cX4_kin 0 = .ok (.iconst 0, 1) := by decide +kernel
theorem dX4_kin_1 : decode cX4_kin 1 = .ok (.istore_n 3, 1) := by decide +kernel
theorem dX4_kin_2 : decode cX4_kin 2 = .ok (.bipush 6, 2) := by decide +kernel
theorem dX4_kin_4 : decode cX4_kin 4 = .ok (.iload_n 1, 1) := by decide +kernel
theorem dX4_kin_5 : decode cX4_kin 5 = .ok (.imul, 1) := by decide +kernel
theorem dX4_kin_6 : decode cX4_kin 6 = .ok (.istore 4, 2) := by decide +kernel
theorem dX4_kin_8 : decode cX4_kin 8 = .ok (.iload 4, 2) := by decide +kernel
theorem dX4_kin_10 : decode cX4_kin 10 = .ok (.bipush 6, 2) := by decide +kernel
theorem dX4_kin_12 : decode cX4_kin 12 = .ok (.iload_n 1, 1) := by decide +kernel
theorem dX4_kin_13 : decode cX4_kin 13 = .ok (.imul, 1) := by decide +kernel
theorem dX4_kin_14 : decode cX4_kin 14 = .ok (.bipush 6, 2) := by decide +kernel
theorem dX4_kin_16 : decode cX4_kin 16 = .ok (.iadd, 1) := by decide +kernel
theorem dX4_kin_17 : decode cX4_kin 17 = .ok (.if_icmp .ge 45, 3) := by decide +kernel
theorem dX4_kin_20 : decode cX4_kin 20 = .ok (.iload_n 3, 1) := by decide +kernel
theorem dX4_kin_21 : decode cX4_kin 21 = .ok (.aload_n 0, 1) := by decide +kernel
theorem dX4_kin_22 : decode cX4_kin 22 = .ok (.getfield 22, 3) := by decide +kernel
theorem dX4_kin_25 : decode cX4_kin 25 = .ok (.iload 4, 2) := by decide +kernel
theorem dX4_kin_27 : decode cX4_kin 27 = .ok (.iaload, 1) := by decide +kernel
theorem dX4_kin_28 : decode cX4_kin 28 = .ok (.ifCond .le 25, 3) := by decide +kernel
theorem dX4_kin_31 : decode cX4_kin 31 = .ok (.aload_n 0, 1) := by decide +kernel
theorem dX4_kin_32 : decode cX4_kin 32 = .ok (.getfield 19, 3) := by decide +kernel
theorem dX4_kin_35 : decode cX4_kin 35 = .ok (.aload_n 0, 1) := by decide +kernel
theorem dX4_kin_36 : decode cX4_kin 36 = .ok (.getfield 22, 3) := by decide +kernel
theorem dX4_kin_39 : decode cX4_kin 39 = .ok (.iload 4, 2) := by decide +kernel
theorem dX4_kin_41 : decode cX4_kin 41 = .ok (.iaload, 1) := by decide +kernel
theorem dX4_kin_42 : decode cX4_kin 42 = .ok (.iconst 1, 1) := by decide +kernel
theorem dX4_kin_43 : decode cX4_kin 43 = .ok (.isub, 1) := by decide +kernel
theorem dX4_kin_44 : decode cX4_kin 44 = .ok (.iaload, 1) := by decide +kernel
theorem dX4_kin_45 : decode cX4_kin 45 = .ok (.iload_n 2, 1) := by decide +kernel
theorem dX4_kin_46 : decode cX4_kin 46 = .ok (.if_icmp .ne 7, 3) := by decide +kernel
theorem dX4_kin_49 : decode cX4_kin 49 = .ok (.iconst 1, 1) := by decide +kernel
theorem dX4_kin_50 : decode cX4_kin 50 = .ok (.goto 4, 3) := by decide +kernel
theorem dX4_kin_53 : decode cX4_kin 53 = .ok (.iconst 0, 1) := by decide +kernel
theorem dX4_kin_54 : decode cX4_kin 54 = .ok (.iadd, 1) := by decide +kernel
theorem dX4_kin_55 : decode cX4_kin 55 = .ok (.istore_n 3, 1) := by decide +kernel
theorem dX4_kin_56 : decode cX4_kin 56 = .ok (.iinc 4 1, 3) := by decide +kernel
theorem dX4_kin_59 : decode cX4_kin 59 = .ok (.goto (-51), 3) := by decide +kernel
theorem dX4_kin_62 : decode cX4_kin 62 = .ok (.iload_n 3, 1) := by decide +kernel
theorem dX4_kin_63 : decode cX4_kin 63 = .ok (.ireturn, 1) := by decide +kernel
set_option maxRecDepth 20000 in
theorem ggX4_best_X4_weighs : GoodIn wsX4_best wsX4_weighs := goodIn_r _ [10, 1, 4, 15, 16, 17, 18, 19, 20, 21, 22, 23, 24, 25, 26, 27, 28, 29, 30, 31, 32, 33] (by decide +kernel) (by decide +kernel)
set_option maxRecDepth 20000 in
theorem gX4_best_X4_weighs : GoodIn wsX4_best (wsV RX4 56 RX4 yX4_weighs wsX4_weighs) := goodIn_app (goodIn_of _ (by decide +kernel)) ggX4_best_X4_weighs
set_option maxRecDepth 20000 in
theorem ggX4_best_X4_kin : GoodIn wsX4_best wsX4_kin := goodIn_r _ [14, 1, 5, 15, 16, 17, 18, 19, 20, 21, 22, 23, 24, 25, 26, 27, 28, 29, 30, 31, 32, 33] (by decide +kernel) (by decide +kernel)
set_option maxRecDepth 20000 in
theorem gX4_best_X4_kin : GoodIn wsX4_best (wsV RX4 60 RX4 yX4_kin wsX4_kin) := goodIn_app (goodIn_of _ (by decide +kernel)) ggX4_best_X4_kin
theorem dX4_best_0 : decode cX4_best 0 = .ok (.iconst (-1), 1) := by decide +kernel
theorem dX4_best_1 : decode cX4_best 1 = .ok (.istore_n 2, 1) := by decide +kernel
theorem dX4_best_2 : decode cX4_best 2 = .ok (.iconst 0, 1) := by decide +kernel
theorem dX4_best_3 : decode cX4_best 3 = .ok (.istore_n 3, 1) := by decide +kernel
theorem dX4_best_4 : decode cX4_best 4 = .ok (.iconst 0, 1) := by decide +kernel
theorem dX4_best_5 : decode cX4_best 5 = .ok (.istore 4, 2) := by decide +kernel
theorem dX4_best_7 : decode cX4_best 7 = .ok (.iload 4, 2) := by decide +kernel
theorem dX4_best_9 : decode cX4_best 9 = .ok (.bipush 36, 2) := by decide +kernel
theorem dX4_best_11 : decode cX4_best 11 = .ok (.if_icmp .ge 109, 3) := by decide +kernel
theorem dX4_best_14 : decode cX4_best 14 = .ok (.iload 4, 2) := by decide +kernel
theorem dX4_best_16 : decode cX4_best 16 = .ok (.bipush 6, 2) := by decide +kernel
theorem dX4_best_18 : decode cX4_best 18 = .ok (.idiv, 1) := by decide +kernel
theorem dX4_best_19 : decode cX4_best 19 = .ok (.istore 5, 2) := by decide +kernel
theorem dX4_best_21 : decode cX4_best 21 = .ok (.aload_n 0, 1) := by decide +kernel
theorem dX4_best_22 : decode cX4_best 22 = .ok (.getfield 22, 3) := by decide +kernel
theorem dX4_best_25 : decode cX4_best 25 = .ok (.iload 4, 2) := by decide +kernel
theorem dX4_best_27 : decode cX4_best 27 = .ok (.iaload, 1) := by decide +kernel
theorem dX4_best_28 : decode cX4_best 28 = .ok (.ifCond .ne 41, 3) := by decide +kernel
theorem dX4_best_31 : decode cX4_best 31 = .ok (.aload_n 0, 1) := by decide +kernel
theorem dX4_best_32 : decode cX4_best 32 = .ok (.getfield 7, 3) := by decide +kernel
theorem dX4_best_35 : decode cX4_best 35 = .ok (.iload 5, 2) := by decide +kernel
theorem dX4_best_37 : decode cX4_best 37 = .ok (.iaload, 1) := by decide +kernel
theorem dX4_best_38 : decode cX4_best 38 = .ok (.aload_n 0, 1) := by decide +kernel
theorem dX4_best_39 : decode cX4_best 39 = .ok (.getfield 13, 3) := by decide +kernel
theorem dX4_best_42 : decode cX4_best 42 = .ok (.iload_n 1, 1) := by decide +kernel
theorem dX4_best_43 : decode cX4_best 43 = .ok (.iaload, 1) := by decide +kernel
theorem dX4_best_44 : decode cX4_best 44 = .ok (.if_icmp .ne 25, 3) := by decide +kernel
theorem dX4_best_47 : decode cX4_best 47 = .ok (.aload_n 0, 1) := by decide +kernel
theorem dX4_best_48 : decode cX4_best 48 = .ok (.iload 5, 2) := by decide +kernel
theorem dX4_best_50 : decode cX4_best 50 = .ok (.invokevirtual 56, 3) := by decide +kernel
theorem dX4_best_53 : decode cX4_best 53 = .ok (.aload_n 0, 1) := by decide +kernel
theorem dX4_best_54 : decode cX4_best 54 = .ok (.getfield 16, 3) := by decide +kernel
theorem dX4_best_57 : decode cX4_best 57 = .ok (.iload_n 1, 1) := by decide +kernel
theorem dX4_best_58 : decode cX4_best 58 = .ok (.iaload, 1) := by decide +kernel
theorem dX4_best_59 : decode cX4_best 59 = .ok (.iadd, 1) := by decide +kernel
theorem dX4_best_60 : decode cX4_best 60 = .ok (.bipush 100, 2) := by decide +kernel
theorem dX4_best_62 : decode cX4_best 62 = .ok (.if_icmp .gt 7, 3) := by decide +kernel
theorem dX4_best_65 : decode cX4_best 65 = .ok (.iconst 1, 1) := by decide +kernel
theorem dX4_best_66 : decode cX4_best 66 = .ok (.goto 4, 3) := by decide +kernel
theorem dX4_best_69 : decode cX4_best 69 = .ok (.iconst 0, 1) := by decide +kernel
theorem dX4_best_70 : decode cX4_best 70 = .ok (.istore 6, 2) := by decide +kernel
theorem dX4_best_72 : decode cX4_best 72 = .ok (.iload 6, 2) := by decide +kernel
theorem dX4_best_74 : decode cX4_best 74 = .ok (.ifCond .eq 40, 3) := by decide +kernel
theorem dX4_best_77 : decode cX4_best 77 = .ok (.iload_n 2, 1) := by decide +kernel
theorem dX4_best_78 : decode cX4_best 78 = .ok (.iconst (-1), 1) := by decide +kernel
theorem dX4_best_79 : decode cX4_best 79 = .ok (.if_icmp .eq 19, 3) := by decide +kernel
theorem dX4_best_82 : decode cX4_best 82 = .ok (.aload_n 0, 1) := by decide +kernel
theorem dX4_best_83 : decode cX4_best 83 = .ok (.iload 5, 2) := by decide +kernel
theorem dX4_best_85 : decode cX4_best 85 = .ok (.aload_n 0, 1) := by decide +kernel
theorem dX4_best_86 : decode cX4_best 86 = .ok (.getfield 19, 3) := by decide +kernel
theorem dX4_best_89 : decode cX4_best 89 = .ok (.iload_n 1, 1) := by decide +kernel
theorem dX4_best_90 : decode cX4_best 90 = .ok (.iaload, 1) := by decide +kernel
theorem dX4_best_91 : decode cX4_best 91 = .ok (.invokevirtual 60, 3) := by decide +kernel
theorem dX4_best_94 : decode cX4_best 94 = .ok (.iload_n 3, 1) := by decide +kernel
theorem dX4_best_95 : decode cX4_best 95 = .ok (.if_icmp .le 19, 3) := by decide +kernel
theorem dX4_best_98 : decode cX4_best 98 = .ok (.iload 4, 2) := by decide +kernel
theorem dX4_best_100 : decode cX4_best 100 = .ok (.istore_n 2, 1) := by decide +kernel
theorem dX4_best_101 : decode cX4_best 101 = .ok (.aload_n 0, 1) := by decide +kernel
theorem dX4_best_102 : decode cX4_best 102 = .ok (.iload 5, 2) := by decide +kernel
theorem dX4_best_104 : decode cX4_best 104 = .ok (.aload_n 0, 1) := by decide +kernel
theorem dX4_best_105 : decode cX4_best 105 = .ok (.getfield 19, 3) := by decide +kernel
theorem dX4_best_108 : decode cX4_best 108 = .ok (.iload_n 1, 1) := by decide +kernel
theorem dX4_best_109 : decode cX4_best 109 = .ok (.iaload, 1) := by decide +kernel
theorem dX4_best_110 : decode cX4_best 110 = .ok (.invokevirtual 60, 3) := by decide +kernel
theorem dX4_best_113 : decode cX4_best 113 = .ok (.istore_n 3, 1) := by decide +kernel
theorem dX4_best_114 : decode cX4_best 114 = .ok (.iinc 4 1, 3) := by decide +kernel
theorem dX4_best_117 : decode cX4_best 117 = .ok (.goto (-110), 3) := by decide +kernel
theorem dX4_best_120 : decode cX4_best 120 = .ok (.iload_n 2, 1) := by decide +kernel
theorem dX4_best_121 : decode cX4_best 121 = .ok (.ireturn, 1) := by decide +kernel
set_option maxRecDepth 20000 in
theorem ggX4_bestSpot_X4_isBox : GoodIn wsX4_bestSpot wsX4_isBox := goodIn_r _ [6, 7, 8, 9, 5, 10, 35, 36, 37, 38, 39, 40, 41, 42, 43, 44, 45, 46, 47, 48, 49, 50, 51, 52, 53] (by decide +kernel) (by decide +kernel)
set_option maxRecDepth 20000 in
theorem gX4_bestSpot_X4_isBox : GoodIn wsX4_bestSpot (wsV RX4 64 RX4 yX4_isBox wsX4_isBox) := goodIn_app (goodIn_of _ (by decide +kernel)) ggX4_bestSpot_X4_isBox
set_option maxRecDepth 20000 in
theorem ggX4_bestSpot_X4_spot : GoodIn wsX4_bestSpot wsX4_spot := goodIn_r _ [14, 15, 35, 36, 37, 38, 39, 40, 41, 42, 43, 44, 45, 46, 47, 48, 49, 50, 51, 52, 53] (by decide +kernel) (by decide +kernel)
set_option maxRecDepth 20000 in
theorem gX4_bestSpot_X4_spot : GoodIn wsX4_bestSpot (wsV RX4 67 RX4 yX4_spot wsX4_spot) := goodIn_app (goodIn_of _ (by decide +kernel)) ggX4_bestSpot_X4_spot
set_option maxRecDepth 20000 in
theorem ggX4_bestSpot_X4_best : GoodIn wsX4_bestSpot wsX4_best := goodIn_r _ [19, 15, 20, 21, 22, 23, 24, 25, 26, 5, 27, 28, 29, 30, 31, 35, 36, 37, 38, 39, 40, 41, 42, 43, 44, 45, 46, 47, 48, 49, 50, 51, 52, 53] (by decide +kernel) (by decide +kernel)
set_option maxRecDepth 20000 in
theorem gX4_bestSpot_X4_best : GoodIn wsX4_bestSpot (wsV RX4 70 RX4 yX4_best wsX4_best) := goodIn_app (goodIn_of _ (by decide +kernel)) ggX4_bestSpot_X4_best
set_option maxRecDepth 20000 in
theorem ggX4_bestSpot_X4_told : GoodIn wsX4_bestSpot wsX4_told := goodIn_r _ [34] (by decide +kernel) (by decide +kernel)
set_option maxRecDepth 20000 in
theorem gX4_bestSpot_X4_told : GoodIn wsX4_bestSpot (va_wsS RX4 73 yX4_told wsX4_told) := goodIn_app (goodIn_of _ (by decide +kernel)) ggX4_bestSpot_X4_told
theorem dX4_bestSpot_0 : decode cX4_bestSpot 0 = .ok (.aload_n 0, 1) := by decide +kernel
theorem dX4_bestSpot_1 : decode cX4_bestSpot 1 = .ok (.aload_n 0, 1) := by decide +kernel
theorem dX4_bestSpot_2 : decode cX4_bestSpot 2 = .ok (.iload_n 1, 1) := by decide +kernel
theorem dX4_bestSpot_3 : decode cX4_bestSpot 3 = .ok (.invokevirtual 64, 3) := by decide +kernel
theorem dX4_bestSpot_6 : decode cX4_bestSpot 6 = .ok (.ifCond .ne 7, 3) := by decide +kernel
theorem dX4_bestSpot_9 : decode cX4_bestSpot 9 = .ok (.iconst 1, 1) := by decide +kernel
theorem dX4_bestSpot_10 : decode cX4_bestSpot 10 = .ok (.goto 17, 3) := by decide +kernel
theorem dX4_bestSpot_13 : decode cX4_bestSpot 13 = .ok (.aload_n 0, 1) := by decide +kernel
theorem dX4_bestSpot_14 : decode cX4_bestSpot 14 = .ok (.iload_n 1, 1) := by decide +kernel
theorem dX4_bestSpot_15 : decode cX4_bestSpot 15 = .ok (.invokevirtual 67, 3) := by decide +kernel
theorem dX4_bestSpot_18 : decode cX4_bestSpot 18 = .ok (.iconst (-1), 1) := by decide +kernel
theorem dX4_bestSpot_19 : decode cX4_bestSpot 19 = .ok (.if_icmp .eq 7, 3) := by decide +kernel
theorem dX4_bestSpot_22 : decode cX4_bestSpot 22 = .ok (.iconst 2, 1) := by decide +kernel
theorem dX4_bestSpot_23 : decode cX4_bestSpot 23 = .ok (.goto 4, 3) := by decide +kernel
theorem dX4_bestSpot_26 : decode cX4_bestSpot 26 = .ok (.iconst 0, 1) := by decide +kernel
theorem dX4_bestSpot_27 : decode cX4_bestSpot 27 = .ok (.putfield 41, 3) := by decide +kernel
theorem dX4_bestSpot_30 : decode cX4_bestSpot 30 = .ok (.aload_n 0, 1) := by decide +kernel
theorem dX4_bestSpot_31 : decode cX4_bestSpot 31 = .ok (.getfield 41, 3) := by decide +kernel
theorem dX4_bestSpot_34 : decode cX4_bestSpot 34 = .ok (.ifCond .le 5, 3) := by decide +kernel
theorem dX4_bestSpot_37 : decode cX4_bestSpot 37 = .ok (.iconst 0, 1) := by decide +kernel
theorem dX4_bestSpot_38 : decode cX4_bestSpot 38 = .ok (.ireturn, 1) := by decide +kernel
theorem dX4_bestSpot_39 : decode cX4_bestSpot 39 = .ok (.aload_n 0, 1) := by decide +kernel
theorem dX4_bestSpot_40 : decode cX4_bestSpot 40 = .ok (.iload_n 1, 1) := by decide +kernel
theorem dX4_bestSpot_41 : decode cX4_bestSpot 41 = .ok (.invokevirtual 70, 3) := by decide +kernel
theorem dX4_bestSpot_44 : decode cX4_bestSpot 44 = .ok (.istore_n 2, 1) := by decide +kernel
theorem dX4_bestSpot_45 : decode cX4_bestSpot 45 = .ok (.iload_n 2, 1) := by decide +kernel
theorem dX4_bestSpot_46 : decode cX4_bestSpot 46 = .ok (.iconst (-1), 1) := by decide +kernel
theorem dX4_bestSpot_47 : decode cX4_bestSpot 47 = .ok (.if_icmp .ne 7, 3) := by decide +kernel
theorem dX4_bestSpot_50 : decode cX4_bestSpot 50 = .ok (.iconst (-1), 1) := by decide +kernel
theorem dX4_bestSpot_51 : decode cX4_bestSpot 51 = .ok (.goto 7, 3) := by decide +kernel
theorem dX4_bestSpot_54 : decode cX4_bestSpot 54 = .ok (.iload_n 2, 1) := by decide +kernel
theorem dX4_bestSpot_55 : decode cX4_bestSpot 55 = .ok (.invokestatic 73, 3) := by decide +kernel
theorem dX4_bestSpot_58 : decode cX4_bestSpot 58 = .ok (.ireturn, 1) := by decide +kernel
set_option maxRecDepth 20000 in
theorem ggX4_lay_X4_isBox : GoodIn wsX4_lay wsX4_isBox := goodIn_r _ [7, 8, 9, 10, 6, 11, 35, 36, 37, 38, 39, 40, 41, 42, 43, 44, 45, 46, 47, 48, 49, 50, 51, 52, 53] (by decide +kernel) (by decide +kernel)
set_option maxRecDepth 20000 in
theorem gX4_lay_X4_isBox : GoodIn wsX4_lay (wsV RX4 64 RX4 yX4_isBox wsX4_isBox) := goodIn_app (goodIn_of _ (by decide +kernel)) ggX4_lay_X4_isBox
set_option maxRecDepth 20000 in
theorem ggX4_lay_X4_spot : GoodIn wsX4_lay wsX4_spot := goodIn_r _ [15, 2, 35, 36, 37, 38, 39, 40, 41, 42, 43, 44, 45, 46, 47, 48, 49, 50, 51, 52, 53] (by decide +kernel) (by decide +kernel)
set_option maxRecDepth 20000 in
theorem gX4_lay_X4_spot : GoodIn wsX4_lay (wsV RX4 67 RX4 yX4_spot wsX4_spot) := goodIn_app (goodIn_of _ (by decide +kernel)) ggX4_lay_X4_spot
set_option maxRecDepth 20000 in
theorem ggX4_lay_X4_best : GoodIn wsX4_lay wsX4_best := goodIn_r _ [19, 2, 20, 21, 22, 23, 24, 25, 26, 6, 27, 28, 29, 30, 31, 35, 36, 37, 38, 39, 40, 41, 42, 43, 44, 45, 46, 47, 48, 49, 50, 51, 52, 53] (by decide +kernel) (by decide +kernel)
set_option maxRecDepth 20000 in
theorem gX4_lay_X4_best : GoodIn wsX4_lay (wsV RX4 70 RX4 yX4_best wsX4_best) := goodIn_app (goodIn_of _ (by decide +kernel)) ggX4_lay_X4_best
set_option maxRecDepth 20000 in
theorem ggX4_lay_X4_told : GoodIn wsX4_lay wsX4_told := goodIn_r _ [34] (by decide +kernel) (by decide +kernel)
set_option maxRecDepth 20000 in
theorem gX4_lay_X4_told : GoodIn wsX4_lay (va_wsS RX4 73 yX4_told wsX4_told) := goodIn_app (goodIn_of _ (by decide +kernel)) ggX4_lay_X4_told
theorem dX4_lay_0 : decode cX4_lay 0 = .ok (.aload_n 0, 1) := by decide +kernel
theorem dX4_lay_1 : decode cX4_lay 1 = .ok (.aload_n 0, 1) := by decide +kernel
theorem dX4_lay_2 : decode cX4_lay 2 = .ok (.iload_n 1, 1) := by decide +kernel
theorem dX4_lay_3 : decode cX4_lay 3 = .ok (.invokevirtual 64, 3) := by decide +kernel
theorem dX4_lay_6 : decode cX4_lay 6 = .ok (.ifCond .ne 7, 3) := by decide +kernel
theorem dX4_lay_9 : decode cX4_lay 9 = .ok (.iconst 1, 1) := by decide +kernel
theorem dX4_lay_10 : decode cX4_lay 10 = .ok (.goto 26, 3) := by decide +kernel
theorem dX4_lay_13 : decode cX4_lay 13 = .ok (.aload_n 0, 1) := by decide +kernel
theorem dX4_lay_14 : decode cX4_lay 14 = .ok (.iload_n 1, 1) := by decide +kernel
theorem dX4_lay_15 : decode cX4_lay 15 = .ok (.invokevirtual 67, 3) := by decide +kernel
theorem dX4_lay_18 : decode cX4_lay 18 = .ok (.iconst (-1), 1) := by decide +kernel
theorem dX4_lay_19 : decode cX4_lay 19 = .ok (.if_icmp .ne 12, 3) := by decide +kernel
theorem dX4_lay_22 : decode cX4_lay 22 = .ok (.aload_n 0, 1) := by decide +kernel
theorem dX4_lay_23 : decode cX4_lay 23 = .ok (.iload_n 1, 1) := by decide +kernel
theorem dX4_lay_24 : decode cX4_lay 24 = .ok (.invokevirtual 70, 3) := by decide +kernel
theorem dX4_lay_27 : decode cX4_lay 27 = .ok (.iconst (-1), 1) := by decide +kernel
theorem dX4_lay_28 : decode cX4_lay 28 = .ok (.if_icmp .ne 7, 3) := by decide +kernel
theorem dX4_lay_31 : decode cX4_lay 31 = .ok (.iconst 2, 1) := by decide +kernel
theorem dX4_lay_32 : decode cX4_lay 32 = .ok (.goto 4, 3) := by decide +kernel
theorem dX4_lay_35 : decode cX4_lay 35 = .ok (.iconst 0, 1) := by decide +kernel
theorem dX4_lay_36 : decode cX4_lay 36 = .ok (.putfield 41, 3) := by decide +kernel
theorem dX4_lay_39 : decode cX4_lay 39 = .ok (.aload_n 0, 1) := by decide +kernel
theorem dX4_lay_40 : decode cX4_lay 40 = .ok (.getfield 41, 3) := by decide +kernel
theorem dX4_lay_43 : decode cX4_lay 43 = .ok (.ifCond .le 5, 3) := by decide +kernel
theorem dX4_lay_46 : decode cX4_lay 46 = .ok (.iconst 0, 1) := by decide +kernel
theorem dX4_lay_47 : decode cX4_lay 47 = .ok (.ireturn, 1) := by decide +kernel
theorem dX4_lay_48 : decode cX4_lay 48 = .ok (.aload_n 0, 1) := by decide +kernel
theorem dX4_lay_49 : decode cX4_lay 49 = .ok (.iload_n 1, 1) := by decide +kernel
theorem dX4_lay_50 : decode cX4_lay 50 = .ok (.invokevirtual 70, 3) := by decide +kernel
theorem dX4_lay_53 : decode cX4_lay 53 = .ok (.istore_n 2, 1) := by decide +kernel
theorem dX4_lay_54 : decode cX4_lay 54 = .ok (.aload_n 0, 1) := by decide +kernel
theorem dX4_lay_55 : decode cX4_lay 55 = .ok (.getfield 22, 3) := by decide +kernel
theorem dX4_lay_58 : decode cX4_lay 58 = .ok (.iload_n 2, 1) := by decide +kernel
theorem dX4_lay_59 : decode cX4_lay 59 = .ok (.iload_n 1, 1) := by decide +kernel
theorem dX4_lay_60 : decode cX4_lay 60 = .ok (.iconst 1, 1) := by decide +kernel
theorem dX4_lay_61 : decode cX4_lay 61 = .ok (.iadd, 1) := by decide +kernel
theorem dX4_lay_62 : decode cX4_lay 62 = .ok (.iastore, 1) := by decide +kernel
theorem dX4_lay_63 : decode cX4_lay 63 = .ok (.iload_n 2, 1) := by decide +kernel
theorem dX4_lay_64 : decode cX4_lay 64 = .ok (.invokestatic 73, 3) := by decide +kernel
theorem dX4_lay_67 : decode cX4_lay 67 = .ok (.ireturn, 1) := by decide +kernel
set_option maxRecDepth 20000 in
theorem ggX4_spotOf_X4_isBox : GoodIn wsX4_spotOf wsX4_isBox := goodIn_r _ [6, 7, 8, 9, 5, 10, 19, 20, 21, 22, 23, 24, 25, 26, 27, 28, 29, 30, 31, 32, 33, 34, 35, 36, 37] (by decide +kernel) (by decide +kernel)
set_option maxRecDepth 20000 in
theorem gX4_spotOf_X4_isBox : GoodIn wsX4_spotOf (wsV RX4 64 RX4 yX4_isBox wsX4_isBox) := goodIn_app (goodIn_of _ (by decide +kernel)) ggX4_spotOf_X4_isBox
set_option maxRecDepth 20000 in
theorem ggX4_spotOf_X4_spot : GoodIn wsX4_spotOf wsX4_spot := goodIn_r _ [14, 15, 19, 20, 21, 22, 23, 24, 25, 26, 27, 28, 29, 30, 31, 32, 33, 34, 35, 36, 37] (by decide +kernel) (by decide +kernel)
set_option maxRecDepth 20000 in
theorem gX4_spotOf_X4_spot : GoodIn wsX4_spotOf (wsV RX4 67 RX4 yX4_spot wsX4_spot) := goodIn_app (goodIn_of _ (by decide +kernel)) ggX4_spotOf_X4_spot
set_option maxRecDepth 20000 in
theorem ggX4_spotOf_X4_told : GoodIn wsX4_spotOf wsX4_told := goodIn_r _ [18] (by decide +kernel) (by decide +kernel)
set_option maxRecDepth 20000 in
theorem gX4_spotOf_X4_told : GoodIn wsX4_spotOf (va_wsS RX4 73 yX4_told wsX4_told) := goodIn_app (goodIn_of _ (by decide +kernel)) ggX4_spotOf_X4_told
theorem dX4_spotOf_0 : decode cX4_spotOf 0 = .ok (.aload_n 0, 1) := by decide +kernel
theorem dX4_spotOf_1 : decode cX4_spotOf 1 = .ok (.aload_n 0, 1) := by decide +kernel
theorem dX4_spotOf_2 : decode cX4_spotOf 2 = .ok (.iload_n 1, 1) := by decide +kernel
theorem dX4_spotOf_3 : decode cX4_spotOf 3 = .ok (.invokevirtual 64, 3) := by decide +kernel
theorem dX4_spotOf_6 : decode cX4_spotOf 6 = .ok (.ifCond .eq 7, 3) := by decide +kernel
theorem dX4_spotOf_9 : decode cX4_spotOf 9 = .ok (.iconst 0, 1) := by decide +kernel
theorem dX4_spotOf_10 : decode cX4_spotOf 10 = .ok (.goto 4, 3) := by decide +kernel
theorem dX4_spotOf_13 : decode cX4_spotOf 13 = .ok (.iconst 1, 1) := by decide +kernel
theorem dX4_spotOf_14 : decode cX4_spotOf 14 = .ok (.putfield 41, 3) := by decide +kernel
theorem dX4_spotOf_17 : decode cX4_spotOf 17 = .ok (.aload_n 0, 1) := by decide +kernel
theorem dX4_spotOf_18 : decode cX4_spotOf 18 = .ok (.getfield 41, 3) := by decide +kernel
theorem dX4_spotOf_21 : decode cX4_spotOf 21 = .ok (.ifCond .le 5, 3) := by decide +kernel
theorem dX4_spotOf_24 : decode cX4_spotOf 24 = .ok (.iconst 0, 1) := by decide +kernel
theorem dX4_spotOf_25 : decode cX4_spotOf 25 = .ok (.ireturn, 1) := by decide +kernel
theorem dX4_spotOf_26 : decode cX4_spotOf 26 = .ok (.aload_n 0, 1) := by decide +kernel
theorem dX4_spotOf_27 : decode cX4_spotOf 27 = .ok (.iload_n 1, 1) := by decide +kernel
theorem dX4_spotOf_28 : decode cX4_spotOf 28 = .ok (.invokevirtual 67, 3) := by decide +kernel
theorem dX4_spotOf_31 : decode cX4_spotOf 31 = .ok (.iconst (-1), 1) := by decide +kernel
theorem dX4_spotOf_32 : decode cX4_spotOf 32 = .ok (.if_icmp .ne 7, 3) := by decide +kernel
theorem dX4_spotOf_35 : decode cX4_spotOf 35 = .ok (.iconst (-1), 1) := by decide +kernel
theorem dX4_spotOf_36 : decode cX4_spotOf 36 = .ok (.goto 11, 3) := by decide +kernel
theorem dX4_spotOf_39 : decode cX4_spotOf 39 = .ok (.aload_n 0, 1) := by decide +kernel
theorem dX4_spotOf_40 : decode cX4_spotOf 40 = .ok (.iload_n 1, 1) := by decide +kernel
theorem dX4_spotOf_41 : decode cX4_spotOf 41 = .ok (.invokevirtual 67, 3) := by decide +kernel
theorem dX4_spotOf_44 : decode cX4_spotOf 44 = .ok (.invokestatic 73, 3) := by decide +kernel
theorem dX4_spotOf_47 : decode cX4_spotOf 47 = .ok (.ireturn, 1) := by decide +kernel
set_option maxRecDepth 20000 in
theorem ggX4_boxAt_X4_row : GoodIn wsX4_boxAt wsX4_row := goodIn_r _ [6, 7, 8, 5, 9] (by decide +kernel) (by decide +kernel)
set_option maxRecDepth 20000 in
theorem gX4_boxAt_X4_row : GoodIn wsX4_boxAt (va_wsS RX4 76 yX4_row wsX4_row) := goodIn_app (goodIn_of _ (by decide +kernel)) ggX4_boxAt_X4_row
set_option maxRecDepth 20000 in
theorem ggX4_boxAt_X4_fails : GoodIn wsX4_boxAt wsX4_fails := goodIn_r _ [13, 1, 14, 15, 16, 17, 18, 19, 20, 21, 22, 23, 24, 25, 26, 27, 28, 29, 30, 31, 32] (by decide +kernel) (by decide +kernel)
set_option maxRecDepth 20000 in
theorem gX4_boxAt_X4_fails : GoodIn wsX4_boxAt (wsV RX4 79 RX4 yX4_fails wsX4_fails) := goodIn_app (goodIn_of _ (by decide +kernel)) ggX4_boxAt_X4_fails
theorem dX4_boxAt_0 : decode cX4_boxAt 0 = .ok (.aload_n 0, 1) := by decide +kernel
theorem dX4_boxAt_1 : decode cX4_boxAt 1 = .ok (.iconst 0, 1) := by decide +kernel
theorem dX4_boxAt_2 : decode cX4_boxAt 2 = .ok (.putfield 41, 3) := by decide +kernel
theorem dX4_boxAt_5 : decode cX4_boxAt 5 = .ok (.iload_n 1, 1) := by decide +kernel
theorem dX4_boxAt_6 : decode cX4_boxAt 6 = .ok (.invokestatic 76, 3) := by decide +kernel
theorem dX4_boxAt_9 : decode cX4_boxAt 9 = .ok (.iconst (-1), 1) := by decide +kernel
theorem dX4_boxAt_10 : decode cX4_boxAt 10 = .ok (.if_icmp .ne 11, 3) := by decide +kernel
theorem dX4_boxAt_13 : decode cX4_boxAt 13 = .ok (.aload_n 0, 1) := by decide +kernel
theorem dX4_boxAt_14 : decode cX4_boxAt 14 = .ok (.iconst 1, 1) := by decide +kernel
theorem dX4_boxAt_15 : decode cX4_boxAt 15 = .ok (.invokevirtual 79, 3) := by decide +kernel
theorem dX4_boxAt_18 : decode cX4_boxAt 18 = .ok (.goto 14, 3) := by decide +kernel
theorem dX4_boxAt_21 : decode cX4_boxAt 21 = .ok (.aload_n 0, 1) := by decide +kernel
theorem dX4_boxAt_22 : decode cX4_boxAt 22 = .ok (.getfield 22, 3) := by decide +kernel
theorem dX4_boxAt_25 : decode cX4_boxAt 25 = .ok (.iload_n 1, 1) := by decide +kernel
theorem dX4_boxAt_26 : decode cX4_boxAt 26 = .ok (.invokestatic 76, 3) := by decide +kernel
theorem dX4_boxAt_29 : decode cX4_boxAt 29 = .ok (.iaload, 1) := by decide +kernel
theorem dX4_boxAt_30 : decode cX4_boxAt 30 = .ok (.iconst 1, 1) := by decide +kernel
theorem dX4_boxAt_31 : decode cX4_boxAt 31 = .ok (.isub, 1) := by decide +kernel
theorem dX4_boxAt_32 : decode cX4_boxAt 32 = .ok (.ireturn, 1) := by decide +kernel
set_option maxRecDepth 20000 in
theorem ggX4_weight_X4_isShelf : GoodIn wsX4_weight wsX4_isShelf := goodIn_r _ [5, 6, 7, 4, 8] (by decide +kernel) (by decide +kernel)
set_option maxRecDepth 20000 in
theorem gX4_weight_X4_isShelf : GoodIn wsX4_weight (va_wsS RX4 52 yX4_isShelf wsX4_isShelf) := goodIn_app (goodIn_of _ (by decide +kernel)) ggX4_weight_X4_isShelf
set_option maxRecDepth 20000 in
theorem ggX4_weight_X4_weighs : GoodIn wsX4_weight wsX4_weighs := goodIn_r _ [12, 13, 14, 19, 20, 21, 22, 23, 24, 25, 26, 27, 28, 29, 30, 31, 32, 33, 34, 35, 36, 37] (by decide +kernel) (by decide +kernel)
set_option maxRecDepth 20000 in
theorem gX4_weight_X4_weighs : GoodIn wsX4_weight (wsV RX4 56 RX4 yX4_weighs wsX4_weighs) := goodIn_app (goodIn_of _ (by decide +kernel)) ggX4_weight_X4_weighs
set_option maxRecDepth 20000 in
theorem ggX4_weight_X4_fails : GoodIn wsX4_weight wsX4_fails := goodIn_r _ [18, 1, 19, 20, 21, 22, 23, 24, 25, 26, 27, 28, 29, 30, 31, 32, 33, 34, 35, 36, 37] (by decide +kernel) (by decide +kernel)
set_option maxRecDepth 20000 in
theorem gX4_weight_X4_fails : GoodIn wsX4_weight (wsV RX4 79 RX4 yX4_fails wsX4_fails) := goodIn_app (goodIn_of _ (by decide +kernel)) ggX4_weight_X4_fails
theorem dX4_weight_0 : decode cX4_weight 0 = .ok (.aload_n 0, 1) := by decide +kernel
theorem dX4_weight_1 : decode cX4_weight 1 = .ok (.iconst 0, 1) := by decide +kernel
theorem dX4_weight_2 : decode cX4_weight 2 = .ok (.putfield 41, 3) := by decide +kernel
theorem dX4_weight_5 : decode cX4_weight 5 = .ok (.iload_n 1, 1) := by decide +kernel
theorem dX4_weight_6 : decode cX4_weight 6 = .ok (.invokestatic 52, 3) := by decide +kernel
theorem dX4_weight_9 : decode cX4_weight 9 = .ok (.ifCond .eq 11, 3) := by decide +kernel
theorem dX4_weight_12 : decode cX4_weight 12 = .ok (.aload_n 0, 1) := by decide +kernel
theorem dX4_weight_13 : decode cX4_weight 13 = .ok (.iload_n 1, 1) := by decide +kernel
theorem dX4_weight_14 : decode cX4_weight 14 = .ok (.invokevirtual 56, 3) := by decide +kernel
theorem dX4_weight_17 : decode cX4_weight 17 = .ok (.goto 8, 3) := by decide +kernel
theorem dX4_weight_20 : decode cX4_weight 20 = .ok (.aload_n 0, 1) := by decide +kernel
theorem dX4_weight_21 : decode cX4_weight 21 = .ok (.iconst 1, 1) := by decide +kernel
theorem dX4_weight_22 : decode cX4_weight 22 = .ok (.invokevirtual 79, 3) := by decide +kernel
theorem dX4_weight_25 : decode cX4_weight 25 = .ok (.ireturn, 1) := by decide +kernel
theorem dX4_wrong_0 : decode cX4_wrong 0 = .ok (.aload_n 0, 1) := by decide +kernel
theorem dX4_wrong_1 : decode cX4_wrong 1 = .ok (.iconst 0, 1) := by decide +kernel
theorem dX4_wrong_2 : decode cX4_wrong 2 = .ok (.putfield 41, 3) := by decide +kernel
theorem dX4_wrong_5 : decode cX4_wrong 5 = .ok (.iconst 0, 1) := by decide +kernel
theorem dX4_wrong_6 : decode cX4_wrong 6 = .ok (.istore_n 1, 1) := by decide +kernel
theorem dX4_wrong_7 : decode cX4_wrong 7 = .ok (.iconst 0, 1) := by decide +kernel
theorem dX4_wrong_8 : decode cX4_wrong 8 = .ok (.istore_n 2, 1) := by decide +kernel
theorem dX4_wrong_9 : decode cX4_wrong 9 = .ok (.iload_n 2, 1) := by decide +kernel
theorem dX4_wrong_10 : decode cX4_wrong 10 = .ok (.bipush 36, 2) := by decide +kernel
theorem dX4_wrong_12 : decode cX4_wrong 12 = .ok (.if_icmp .ge 51, 3) := by decide +kernel
theorem dX4_wrong_15 : decode cX4_wrong 15 = .ok (.iload_n 1, 1) := by decide +kernel
theorem dX4_wrong_16 : decode cX4_wrong 16 = .ok (.aload_n 0, 1) := by decide +kernel
theorem dX4_wrong_17 : decode cX4_wrong 17 = .ok (.getfield 22, 3) := by decide +kernel
theorem dX4_wrong_20 : decode cX4_wrong 20 = .ok (.iload_n 2, 1) := by decide +kernel
theorem dX4_wrong_21 : decode cX4_wrong 21 = .ok (.iaload, 1) := by decide +kernel
theorem dX4_wrong_22 : decode cX4_wrong 22 = .ok (.ifCond .le 32, 3) := by decide +kernel
theorem dX4_wrong_25 : decode cX4_wrong 25 = .ok (.aload_n 0, 1) := by decide +kernel
theorem dX4_wrong_26 : decode cX4_wrong 26 = .ok (.getfield 13, 3) := by decide +kernel
theorem dX4_wrong_29 : decode cX4_wrong 29 = .ok (.aload_n 0, 1) := by decide +kernel
theorem dX4_wrong_30 : decode cX4_wrong 30 = .ok (.getfield 22, 3) := by decide +kernel
theorem dX4_wrong_33 : decode cX4_wrong 33 = .ok (.iload_n 2, 1) := by decide +kernel
theorem dX4_wrong_34 : decode cX4_wrong 34 = .ok (.iaload, 1) := by decide +kernel
theorem dX4_wrong_35 : decode cX4_wrong 35 = .ok (.iconst 1, 1) := by decide +kernel
theorem dX4_wrong_36 : decode cX4_wrong 36 = .ok (.isub, 1) := by decide +kernel
theorem dX4_wrong_37 : decode cX4_wrong 37 = .ok (.iaload, 1) := by decide +kernel
theorem dX4_wrong_38 : decode cX4_wrong 38 = .ok (.aload_n 0, 1) := by decide +kernel
theorem dX4_wrong_39 : decode cX4_wrong 39 = .ok (.getfield 7, 3) := by decide +kernel
theorem dX4_wrong_42 : decode cX4_wrong 42 = .ok (.iload_n 2, 1) := by decide +kernel
theorem dX4_wrong_43 : decode cX4_wrong 43 = .ok (.bipush 6, 2) := by decide +kernel
theorem dX4_wrong_45 : decode cX4_wrong 45 = .ok (.idiv, 1) := by decide +kernel
theorem dX4_wrong_46 : decode cX4_wrong 46 = .ok (.iaload, 1) := by decide +kernel
theorem dX4_wrong_47 : decode cX4_wrong 47 = .ok (.if_icmp .eq 7, 3) := by decide +kernel
theorem dX4_wrong_50 : decode cX4_wrong 50 = .ok (.iconst 1, 1) := by decide +kernel
theorem dX4_wrong_51 : decode cX4_wrong 51 = .ok (.goto 4, 3) := by decide +kernel
theorem dX4_wrong_54 : decode cX4_wrong 54 = .ok (.iconst 0, 1) := by decide +kernel
theorem dX4_wrong_55 : decode cX4_wrong 55 = .ok (.iadd, 1) := by decide +kernel
theorem dX4_wrong_56 : decode cX4_wrong 56 = .ok (.istore_n 1, 1) := by decide +kernel
theorem dX4_wrong_57 : decode cX4_wrong 57 = .ok (.iinc 2 1, 3) := by decide +kernel
theorem dX4_wrong_60 : decode cX4_wrong 60 = .ok (.goto (-51), 3) := by decide +kernel
theorem dX4_wrong_63 : decode cX4_wrong 63 = .ok (.iload_n 1, 1) := by decide +kernel
theorem dX4_wrong_64 : decode cX4_wrong 64 = .ok (.ireturn, 1) := by decide +kernel
theorem dX4_inside_0 : decode cX4_inside 0 = .ok (.iconst 0, 1) := by decide +kernel
theorem dX4_inside_1 : decode cX4_inside 1 = .ok (.istore_n 1, 1) := by decide +kernel
theorem dX4_inside_2 : decode cX4_inside 2 = .ok (.iconst 0, 1) := by decide +kernel
theorem dX4_inside_3 : decode cX4_inside 3 = .ok (.istore_n 2, 1) := by decide +kernel
theorem dX4_inside_4 : decode cX4_inside 4 = .ok (.iload_n 2, 1) := by decide +kernel
theorem dX4_inside_5 : decode cX4_inside 5 = .ok (.iconst 4, 1) := by decide +kernel
theorem dX4_inside_6 : decode cX4_inside 6 = .ok (.if_icmp .ge 26, 3) := by decide +kernel
theorem dX4_inside_9 : decode cX4_inside 9 = .ok (.iload_n 1, 1) := by decide +kernel
theorem dX4_inside_10 : decode cX4_inside 10 = .ok (.aload_n 0, 1) := by decide +kernel
theorem dX4_inside_11 : decode cX4_inside 11 = .ok (.getfield 29, 3) := by decide +kernel
theorem dX4_inside_14 : decode cX4_inside 14 = .ok (.iload_n 2, 1) := by decide +kernel
theorem dX4_inside_15 : decode cX4_inside 15 = .ok (.baload, 1) := by decide +kernel
theorem dX4_inside_16 : decode cX4_inside 16 = .ok (.ifCond .eq 7, 3) := by decide +kernel
theorem dX4_inside_19 : decode cX4_inside 19 = .ok (.iconst 1, 1) := by decide +kernel
theorem dX4_inside_20 : decode cX4_inside 20 = .ok (.goto 4, 3) := by decide +kernel
theorem dX4_inside_23 : decode cX4_inside 23 = .ok (.iconst 0, 1) := by decide +kernel
theorem dX4_inside_24 : decode cX4_inside 24 = .ok (.iadd, 1) := by decide +kernel
theorem dX4_inside_25 : decode cX4_inside 25 = .ok (.istore_n 1, 1) := by decide +kernel
theorem dX4_inside_26 : decode cX4_inside 26 = .ok (.iinc 2 1, 3) := by decide +kernel
theorem dX4_inside_29 : decode cX4_inside 29 = .ok (.goto (-25), 3) := by decide +kernel
theorem dX4_inside_32 : decode cX4_inside 32 = .ok (.iload_n 1, 1) := by decide +kernel
theorem dX4_inside_33 : decode cX4_inside 33 = .ok (.ireturn, 1) := by decide +kernel
set_option maxRecDepth 20000 in
theorem ggX4_open_X4_inside : GoodIn wsX4_open wsX4_inside := goodIn_r _ [11, 12, 16, 17, 18, 19, 20, 21, 22, 23, 24, 25, 26, 27, 28, 29, 30, 31, 32, 33, 34] (by decide +kernel) (by decide +kernel)
set_option maxRecDepth 20000 in
theorem gX4_open_X4_inside : GoodIn wsX4_open (wsV RX4 82 RX4 yX4_inside wsX4_inside) := goodIn_app (goodIn_of _ (by decide +kernel)) ggX4_open_X4_inside
set_option maxRecDepth 20000 in
theorem ggX4_open_X4_in : GoodIn wsX4_open wsX4_in := goodIn_r _ [15] (by decide +kernel) (by decide +kernel)
set_option maxRecDepth 20000 in
theorem gX4_open_X4_in : GoodIn wsX4_open (va_wsS RX4 45 yX4_in wsX4_in) := goodIn_app (goodIn_of _ (by decide +kernel)) ggX4_open_X4_in
theorem dX4_open_0 : decode cX4_open 0 = .ok (.aload_n 0, 1) := by decide +kernel
theorem dX4_open_1 : decode cX4_open 1 = .ok (.invokevirtual 82, 3) := by decide +kernel
theorem dX4_open_4 : decode cX4_open 4 = .ok (.ifCond .gt 36, 3) := by decide +kernel
theorem dX4_open_7 : decode cX4_open 7 = .ok (.aload_n 0, 1) := by decide +kernel
theorem dX4_open_8 : decode cX4_open 8 = .ok (.getfield 86, 3) := by decide +kernel
theorem dX4_open_11 : decode cX4_open 11 = .ok (.ifCond .gt 29, 3) := by decide +kernel
theorem dX4_open_14 : decode cX4_open 14 = .ok (.aload_n 0, 1) := by decide +kernel
theorem dX4_open_15 : decode cX4_open 15 = .ok (.getfield 25, 3) := by decide +kernel
theorem dX4_open_18 : decode cX4_open 18 = .ok (.aload_n 0, 1) := by decide +kernel
theorem dX4_open_19 : decode cX4_open 19 = .ok (.getfield 89, 3) := by decide +kernel
theorem dX4_open_22 : decode cX4_open 22 = .ok (.baload, 1) := by decide +kernel
theorem dX4_open_23 : decode cX4_open 23 = .ok (.ifCond .ne 17, 3) := by decide +kernel
theorem dX4_open_26 : decode cX4_open 26 = .ok (.aload_n 0, 1) := by decide +kernel
theorem dX4_open_27 : decode cX4_open 27 = .ok (.getfield 92, 3) := by decide +kernel
theorem dX4_open_30 : decode cX4_open 30 = .ok (.ifCond .ne 10, 3) := by decide +kernel
theorem dX4_open_33 : decode cX4_open 33 = .ok (.aload_n 0, 1) := by decide +kernel
theorem dX4_open_34 : decode cX4_open 34 = .ok (.getfield 96, 3) := by decide +kernel
theorem dX4_open_37 : decode cX4_open 37 = .ok (.ifCond .eq 7, 3) := by decide +kernel
theorem dX4_open_40 : decode cX4_open 40 = .ok (.iconst 1, 1) := by decide +kernel
theorem dX4_open_41 : decode cX4_open 41 = .ok (.goto 4, 3) := by decide +kernel
theorem dX4_open_44 : decode cX4_open 44 = .ok (.iconst 0, 1) := by decide +kernel
theorem dX4_open_45 : decode cX4_open 45 = .ok (.istore_n 2, 1) := by decide +kernel
theorem dX4_open_46 : decode cX4_open 46 = .ok (.aload_n 0, 1) := by decide +kernel
theorem dX4_open_47 : decode cX4_open 47 = .ok (.iload_n 1, 1) := by decide +kernel
theorem dX4_open_48 : decode cX4_open 48 = .ok (.iconst 0, 1) := by decide +kernel
theorem dX4_open_49 : decode cX4_open 49 = .ok (.bipush 6, 2) := by decide +kernel
theorem dX4_open_51 : decode cX4_open 51 = .ok (.invokestatic 45, 3) := by decide +kernel
theorem dX4_open_54 : decode cX4_open 54 = .ok (.ifCond .ne 7, 3) := by decide +kernel
theorem dX4_open_57 : decode cX4_open 57 = .ok (.iconst 1, 1) := by decide +kernel
theorem dX4_open_58 : decode cX4_open 58 = .ok (.goto 12, 3) := by decide +kernel
theorem dX4_open_61 : decode cX4_open 61 = .ok (.iload_n 2, 1) := by decide +kernel
theorem dX4_open_62 : decode cX4_open 62 = .ok (.ifCond .eq 7, 3) := by decide +kernel
theorem dX4_open_65 : decode cX4_open 65 = .ok (.iconst 2, 1) := by decide +kernel
theorem dX4_open_66 : decode cX4_open 66 = .ok (.goto 4, 3) := by decide +kernel
theorem dX4_open_69 : decode cX4_open 69 = .ok (.iconst 0, 1) := by decide +kernel
theorem dX4_open_70 : decode cX4_open 70 = .ok (.putfield 41, 3) := by decide +kernel
theorem dX4_open_73 : decode cX4_open 73 = .ok (.aload_n 0, 1) := by decide +kernel
theorem dX4_open_74 : decode cX4_open 74 = .ok (.getfield 41, 3) := by decide +kernel
theorem dX4_open_77 : decode cX4_open 77 = .ok (.ifCond .le 5, 3) := by decide +kernel
theorem dX4_open_80 : decode cX4_open 80 = .ok (.iconst 0, 1) := by decide +kernel
theorem dX4_open_81 : decode cX4_open 81 = .ok (.ireturn, 1) := by decide +kernel
theorem dX4_open_82 : decode cX4_open 82 = .ok (.aload_n 0, 1) := by decide +kernel
theorem dX4_open_83 : decode cX4_open 83 = .ok (.iload_n 1, 1) := by decide +kernel
theorem dX4_open_84 : decode cX4_open 84 = .ok (.aload_n 0, 1) := by decide +kernel
theorem dX4_open_85 : decode cX4_open 85 = .ok (.getfield 89, 3) := by decide +kernel
theorem dX4_open_88 : decode cX4_open 88 = .ok (.if_icmp .le 12, 3) := by decide +kernel
theorem dX4_open_91 : decode cX4_open 91 = .ok (.iload_n 1, 1) := by decide +kernel
theorem dX4_open_92 : decode cX4_open 92 = .ok (.aload_n 0, 1) := by decide +kernel
theorem dX4_open_93 : decode cX4_open 93 = .ok (.getfield 89, 3) := by decide +kernel
theorem dX4_open_96 : decode cX4_open 96 = .ok (.isub, 1) := by decide +kernel
theorem dX4_open_97 : decode cX4_open 97 = .ok (.goto 9, 3) := by decide +kernel
theorem dX4_open_100 : decode cX4_open 100 = .ok (.aload_n 0, 1) := by decide +kernel
theorem dX4_open_101 : decode cX4_open 101 = .ok (.getfield 89, 3) := by decide +kernel
theorem dX4_open_104 : decode cX4_open 104 = .ok (.iload_n 1, 1) := by decide +kernel
theorem dX4_open_105 : decode cX4_open 105 = .ok (.isub, 1) := by decide +kernel
theorem dX4_open_106 : decode cX4_open 106 = .ok (.putfield 86, 3) := by decide +kernel
theorem dX4_open_109 : decode cX4_open 109 = .ok (.aload_n 0, 1) := by decide +kernel
theorem dX4_open_110 : decode cX4_open 110 = .ok (.iload_n 1, 1) := by decide +kernel
theorem dX4_open_111 : decode cX4_open 111 = .ok (.putfield 89, 3) := by decide +kernel
theorem dX4_open_114 : decode cX4_open 114 = .ok (.aload_n 0, 1) := by decide +kernel
theorem dX4_open_115 : decode cX4_open 115 = .ok (.getfield 86, 3) := by decide +kernel
theorem dX4_open_118 : decode cX4_open 118 = .ok (.ireturn, 1) := by decide +kernel
theorem dX4_opened_0 : decode cX4_opened 0 = .ok (.aload_n 0, 1) := by decide +kernel
theorem dX4_opened_1 : decode cX4_opened 1 = .ok (.iconst 0, 1) := by decide +kernel
theorem dX4_opened_2 : decode cX4_opened 2 = .ok (.putfield 41, 3) := by decide +kernel
theorem dX4_opened_5 : decode cX4_opened 5 = .ok (.aload_n 0, 1) := by decide +kernel
theorem dX4_opened_6 : decode cX4_opened 6 = .ok (.getfield 86, 3) := by decide +kernel
theorem dX4_opened_9 : decode cX4_opened 9 = .ok (.ifCond .le 7, 3) := by decide +kernel
theorem dX4_opened_12 : decode cX4_opened 12 = .ok (.iconst (-1), 1) := by decide +kernel
theorem dX4_opened_13 : decode cX4_opened 13 = .ok (.goto 7, 3) := by decide +kernel
theorem dX4_opened_16 : decode cX4_opened 16 = .ok (.aload_n 0, 1) := by decide +kernel
theorem dX4_opened_17 : decode cX4_opened 17 = .ok (.getfield 89, 3) := by decide +kernel
theorem dX4_opened_20 : decode cX4_opened 20 = .ok (.ireturn, 1) := by decide +kernel
set_option maxRecDepth 20000 in
theorem ggX4_openedByMoves_X4_opened : GoodIn wsX4_openedByMoves wsX4_opened := goodIn_r _ [5, 6, 7, 8, 9, 10, 11, 12, 13, 14, 15, 16, 17, 18, 19, 20, 21, 22, 23, 24, 25, 26, 27] (by decide +kernel) (by decide +kernel)
set_option maxRecDepth 20000 in
theorem gX4_openedByMoves_X4_opened : GoodIn wsX4_openedByMoves (wsV RX4 99 RX4 yX4_opened wsX4_opened) := goodIn_app (goodIn_of _ (by decide +kernel)) ggX4_openedByMoves_X4_opened
theorem dX4_openedByMoves_0 : decode cX4_openedByMoves 0 = .ok (.aload_n 0, 1) := by decide +kernel
theorem dX4_openedByMoves_1 : decode cX4_openedByMoves 1 = .ok (.invokevirtual 99, 3) := by decide +kernel
theorem dX4_openedByMoves_4 : decode cX4_openedByMoves 4 = .ok (.ireturn, 1) := by decide +kernel
set_option maxRecDepth 20000 in
theorem ggX4_goIn_X4_isPerson : GoodIn wsX4_goIn wsX4_isPerson := goodIn_r _ [8, 9, 10, 7, 11] (by decide +kernel) (by decide +kernel)
set_option maxRecDepth 20000 in
theorem gX4_goIn_X4_isPerson : GoodIn wsX4_goIn (va_wsS RX4 102 yX4_isPerson wsX4_isPerson) := goodIn_app (goodIn_of _ (by decide +kernel)) ggX4_goIn_X4_isPerson
set_option maxRecDepth 20000 in
theorem ggX4_goIn_X4_inside : GoodIn wsX4_goIn wsX4_inside := goodIn_r _ [15, 1, 16, 17, 18, 19, 20, 21, 22, 23, 24, 25, 26, 27, 28, 29, 30, 31, 32, 33, 34] (by decide +kernel) (by decide +kernel)
set_option maxRecDepth 20000 in
theorem gX4_goIn_X4_inside : GoodIn wsX4_goIn (wsV RX4 82 RX4 yX4_inside wsX4_inside) := goodIn_app (goodIn_of _ (by decide +kernel)) ggX4_goIn_X4_inside
theorem dX4_goIn_0 : decode cX4_goIn 0 = .ok (.aload_n 0, 1) := by decide +kernel
theorem dX4_goIn_1 : decode cX4_goIn 1 = .ok (.iload_n 1, 1) := by decide +kernel
theorem dX4_goIn_2 : decode cX4_goIn 2 = .ok (.invokestatic 102, 3) := by decide +kernel
theorem dX4_goIn_5 : decode cX4_goIn 5 = .ok (.ifCond .ne 7, 3) := by decide +kernel
theorem dX4_goIn_8 : decode cX4_goIn 8 = .ok (.iconst 1, 1) := by decide +kernel
theorem dX4_goIn_9 : decode cX4_goIn 9 = .ok (.goto 31, 3) := by decide +kernel
theorem dX4_goIn_12 : decode cX4_goIn 12 = .ok (.aload_n 0, 1) := by decide +kernel
theorem dX4_goIn_13 : decode cX4_goIn 13 = .ok (.getfield 29, 3) := by decide +kernel
theorem dX4_goIn_16 : decode cX4_goIn 16 = .ok (.iload_n 1, 1) := by decide +kernel
theorem dX4_goIn_17 : decode cX4_goIn 17 = .ok (.baload, 1) := by decide +kernel
theorem dX4_goIn_18 : decode cX4_goIn 18 = .ok (.ifCond .ne 17, 3) := by decide +kernel
theorem dX4_goIn_21 : decode cX4_goIn 21 = .ok (.aload_n 0, 1) := by decide +kernel
theorem dX4_goIn_22 : decode cX4_goIn 22 = .ok (.getfield 86, 3) := by decide +kernel
theorem dX4_goIn_25 : decode cX4_goIn 25 = .ok (.ifCond .gt 10, 3) := by decide +kernel
theorem dX4_goIn_28 : decode cX4_goIn 28 = .ok (.aload_n 0, 1) := by decide +kernel
theorem dX4_goIn_29 : decode cX4_goIn 29 = .ok (.getfield 96, 3) := by decide +kernel
theorem dX4_goIn_32 : decode cX4_goIn 32 = .ok (.ifCond .eq 7, 3) := by decide +kernel
theorem dX4_goIn_35 : decode cX4_goIn 35 = .ok (.iconst 2, 1) := by decide +kernel
theorem dX4_goIn_36 : decode cX4_goIn 36 = .ok (.goto 4, 3) := by decide +kernel
theorem dX4_goIn_39 : decode cX4_goIn 39 = .ok (.iconst 0, 1) := by decide +kernel
theorem dX4_goIn_40 : decode cX4_goIn 40 = .ok (.putfield 41, 3) := by decide +kernel
theorem dX4_goIn_43 : decode cX4_goIn 43 = .ok (.aload_n 0, 1) := by decide +kernel
theorem dX4_goIn_44 : decode cX4_goIn 44 = .ok (.getfield 41, 3) := by decide +kernel
theorem dX4_goIn_47 : decode cX4_goIn 47 = .ok (.ifCond .le 5, 3) := by decide +kernel
theorem dX4_goIn_50 : decode cX4_goIn 50 = .ok (.iconst 0, 1) := by decide +kernel
theorem dX4_goIn_51 : decode cX4_goIn 51 = .ok (.ireturn, 1) := by decide +kernel
theorem dX4_goIn_52 : decode cX4_goIn 52 = .ok (.aload_n 0, 1) := by decide +kernel
theorem dX4_goIn_53 : decode cX4_goIn 53 = .ok (.getfield 29, 3) := by decide +kernel
theorem dX4_goIn_56 : decode cX4_goIn 56 = .ok (.iload_n 1, 1) := by decide +kernel
theorem dX4_goIn_57 : decode cX4_goIn 57 = .ok (.iconst 1, 1) := by decide +kernel
theorem dX4_goIn_58 : decode cX4_goIn 58 = .ok (.bastore, 1) := by decide +kernel
theorem dX4_goIn_59 : decode cX4_goIn 59 = .ok (.aload_n 0, 1) := by decide +kernel
theorem dX4_goIn_60 : decode cX4_goIn 60 = .ok (.invokevirtual 82, 3) := by decide +kernel
theorem dX4_goIn_63 : decode cX4_goIn 63 = .ok (.ireturn, 1) := by decide +kernel
set_option maxRecDepth 20000 in
theorem ggX4_goOut_X4_isPerson : GoodIn wsX4_goOut wsX4_isPerson := goodIn_r _ [6, 7, 8, 5, 9] (by decide +kernel) (by decide +kernel)
set_option maxRecDepth 20000 in
theorem gX4_goOut_X4_isPerson : GoodIn wsX4_goOut (va_wsS RX4 102 yX4_isPerson wsX4_isPerson) := goodIn_app (goodIn_of _ (by decide +kernel)) ggX4_goOut_X4_isPerson
set_option maxRecDepth 20000 in
theorem ggX4_goOut_X4_inside : GoodIn wsX4_goOut wsX4_inside := goodIn_r _ [13, 1, 14, 15, 16, 17, 18, 19, 20, 21, 22, 23, 24, 25, 26, 27, 28, 29, 30, 31, 32] (by decide +kernel) (by decide +kernel)
set_option maxRecDepth 20000 in
theorem gX4_goOut_X4_inside : GoodIn wsX4_goOut (wsV RX4 82 RX4 yX4_inside wsX4_inside) := goodIn_app (goodIn_of _ (by decide +kernel)) ggX4_goOut_X4_inside
theorem dX4_goOut_0 : decode cX4_goOut 0 = .ok (.aload_n 0, 1) := by decide +kernel
theorem dX4_goOut_1 : decode cX4_goOut 1 = .ok (.iload_n 1, 1) := by decide +kernel
theorem dX4_goOut_2 : decode cX4_goOut 2 = .ok (.invokestatic 102, 3) := by decide +kernel
theorem dX4_goOut_5 : decode cX4_goOut 5 = .ok (.ifCond .ne 7, 3) := by decide +kernel
theorem dX4_goOut_8 : decode cX4_goOut 8 = .ok (.iconst 1, 1) := by decide +kernel
theorem dX4_goOut_9 : decode cX4_goOut 9 = .ok (.goto 17, 3) := by decide +kernel
theorem dX4_goOut_12 : decode cX4_goOut 12 = .ok (.aload_n 0, 1) := by decide +kernel
theorem dX4_goOut_13 : decode cX4_goOut 13 = .ok (.getfield 29, 3) := by decide +kernel
theorem dX4_goOut_16 : decode cX4_goOut 16 = .ok (.iload_n 1, 1) := by decide +kernel
theorem dX4_goOut_17 : decode cX4_goOut 17 = .ok (.baload, 1) := by decide +kernel
theorem dX4_goOut_18 : decode cX4_goOut 18 = .ok (.ifCond .eq 7, 3) := by decide +kernel
theorem dX4_goOut_21 : decode cX4_goOut 21 = .ok (.iconst 0, 1) := by decide +kernel
theorem dX4_goOut_22 : decode cX4_goOut 22 = .ok (.goto 4, 3) := by decide +kernel
theorem dX4_goOut_25 : decode cX4_goOut 25 = .ok (.iconst 2, 1) := by decide +kernel
theorem dX4_goOut_26 : decode cX4_goOut 26 = .ok (.putfield 41, 3) := by decide +kernel
theorem dX4_goOut_29 : decode cX4_goOut 29 = .ok (.aload_n 0, 1) := by decide +kernel
theorem dX4_goOut_30 : decode cX4_goOut 30 = .ok (.getfield 41, 3) := by decide +kernel
theorem dX4_goOut_33 : decode cX4_goOut 33 = .ok (.ifCond .le 5, 3) := by decide +kernel
theorem dX4_goOut_36 : decode cX4_goOut 36 = .ok (.iconst 0, 1) := by decide +kernel
theorem dX4_goOut_37 : decode cX4_goOut 37 = .ok (.ireturn, 1) := by decide +kernel
theorem dX4_goOut_38 : decode cX4_goOut 38 = .ok (.aload_n 0, 1) := by decide +kernel
theorem dX4_goOut_39 : decode cX4_goOut 39 = .ok (.getfield 29, 3) := by decide +kernel
theorem dX4_goOut_42 : decode cX4_goOut 42 = .ok (.iload_n 1, 1) := by decide +kernel
theorem dX4_goOut_43 : decode cX4_goOut 43 = .ok (.iconst 0, 1) := by decide +kernel
theorem dX4_goOut_44 : decode cX4_goOut 44 = .ok (.bastore, 1) := by decide +kernel
theorem dX4_goOut_45 : decode cX4_goOut 45 = .ok (.aload_n 0, 1) := by decide +kernel
theorem dX4_goOut_46 : decode cX4_goOut 46 = .ok (.invokevirtual 82, 3) := by decide +kernel
theorem dX4_goOut_49 : decode cX4_goOut 49 = .ok (.ireturn, 1) := by decide +kernel
set_option maxRecDepth 20000 in
theorem ggX4_doubt_X4_in : GoodIn wsX4_doubt wsX4_in := goodIn_r _ [6] (by decide +kernel) (by decide +kernel)
set_option maxRecDepth 20000 in
theorem gX4_doubt_X4_in : GoodIn wsX4_doubt (va_wsS RX4 45 yX4_in wsX4_in) := goodIn_app (goodIn_of _ (by decide +kernel)) ggX4_doubt_X4_in
theorem dX4_doubt_0 : decode cX4_doubt 0 = .ok (.aload_n 0, 1) := by decide +kernel
theorem dX4_doubt_1 : decode cX4_doubt 1 = .ok (.iload_n 1, 1) := by decide +kernel
theorem dX4_doubt_2 : decode cX4_doubt 2 = .ok (.iconst 0, 1) := by decide +kernel
theorem dX4_doubt_3 : decode cX4_doubt 3 = .ok (.bipush 6, 2) := by decide +kernel
theorem dX4_doubt_5 : decode cX4_doubt 5 = .ok (.invokestatic 45, 3) := by decide +kernel
theorem dX4_doubt_8 : decode cX4_doubt 8 = .ok (.ifCond .eq 7, 3) := by decide +kernel
theorem dX4_doubt_11 : decode cX4_doubt 11 = .ok (.iconst 0, 1) := by decide +kernel
theorem dX4_doubt_12 : decode cX4_doubt 12 = .ok (.goto 4, 3) := by decide +kernel
theorem dX4_doubt_15 : decode cX4_doubt 15 = .ok (.iconst 1, 1) := by decide +kernel
theorem dX4_doubt_16 : decode cX4_doubt 16 = .ok (.putfield 41, 3) := by decide +kernel
theorem dX4_doubt_19 : decode cX4_doubt 19 = .ok (.aload_n 0, 1) := by decide +kernel
theorem dX4_doubt_20 : decode cX4_doubt 20 = .ok (.getfield 41, 3) := by decide +kernel
theorem dX4_doubt_23 : decode cX4_doubt 23 = .ok (.ifCond .le 5, 3) := by decide +kernel
theorem dX4_doubt_26 : decode cX4_doubt 26 = .ok (.iconst 0, 1) := by decide +kernel
theorem dX4_doubt_27 : decode cX4_doubt 27 = .ok (.ireturn, 1) := by decide +kernel
theorem dX4_doubt_28 : decode cX4_doubt 28 = .ok (.aload_n 0, 1) := by decide +kernel
theorem dX4_doubt_29 : decode cX4_doubt 29 = .ok (.getfield 25, 3) := by decide +kernel
theorem dX4_doubt_32 : decode cX4_doubt 32 = .ok (.iload_n 1, 1) := by decide +kernel
theorem dX4_doubt_33 : decode cX4_doubt 33 = .ok (.baload, 1) := by decide +kernel
theorem dX4_doubt_34 : decode cX4_doubt 34 = .ok (.ifCond .ne 7, 3) := by decide +kernel
theorem dX4_doubt_37 : decode cX4_doubt 37 = .ok (.iconst 1, 1) := by decide +kernel
theorem dX4_doubt_38 : decode cX4_doubt 38 = .ok (.goto 4, 3) := by decide +kernel
theorem dX4_doubt_41 : decode cX4_doubt 41 = .ok (.iconst 0, 1) := by decide +kernel
theorem dX4_doubt_42 : decode cX4_doubt 42 = .ok (.istore_n 2, 1) := by decide +kernel
theorem dX4_doubt_43 : decode cX4_doubt 43 = .ok (.aload_n 0, 1) := by decide +kernel
theorem dX4_doubt_44 : decode cX4_doubt 44 = .ok (.getfield 25, 3) := by decide +kernel
theorem dX4_doubt_47 : decode cX4_doubt 47 = .ok (.iload_n 1, 1) := by decide +kernel
theorem dX4_doubt_48 : decode cX4_doubt 48 = .ok (.iconst 1, 1) := by decide +kernel
theorem dX4_doubt_49 : decode cX4_doubt 49 = .ok (.bastore, 1) := by decide +kernel
theorem dX4_doubt_50 : decode cX4_doubt 50 = .ok (.iload_n 2, 1) := by decide +kernel
theorem dX4_doubt_51 : decode cX4_doubt 51 = .ok (.ireturn, 1) := by decide +kernel
theorem dX4_look_0 : decode cX4_look 0 = .ok (.aload_n 0, 1) := by decide +kernel
theorem dX4_look_1 : decode cX4_look 1 = .ok (.aload_n 0, 1) := by decide +kernel
theorem dX4_look_2 : decode cX4_look 2 = .ok (.getfield 86, 3) := by decide +kernel
theorem dX4_look_5 : decode cX4_look 5 = .ok (.ifCond .le 7, 3) := by decide +kernel
theorem dX4_look_8 : decode cX4_look 8 = .ok (.iconst 1, 1) := by decide +kernel
theorem dX4_look_9 : decode cX4_look 9 = .ok (.goto 4, 3) := by decide +kernel
theorem dX4_look_12 : decode cX4_look 12 = .ok (.iconst 0, 1) := by decide +kernel
theorem dX4_look_13 : decode cX4_look 13 = .ok (.putfield 41, 3) := by decide +kernel
theorem dX4_look_16 : decode cX4_look 16 = .ok (.aload_n 0, 1) := by decide +kernel
theorem dX4_look_17 : decode cX4_look 17 = .ok (.getfield 41, 3) := by decide +kernel
theorem dX4_look_20 : decode cX4_look 20 = .ok (.ifCond .le 5, 3) := by decide +kernel
theorem dX4_look_23 : decode cX4_look 23 = .ok (.iconst 0, 1) := by decide +kernel
theorem dX4_look_24 : decode cX4_look 24 = .ok (.ireturn, 1) := by decide +kernel
theorem dX4_look_25 : decode cX4_look 25 = .ok (.aload_n 0, 1) := by decide +kernel
theorem dX4_look_26 : decode cX4_look 26 = .ok (.getfield 25, 3) := by decide +kernel
theorem dX4_look_29 : decode cX4_look 29 = .ok (.aload_n 0, 1) := by decide +kernel
theorem dX4_look_30 : decode cX4_look 30 = .ok (.getfield 89, 3) := by decide +kernel
theorem dX4_look_33 : decode cX4_look 33 = .ok (.baload, 1) := by decide +kernel
theorem dX4_look_34 : decode cX4_look 34 = .ok (.istore_n 1, 1) := by decide +kernel
theorem dX4_look_35 : decode cX4_look 35 = .ok (.aload_n 0, 1) := by decide +kernel
theorem dX4_look_36 : decode cX4_look 36 = .ok (.getfield 25, 3) := by decide +kernel
theorem dX4_look_39 : decode cX4_look 39 = .ok (.aload_n 0, 1) := by decide +kernel
theorem dX4_look_40 : decode cX4_look 40 = .ok (.getfield 89, 3) := by decide +kernel
theorem dX4_look_43 : decode cX4_look 43 = .ok (.iconst 0, 1) := by decide +kernel
theorem dX4_look_44 : decode cX4_look 44 = .ok (.bastore, 1) := by decide +kernel
theorem dX4_look_45 : decode cX4_look 45 = .ok (.iload_n 1, 1) := by decide +kernel
theorem dX4_look_46 : decode cX4_look 46 = .ok (.ireturn, 1) := by decide +kernel
theorem dX4_stall_0 : decode cX4_stall 0 = .ok (.aload_n 0, 1) := by decide +kernel
theorem dX4_stall_1 : decode cX4_stall 1 = .ok (.iconst 0, 1) := by decide +kernel
theorem dX4_stall_2 : decode cX4_stall 2 = .ok (.putfield 41, 3) := by decide +kernel
theorem dX4_stall_5 : decode cX4_stall 5 = .ok (.aload_n 0, 1) := by decide +kernel
theorem dX4_stall_6 : decode cX4_stall 6 = .ok (.getfield 92, 3) := by decide +kernel
theorem dX4_stall_9 : decode cX4_stall 9 = .ok (.iload_n 1, 1) := by decide +kernel
theorem dX4_stall_10 : decode cX4_stall 10 = .ok (.if_icmp .eq 7, 3) := by decide +kernel
theorem dX4_stall_13 : decode cX4_stall 13 = .ok (.iconst 1, 1) := by decide +kernel
theorem dX4_stall_14 : decode cX4_stall 14 = .ok (.goto 4, 3) := by decide +kernel
theorem dX4_stall_17 : decode cX4_stall 17 = .ok (.iconst 0, 1) := by decide +kernel
theorem dX4_stall_18 : decode cX4_stall 18 = .ok (.istore_n 2, 1) := by decide +kernel
theorem dX4_stall_19 : decode cX4_stall 19 = .ok (.aload_n 0, 1) := by decide +kernel
theorem dX4_stall_20 : decode cX4_stall 20 = .ok (.iload_n 1, 1) := by decide +kernel
theorem dX4_stall_21 : decode cX4_stall 21 = .ok (.putfield 92, 3) := by decide +kernel
theorem dX4_stall_24 : decode cX4_stall 24 = .ok (.iload_n 2, 1) := by decide +kernel
theorem dX4_stall_25 : decode cX4_stall 25 = .ok (.ireturn, 1) := by decide +kernel
set_option maxRecDepth 20000 in
theorem ggX4_smoke_X4_inside : GoodIn wsX4_smoke wsX4_inside := goodIn_r _ [8, 3, 9, 10, 11, 12, 13, 14, 15, 16, 17, 18, 19, 20, 21, 22, 23, 24, 25, 26, 27] (by decide +kernel) (by decide +kernel)
set_option maxRecDepth 20000 in
theorem gX4_smoke_X4_inside : GoodIn wsX4_smoke (wsV RX4 82 RX4 yX4_inside wsX4_inside) := goodIn_app (goodIn_of _ (by decide +kernel)) ggX4_smoke_X4_inside
theorem dX4_smoke_0 : decode cX4_smoke 0 = .ok (.aload_n 0, 1) := by decide +kernel
theorem dX4_smoke_1 : decode cX4_smoke 1 = .ok (.iconst 0, 1) := by decide +kernel
theorem dX4_smoke_2 : decode cX4_smoke 2 = .ok (.putfield 41, 3) := by decide +kernel
theorem dX4_smoke_5 : decode cX4_smoke 5 = .ok (.iload_n 1, 1) := by decide +kernel
theorem dX4_smoke_6 : decode cX4_smoke 6 = .ok (.ifCond .eq 10, 3) := by decide +kernel
theorem dX4_smoke_9 : decode cX4_smoke 9 = .ok (.aload_n 0, 1) := by decide +kernel
theorem dX4_smoke_10 : decode cX4_smoke 10 = .ok (.invokevirtual 82, 3) := by decide +kernel
theorem dX4_smoke_13 : decode cX4_smoke 13 = .ok (.goto 4, 3) := by decide +kernel
theorem dX4_smoke_16 : decode cX4_smoke 16 = .ok (.iconst 0, 1) := by decide +kernel
theorem dX4_smoke_17 : decode cX4_smoke 17 = .ok (.istore_n 2, 1) := by decide +kernel
theorem dX4_smoke_18 : decode cX4_smoke 18 = .ok (.aload_n 0, 1) := by decide +kernel
theorem dX4_smoke_19 : decode cX4_smoke 19 = .ok (.iload_n 1, 1) := by decide +kernel
theorem dX4_smoke_20 : decode cX4_smoke 20 = .ok (.putfield 96, 3) := by decide +kernel
theorem dX4_smoke_23 : decode cX4_smoke 23 = .ok (.iconst 0, 1) := by decide +kernel
theorem dX4_smoke_24 : decode cX4_smoke 24 = .ok (.istore_n 3, 1) := by decide +kernel
theorem dX4_smoke_25 : decode cX4_smoke 25 = .ok (.iload_n 3, 1) := by decide +kernel
theorem dX4_smoke_26 : decode cX4_smoke 26 = .ok (.iconst 4, 1) := by decide +kernel
theorem dX4_smoke_27 : decode cX4_smoke 27 = .ok (.if_icmp .ge 33, 3) := by decide +kernel
theorem dX4_smoke_30 : decode cX4_smoke 30 = .ok (.aload_n 0, 1) := by decide +kernel
theorem dX4_smoke_31 : decode cX4_smoke 31 = .ok (.getfield 29, 3) := by decide +kernel
theorem dX4_smoke_34 : decode cX4_smoke 34 = .ok (.iload_n 3, 1) := by decide +kernel
theorem dX4_smoke_35 : decode cX4_smoke 35 = .ok (.aload_n 0, 1) := by decide +kernel
theorem dX4_smoke_36 : decode cX4_smoke 36 = .ok (.getfield 29, 3) := by decide +kernel
theorem dX4_smoke_39 : decode cX4_smoke 39 = .ok (.iload_n 3, 1) := by decide +kernel
theorem dX4_smoke_40 : decode cX4_smoke 40 = .ok (.baload, 1) := by decide +kernel
theorem dX4_smoke_41 : decode cX4_smoke 41 = .ok (.ifCond .eq 11, 3) := by decide +kernel
theorem dX4_smoke_44 : decode cX4_smoke 44 = .ok (.iload_n 1, 1) := by decide +kernel
theorem dX4_smoke_45 : decode cX4_smoke 45 = .ok (.ifCond .ne 7, 3) := by decide +kernel
theorem dX4_smoke_48 : decode cX4_smoke 48 = .ok (.iconst 1, 1) := by decide +kernel
theorem dX4_smoke_49 : decode cX4_smoke 49 = .ok (.goto 4, 3) := by decide +kernel
theorem dX4_smoke_52 : decode cX4_smoke 52 = .ok (.iconst 0, 1) := by decide +kernel
theorem dX4_smoke_53 : decode cX4_smoke 53 = .ok (.bastore, 1) := by decide +kernel
theorem dX4_smoke_54 : decode cX4_smoke 54 = .ok (.iinc 3 1, 3) := by decide +kernel
theorem dX4_smoke_57 : decode cX4_smoke 57 = .ok (.goto (-32), 3) := by decide +kernel
theorem dX4_smoke_60 : decode cX4_smoke 60 = .ok (.iload_n 2, 1) := by decide +kernel
theorem dX4_smoke_61 : decode cX4_smoke 61 = .ok (.ireturn, 1) := by decide +kernel
set_option maxRecDepth 20000 in
theorem ggX4_pass_X4_in : GoodIn wsX4_pass wsX4_in := goodIn_r _ [9] (by decide +kernel) (by decide +kernel)
set_option maxRecDepth 20000 in
theorem gX4_pass_X4_in : GoodIn wsX4_pass (va_wsS RX4 45 yX4_in wsX4_in) := goodIn_app (goodIn_of _ (by decide +kernel)) ggX4_pass_X4_in
theorem dX4_pass_0 : decode cX4_pass 0 = .ok (.aload_n 0, 1) := by decide +kernel
theorem dX4_pass_1 : decode cX4_pass 1 = .ok (.iload_n 1, 1) := by decide +kernel
theorem dX4_pass_2 : decode cX4_pass 2 = .ok (.iconst 1, 1) := by decide +kernel
theorem dX4_pass_3 : decode cX4_pass 3 = .ok (.bipush 100, 2) := by decide +kernel
theorem dX4_pass_5 : decode cX4_pass 5 = .ok (.invokestatic 45, 3) := by decide +kernel
theorem dX4_pass_8 : decode cX4_pass 8 = .ok (.ifCond .ne 7, 3) := by decide +kernel
theorem dX4_pass_11 : decode cX4_pass 11 = .ok (.iconst 1, 1) := by decide +kernel
theorem dX4_pass_12 : decode cX4_pass 12 = .ok (.goto 20, 3) := by decide +kernel
theorem dX4_pass_15 : decode cX4_pass 15 = .ok (.aload_n 0, 1) := by decide +kernel
theorem dX4_pass_16 : decode cX4_pass 16 = .ok (.getfield 105, 3) := by decide +kernel
theorem dX4_pass_19 : decode cX4_pass 19 = .ok (.iload_n 1, 1) := by decide +kernel
theorem dX4_pass_20 : decode cX4_pass 20 = .ok (.iadd, 1) := by decide +kernel
theorem dX4_pass_21 : decode cX4_pass 21 = .ok (.sipush 10000, 3) := by decide +kernel
theorem dX4_pass_24 : decode cX4_pass 24 = .ok (.if_icmp .le 7, 3) := by decide +kernel
theorem dX4_pass_27 : decode cX4_pass 27 = .ok (.iconst 2, 1) := by decide +kernel
theorem dX4_pass_28 : decode cX4_pass 28 = .ok (.goto 4, 3) := by decide +kernel
theorem dX4_pass_31 : decode cX4_pass 31 = .ok (.iconst 0, 1) := by decide +kernel
theorem dX4_pass_32 : decode cX4_pass 32 = .ok (.putfield 41, 3) := by decide +kernel
theorem dX4_pass_35 : decode cX4_pass 35 = .ok (.aload_n 0, 1) := by decide +kernel
theorem dX4_pass_36 : decode cX4_pass 36 = .ok (.getfield 41, 3) := by decide +kernel
theorem dX4_pass_39 : decode cX4_pass 39 = .ok (.ifCond .le 5, 3) := by decide +kernel
theorem dX4_pass_42 : decode cX4_pass 42 = .ok (.iconst 0, 1) := by decide +kernel
theorem dX4_pass_43 : decode cX4_pass 43 = .ok (.ireturn, 1) := by decide +kernel
theorem dX4_pass_44 : decode cX4_pass 44 = .ok (.aload_n 0, 1) := by decide +kernel
theorem dX4_pass_45 : decode cX4_pass 45 = .ok (.dup, 1) := by decide +kernel
theorem dX4_pass_46 : decode cX4_pass 46 = .ok (.getfield 105, 3) := by decide +kernel
theorem dX4_pass_49 : decode cX4_pass 49 = .ok (.iload_n 1, 1) := by decide +kernel
theorem dX4_pass_50 : decode cX4_pass 50 = .ok (.iadd, 1) := by decide +kernel
theorem dX4_pass_51 : decode cX4_pass 51 = .ok (.putfield 105, 3) := by decide +kernel
theorem dX4_pass_54 : decode cX4_pass 54 = .ok (.aload_n 0, 1) := by decide +kernel
theorem dX4_pass_55 : decode cX4_pass 55 = .ok (.getfield 92, 3) := by decide +kernel
theorem dX4_pass_58 : decode cX4_pass 58 = .ok (.ifCond .ne 32, 3) := by decide +kernel
theorem dX4_pass_61 : decode cX4_pass 61 = .ok (.aload_n 0, 1) := by decide +kernel
theorem dX4_pass_62 : decode cX4_pass 62 = .ok (.getfield 96, 3) := by decide +kernel
theorem dX4_pass_65 : decode cX4_pass 65 = .ok (.ifCond .ne 25, 3) := by decide +kernel
theorem dX4_pass_68 : decode cX4_pass 68 = .ok (.aload_n 0, 1) := by decide +kernel
theorem dX4_pass_69 : decode cX4_pass 69 = .ok (.aload_n 0, 1) := by decide +kernel
theorem dX4_pass_70 : decode cX4_pass 70 = .ok (.getfield 86, 3) := by decide +kernel
theorem dX4_pass_73 : decode cX4_pass 73 = .ok (.iload_n 1, 1) := by decide +kernel
theorem dX4_pass_74 : decode cX4_pass 74 = .ok (.if_icmp .le 12, 3) := by decide +kernel
theorem dX4_pass_77 : decode cX4_pass 77 = .ok (.aload_n 0, 1) := by decide +kernel
theorem dX4_pass_78 : decode cX4_pass 78 = .ok (.getfield 86, 3) := by decide +kernel
theorem dX4_pass_81 : decode cX4_pass 81 = .ok (.iload_n 1, 1) := by decide +kernel
theorem dX4_pass_82 : decode cX4_pass 82 = .ok (.isub, 1) := by decide +kernel
theorem dX4_pass_83 : decode cX4_pass 83 = .ok (.goto 4, 3) := by decide +kernel
theorem dX4_pass_86 : decode cX4_pass 86 = .ok (.iconst 0, 1) := by decide +kernel
theorem dX4_pass_87 : decode cX4_pass 87 = .ok (.putfield 86, 3) := by decide +kernel
theorem dX4_pass_90 : decode cX4_pass 90 = .ok (.aload_n 0, 1) := by decide +kernel
theorem dX4_pass_91 : decode cX4_pass 91 = .ok (.getfield 105, 3) := by decide +kernel
theorem dX4_pass_94 : decode cX4_pass 94 = .ok (.ireturn, 1) := by decide +kernel
theorem dX4_hasOpen_0 : decode cX4_hasOpen 0 = .ok (.iconst 0, 1) := by decide +kernel
theorem dX4_hasOpen_1 : decode cX4_hasOpen 1 = .ok (.istore_n 2, 1) := by decide +kernel
theorem dX4_hasOpen_2 : decode cX4_hasOpen 2 = .ok (.iconst 0, 1) := by decide +kernel
theorem dX4_hasOpen_3 : decode cX4_hasOpen 3 = .ok (.istore_n 3, 1) := by decide +kernel
theorem dX4_hasOpen_4 : decode cX4_hasOpen 4 = .ok (.iload_n 3, 1) := by decide +kernel
theorem dX4_hasOpen_5 : decode cX4_hasOpen 5 = .ok (.aload_n 0, 1) := by decide +kernel
theorem dX4_hasOpen_6 : decode cX4_hasOpen 6 = .ok (.getfield 108, 3) := by decide +kernel
theorem dX4_hasOpen_9 : decode cX4_hasOpen 9 = .ok (.if_icmp .ge 38, 3) := by decide +kernel
theorem dX4_hasOpen_12 : decode cX4_hasOpen 12 = .ok (.iload_n 2, 1) := by decide +kernel
theorem dX4_hasOpen_13 : decode cX4_hasOpen 13 = .ok (.ifCond .ne 22, 3) := by decide +kernel
theorem dX4_hasOpen_16 : decode cX4_hasOpen 16 = .ok (.aload_n 0, 1) := by decide +kernel
theorem dX4_hasOpen_17 : decode cX4_hasOpen 17 = .ok (.getfield 32, 3) := by decide +kernel
theorem dX4_hasOpen_20 : decode cX4_hasOpen 20 = .ok (.iload_n 3, 1) := by decide +kernel
theorem dX4_hasOpen_21 : decode cX4_hasOpen 21 = .ok (.iaload, 1) := by decide +kernel
theorem dX4_hasOpen_22 : decode cX4_hasOpen 22 = .ok (.iload_n 1, 1) := by decide +kernel
theorem dX4_hasOpen_23 : decode cX4_hasOpen 23 = .ok (.if_icmp .ne 16, 3) := by decide +kernel
theorem dX4_hasOpen_26 : decode cX4_hasOpen 26 = .ok (.aload_n 0, 1) := by decide +kernel
theorem dX4_hasOpen_27 : decode cX4_hasOpen 27 = .ok (.getfield 38, 3) := by decide +kernel
theorem dX4_hasOpen_30 : decode cX4_hasOpen 30 = .ok (.iload_n 3, 1) := by decide +kernel
theorem dX4_hasOpen_31 : decode cX4_hasOpen 31 = .ok (.baload, 1) := by decide +kernel
theorem dX4_hasOpen_32 : decode cX4_hasOpen 32 = .ok (.ifCond .ne 7, 3) := by decide +kernel
theorem dX4_hasOpen_35 : decode cX4_hasOpen 35 = .ok (.iconst 1, 1) := by decide +kernel
theorem dX4_hasOpen_36 : decode cX4_hasOpen 36 = .ok (.goto 4, 3) := by decide +kernel
theorem dX4_hasOpen_39 : decode cX4_hasOpen 39 = .ok (.iconst 0, 1) := by decide +kernel
theorem dX4_hasOpen_40 : decode cX4_hasOpen 40 = .ok (.istore_n 2, 1) := by decide +kernel
theorem dX4_hasOpen_41 : decode cX4_hasOpen 41 = .ok (.iinc 3 1, 3) := by decide +kernel
theorem dX4_hasOpen_44 : decode cX4_hasOpen 44 = .ok (.goto (-40), 3) := by decide +kernel
theorem dX4_hasOpen_47 : decode cX4_hasOpen 47 = .ok (.iload_n 2, 1) := by decide +kernel
theorem dX4_hasOpen_48 : decode cX4_hasOpen 48 = .ok (.ireturn, 1) := by decide +kernel
set_option maxRecDepth 20000 in
theorem ggX4_order_X4_isBox : GoodIn wsX4_order wsX4_isBox := goodIn_r _ [9, 10, 11, 12, 8, 13, 19, 20, 21, 22, 23, 24, 25, 26, 27, 28, 29, 30, 31, 32, 33, 34, 35, 36, 37] (by decide +kernel) (by decide +kernel)
set_option maxRecDepth 20000 in
theorem gX4_order_X4_isBox : GoodIn wsX4_order (wsV RX4 64 RX4 yX4_isBox wsX4_isBox) := goodIn_app (goodIn_of _ (by decide +kernel)) ggX4_order_X4_isBox
set_option maxRecDepth 20000 in
theorem ggX4_order_X4_in : GoodIn wsX4_order wsX4_in := goodIn_r _ [13] (by decide +kernel) (by decide +kernel)
set_option maxRecDepth 20000 in
theorem gX4_order_X4_in : GoodIn wsX4_order (va_wsS RX4 45 yX4_in wsX4_in) := goodIn_app (goodIn_of _ (by decide +kernel)) ggX4_order_X4_in
set_option maxRecDepth 20000 in
theorem ggX4_order_X4_hasOpen : GoodIn wsX4_order wsX4_hasOpen := goodIn_r _ [17, 1, 3, 18, 19, 20, 21, 22, 23, 24, 25, 26, 27, 28, 29, 30, 31, 32, 33, 34, 35, 36, 37] (by decide +kernel) (by decide +kernel)
set_option maxRecDepth 20000 in
theorem gX4_order_X4_hasOpen : GoodIn wsX4_order (wsV RX4 111 RX4 yX4_hasOpen wsX4_hasOpen) := goodIn_app (goodIn_of _ (by decide +kernel)) ggX4_order_X4_hasOpen
theorem dX4_order_0 : decode cX4_order 0 = .ok (.aload_n 0, 1) := by decide +kernel
theorem dX4_order_1 : decode cX4_order 1 = .ok (.aload_n 0, 1) := by decide +kernel
theorem dX4_order_2 : decode cX4_order 2 = .ok (.iload_n 1, 1) := by decide +kernel
theorem dX4_order_3 : decode cX4_order 3 = .ok (.invokevirtual 64, 3) := by decide +kernel
theorem dX4_order_6 : decode cX4_order 6 = .ok (.ifCond .ne 7, 3) := by decide +kernel
theorem dX4_order_9 : decode cX4_order 9 = .ok (.iconst 1, 1) := by decide +kernel
theorem dX4_order_10 : decode cX4_order 10 = .ok (.goto 40, 3) := by decide +kernel
theorem dX4_order_13 : decode cX4_order 13 = .ok (.iload_n 2, 1) := by decide +kernel
theorem dX4_order_14 : decode cX4_order 14 = .ok (.iconst 0, 1) := by decide +kernel
theorem dX4_order_15 : decode cX4_order 15 = .ok (.sipush 10000, 3) := by decide +kernel
theorem dX4_order_18 : decode cX4_order 18 = .ok (.invokestatic 45, 3) := by decide +kernel
theorem dX4_order_21 : decode cX4_order 21 = .ok (.ifCond .ne 7, 3) := by decide +kernel
theorem dX4_order_24 : decode cX4_order 24 = .ok (.iconst 2, 1) := by decide +kernel
theorem dX4_order_25 : decode cX4_order 25 = .ok (.goto 25, 3) := by decide +kernel
theorem dX4_order_28 : decode cX4_order 28 = .ok (.aload_n 0, 1) := by decide +kernel
theorem dX4_order_29 : decode cX4_order 29 = .ok (.iload_n 1, 1) := by decide +kernel
theorem dX4_order_30 : decode cX4_order 30 = .ok (.invokevirtual 111, 3) := by decide +kernel
theorem dX4_order_33 : decode cX4_order 33 = .ok (.ifCond .ne 12, 3) := by decide +kernel
theorem dX4_order_36 : decode cX4_order 36 = .ok (.aload_n 0, 1) := by decide +kernel
theorem dX4_order_37 : decode cX4_order 37 = .ok (.getfield 108, 3) := by decide +kernel
theorem dX4_order_40 : decode cX4_order 40 = .ok (.bipush 30, 2) := by decide +kernel
theorem dX4_order_42 : decode cX4_order 42 = .ok (.if_icmp .ne 7, 3) := by decide +kernel
theorem dX4_order_45 : decode cX4_order 45 = .ok (.iconst 3, 1) := by decide +kernel
theorem dX4_order_46 : decode cX4_order 46 = .ok (.goto 4, 3) := by decide +kernel
theorem dX4_order_49 : decode cX4_order 49 = .ok (.iconst 0, 1) := by decide +kernel
theorem dX4_order_50 : decode cX4_order 50 = .ok (.putfield 41, 3) := by decide +kernel
theorem dX4_order_53 : decode cX4_order 53 = .ok (.aload_n 0, 1) := by decide +kernel
theorem dX4_order_54 : decode cX4_order 54 = .ok (.getfield 41, 3) := by decide +kernel
theorem dX4_order_57 : decode cX4_order 57 = .ok (.ifCond .le 5, 3) := by decide +kernel
theorem dX4_order_60 : decode cX4_order 60 = .ok (.iconst 0, 1) := by decide +kernel
theorem dX4_order_61 : decode cX4_order 61 = .ok (.ireturn, 1) := by decide +kernel
theorem dX4_order_62 : decode cX4_order 62 = .ok (.aload_n 0, 1) := by decide +kernel
theorem dX4_order_63 : decode cX4_order 63 = .ok (.getfield 32, 3) := by decide +kernel
theorem dX4_order_66 : decode cX4_order 66 = .ok (.aload_n 0, 1) := by decide +kernel
theorem dX4_order_67 : decode cX4_order 67 = .ok (.getfield 108, 3) := by decide +kernel
theorem dX4_order_70 : decode cX4_order 70 = .ok (.iload_n 1, 1) := by decide +kernel
theorem dX4_order_71 : decode cX4_order 71 = .ok (.iastore, 1) := by decide +kernel
theorem dX4_order_72 : decode cX4_order 72 = .ok (.aload_n 0, 1) := by decide +kernel
theorem dX4_order_73 : decode cX4_order 73 = .ok (.getfield 35, 3) := by decide +kernel
theorem dX4_order_76 : decode cX4_order 76 = .ok (.aload_n 0, 1) := by decide +kernel
theorem dX4_order_77 : decode cX4_order 77 = .ok (.getfield 108, 3) := by decide +kernel
theorem dX4_order_80 : decode cX4_order 80 = .ok (.iload_n 2, 1) := by decide +kernel
theorem dX4_order_81 : decode cX4_order 81 = .ok (.iastore, 1) := by decide +kernel
theorem dX4_order_82 : decode cX4_order 82 = .ok (.aload_n 0, 1) := by decide +kernel
theorem dX4_order_83 : decode cX4_order 83 = .ok (.dup, 1) := by decide +kernel
theorem dX4_order_84 : decode cX4_order 84 = .ok (.getfield 108, 3) := by decide +kernel
theorem dX4_order_87 : decode cX4_order 87 = .ok (.iconst 1, 1) := by decide +kernel
theorem dX4_order_88 : decode cX4_order 88 = .ok (.iadd, 1) := by decide +kernel
theorem dX4_order_89 : decode cX4_order 89 = .ok (.putfield 108, 3) := by decide +kernel
theorem dX4_order_92 : decode cX4_order 92 = .ok (.aload_n 0, 1) := by decide +kernel
theorem dX4_order_93 : decode cX4_order 93 = .ok (.getfield 108, 3) := by decide +kernel
theorem dX4_order_96 : decode cX4_order 96 = .ok (.iconst 1, 1) := by decide +kernel
theorem dX4_order_97 : decode cX4_order 97 = .ok (.isub, 1) := by decide +kernel
theorem dX4_order_98 : decode cX4_order 98 = .ok (.ireturn, 1) := by decide +kernel
set_option maxRecDepth 20000 in
theorem ggX4_first_X4_spot : GoodIn wsX4_first wsX4_spot := goodIn_r _ [9, 10, 14, 15, 16, 17, 18, 19, 20, 21, 22, 23, 24, 25, 26, 27, 28, 29, 30, 31, 32] (by decide +kernel) (by decide +kernel)
set_option maxRecDepth 20000 in
theorem gX4_first_X4_spot : GoodIn wsX4_first (wsV RX4 67 RX4 yX4_spot wsX4_spot) := goodIn_app (goodIn_of _ (by decide +kernel)) ggX4_first_X4_spot
set_option maxRecDepth 20000 in
theorem ggX4_first_X4_aisleOf : GoodIn wsX4_first wsX4_aisleOf := goodIn_r _ [13] (by decide +kernel) (by decide +kernel)
set_option maxRecDepth 20000 in
theorem gX4_first_X4_aisleOf : GoodIn wsX4_first (va_wsS RX4 114 yX4_aisleOf wsX4_aisleOf) := goodIn_app (goodIn_of _ (by decide +kernel)) ggX4_first_X4_aisleOf
theorem dX4_first_0 : decode cX4_first 0 = .ok (.iconst (-1), 1) := by decide +kernel
theorem dX4_first_1 : decode cX4_first 1 = .ok (.istore_n 2, 1) := by decide +kernel
theorem dX4_first_2 : decode cX4_first 2 = .ok (.iconst 0, 1) := by decide +kernel
theorem dX4_first_3 : decode cX4_first 3 = .ok (.istore_n 3, 1) := by decide +kernel
theorem dX4_first_4 : decode cX4_first 4 = .ok (.iload_n 3, 1) := by decide +kernel
theorem dX4_first_5 : decode cX4_first 5 = .ok (.aload_n 0, 1) := by decide +kernel
theorem dX4_first_6 : decode cX4_first 6 = .ok (.getfield 108, 3) := by decide +kernel
theorem dX4_first_9 : decode cX4_first 9 = .ok (.if_icmp .ge 92, 3) := by decide +kernel
theorem dX4_first_12 : decode cX4_first 12 = .ok (.aload_n 0, 1) := by decide +kernel
theorem dX4_first_13 : decode cX4_first 13 = .ok (.getfield 38, 3) := by decide +kernel
theorem dX4_first_16 : decode cX4_first 16 = .ok (.iload_n 3, 1) := by decide +kernel
theorem dX4_first_17 : decode cX4_first 17 = .ok (.baload, 1) := by decide +kernel
theorem dX4_first_18 : decode cX4_first 18 = .ok (.ifCond .eq 7, 3) := by decide +kernel
theorem dX4_first_21 : decode cX4_first 21 = .ok (.iconst (-1), 1) := by decide +kernel
theorem dX4_first_22 : decode cX4_first 22 = .ok (.goto 13, 3) := by decide +kernel
theorem dX4_first_25 : decode cX4_first 25 = .ok (.aload_n 0, 1) := by decide +kernel
theorem dX4_first_26 : decode cX4_first 26 = .ok (.aload_n 0, 1) := by decide +kernel
theorem dX4_first_27 : decode cX4_first 27 = .ok (.getfield 32, 3) := by decide +kernel
theorem dX4_first_30 : decode cX4_first 30 = .ok (.iload_n 3, 1) := by decide +kernel
theorem dX4_first_31 : decode cX4_first 31 = .ok (.iaload, 1) := by decide +kernel
theorem dX4_first_32 : decode cX4_first 32 = .ok (.invokevirtual 67, 3) := by decide +kernel
theorem dX4_first_35 : decode cX4_first 35 = .ok (.istore 4, 2) := by decide +kernel
theorem dX4_first_37 : decode cX4_first 37 = .ok (.iload 4, 2) := by decide +kernel
theorem dX4_first_39 : decode cX4_first 39 = .ok (.iconst (-1), 1) := by decide +kernel
theorem dX4_first_40 : decode cX4_first 40 = .ok (.if_icmp .eq 21, 3) := by decide +kernel
theorem dX4_first_43 : decode cX4_first 43 = .ok (.iload_n 1, 1) := by decide +kernel
theorem dX4_first_44 : decode cX4_first 44 = .ok (.iconst (-1), 1) := by decide +kernel
theorem dX4_first_45 : decode cX4_first 45 = .ok (.if_icmp .eq 12, 3) := by decide +kernel
theorem dX4_first_48 : decode cX4_first 48 = .ok (.iload 4, 2) := by decide +kernel
theorem dX4_first_50 : decode cX4_first 50 = .ok (.invokestatic 114, 3) := by decide +kernel
theorem dX4_first_53 : decode cX4_first 53 = .ok (.iload_n 1, 1) := by decide +kernel
theorem dX4_first_54 : decode cX4_first 54 = .ok (.if_icmp .ne 7, 3) := by decide +kernel
theorem dX4_first_57 : decode cX4_first 57 = .ok (.iconst 1, 1) := by decide +kernel
theorem dX4_first_58 : decode cX4_first 58 = .ok (.goto 4, 3) := by decide +kernel
theorem dX4_first_61 : decode cX4_first 61 = .ok (.iconst 0, 1) := by decide +kernel
theorem dX4_first_62 : decode cX4_first 62 = .ok (.istore 5, 2) := by decide +kernel
theorem dX4_first_64 : decode cX4_first 64 = .ok (.iload 5, 2) := by decide +kernel
theorem dX4_first_66 : decode cX4_first 66 = .ok (.ifCond .eq 27, 3) := by decide +kernel
theorem dX4_first_69 : decode cX4_first 69 = .ok (.iload_n 2, 1) := by decide +kernel
theorem dX4_first_70 : decode cX4_first 70 = .ok (.iconst (-1), 1) := by decide +kernel
theorem dX4_first_71 : decode cX4_first 71 = .ok (.if_icmp .eq 18, 3) := by decide +kernel
theorem dX4_first_74 : decode cX4_first 74 = .ok (.aload_n 0, 1) := by decide +kernel
theorem dX4_first_75 : decode cX4_first 75 = .ok (.getfield 35, 3) := by decide +kernel
theorem dX4_first_78 : decode cX4_first 78 = .ok (.iload_n 3, 1) := by decide +kernel
theorem dX4_first_79 : decode cX4_first 79 = .ok (.iaload, 1) := by decide +kernel
theorem dX4_first_80 : decode cX4_first 80 = .ok (.aload_n 0, 1) := by decide +kernel
theorem dX4_first_81 : decode cX4_first 81 = .ok (.getfield 35, 3) := by decide +kernel
theorem dX4_first_84 : decode cX4_first 84 = .ok (.iload_n 2, 1) := by decide +kernel
theorem dX4_first_85 : decode cX4_first 85 = .ok (.iaload, 1) := by decide +kernel
theorem dX4_first_86 : decode cX4_first 86 = .ok (.if_icmp .ge 7, 3) := by decide +kernel
theorem dX4_first_89 : decode cX4_first 89 = .ok (.iload_n 3, 1) := by decide +kernel
theorem dX4_first_90 : decode cX4_first 90 = .ok (.goto 4, 3) := by decide +kernel
theorem dX4_first_93 : decode cX4_first 93 = .ok (.iload_n 2, 1) := by decide +kernel
theorem dX4_first_94 : decode cX4_first 94 = .ok (.istore_n 2, 1) := by decide +kernel
theorem dX4_first_95 : decode cX4_first 95 = .ok (.iinc 3 1, 3) := by decide +kernel
theorem dX4_first_98 : decode cX4_first 98 = .ok (.goto (-94), 3) := by decide +kernel
theorem dX4_first_101 : decode cX4_first 101 = .ok (.iload_n 2, 1) := by decide +kernel
theorem dX4_first_102 : decode cX4_first 102 = .ok (.ireturn, 1) := by decide +kernel
set_option maxRecDepth 20000 in
theorem ggX4_nextAisle_X4_first : GoodIn wsX4_nextAisle wsX4_first := goodIn_r _ [7, 8, 9, 2, 10, 11, 12, 13, 6, 14, 15, 16, 17, 18, 19, 20, 21, 22, 23, 24, 25, 26, 27, 28, 29, 30, 31, 32, 33, 34, 35, 36, 37] (by decide +kernel) (by decide +kernel)
set_option maxRecDepth 20000 in
theorem gX4_nextAisle_X4_first : GoodIn wsX4_nextAisle (wsV RX4 117 RX4 yX4_first wsX4_first) := goodIn_app (goodIn_of _ (by decide +kernel)) ggX4_nextAisle_X4_first
set_option maxRecDepth 20000 in
theorem ggX4_nextAisle_X4_spot : GoodIn wsX4_nextAisle wsX4_spot := goodIn_r _ [14, 15, 19, 20, 21, 22, 23, 24, 25, 26, 27, 28, 29, 30, 31, 32, 33, 34, 35, 36, 37] (by decide +kernel) (by decide +kernel)
set_option maxRecDepth 20000 in
theorem gX4_nextAisle_X4_spot : GoodIn wsX4_nextAisle (wsV RX4 67 RX4 yX4_spot wsX4_spot) := goodIn_app (goodIn_of _ (by decide +kernel)) ggX4_nextAisle_X4_spot
set_option maxRecDepth 20000 in
theorem ggX4_nextAisle_X4_aisleOf : GoodIn wsX4_nextAisle wsX4_aisleOf := goodIn_r _ [18] (by decide +kernel) (by decide +kernel)
set_option maxRecDepth 20000 in
theorem gX4_nextAisle_X4_aisleOf : GoodIn wsX4_nextAisle (va_wsS RX4 114 yX4_aisleOf wsX4_aisleOf) := goodIn_app (goodIn_of _ (by decide +kernel)) ggX4_nextAisle_X4_aisleOf
theorem dX4_nextAisle_0 : decode cX4_nextAisle 0 = .ok (.aload_n 0, 1) := by decide +kernel
theorem dX4_nextAisle_1 : decode cX4_nextAisle 1 = .ok (.iconst 0, 1) := by decide +kernel
theorem dX4_nextAisle_2 : decode cX4_nextAisle 2 = .ok (.putfield 41, 3) := by decide +kernel
theorem dX4_nextAisle_5 : decode cX4_nextAisle 5 = .ok (.aload_n 0, 1) := by decide +kernel
theorem dX4_nextAisle_6 : decode cX4_nextAisle 6 = .ok (.iconst (-1), 1) := by decide +kernel
theorem dX4_nextAisle_7 : decode cX4_nextAisle 7 = .ok (.invokevirtual 117, 3) := by decide +kernel
theorem dX4_nextAisle_10 : decode cX4_nextAisle 10 = .ok (.istore_n 1, 1) := by decide +kernel
theorem dX4_nextAisle_11 : decode cX4_nextAisle 11 = .ok (.iload_n 1, 1) := by decide +kernel
theorem dX4_nextAisle_12 : decode cX4_nextAisle 12 = .ok (.iconst (-1), 1) := by decide +kernel
theorem dX4_nextAisle_13 : decode cX4_nextAisle 13 = .ok (.if_icmp .ne 7, 3) := by decide +kernel
theorem dX4_nextAisle_16 : decode cX4_nextAisle 16 = .ok (.iconst (-1), 1) := by decide +kernel
theorem dX4_nextAisle_17 : decode cX4_nextAisle 17 = .ok (.goto 16, 3) := by decide +kernel
theorem dX4_nextAisle_20 : decode cX4_nextAisle 20 = .ok (.aload_n 0, 1) := by decide +kernel
theorem dX4_nextAisle_21 : decode cX4_nextAisle 21 = .ok (.aload_n 0, 1) := by decide +kernel
theorem dX4_nextAisle_22 : decode cX4_nextAisle 22 = .ok (.getfield 32, 3) := by decide +kernel
theorem dX4_nextAisle_25 : decode cX4_nextAisle 25 = .ok (.iload_n 1, 1) := by decide +kernel
theorem dX4_nextAisle_26 : decode cX4_nextAisle 26 = .ok (.iaload, 1) := by decide +kernel
theorem dX4_nextAisle_27 : decode cX4_nextAisle 27 = .ok (.invokevirtual 67, 3) := by decide +kernel
theorem dX4_nextAisle_30 : decode cX4_nextAisle 30 = .ok (.invokestatic 114, 3) := by decide +kernel
theorem dX4_nextAisle_33 : decode cX4_nextAisle 33 = .ok (.ireturn, 1) := by decide +kernel
set_option maxRecDepth 20000 in
theorem ggX4_fetch_X4_isPerson : GoodIn wsX4_fetch wsX4_isPerson := goodIn_r _ [13, 14, 15, 12, 16] (by decide +kernel) (by decide +kernel)
set_option maxRecDepth 20000 in
theorem gX4_fetch_X4_isPerson : GoodIn wsX4_fetch (va_wsS RX4 102 yX4_isPerson wsX4_isPerson) := goodIn_app (goodIn_of _ (by decide +kernel)) ggX4_fetch_X4_isPerson
set_option maxRecDepth 20000 in
theorem ggX4_fetch_X4_first : GoodIn wsX4_fetch wsX4_first := goodIn_r _ [20, 21, 6, 5, 9, 22, 23, 24, 12, 25, 4, 26, 27, 28, 29, 30, 31, 32, 33, 34, 35, 36, 37, 38, 39, 40, 41, 42, 43, 44, 45, 46, 47] (by decide +kernel) (by decide +kernel)
set_option maxRecDepth 20000 in
theorem gX4_fetch_X4_first : GoodIn wsX4_fetch (wsV RX4 117 RX4 yX4_first wsX4_first) := goodIn_app (goodIn_of _ (by decide +kernel)) ggX4_fetch_X4_first
set_option maxRecDepth 20000 in
theorem ggX4_fetch_X4_spot : GoodIn wsX4_fetch wsX4_spot := goodIn_r _ [25, 4, 29, 30, 31, 32, 33, 34, 35, 36, 37, 38, 39, 40, 41, 42, 43, 44, 45, 46, 47] (by decide +kernel) (by decide +kernel)
set_option maxRecDepth 20000 in
theorem gX4_fetch_X4_spot : GoodIn wsX4_fetch (wsV RX4 67 RX4 yX4_spot wsX4_spot) := goodIn_app (goodIn_of _ (by decide +kernel)) ggX4_fetch_X4_spot
theorem dX4_fetch_0 : decode cX4_fetch 0 = .ok (.aload_n 0, 1) := by decide +kernel
theorem dX4_fetch_1 : decode cX4_fetch 1 = .ok (.iload_n 1, 1) := by decide +kernel
theorem dX4_fetch_2 : decode cX4_fetch 2 = .ok (.invokestatic 102, 3) := by decide +kernel
theorem dX4_fetch_5 : decode cX4_fetch 5 = .ok (.ifCond .ne 7, 3) := by decide +kernel
theorem dX4_fetch_8 : decode cX4_fetch 8 = .ok (.iconst 1, 1) := by decide +kernel
theorem dX4_fetch_9 : decode cX4_fetch 9 = .ok (.goto 29, 3) := by decide +kernel
theorem dX4_fetch_12 : decode cX4_fetch 12 = .ok (.aload_n 0, 1) := by decide +kernel
theorem dX4_fetch_13 : decode cX4_fetch 13 = .ok (.getfield 29, 3) := by decide +kernel
theorem dX4_fetch_16 : decode cX4_fetch 16 = .ok (.iload_n 1, 1) := by decide +kernel
theorem dX4_fetch_17 : decode cX4_fetch 17 = .ok (.baload, 1) := by decide +kernel
theorem dX4_fetch_18 : decode cX4_fetch 18 = .ok (.ifCond .eq 15, 3) := by decide +kernel
theorem dX4_fetch_21 : decode cX4_fetch 21 = .ok (.aload_n 0, 1) := by decide +kernel
theorem dX4_fetch_22 : decode cX4_fetch 22 = .ok (.aload_n 0, 1) := by decide +kernel
theorem dX4_fetch_23 : decode cX4_fetch 23 = .ok (.getfield 89, 3) := by decide +kernel
theorem dX4_fetch_26 : decode cX4_fetch 26 = .ok (.invokevirtual 117, 3) := by decide +kernel
theorem dX4_fetch_29 : decode cX4_fetch 29 = .ok (.iconst (-1), 1) := by decide +kernel
theorem dX4_fetch_30 : decode cX4_fetch 30 = .ok (.if_icmp .ne 7, 3) := by decide +kernel
theorem dX4_fetch_33 : decode cX4_fetch 33 = .ok (.iconst 2, 1) := by decide +kernel
theorem dX4_fetch_34 : decode cX4_fetch 34 = .ok (.goto 4, 3) := by decide +kernel
theorem dX4_fetch_37 : decode cX4_fetch 37 = .ok (.iconst 0, 1) := by decide +kernel
theorem dX4_fetch_38 : decode cX4_fetch 38 = .ok (.putfield 41, 3) := by decide +kernel
theorem dX4_fetch_41 : decode cX4_fetch 41 = .ok (.aload_n 0, 1) := by decide +kernel
theorem dX4_fetch_42 : decode cX4_fetch 42 = .ok (.getfield 41, 3) := by decide +kernel
theorem dX4_fetch_45 : decode cX4_fetch 45 = .ok (.ifCond .le 5, 3) := by decide +kernel
theorem dX4_fetch_48 : decode cX4_fetch 48 = .ok (.iconst 0, 1) := by decide +kernel
theorem dX4_fetch_49 : decode cX4_fetch 49 = .ok (.ireturn, 1) := by decide +kernel
theorem dX4_fetch_50 : decode cX4_fetch 50 = .ok (.aload_n 0, 1) := by decide +kernel
theorem dX4_fetch_51 : decode cX4_fetch 51 = .ok (.aload_n 0, 1) := by decide +kernel
theorem dX4_fetch_52 : decode cX4_fetch 52 = .ok (.getfield 89, 3) := by decide +kernel
theorem dX4_fetch_55 : decode cX4_fetch 55 = .ok (.invokevirtual 117, 3) := by decide +kernel
theorem dX4_fetch_58 : decode cX4_fetch 58 = .ok (.istore_n 2, 1) := by decide +kernel
theorem dX4_fetch_59 : decode cX4_fetch 59 = .ok (.aload_n 0, 1) := by decide +kernel
theorem dX4_fetch_60 : decode cX4_fetch 60 = .ok (.getfield 22, 3) := by decide +kernel
theorem dX4_fetch_63 : decode cX4_fetch 63 = .ok (.aload_n 0, 1) := by decide +kernel
theorem dX4_fetch_64 : decode cX4_fetch 64 = .ok (.aload_n 0, 1) := by decide +kernel
theorem dX4_fetch_65 : decode cX4_fetch 65 = .ok (.getfield 32, 3) := by decide +kernel
theorem dX4_fetch_68 : decode cX4_fetch 68 = .ok (.iload_n 2, 1) := by decide +kernel
theorem dX4_fetch_69 : decode cX4_fetch 69 = .ok (.iaload, 1) := by decide +kernel
theorem dX4_fetch_70 : decode cX4_fetch 70 = .ok (.invokevirtual 67, 3) := by decide +kernel
theorem dX4_fetch_73 : decode cX4_fetch 73 = .ok (.iconst 0, 1) := by decide +kernel
theorem dX4_fetch_74 : decode cX4_fetch 74 = .ok (.iastore, 1) := by decide +kernel
theorem dX4_fetch_75 : decode cX4_fetch 75 = .ok (.aload_n 0, 1) := by decide +kernel
theorem dX4_fetch_76 : decode cX4_fetch 76 = .ok (.getfield 38, 3) := by decide +kernel
theorem dX4_fetch_79 : decode cX4_fetch 79 = .ok (.iload_n 2, 1) := by decide +kernel
theorem dX4_fetch_80 : decode cX4_fetch 80 = .ok (.iconst 1, 1) := by decide +kernel
theorem dX4_fetch_81 : decode cX4_fetch 81 = .ok (.bastore, 1) := by decide +kernel
theorem dX4_fetch_82 : decode cX4_fetch 82 = .ok (.aload_n 0, 1) := by decide +kernel
theorem dX4_fetch_83 : decode cX4_fetch 83 = .ok (.dup, 1) := by decide +kernel
theorem dX4_fetch_84 : decode cX4_fetch 84 = .ok (.getfield 120, 3) := by decide +kernel
theorem dX4_fetch_87 : decode cX4_fetch 87 = .ok (.aload_n 0, 1) := by decide +kernel
theorem dX4_fetch_88 : decode cX4_fetch 88 = .ok (.getfield 105, 3) := by decide +kernel
theorem dX4_fetch_91 : decode cX4_fetch 91 = .ok (.aload_n 0, 1) := by decide +kernel
theorem dX4_fetch_92 : decode cX4_fetch 92 = .ok (.getfield 35, 3) := by decide +kernel
theorem dX4_fetch_95 : decode cX4_fetch 95 = .ok (.iload_n 2, 1) := by decide +kernel
theorem dX4_fetch_96 : decode cX4_fetch 96 = .ok (.iaload, 1) := by decide +kernel
theorem dX4_fetch_97 : decode cX4_fetch 97 = .ok (.if_icmp .le 7, 3) := by decide +kernel
theorem dX4_fetch_100 : decode cX4_fetch 100 = .ok (.iconst 1, 1) := by decide +kernel
theorem dX4_fetch_101 : decode cX4_fetch 101 = .ok (.goto 4, 3) := by decide +kernel
theorem dX4_fetch_104 : decode cX4_fetch 104 = .ok (.iconst 0, 1) := by decide +kernel
theorem dX4_fetch_105 : decode cX4_fetch 105 = .ok (.iadd, 1) := by decide +kernel
theorem dX4_fetch_106 : decode cX4_fetch 106 = .ok (.putfield 120, 3) := by decide +kernel
theorem dX4_fetch_109 : decode cX4_fetch 109 = .ok (.iload_n 2, 1) := by decide +kernel
theorem dX4_fetch_110 : decode cX4_fetch 110 = .ok (.ireturn, 1) := by decide +kernel
set_option maxRecDepth 20000 in
theorem ggX4_giveBack_X4_row : GoodIn wsX4_giveBack wsX4_row := goodIn_r _ [10, 11, 12, 9, 13] (by decide +kernel) (by decide +kernel)
set_option maxRecDepth 20000 in
theorem gX4_giveBack_X4_row : GoodIn wsX4_giveBack (va_wsS RX4 76 yX4_row wsX4_row) := goodIn_app (goodIn_of _ (by decide +kernel)) ggX4_giveBack_X4_row
set_option maxRecDepth 20000 in
theorem ggX4_giveBack_X4_isPerson : GoodIn wsX4_giveBack wsX4_isPerson := goodIn_r _ [16, 11, 12, 9, 13] (by decide +kernel) (by decide +kernel)
set_option maxRecDepth 20000 in
theorem gX4_giveBack_X4_isPerson : GoodIn wsX4_giveBack (va_wsS RX4 102 yX4_isPerson wsX4_isPerson) := goodIn_app (goodIn_of _ (by decide +kernel)) ggX4_giveBack_X4_isPerson
set_option maxRecDepth 20000 in
theorem ggX4_giveBack_X4_isBox : GoodIn wsX4_giveBack wsX4_isBox := goodIn_r _ [20, 21, 11, 12, 9, 13, 33, 34, 35, 36, 37, 38, 39, 40, 41, 42, 43, 44, 45, 46, 47, 48, 49, 50, 51] (by decide +kernel) (by decide +kernel)
set_option maxRecDepth 20000 in
theorem gX4_giveBack_X4_isBox : GoodIn wsX4_giveBack (wsV RX4 64 RX4 yX4_isBox wsX4_isBox) := goodIn_app (goodIn_of _ (by decide +kernel)) ggX4_giveBack_X4_isBox
set_option maxRecDepth 20000 in
theorem ggX4_giveBack_X4_spot : GoodIn wsX4_giveBack wsX4_spot := goodIn_r _ [25, 4, 33, 34, 35, 36, 37, 38, 39, 40, 41, 42, 43, 44, 45, 46, 47, 48, 49, 50, 51] (by decide +kernel) (by decide +kernel)
set_option maxRecDepth 20000 in
theorem gX4_giveBack_X4_spot : GoodIn wsX4_giveBack (wsV RX4 67 RX4 yX4_spot wsX4_spot) := goodIn_app (goodIn_of _ (by decide +kernel)) ggX4_giveBack_X4_spot
set_option maxRecDepth 20000 in
theorem ggX4_giveBack_X4_aisleOf : GoodIn wsX4_giveBack wsX4_aisleOf := goodIn_r _ [28] (by decide +kernel) (by decide +kernel)
set_option maxRecDepth 20000 in
theorem gX4_giveBack_X4_aisleOf : GoodIn wsX4_giveBack (va_wsS RX4 114 yX4_aisleOf wsX4_aisleOf) := goodIn_app (goodIn_of _ (by decide +kernel)) ggX4_giveBack_X4_aisleOf
set_option maxRecDepth 20000 in
theorem ggX4_giveBack_X4_fails : GoodIn wsX4_giveBack wsX4_fails := goodIn_r _ [32, 1, 33, 34, 35, 36, 37, 38, 39, 40, 41, 42, 43, 44, 45, 46, 47, 48, 49, 50, 51] (by decide +kernel) (by decide +kernel)
set_option maxRecDepth 20000 in
theorem gX4_giveBack_X4_fails : GoodIn wsX4_giveBack (wsV RX4 79 RX4 yX4_fails wsX4_fails) := goodIn_app (goodIn_of _ (by decide +kernel)) ggX4_giveBack_X4_fails
theorem dX4_giveBack_0 : decode cX4_giveBack 0 = .ok (.iload_n 3, 1) := by decide +kernel
theorem dX4_giveBack_1 : decode cX4_giveBack 1 = .ok (.invokestatic 76, 3) := by decide +kernel
theorem dX4_giveBack_4 : decode cX4_giveBack 4 = .ok (.istore 4, 2) := by decide +kernel
theorem dX4_giveBack_6 : decode cX4_giveBack 6 = .ok (.aload_n 0, 1) := by decide +kernel
theorem dX4_giveBack_7 : decode cX4_giveBack 7 = .ok (.iload_n 1, 1) := by decide +kernel
theorem dX4_giveBack_8 : decode cX4_giveBack 8 = .ok (.invokestatic 102, 3) := by decide +kernel
theorem dX4_giveBack_11 : decode cX4_giveBack 11 = .ok (.ifCond .eq 17, 3) := by decide +kernel
theorem dX4_giveBack_14 : decode cX4_giveBack 14 = .ok (.aload_n 0, 1) := by decide +kernel
theorem dX4_giveBack_15 : decode cX4_giveBack 15 = .ok (.iload_n 2, 1) := by decide +kernel
theorem dX4_giveBack_16 : decode cX4_giveBack 16 = .ok (.invokevirtual 64, 3) := by decide +kernel
theorem dX4_giveBack_19 : decode cX4_giveBack 19 = .ok (.ifCond .eq 9, 3) := by decide +kernel
theorem dX4_giveBack_22 : decode cX4_giveBack 22 = .ok (.iload 4, 2) := by decide +kernel
theorem dX4_giveBack_24 : decode cX4_giveBack 24 = .ok (.iconst (-1), 1) := by decide +kernel
theorem dX4_giveBack_25 : decode cX4_giveBack 25 = .ok (.if_icmp .ne 7, 3) := by decide +kernel
theorem dX4_giveBack_28 : decode cX4_giveBack 28 = .ok (.iconst 1, 1) := by decide +kernel
theorem dX4_giveBack_29 : decode cX4_giveBack 29 = .ok (.goto 4, 3) := by decide +kernel
theorem dX4_giveBack_32 : decode cX4_giveBack 32 = .ok (.iconst 0, 1) := by decide +kernel
theorem dX4_giveBack_33 : decode cX4_giveBack 33 = .ok (.putfield 41, 3) := by decide +kernel
theorem dX4_giveBack_36 : decode cX4_giveBack 36 = .ok (.aload_n 0, 1) := by decide +kernel
theorem dX4_giveBack_37 : decode cX4_giveBack 37 = .ok (.getfield 41, 3) := by decide +kernel
theorem dX4_giveBack_40 : decode cX4_giveBack 40 = .ok (.ifCond .le 5, 3) := by decide +kernel
theorem dX4_giveBack_43 : decode cX4_giveBack 43 = .ok (.iconst 0, 1) := by decide +kernel
theorem dX4_giveBack_44 : decode cX4_giveBack 44 = .ok (.ireturn, 1) := by decide +kernel
theorem dX4_giveBack_45 : decode cX4_giveBack 45 = .ok (.aload_n 0, 1) := by decide +kernel
theorem dX4_giveBack_46 : decode cX4_giveBack 46 = .ok (.getfield 29, 3) := by decide +kernel
theorem dX4_giveBack_49 : decode cX4_giveBack 49 = .ok (.iload_n 1, 1) := by decide +kernel
theorem dX4_giveBack_50 : decode cX4_giveBack 50 = .ok (.baload, 1) := by decide +kernel
theorem dX4_giveBack_51 : decode cX4_giveBack 51 = .ok (.ifCond .eq 38, 3) := by decide +kernel
theorem dX4_giveBack_54 : decode cX4_giveBack 54 = .ok (.aload_n 0, 1) := by decide +kernel
theorem dX4_giveBack_55 : decode cX4_giveBack 55 = .ok (.iload_n 2, 1) := by decide +kernel
theorem dX4_giveBack_56 : decode cX4_giveBack 56 = .ok (.invokevirtual 67, 3) := by decide +kernel
theorem dX4_giveBack_59 : decode cX4_giveBack 59 = .ok (.iconst (-1), 1) := by decide +kernel
theorem dX4_giveBack_60 : decode cX4_giveBack 60 = .ok (.if_icmp .ne 29, 3) := by decide +kernel
theorem dX4_giveBack_63 : decode cX4_giveBack 63 = .ok (.iload 4, 2) := by decide +kernel
theorem dX4_giveBack_65 : decode cX4_giveBack 65 = .ok (.invokestatic 114, 3) := by decide +kernel
theorem dX4_giveBack_68 : decode cX4_giveBack 68 = .ok (.aload_n 0, 1) := by decide +kernel
theorem dX4_giveBack_69 : decode cX4_giveBack 69 = .ok (.getfield 89, 3) := by decide +kernel
theorem dX4_giveBack_72 : decode cX4_giveBack 72 = .ok (.if_icmp .ne 17, 3) := by decide +kernel
theorem dX4_giveBack_75 : decode cX4_giveBack 75 = .ok (.aload_n 0, 1) := by decide +kernel
theorem dX4_giveBack_76 : decode cX4_giveBack 76 = .ok (.getfield 22, 3) := by decide +kernel
theorem dX4_giveBack_79 : decode cX4_giveBack 79 = .ok (.iload 4, 2) := by decide +kernel
theorem dX4_giveBack_81 : decode cX4_giveBack 81 = .ok (.iaload, 1) := by decide +kernel
theorem dX4_giveBack_82 : decode cX4_giveBack 82 = .ok (.ifCond .ne 7, 3) := by decide +kernel
theorem dX4_giveBack_85 : decode cX4_giveBack 85 = .ok (.iconst 1, 1) := by decide +kernel
theorem dX4_giveBack_86 : decode cX4_giveBack 86 = .ok (.goto 4, 3) := by decide +kernel
theorem dX4_giveBack_89 : decode cX4_giveBack 89 = .ok (.iconst 0, 1) := by decide +kernel
theorem dX4_giveBack_90 : decode cX4_giveBack 90 = .ok (.istore 5, 2) := by decide +kernel
theorem dX4_giveBack_92 : decode cX4_giveBack 92 = .ok (.iload 5, 2) := by decide +kernel
theorem dX4_giveBack_94 : decode cX4_giveBack 94 = .ok (.ifCond .ne 11, 3) := by decide +kernel
theorem dX4_giveBack_97 : decode cX4_giveBack 97 = .ok (.aload_n 0, 1) := by decide +kernel
theorem dX4_giveBack_98 : decode cX4_giveBack 98 = .ok (.iconst 2, 1) := by decide +kernel
theorem dX4_giveBack_99 : decode cX4_giveBack 99 = .ok (.invokevirtual 79, 3) := by decide +kernel
theorem dX4_giveBack_102 : decode cX4_giveBack 102 = .ok (.pop, 1) := by decide +kernel
theorem dX4_giveBack_103 : decode cX4_giveBack 103 = .ok (.iconst 0, 1) := by decide +kernel
theorem dX4_giveBack_104 : decode cX4_giveBack 104 = .ok (.ireturn, 1) := by decide +kernel
theorem dX4_giveBack_105 : decode cX4_giveBack 105 = .ok (.aload_n 0, 1) := by decide +kernel
theorem dX4_giveBack_106 : decode cX4_giveBack 106 = .ok (.getfield 22, 3) := by decide +kernel
theorem dX4_giveBack_109 : decode cX4_giveBack 109 = .ok (.iload 4, 2) := by decide +kernel
theorem dX4_giveBack_111 : decode cX4_giveBack 111 = .ok (.iload_n 2, 1) := by decide +kernel
theorem dX4_giveBack_112 : decode cX4_giveBack 112 = .ok (.iconst 1, 1) := by decide +kernel
theorem dX4_giveBack_113 : decode cX4_giveBack 113 = .ok (.iadd, 1) := by decide +kernel
theorem dX4_giveBack_114 : decode cX4_giveBack 114 = .ok (.iastore, 1) := by decide +kernel
theorem dX4_giveBack_115 : decode cX4_giveBack 115 = .ok (.aload_n 0, 1) := by decide +kernel
theorem dX4_giveBack_116 : decode cX4_giveBack 116 = .ok (.getfield 7, 3) := by decide +kernel
theorem dX4_giveBack_119 : decode cX4_giveBack 119 = .ok (.iload 4, 2) := by decide +kernel
theorem dX4_giveBack_121 : decode cX4_giveBack 121 = .ok (.bipush 6, 2) := by decide +kernel
theorem dX4_giveBack_123 : decode cX4_giveBack 123 = .ok (.idiv, 1) := by decide +kernel
theorem dX4_giveBack_124 : decode cX4_giveBack 124 = .ok (.iaload, 1) := by decide +kernel
theorem dX4_giveBack_125 : decode cX4_giveBack 125 = .ok (.aload_n 0, 1) := by decide +kernel
theorem dX4_giveBack_126 : decode cX4_giveBack 126 = .ok (.getfield 13, 3) := by decide +kernel
theorem dX4_giveBack_129 : decode cX4_giveBack 129 = .ok (.iload_n 2, 1) := by decide +kernel
theorem dX4_giveBack_130 : decode cX4_giveBack 130 = .ok (.iaload, 1) := by decide +kernel
theorem dX4_giveBack_131 : decode cX4_giveBack 131 = .ok (.if_icmp .ne 7, 3) := by decide +kernel
theorem dX4_giveBack_134 : decode cX4_giveBack 134 = .ok (.iconst 1, 1) := by decide +kernel
theorem dX4_giveBack_135 : decode cX4_giveBack 135 = .ok (.goto 4, 3) := by decide +kernel
theorem dX4_giveBack_138 : decode cX4_giveBack 138 = .ok (.iconst 0, 1) := by decide +kernel
theorem dX4_giveBack_139 : decode cX4_giveBack 139 = .ok (.ireturn, 1) := by decide +kernel
theorem dX4_waiting_0 : decode cX4_waiting 0 = .ok (.aload_n 0, 1) := by decide +kernel
theorem dX4_waiting_1 : decode cX4_waiting 1 = .ok (.iconst 0, 1) := by decide +kernel
theorem dX4_waiting_2 : decode cX4_waiting 2 = .ok (.putfield 41, 3) := by decide +kernel
theorem dX4_waiting_5 : decode cX4_waiting 5 = .ok (.iconst 0, 1) := by decide +kernel
theorem dX4_waiting_6 : decode cX4_waiting 6 = .ok (.istore_n 1, 1) := by decide +kernel
theorem dX4_waiting_7 : decode cX4_waiting 7 = .ok (.iconst 0, 1) := by decide +kernel
theorem dX4_waiting_8 : decode cX4_waiting 8 = .ok (.istore_n 2, 1) := by decide +kernel
theorem dX4_waiting_9 : decode cX4_waiting 9 = .ok (.iload_n 2, 1) := by decide +kernel
theorem dX4_waiting_10 : decode cX4_waiting 10 = .ok (.aload_n 0, 1) := by decide +kernel
theorem dX4_waiting_11 : decode cX4_waiting 11 = .ok (.getfield 108, 3) := by decide +kernel
theorem dX4_waiting_14 : decode cX4_waiting 14 = .ok (.if_icmp .ge 26, 3) := by decide +kernel
theorem dX4_waiting_17 : decode cX4_waiting 17 = .ok (.iload_n 1, 1) := by decide +kernel
theorem dX4_waiting_18 : decode cX4_waiting 18 = .ok (.aload_n 0, 1) := by decide +kernel
theorem dX4_waiting_19 : decode cX4_waiting 19 = .ok (.getfield 38, 3) := by decide +kernel
theorem dX4_waiting_22 : decode cX4_waiting 22 = .ok (.iload_n 2, 1) := by decide +kernel
theorem dX4_waiting_23 : decode cX4_waiting 23 = .ok (.baload, 1) := by decide +kernel
theorem dX4_waiting_24 : decode cX4_waiting 24 = .ok (.ifCond .eq 7, 3) := by decide +kernel
theorem dX4_waiting_27 : decode cX4_waiting 27 = .ok (.iconst 0, 1) := by decide +kernel
theorem dX4_waiting_28 : decode cX4_waiting 28 = .ok (.goto 4, 3) := by decide +kernel
theorem dX4_waiting_31 : decode cX4_waiting 31 = .ok (.iconst 1, 1) := by decide +kernel
theorem dX4_waiting_32 : decode cX4_waiting 32 = .ok (.iadd, 1) := by decide +kernel
theorem dX4_waiting_33 : decode cX4_waiting 33 = .ok (.istore_n 1, 1) := by decide +kernel
theorem dX4_waiting_34 : decode cX4_waiting 34 = .ok (.iinc 2 1, 3) := by decide +kernel
theorem dX4_waiting_37 : decode cX4_waiting 37 = .ok (.goto (-28), 3) := by decide +kernel
theorem dX4_waiting_40 : decode cX4_waiting 40 = .ok (.iload_n 1, 1) := by decide +kernel
theorem dX4_waiting_41 : decode cX4_waiting 41 = .ok (.ireturn, 1) := by decide +kernel
theorem dX4_late_0 : decode cX4_late 0 = .ok (.aload_n 0, 1) := by decide +kernel
theorem dX4_late_1 : decode cX4_late 1 = .ok (.iconst 0, 1) := by decide +kernel
theorem dX4_late_2 : decode cX4_late 2 = .ok (.putfield 41, 3) := by decide +kernel
theorem dX4_late_5 : decode cX4_late 5 = .ok (.aload_n 0, 1) := by decide +kernel
theorem dX4_late_6 : decode cX4_late 6 = .ok (.getfield 120, 3) := by decide +kernel
theorem dX4_late_9 : decode cX4_late 9 = .ok (.ireturn, 1) := by decide +kernel
