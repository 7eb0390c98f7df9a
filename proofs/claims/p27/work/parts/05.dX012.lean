abbrev vwCl : List vw_C := [(RX0, TX0, 5), (RX1, TX1, 7), (RX2, TX2, 6), (RX3, TX3, 4)]
theorem dX0_init_0 : decode cX0_init 0 = .ok (.aload_n 0, 1) := by decide +kernel
theorem dX0_init_1 : decode cX0_init 1 = .ok (.invokespecial 3, 3) := by decide +kernel
theorem dX0_init_4 : decode cX0_init 4 = .ok (.aload_n 0, 1) := by decide +kernel
theorem dX0_init_5 : decode cX0_init 5 = .ok (.bipush 30, 2) := by decide +kernel
theorem dX0_init_7 : decode cX0_init 7 = .ok (.newarray .int, 2) := by decide +kernel
theorem dX0_init_9 : decode cX0_init 9 = .ok (.putfield 9, 3) := by decide +kernel
theorem dX0_init_12 : decode cX0_init 12 = .ok (.aload_n 0, 1) := by decide +kernel
theorem dX0_init_13 : decode cX0_init 13 = .ok (.bipush 30, 2) := by decide +kernel
theorem dX0_init_15 : decode cX0_init 15 = .ok (.newarray .int, 2) := by decide +kernel
theorem dX0_init_17 : decode cX0_init 17 = .ok (.putfield 15, 3) := by decide +kernel
theorem dX0_init_20 : decode cX0_init 20 = .ok (.aload_n 0, 1) := by decide +kernel
theorem dX0_init_21 : decode cX0_init 21 = .ok (.bipush 30, 2) := by decide +kernel
theorem dX0_init_23 : decode cX0_init 23 = .ok (.newarray .boolean, 2) := by decide +kernel
theorem dX0_init_25 : decode cX0_init 25 = .ok (.putfield 18, 3) := by decide +kernel
theorem dX0_init_28 : decode cX0_init 28 = .ok (.aload_n 0, 1) := by decide +kernel
theorem dX0_init_29 : decode cX0_init 29 = .ok (.iconst 0, 1) := by decide +kernel
theorem dX0_init_30 : decode cX0_init 30 = .ok (.putfield 22, 3) := by decide +kernel
theorem dX0_init_33 : decode cX0_init 33 = .ok (.aload_n 0, 1) := by decide +kernel
theorem dX0_init_34 : decode cX0_init 34 = .ok (.iconst 0, 1) := by decide +kernel
theorem dX0_init_35 : decode cX0_init 35 = .ok (.putfield 26, 3) := by decide +kernel
theorem dX0_init_38 : decode cX0_init 38 = .ok (.return_, 1) := by decide +kernel
theorem dX0_isFull_0 : decode cX0_isFull 0 = .ok (.aload_n 0, 1) := by decide +kernel
theorem dX0_isFull_1 : decode cX0_isFull 1 = .ok (.getfield 22, 3) := by decide +kernel
theorem dX0_isFull_4 : decode cX0_isFull 4 = .ok (.bipush 30, 2) := by decide +kernel
theorem dX0_isFull_6 : decode cX0_isFull 6 = .ok (.if_icmp .lt 7, 3) := by decide +kernel
theorem dX0_isFull_9 : decode cX0_isFull 9 = .ok (.iconst 1, 1) := by decide +kernel
theorem dX0_isFull_10 : decode cX0_isFull 10 = .ok (.goto 4, 3) := by decide +kernel
theorem dX0_isFull_13 : decode cX0_isFull 13 = .ok (.iconst 0, 1) := by decide +kernel
theorem dX0_isFull_14 : decode cX0_isFull 14 = .ok (.ireturn, 1) := by decide +kernel
set_option maxRecDepth 20000 in
theorem ggX0_enter_X0_isFull : GoodIn wsX0_enter wsX0_isFull := goodIn_r _ [8, 1, 9, 10, 11, 12, 13] (by decide +kernel) (by decide +kernel)
set_option maxRecDepth 20000 in
theorem gX0_enter_X0_isFull : GoodIn wsX0_enter (wsV RX0 29 RX0 yX0_isFull wsX0_isFull) := goodIn_app (goodIn_of _ (by decide +kernel)) ggX0_enter_X0_isFull
theorem dX0_enter_0 : decode cX0_enter 0 = .ok (.aload_n 0, 1) := by decide +kernel
theorem dX0_enter_1 : decode cX0_enter 1 = .ok (.invokevirtual 29, 3) := by decide +kernel
theorem dX0_enter_4 : decode cX0_enter 4 = .ok (.ifCond .eq 5, 3) := by decide +kernel
theorem dX0_enter_7 : decode cX0_enter 7 = .ok (.iconst (-1), 1) := by decide +kernel
theorem dX0_enter_8 : decode cX0_enter 8 = .ok (.ireturn, 1) := by decide +kernel
theorem dX0_enter_9 : decode cX0_enter 9 = .ok (.aload_n 0, 1) := by decide +kernel
theorem dX0_enter_10 : decode cX0_enter 10 = .ok (.getfield 22, 3) := by decide +kernel
theorem dX0_enter_13 : decode cX0_enter 13 = .ok (.istore_n 3, 1) := by decide +kernel
theorem dX0_enter_14 : decode cX0_enter 14 = .ok (.aload_n 0, 1) := by decide +kernel
theorem dX0_enter_15 : decode cX0_enter 15 = .ok (.getfield 9, 3) := by decide +kernel
theorem dX0_enter_18 : decode cX0_enter 18 = .ok (.iload_n 3, 1) := by decide +kernel
theorem dX0_enter_19 : decode cX0_enter 19 = .ok (.iload_n 1, 1) := by decide +kernel
theorem dX0_enter_20 : decode cX0_enter 20 = .ok (.iastore, 1) := by decide +kernel
theorem dX0_enter_21 : decode cX0_enter 21 = .ok (.aload_n 0, 1) := by decide +kernel
theorem dX0_enter_22 : decode cX0_enter 22 = .ok (.getfield 15, 3) := by decide +kernel
theorem dX0_enter_25 : decode cX0_enter 25 = .ok (.iload_n 3, 1) := by decide +kernel
theorem dX0_enter_26 : decode cX0_enter 26 = .ok (.iload_n 2, 1) := by decide +kernel
theorem dX0_enter_27 : decode cX0_enter 27 = .ok (.iastore, 1) := by decide +kernel
theorem dX0_enter_28 : decode cX0_enter 28 = .ok (.aload_n 0, 1) := by decide +kernel
theorem dX0_enter_29 : decode cX0_enter 29 = .ok (.dup, 1) := by decide +kernel
theorem dX0_enter_30 : decode cX0_enter 30 = .ok (.getfield 22, 3) := by decide +kernel
theorem dX0_enter_33 : decode cX0_enter 33 = .ok (.iconst 1, 1) := by decide +kernel
theorem dX0_enter_34 : decode cX0_enter 34 = .ok (.iadd, 1) := by decide +kernel
theorem dX0_enter_35 : decode cX0_enter 35 = .ok (.putfield 22, 3) := by decide +kernel
theorem dX0_enter_38 : decode cX0_enter 38 = .ok (.iload_n 3, 1) := by decide +kernel
theorem dX0_enter_39 : decode cX0_enter 39 = .ok (.ireturn, 1) := by decide +kernel
set_option maxRecDepth 20000 in
theorem ggX0_boxOf_X3_isBelow : GoodIn wsX0_boxOf wsX3_isBelow := goodIn_r _ [5] (by decide +kernel) (by decide +kernel)
set_option maxRecDepth 20000 in
theorem gX0_boxOf_X3_isBelow_n33 : GoodIn wsX0_boxOf (wsX3_isBelow) := ggX0_boxOf_X3_isBelow
theorem dX0_boxOf_0 : decode cX0_boxOf 0 = .ok (.iload_n 1, 1) := by decide +kernel
theorem dX0_boxOf_1 : decode cX0_boxOf 1 = .ok (.aload_n 0, 1) := by decide +kernel
theorem dX0_boxOf_2 : decode cX0_boxOf 2 = .ok (.getfield 22, 3) := by decide +kernel
theorem dX0_boxOf_5 : decode cX0_boxOf 5 = .ok (.invokestatic 33, 3) := by decide +kernel
theorem dX0_boxOf_8 : decode cX0_boxOf 8 = .ok (.ifCond .eq 12, 3) := by decide +kernel
theorem dX0_boxOf_11 : decode cX0_boxOf 11 = .ok (.aload_n 0, 1) := by decide +kernel
theorem dX0_boxOf_12 : decode cX0_boxOf 12 = .ok (.getfield 9, 3) := by decide +kernel
theorem dX0_boxOf_15 : decode cX0_boxOf 15 = .ok (.iload_n 1, 1) := by decide +kernel
theorem dX0_boxOf_16 : decode cX0_boxOf 16 = .ok (.iaload, 1) := by decide +kernel
theorem dX0_boxOf_17 : decode cX0_boxOf 17 = .ok (.goto 4, 3) := by decide +kernel
theorem dX0_boxOf_20 : decode cX0_boxOf 20 = .ok (.iconst (-1), 1) := by decide +kernel
theorem dX0_boxOf_21 : decode cX0_boxOf 21 = .ok (.ireturn, 1) := by decide +kernel
theorem dX0_isOpenFor_0 : decode cX0_isOpenFor 0 = .ok (.iconst 0, 1) := by decide +kernel
theorem dX0_isOpenFor_1 : decode cX0_isOpenFor 1 = .ok (.istore_n 2, 1) := by decide +kernel
theorem dX0_isOpenFor_2 : decode cX0_isOpenFor 2 = .ok (.iload_n 2, 1) := by decide +kernel
theorem dX0_isOpenFor_3 : decode cX0_isOpenFor 3 = .ok (.aload_n 0, 1) := by decide +kernel
theorem dX0_isOpenFor_4 : decode cX0_isOpenFor 4 = .ok (.getfield 22, 3) := by decide +kernel
theorem dX0_isOpenFor_7 : decode cX0_isOpenFor 7 = .ok (.if_icmp .ge 30, 3) := by decide +kernel
theorem dX0_isOpenFor_10 : decode cX0_isOpenFor 10 = .ok (.aload_n 0, 1) := by decide +kernel
theorem dX0_isOpenFor_11 : decode cX0_isOpenFor 11 = .ok (.getfield 18, 3) := by decide +kernel
theorem dX0_isOpenFor_14 : decode cX0_isOpenFor 14 = .ok (.iload_n 2, 1) := by decide +kernel
theorem dX0_isOpenFor_15 : decode cX0_isOpenFor 15 = .ok (.baload, 1) := by decide +kernel
theorem dX0_isOpenFor_16 : decode cX0_isOpenFor 16 = .ok (.ifCond .ne 15, 3) := by decide +kernel
theorem dX0_isOpenFor_19 : decode cX0_isOpenFor 19 = .ok (.aload_n 0, 1) := by decide +kernel
theorem dX0_isOpenFor_20 : decode cX0_isOpenFor 20 = .ok (.getfield 9, 3) := by decide +kernel
theorem dX0_isOpenFor_23 : decode cX0_isOpenFor 23 = .ok (.iload_n 2, 1) := by decide +kernel
theorem dX0_isOpenFor_24 : decode cX0_isOpenFor 24 = .ok (.iaload, 1) := by decide +kernel
theorem dX0_isOpenFor_25 : decode cX0_isOpenFor 25 = .ok (.iload_n 1, 1) := by decide +kernel
theorem dX0_isOpenFor_26 : decode cX0_isOpenFor 26 = .ok (.if_icmp .ne 5, 3) := by decide +kernel
theorem dX0_isOpenFor_29 : decode cX0_isOpenFor 29 = .ok (.iconst 1, 1) := by decide +kernel
theorem dX0_isOpenFor_30 : decode cX0_isOpenFor 30 = .ok (.ireturn, 1) := by decide +kernel
theorem dX0_isOpenFor_31 : decode cX0_isOpenFor 31 = .ok (.iinc 2 1, 3) := by decide +kernel
theorem dX0_isOpenFor_34 : decode cX0_isOpenFor 34 = .ok (.goto (-32), 3) := by decide +kernel
theorem dX0_isOpenFor_37 : decode cX0_isOpenFor 37 = .ok (.iconst 0, 1) := by decide +kernel
theorem dX0_isOpenFor_38 : decode cX0_isOpenFor 38 = .ok (.ireturn, 1) := by decide +kernel
set_option maxRecDepth 20000 in
theorem ggX0_earliest_X2_aisleOfBox : GoodIn wsX0_earliest wsX2_aisleOfBox := goodIn_r _ [9, 10, 11, 12, 8, 13, 14, 15, 16, 17, 18, 19, 20, 21, 22, 23, 24, 25, 26, 27, 28, 29, 30, 36, 37, 38, 39, 40, 41] (by decide +kernel) (by decide +kernel)
set_option maxRecDepth 20000 in
theorem gX0_earliest_X2_aisleOfBox : GoodIn wsX0_earliest (wsV RX0 37 RX2 yX2_aisleOfBox wsX2_aisleOfBox) := goodIn_app (goodIn_of _ (by decide +kernel)) ggX0_earliest_X2_aisleOfBox
theorem dX0_earliest_0 : decode cX0_earliest 0 = .ok (.iconst (-1), 1) := by decide +kernel
theorem dX0_earliest_1 : decode cX0_earliest 1 = .ok (.istore_n 3, 1) := by decide +kernel
theorem dX0_earliest_2 : decode cX0_earliest 2 = .ok (.sipush 10001, 3) := by decide +kernel
theorem dX0_earliest_5 : decode cX0_earliest 5 = .ok (.istore 4, 2) := by decide +kernel
theorem dX0_earliest_7 : decode cX0_earliest 7 = .ok (.iconst 0, 1) := by decide +kernel
theorem dX0_earliest_8 : decode cX0_earliest 8 = .ok (.istore 5, 2) := by decide +kernel
theorem dX0_earliest_10 : decode cX0_earliest 10 = .ok (.iload 5, 2) := by decide +kernel
theorem dX0_earliest_12 : decode cX0_earliest 12 = .ok (.aload_n 0, 1) := by decide +kernel
theorem dX0_earliest_13 : decode cX0_earliest 13 = .ok (.getfield 22, 3) := by decide +kernel
theorem dX0_earliest_16 : decode cX0_earliest 16 = .ok (.if_icmp .ge 86, 3) := by decide +kernel
theorem dX0_earliest_19 : decode cX0_earliest 19 = .ok (.aload_n 1, 1) := by decide +kernel
theorem dX0_earliest_20 : decode cX0_earliest 20 = .ok (.aload_n 0, 1) := by decide +kernel
theorem dX0_earliest_21 : decode cX0_earliest 21 = .ok (.getfield 9, 3) := by decide +kernel
theorem dX0_earliest_24 : decode cX0_earliest 24 = .ok (.iload 5, 2) := by decide +kernel
theorem dX0_earliest_26 : decode cX0_earliest 26 = .ok (.iaload, 1) := by decide +kernel
theorem dX0_earliest_27 : decode cX0_earliest 27 = .ok (.invokevirtual 37, 3) := by decide +kernel
theorem dX0_earliest_30 : decode cX0_earliest 30 = .ok (.istore 6, 2) := by decide +kernel
theorem dX0_earliest_32 : decode cX0_earliest 32 = .ok (.iload 6, 2) := by decide +kernel
theorem dX0_earliest_34 : decode cX0_earliest 34 = .ok (.iconst (-1), 1) := by decide +kernel
theorem dX0_earliest_35 : decode cX0_earliest 35 = .ok (.if_icmp .eq 19, 3) := by decide +kernel
theorem dX0_earliest_38 : decode cX0_earliest 38 = .ok (.iload_n 2, 1) := by decide +kernel
theorem dX0_earliest_39 : decode cX0_earliest 39 = .ok (.bipush (-2), 2) := by decide +kernel
theorem dX0_earliest_41 : decode cX0_earliest 41 = .ok (.if_icmp .eq 9, 3) := by decide +kernel
theorem dX0_earliest_44 : decode cX0_earliest 44 = .ok (.iload 6, 2) := by decide +kernel
theorem dX0_earliest_46 : decode cX0_earliest 46 = .ok (.iload_n 2, 1) := by decide +kernel
theorem dX0_earliest_47 : decode cX0_earliest 47 = .ok (.if_icmp .ne 7, 3) := by decide +kernel
theorem dX0_earliest_50 : decode cX0_earliest 50 = .ok (.iconst 1, 1) := by decide +kernel
theorem dX0_earliest_51 : decode cX0_earliest 51 = .ok (.goto 4, 3) := by decide +kernel
theorem dX0_earliest_54 : decode cX0_earliest 54 = .ok (.iconst 0, 1) := by decide +kernel
theorem dX0_earliest_55 : decode cX0_earliest 55 = .ok (.istore 7, 2) := by decide +kernel
theorem dX0_earliest_57 : decode cX0_earliest 57 = .ok (.aload_n 0, 1) := by decide +kernel
theorem dX0_earliest_58 : decode cX0_earliest 58 = .ok (.getfield 18, 3) := by decide +kernel
theorem dX0_earliest_61 : decode cX0_earliest 61 = .ok (.iload 5, 2) := by decide +kernel
theorem dX0_earliest_63 : decode cX0_earliest 63 = .ok (.baload, 1) := by decide +kernel
theorem dX0_earliest_64 : decode cX0_earliest 64 = .ok (.ifCond .ne 32, 3) := by decide +kernel
theorem dX0_earliest_67 : decode cX0_earliest 67 = .ok (.iload 7, 2) := by decide +kernel
theorem dX0_earliest_69 : decode cX0_earliest 69 = .ok (.ifCond .eq 27, 3) := by decide +kernel
theorem dX0_earliest_72 : decode cX0_earliest 72 = .ok (.aload_n 0, 1) := by decide +kernel
theorem dX0_earliest_73 : decode cX0_earliest 73 = .ok (.getfield 15, 3) := by decide +kernel
theorem dX0_earliest_76 : decode cX0_earliest 76 = .ok (.iload 5, 2) := by decide +kernel
theorem dX0_earliest_78 : decode cX0_earliest 78 = .ok (.iaload, 1) := by decide +kernel
theorem dX0_earliest_79 : decode cX0_earliest 79 = .ok (.iload 4, 2) := by decide +kernel
theorem dX0_earliest_81 : decode cX0_earliest 81 = .ok (.if_icmp .ge 15, 3) := by decide +kernel
theorem dX0_earliest_84 : decode cX0_earliest 84 = .ok (.iload 5, 2) := by decide +kernel
theorem dX0_earliest_86 : decode cX0_earliest 86 = .ok (.istore_n 3, 1) := by decide +kernel
theorem dX0_earliest_87 : decode cX0_earliest 87 = .ok (.aload_n 0, 1) := by decide +kernel
theorem dX0_earliest_88 : decode cX0_earliest 88 = .ok (.getfield 15, 3) := by decide +kernel
theorem dX0_earliest_91 : decode cX0_earliest 91 = .ok (.iload 5, 2) := by decide +kernel
theorem dX0_earliest_93 : decode cX0_earliest 93 = .ok (.iaload, 1) := by decide +kernel
theorem dX0_earliest_94 : decode cX0_earliest 94 = .ok (.istore 4, 2) := by decide +kernel
theorem dX0_earliest_96 : decode cX0_earliest 96 = .ok (.iinc 5 1, 3) := by decide +kernel
theorem dX0_earliest_99 : decode cX0_earliest 99 = .ok (.goto (-89), 3) := by decide +kernel
theorem dX0_earliest_102 : decode cX0_earliest 102 = .ok (.iload_n 3, 1) := by decide +kernel
theorem dX0_earliest_103 : decode cX0_earliest 103 = .ok (.ireturn, 1) := by decide +kernel
set_option maxRecDepth 20000 in
theorem ggX0_finish_X3_isBelow : GoodIn wsX0_finish wsX3_isBelow := goodIn_r _ [7] (by decide +kernel) (by decide +kernel)
set_option maxRecDepth 20000 in
theorem gX0_finish_X3_isBelow_n33 : GoodIn wsX0_finish (wsX3_isBelow) := ggX0_finish_X3_isBelow
theorem dX0_finish_0 : decode cX0_finish 0 = .ok (.iload_n 1, 1) := by decide +kernel
theorem dX0_finish_1 : decode cX0_finish 1 = .ok (.aload_n 0, 1) := by decide +kernel
theorem dX0_finish_2 : decode cX0_finish 2 = .ok (.getfield 22, 3) := by decide +kernel
theorem dX0_finish_5 : decode cX0_finish 5 = .ok (.invokestatic 33, 3) := by decide +kernel
theorem dX0_finish_8 : decode cX0_finish 8 = .ok (.ifCond .eq 30, 3) := by decide +kernel
theorem dX0_finish_11 : decode cX0_finish 11 = .ok (.aload_n 0, 1) := by decide +kernel
theorem dX0_finish_12 : decode cX0_finish 12 = .ok (.getfield 18, 3) := by decide +kernel
theorem dX0_finish_15 : decode cX0_finish 15 = .ok (.iload_n 1, 1) := by decide +kernel
theorem dX0_finish_16 : decode cX0_finish 16 = .ok (.iconst 1, 1) := by decide +kernel
theorem dX0_finish_17 : decode cX0_finish 17 = .ok (.bastore, 1) := by decide +kernel
theorem dX0_finish_18 : decode cX0_finish 18 = .ok (.iload_n 2, 1) := by decide +kernel
theorem dX0_finish_19 : decode cX0_finish 19 = .ok (.aload_n 0, 1) := by decide +kernel
theorem dX0_finish_20 : decode cX0_finish 20 = .ok (.getfield 15, 3) := by decide +kernel
theorem dX0_finish_23 : decode cX0_finish 23 = .ok (.iload_n 1, 1) := by decide +kernel
theorem dX0_finish_24 : decode cX0_finish 24 = .ok (.iaload, 1) := by decide +kernel
theorem dX0_finish_25 : decode cX0_finish 25 = .ok (.if_icmp .le 13, 3) := by decide +kernel
theorem dX0_finish_28 : decode cX0_finish 28 = .ok (.aload_n 0, 1) := by decide +kernel
theorem dX0_finish_29 : decode cX0_finish 29 = .ok (.dup, 1) := by decide +kernel
theorem dX0_finish_30 : decode cX0_finish 30 = .ok (.getfield 26, 3) := by decide +kernel
theorem dX0_finish_33 : decode cX0_finish 33 = .ok (.iconst 1, 1) := by decide +kernel
theorem dX0_finish_34 : decode cX0_finish 34 = .ok (.iadd, 1) := by decide +kernel
theorem dX0_finish_35 : decode cX0_finish 35 = .ok (.putfield 26, 3) := by decide +kernel
theorem dX0_finish_38 : decode cX0_finish 38 = .ok (.return_, 1) := by decide +kernel
theorem dX0_countOpen_0 : decode cX0_countOpen 0 = .ok (.iconst 0, 1) := by decide +kernel
theorem dX0_countOpen_1 : decode cX0_countOpen 1 = .ok (.istore_n 1, 1) := by decide +kernel
theorem dX0_countOpen_2 : decode cX0_countOpen 2 = .ok (.iconst 0, 1) := by decide +kernel
theorem dX0_countOpen_3 : decode cX0_countOpen 3 = .ok (.istore_n 2, 1) := by decide +kernel
theorem dX0_countOpen_4 : decode cX0_countOpen 4 = .ok (.iload_n 2, 1) := by decide +kernel
theorem dX0_countOpen_5 : decode cX0_countOpen 5 = .ok (.aload_n 0, 1) := by decide +kernel
theorem dX0_countOpen_6 : decode cX0_countOpen 6 = .ok (.getfield 22, 3) := by decide +kernel
theorem dX0_countOpen_9 : decode cX0_countOpen 9 = .ok (.if_icmp .ge 21, 3) := by decide +kernel
theorem dX0_countOpen_12 : decode cX0_countOpen 12 = .ok (.aload_n 0, 1) := by decide +kernel
theorem dX0_countOpen_13 : decode cX0_countOpen 13 = .ok (.getfield 18, 3) := by decide +kernel
theorem dX0_countOpen_16 : decode cX0_countOpen 16 = .ok (.iload_n 2, 1) := by decide +kernel
theorem dX0_countOpen_17 : decode cX0_countOpen 17 = .ok (.baload, 1) := by decide +kernel
theorem dX0_countOpen_18 : decode cX0_countOpen 18 = .ok (.ifCond .ne 6, 3) := by decide +kernel
theorem dX0_countOpen_21 : decode cX0_countOpen 21 = .ok (.iinc 1 1, 3) := by decide +kernel
theorem dX0_countOpen_24 : decode cX0_countOpen 24 = .ok (.iinc 2 1, 3) := by decide +kernel
theorem dX0_countOpen_27 : decode cX0_countOpen 27 = .ok (.goto (-23), 3) := by decide +kernel
theorem dX0_countOpen_30 : decode cX0_countOpen 30 = .ok (.iload_n 1, 1) := by decide +kernel
theorem dX0_countOpen_31 : decode cX0_countOpen 31 = .ok (.ireturn, 1) := by decide +kernel
theorem dX0_countLate_0 : decode cX0_countLate 0 = .ok (.aload_n 0, 1) := by decide +kernel
theorem dX0_countLate_1 : decode cX0_countLate 1 = .ok (.getfield 26, 3) := by decide +kernel
theorem dX0_countLate_4 : decode cX0_countLate 4 = .ok (.ireturn, 1) := by decide +kernel
theorem dX1_init_0 : decode cX1_init 0 = .ok (.aload_n 0, 1) := by decide +kernel
theorem dX1_init_1 : decode cX1_init 1 = .ok (.invokespecial 3, 3) := by decide +kernel
theorem dX1_init_4 : decode cX1_init 4 = .ok (.aload_n 0, 1) := by decide +kernel
theorem dX1_init_5 : decode cX1_init 5 = .ok (.bipush 7, 2) := by decide +kernel
theorem dX1_init_7 : decode cX1_init 7 = .ok (.newarray .boolean, 2) := by decide +kernel
theorem dX1_init_9 : decode cX1_init 9 = .ok (.putfield 9, 3) := by decide +kernel
theorem dX1_init_12 : decode cX1_init 12 = .ok (.aload_n 0, 1) := by decide +kernel
theorem dX1_init_13 : decode cX1_init 13 = .ok (.iconst 4, 1) := by decide +kernel
theorem dX1_init_14 : decode cX1_init 14 = .ok (.newarray .boolean, 2) := by decide +kernel
theorem dX1_init_16 : decode cX1_init 16 = .ok (.putfield 15, 3) := by decide +kernel
theorem dX1_init_19 : decode cX1_init 19 = .ok (.aload_n 0, 1) := by decide +kernel
theorem dX1_init_20 : decode cX1_init 20 = .ok (.bipush 6, 2) := by decide +kernel
theorem dX1_init_22 : decode cX1_init 22 = .ok (.newarray .int, 2) := by decide +kernel
theorem dX1_init_24 : decode cX1_init 24 = .ok (.putfield 18, 3) := by decide +kernel
theorem dX1_init_27 : decode cX1_init 27 = .ok (.aload_n 0, 1) := by decide +kernel
theorem dX1_init_28 : decode cX1_init 28 = .ok (.iconst 0, 1) := by decide +kernel
theorem dX1_init_29 : decode cX1_init 29 = .ok (.putfield 22, 3) := by decide +kernel
theorem dX1_init_32 : decode cX1_init 32 = .ok (.aload_n 0, 1) := by decide +kernel
theorem dX1_init_33 : decode cX1_init 33 = .ok (.iconst 0, 1) := by decide +kernel
theorem dX1_init_34 : decode cX1_init 34 = .ok (.putfield 26, 3) := by decide +kernel
theorem dX1_init_37 : decode cX1_init 37 = .ok (.aload_n 0, 1) := by decide +kernel
theorem dX1_init_38 : decode cX1_init 38 = .ok (.iconst 0, 1) := by decide +kernel
theorem dX1_init_39 : decode cX1_init 39 = .ok (.putfield 29, 3) := by decide +kernel
theorem dX1_init_42 : decode cX1_init 42 = .ok (.aload_n 0, 1) := by decide +kernel
theorem dX1_init_43 : decode cX1_init 43 = .ok (.iconst 0, 1) := by decide +kernel
theorem dX1_init_44 : decode cX1_init 44 = .ok (.putfield 33, 3) := by decide +kernel
theorem dX1_init_47 : decode cX1_init 47 = .ok (.return_, 1) := by decide +kernel
theorem dX1_openAisle_0 : decode cX1_openAisle 0 = .ok (.aload_n 0, 1) := by decide +kernel
theorem dX1_openAisle_1 : decode cX1_openAisle 1 = .ok (.getfield 22, 3) := by decide +kernel
theorem dX1_openAisle_4 : decode cX1_openAisle 4 = .ok (.aload_n 0, 1) := by decide +kernel
theorem dX1_openAisle_5 : decode cX1_openAisle 5 = .ok (.getfield 26, 3) := by decide +kernel
theorem dX1_openAisle_8 : decode cX1_openAisle 8 = .ok (.if_icmp .ne 10, 3) := by decide +kernel
theorem dX1_openAisle_11 : decode cX1_openAisle 11 = .ok (.aload_n 0, 1) := by decide +kernel
theorem dX1_openAisle_12 : decode cX1_openAisle 12 = .ok (.getfield 22, 3) := by decide +kernel
theorem dX1_openAisle_15 : decode cX1_openAisle 15 = .ok (.goto 4, 3) := by decide +kernel
theorem dX1_openAisle_18 : decode cX1_openAisle 18 = .ok (.iconst (-1), 1) := by decide +kernel
theorem dX1_openAisle_19 : decode cX1_openAisle 19 = .ok (.ireturn, 1) := by decide +kernel
theorem dX1_openAisleByMoves_0 : decode cX1_openAisleByMoves 0 = .ok (.iconst 0, 1) := by decide +kernel
theorem dX1_openAisleByMoves_1 : decode cX1_openAisleByMoves 1 = .ok (.istore_n 1, 1) := by decide +kernel
theorem dX1_openAisleByMoves_2 : decode cX1_openAisleByMoves 2 = .ok (.iconst 0, 1) := by decide +kernel
theorem dX1_openAisleByMoves_3 : decode cX1_openAisleByMoves 3 = .ok (.istore_n 2, 1) := by decide +kernel
theorem dX1_openAisleByMoves_4 : decode cX1_openAisleByMoves 4 = .ok (.iload_n 2, 1) := by decide +kernel
theorem dX1_openAisleByMoves_5 : decode cX1_openAisleByMoves 5 = .ok (.bipush 6, 2) := by decide +kernel
theorem dX1_openAisleByMoves_7 : decode cX1_openAisleByMoves 7 = .ok (.if_icmp .ge 24, 3) := by decide +kernel
theorem dX1_openAisleByMoves_10 : decode cX1_openAisleByMoves 10 = .ok (.aload_n 0, 1) := by decide +kernel
theorem dX1_openAisleByMoves_11 : decode cX1_openAisleByMoves 11 = .ok (.getfield 18, 3) := by decide +kernel
theorem dX1_openAisleByMoves_14 : decode cX1_openAisleByMoves 14 = .ok (.iload_n 2, 1) := by decide +kernel
theorem dX1_openAisleByMoves_15 : decode cX1_openAisleByMoves 15 = .ok (.iaload, 1) := by decide +kernel
theorem dX1_openAisleByMoves_16 : decode cX1_openAisleByMoves 16 = .ok (.iconst 2, 1) := by decide +kernel
theorem dX1_openAisleByMoves_17 : decode cX1_openAisleByMoves 17 = .ok (.irem, 1) := by decide +kernel
theorem dX1_openAisleByMoves_18 : decode cX1_openAisleByMoves 18 = .ok (.iconst 1, 1) := by decide +kernel
theorem dX1_openAisleByMoves_19 : decode cX1_openAisleByMoves 19 = .ok (.if_icmp .ne 6, 3) := by decide +kernel
theorem dX1_openAisleByMoves_22 : decode cX1_openAisleByMoves 22 = .ok (.iinc 1 1, 3) := by decide +kernel
theorem dX1_openAisleByMoves_25 : decode cX1_openAisleByMoves 25 = .ok (.iinc 2 1, 3) := by decide +kernel
theorem dX1_openAisleByMoves_28 : decode cX1_openAisleByMoves 28 = .ok (.goto (-24), 3) := by decide +kernel
theorem dX1_openAisleByMoves_31 : decode cX1_openAisleByMoves 31 = .ok (.iload_n 1, 1) := by decide +kernel
theorem dX1_openAisleByMoves_32 : decode cX1_openAisleByMoves 32 = .ok (.aload_n 0, 1) := by decide +kernel
theorem dX1_openAisleByMoves_33 : decode cX1_openAisleByMoves 33 = .ok (.getfield 26, 3) := by decide +kernel
theorem dX1_openAisleByMoves_36 : decode cX1_openAisleByMoves 36 = .ok (.if_icmp .ne 7, 3) := by decide +kernel
theorem dX1_openAisleByMoves_39 : decode cX1_openAisleByMoves 39 = .ok (.iload_n 1, 1) := by decide +kernel
theorem dX1_openAisleByMoves_40 : decode cX1_openAisleByMoves 40 = .ok (.goto 4, 3) := by decide +kernel
theorem dX1_openAisleByMoves_43 : decode cX1_openAisleByMoves 43 = .ok (.iconst (-1), 1) := by decide +kernel
theorem dX1_openAisleByMoves_44 : decode cX1_openAisleByMoves 44 = .ok (.ireturn, 1) := by decide +kernel
set_option maxRecDepth 20000 in
theorem ggX1_mayOpen_X1_openAisle : GoodIn wsX1_mayOpen wsX1_openAisle := goodIn_r _ [7, 8, 9, 23, 24, 25, 26, 27, 28, 29] (by decide +kernel) (by decide +kernel)
set_option maxRecDepth 20000 in
theorem gX1_mayOpen_X1_openAisle : GoodIn wsX1_mayOpen (wsV RX1 36 RX1 yX1_openAisle wsX1_openAisle) := goodIn_app (goodIn_of _ (by decide +kernel)) ggX1_mayOpen_X1_openAisle
set_option maxRecDepth 20000 in
theorem ggX1_mayOpen_X1_countInside : GoodIn wsX1_mayOpen wsX1_countInside := goodIn_r _ [13, 14, 23, 24, 25, 26, 27, 28, 29] (by decide +kernel) (by decide +kernel)
set_option maxRecDepth 20000 in
theorem gX1_mayOpen_X1_countInside : GoodIn wsX1_mayOpen (wsV RX1 40 RX1 yX1_countInside wsX1_countInside) := goodIn_app (goodIn_of _ (by decide +kernel)) ggX1_mayOpen_X1_countInside
set_option maxRecDepth 20000 in
theorem ggX1_mayOpen_X1_hasDoubt : GoodIn wsX1_mayOpen wsX1_hasDoubt := goodIn_r _ [18, 19, 20, 21, 22, 23, 24, 25, 26, 27, 28, 29] (by decide +kernel) (by decide +kernel)
set_option maxRecDepth 20000 in
theorem gX1_mayOpen_X1_hasDoubt : GoodIn wsX1_mayOpen (wsV RX1 43 RX1 yX1_hasDoubt wsX1_hasDoubt) := goodIn_app (goodIn_of _ (by decide +kernel)) ggX1_mayOpen_X1_hasDoubt
theorem dX1_mayOpen_0 : decode cX1_mayOpen 0 = .ok (.aload_n 0, 1) := by decide +kernel
theorem dX1_mayOpen_1 : decode cX1_mayOpen 1 = .ok (.invokevirtual 36, 3) := by decide +kernel
theorem dX1_mayOpen_4 : decode cX1_mayOpen 4 = .ok (.istore_n 1, 1) := by decide +kernel
theorem dX1_mayOpen_5 : decode cX1_mayOpen 5 = .ok (.iload_n 1, 1) := by decide +kernel
theorem dX1_mayOpen_6 : decode cX1_mayOpen 6 = .ok (.iconst (-1), 1) := by decide +kernel
theorem dX1_mayOpen_7 : decode cX1_mayOpen 7 = .ok (.if_icmp .eq 36, 3) := by decide +kernel
theorem dX1_mayOpen_10 : decode cX1_mayOpen 10 = .ok (.aload_n 0, 1) := by decide +kernel
theorem dX1_mayOpen_11 : decode cX1_mayOpen 11 = .ok (.invokevirtual 40, 3) := by decide +kernel
theorem dX1_mayOpen_14 : decode cX1_mayOpen 14 = .ok (.ifCond .ne 29, 3) := by decide +kernel
theorem dX1_mayOpen_17 : decode cX1_mayOpen 17 = .ok (.aload_n 0, 1) := by decide +kernel
theorem dX1_mayOpen_18 : decode cX1_mayOpen 18 = .ok (.iload_n 1, 1) := by decide +kernel
theorem dX1_mayOpen_19 : decode cX1_mayOpen 19 = .ok (.invokevirtual 43, 3) := by decide +kernel
theorem dX1_mayOpen_22 : decode cX1_mayOpen 22 = .ok (.ifCond .ne 21, 3) := by decide +kernel
theorem dX1_mayOpen_25 : decode cX1_mayOpen 25 = .ok (.aload_n 0, 1) := by decide +kernel
theorem dX1_mayOpen_26 : decode cX1_mayOpen 26 = .ok (.getfield 29, 3) := by decide +kernel
theorem dX1_mayOpen_29 : decode cX1_mayOpen 29 = .ok (.ifCond .ne 14, 3) := by decide +kernel
theorem dX1_mayOpen_32 : decode cX1_mayOpen 32 = .ok (.aload_n 0, 1) := by decide +kernel
theorem dX1_mayOpen_33 : decode cX1_mayOpen 33 = .ok (.getfield 33, 3) := by decide +kernel
theorem dX1_mayOpen_36 : decode cX1_mayOpen 36 = .ok (.ifCond .ne 7, 3) := by decide +kernel
theorem dX1_mayOpen_39 : decode cX1_mayOpen 39 = .ok (.iconst 1, 1) := by decide +kernel
theorem dX1_mayOpen_40 : decode cX1_mayOpen 40 = .ok (.goto 4, 3) := by decide +kernel
theorem dX1_mayOpen_43 : decode cX1_mayOpen 43 = .ok (.iconst 0, 1) := by decide +kernel
theorem dX1_mayOpen_44 : decode cX1_mayOpen 44 = .ok (.ireturn, 1) := by decide +kernel
set_option maxRecDepth 20000 in
theorem ggX1_mayGoIn_X1_openAisle : GoodIn wsX1_mayGoIn wsX1_openAisle := goodIn_r _ [6, 7, 8, 9, 10, 11, 12, 13, 14, 15] (by decide +kernel) (by decide +kernel)
set_option maxRecDepth 20000 in
theorem gX1_mayGoIn_X1_openAisle : GoodIn wsX1_mayGoIn (wsV RX1 36 RX1 yX1_openAisle wsX1_openAisle) := goodIn_app (goodIn_of _ (by decide +kernel)) ggX1_mayGoIn_X1_openAisle
theorem dX1_mayGoIn_0 : decode cX1_mayGoIn 0 = .ok (.aload_n 0, 1) := by decide +kernel
theorem dX1_mayGoIn_1 : decode cX1_mayGoIn 1 = .ok (.invokevirtual 36, 3) := by decide +kernel
theorem dX1_mayGoIn_4 : decode cX1_mayGoIn 4 = .ok (.iconst (-1), 1) := by decide +kernel
theorem dX1_mayGoIn_5 : decode cX1_mayGoIn 5 = .ok (.if_icmp .eq 14, 3) := by decide +kernel
theorem dX1_mayGoIn_8 : decode cX1_mayGoIn 8 = .ok (.aload_n 0, 1) := by decide +kernel
theorem dX1_mayGoIn_9 : decode cX1_mayGoIn 9 = .ok (.getfield 33, 3) := by decide +kernel
theorem dX1_mayGoIn_12 : decode cX1_mayGoIn 12 = .ok (.ifCond .ne 7, 3) := by decide +kernel
theorem dX1_mayGoIn_15 : decode cX1_mayGoIn 15 = .ok (.iconst 1, 1) := by decide +kernel
theorem dX1_mayGoIn_16 : decode cX1_mayGoIn 16 = .ok (.goto 4, 3) := by decide +kernel
theorem dX1_mayGoIn_19 : decode cX1_mayGoIn 19 = .ok (.iconst 0, 1) := by decide +kernel
theorem dX1_mayGoIn_20 : decode cX1_mayGoIn 20 = .ok (.ireturn, 1) := by decide +kernel
theorem dX1_aimAt_0 : decode cX1_aimAt 0 = .ok (.aload_n 0, 1) := by decide +kernel
theorem dX1_aimAt_1 : decode cX1_aimAt 1 = .ok (.iload_n 1, 1) := by decide +kernel
theorem dX1_aimAt_2 : decode cX1_aimAt 2 = .ok (.putfield 26, 3) := by decide +kernel
theorem dX1_aimAt_5 : decode cX1_aimAt 5 = .ok (.return_, 1) := by decide +kernel
theorem dX1_movesToCome_0 : decode cX1_movesToCome 0 = .ok (.aload_n 0, 1) := by decide +kernel
theorem dX1_movesToCome_1 : decode cX1_movesToCome 1 = .ok (.getfield 26, 3) := by decide +kernel
theorem dX1_movesToCome_4 : decode cX1_movesToCome 4 = .ok (.aload_n 0, 1) := by decide +kernel
theorem dX1_movesToCome_5 : decode cX1_movesToCome 5 = .ok (.getfield 22, 3) := by decide +kernel
theorem dX1_movesToCome_8 : decode cX1_movesToCome 8 = .ok (.isub, 1) := by decide +kernel
theorem dX1_movesToCome_9 : decode cX1_movesToCome 9 = .ok (.invokestatic 47, 3) := by decide +kernel
theorem dX1_movesToCome_12 : decode cX1_movesToCome 12 = .ok (.ireturn, 1) := by decide +kernel
set_option maxRecDepth 20000 in
theorem ggX1_moveFor_X1_movesToCome : GoodIn wsX1_moveFor wsX1_movesToCome := goodIn_r _ [11, 12, 13, 14, 15, 5, 16, 25, 26, 27, 28, 29, 30, 31] (by decide +kernel) (by decide +kernel)
set_option maxRecDepth 20000 in
theorem gX1_moveFor_X1_movesToCome : GoodIn wsX1_moveFor (wsV RX1 53 RX1 yX1_movesToCome wsX1_movesToCome) := goodIn_app (goodIn_of _ (by decide +kernel)) ggX1_moveFor_X1_movesToCome
set_option maxRecDepth 20000 in
theorem ggX1_moveFor_X1_moveOne : GoodIn wsX1_moveFor wsX1_moveOne := goodIn_r _ [20, 13, 12, 21, 22, 23, 24, 25, 26, 27, 28, 29, 30, 31] (by decide +kernel) (by decide +kernel)
set_option maxRecDepth 20000 in
theorem gX1_moveFor_X1_moveOne : GoodIn wsX1_moveFor (wsV RX1 60 RX1 yX1_moveOne wsX1_moveOne) := goodIn_app (goodIn_of _ (by decide +kernel)) ggX1_moveFor_X1_moveOne
theorem dX1_moveFor_0 : decode cX1_moveFor 0 = .ok (.aload_n 0, 1) := by decide +kernel
theorem dX1_moveFor_1 : decode cX1_moveFor 1 = .ok (.getfield 29, 3) := by decide +kernel
theorem dX1_moveFor_4 : decode cX1_moveFor 4 = .ok (.ifCond .ne 10, 3) := by decide +kernel
theorem dX1_moveFor_7 : decode cX1_moveFor 7 = .ok (.aload_n 0, 1) := by decide +kernel
theorem dX1_moveFor_8 : decode cX1_moveFor 8 = .ok (.getfield 33, 3) := by decide +kernel
theorem dX1_moveFor_11 : decode cX1_moveFor 11 = .ok (.ifCond .eq 4, 3) := by decide +kernel
theorem dX1_moveFor_14 : decode cX1_moveFor 14 = .ok (.return_, 1) := by decide +kernel
theorem dX1_moveFor_15 : decode cX1_moveFor 15 = .ok (.iload_n 1, 1) := by decide +kernel
theorem dX1_moveFor_16 : decode cX1_moveFor 16 = .ok (.aload_n 0, 1) := by decide +kernel
theorem dX1_moveFor_17 : decode cX1_moveFor 17 = .ok (.invokevirtual 53, 3) := by decide +kernel
theorem dX1_moveFor_20 : decode cX1_moveFor 20 = .ok (.invokestatic 56, 3) := by decide +kernel
theorem dX1_moveFor_23 : decode cX1_moveFor 23 = .ok (.istore_n 2, 1) := by decide +kernel
theorem dX1_moveFor_24 : decode cX1_moveFor 24 = .ok (.iconst 0, 1) := by decide +kernel
theorem dX1_moveFor_25 : decode cX1_moveFor 25 = .ok (.istore_n 3, 1) := by decide +kernel
theorem dX1_moveFor_26 : decode cX1_moveFor 26 = .ok (.iload_n 3, 1) := by decide +kernel
theorem dX1_moveFor_27 : decode cX1_moveFor 27 = .ok (.iload_n 2, 1) := by decide +kernel
theorem dX1_moveFor_28 : decode cX1_moveFor 28 = .ok (.if_icmp .ge 13, 3) := by decide +kernel
theorem dX1_moveFor_31 : decode cX1_moveFor 31 = .ok (.aload_n 0, 1) := by decide +kernel
theorem dX1_moveFor_32 : decode cX1_moveFor 32 = .ok (.invokevirtual 60, 3) := by decide +kernel
theorem dX1_moveFor_35 : decode cX1_moveFor 35 = .ok (.iinc 3 1, 3) := by decide +kernel
theorem dX1_moveFor_38 : decode cX1_moveFor 38 = .ok (.goto (-12), 3) := by decide +kernel
theorem dX1_moveFor_41 : decode cX1_moveFor 41 = .ok (.return_, 1) := by decide +kernel
set_option maxRecDepth 20000 in
theorem ggX1_moveOne_X3_isBelow : GoodIn wsX1_moveOne wsX3_isBelow := goodIn_r _ [6] (by decide +kernel) (by decide +kernel)
set_option maxRecDepth 20000 in
theorem gX1_moveOne_X3_isBelow_n63 : GoodIn wsX1_moveOne (wsX3_isBelow) := ggX1_moveOne_X3_isBelow
theorem dX1_moveOne_0 : decode cX1_moveOne 0 = .ok (.aload_n 0, 1) := by decide +kernel
theorem dX1_moveOne_1 : decode cX1_moveOne 1 = .ok (.getfield 22, 3) := by decide +kernel
theorem dX1_moveOne_4 : decode cX1_moveOne 4 = .ok (.aload_n 0, 1) := by decide +kernel
theorem dX1_moveOne_5 : decode cX1_moveOne 5 = .ok (.getfield 26, 3) := by decide +kernel
theorem dX1_moveOne_8 : decode cX1_moveOne 8 = .ok (.if_icmp .ge 7, 3) := by decide +kernel
theorem dX1_moveOne_11 : decode cX1_moveOne 11 = .ok (.iconst 1, 1) := by decide +kernel
theorem dX1_moveOne_12 : decode cX1_moveOne 12 = .ok (.goto 4, 3) := by decide +kernel
theorem dX1_moveOne_15 : decode cX1_moveOne 15 = .ok (.iconst 0, 1) := by decide +kernel
theorem dX1_moveOne_16 : decode cX1_moveOne 16 = .ok (.istore_n 1, 1) := by decide +kernel
theorem dX1_moveOne_17 : decode cX1_moveOne 17 = .ok (.iload_n 1, 1) := by decide +kernel
theorem dX1_moveOne_18 : decode cX1_moveOne 18 = .ok (.ifCond .eq 10, 3) := by decide +kernel
theorem dX1_moveOne_21 : decode cX1_moveOne 21 = .ok (.aload_n 0, 1) := by decide +kernel
theorem dX1_moveOne_22 : decode cX1_moveOne 22 = .ok (.getfield 22, 3) := by decide +kernel
theorem dX1_moveOne_25 : decode cX1_moveOne 25 = .ok (.goto 9, 3) := by decide +kernel
theorem dX1_moveOne_28 : decode cX1_moveOne 28 = .ok (.aload_n 0, 1) := by decide +kernel
theorem dX1_moveOne_29 : decode cX1_moveOne 29 = .ok (.getfield 22, 3) := by decide +kernel
theorem dX1_moveOne_32 : decode cX1_moveOne 32 = .ok (.iconst 1, 1) := by decide +kernel
theorem dX1_moveOne_33 : decode cX1_moveOne 33 = .ok (.isub, 1) := by decide +kernel
theorem dX1_moveOne_34 : decode cX1_moveOne 34 = .ok (.istore_n 2, 1) := by decide +kernel
theorem dX1_moveOne_35 : decode cX1_moveOne 35 = .ok (.iload_n 2, 1) := by decide +kernel
theorem dX1_moveOne_36 : decode cX1_moveOne 36 = .ok (.bipush 6, 2) := by decide +kernel
theorem dX1_moveOne_38 : decode cX1_moveOne 38 = .ok (.invokestatic 63, 3) := by decide +kernel
theorem dX1_moveOne_41 : decode cX1_moveOne 41 = .ok (.ifCond .eq 36, 3) := by decide +kernel
theorem dX1_moveOne_44 : decode cX1_moveOne 44 = .ok (.aload_n 0, 1) := by decide +kernel
theorem dX1_moveOne_45 : decode cX1_moveOne 45 = .ok (.getfield 18, 3) := by decide +kernel
theorem dX1_moveOne_48 : decode cX1_moveOne 48 = .ok (.iload_n 2, 1) := by decide +kernel
theorem dX1_moveOne_49 : decode cX1_moveOne 49 = .ok (.dup2, 1) := by decide +kernel
theorem dX1_moveOne_50 : decode cX1_moveOne 50 = .ok (.iaload, 1) := by decide +kernel
theorem dX1_moveOne_51 : decode cX1_moveOne 51 = .ok (.iconst 1, 1) := by decide +kernel
theorem dX1_moveOne_52 : decode cX1_moveOne 52 = .ok (.iadd, 1) := by decide +kernel
theorem dX1_moveOne_53 : decode cX1_moveOne 53 = .ok (.iastore, 1) := by decide +kernel
theorem dX1_moveOne_54 : decode cX1_moveOne 54 = .ok (.aload_n 0, 1) := by decide +kernel
theorem dX1_moveOne_55 : decode cX1_moveOne 55 = .ok (.iload_n 1, 1) := by decide +kernel
theorem dX1_moveOne_56 : decode cX1_moveOne 56 = .ok (.ifCond .eq 12, 3) := by decide +kernel
theorem dX1_moveOne_59 : decode cX1_moveOne 59 = .ok (.aload_n 0, 1) := by decide +kernel
theorem dX1_moveOne_60 : decode cX1_moveOne 60 = .ok (.getfield 22, 3) := by decide +kernel
theorem dX1_moveOne_63 : decode cX1_moveOne 63 = .ok (.iconst 1, 1) := by decide +kernel
theorem dX1_moveOne_64 : decode cX1_moveOne 64 = .ok (.iadd, 1) := by decide +kernel
theorem dX1_moveOne_65 : decode cX1_moveOne 65 = .ok (.goto 9, 3) := by decide +kernel
theorem dX1_moveOne_68 : decode cX1_moveOne 68 = .ok (.aload_n 0, 1) := by decide +kernel
theorem dX1_moveOne_69 : decode cX1_moveOne 69 = .ok (.getfield 22, 3) := by decide +kernel
theorem dX1_moveOne_72 : decode cX1_moveOne 72 = .ok (.iconst 1, 1) := by decide +kernel
theorem dX1_moveOne_73 : decode cX1_moveOne 73 = .ok (.isub, 1) := by decide +kernel
theorem dX1_moveOne_74 : decode cX1_moveOne 74 = .ok (.putfield 22, 3) := by decide +kernel
theorem dX1_moveOne_77 : decode cX1_moveOne 77 = .ok (.return_, 1) := by decide +kernel
set_option maxRecDepth 20000 in
theorem ggX1_hasDoubt_X3_isBelow : GoodIn wsX1_hasDoubt wsX3_isBelow := goodIn_r _ [4] (by decide +kernel) (by decide +kernel)
set_option maxRecDepth 20000 in
theorem gX1_hasDoubt_X3_isBelow_n63 : GoodIn wsX1_hasDoubt (wsX3_isBelow) := ggX1_hasDoubt_X3_isBelow
theorem dX1_hasDoubt_0 : decode cX1_hasDoubt 0 = .ok (.iload_n 1, 1) := by decide +kernel
theorem dX1_hasDoubt_1 : decode cX1_hasDoubt 1 = .ok (.bipush 7, 2) := by decide +kernel
theorem dX1_hasDoubt_3 : decode cX1_hasDoubt 3 = .ok (.invokestatic 63, 3) := by decide +kernel
theorem dX1_hasDoubt_6 : decode cX1_hasDoubt 6 = .ok (.ifCond .eq 16, 3) := by decide +kernel
theorem dX1_hasDoubt_9 : decode cX1_hasDoubt 9 = .ok (.aload_n 0, 1) := by decide +kernel
theorem dX1_hasDoubt_10 : decode cX1_hasDoubt 10 = .ok (.getfield 9, 3) := by decide +kernel
theorem dX1_hasDoubt_13 : decode cX1_hasDoubt 13 = .ok (.iload_n 1, 1) := by decide +kernel
theorem dX1_hasDoubt_14 : decode cX1_hasDoubt 14 = .ok (.baload, 1) := by decide +kernel
theorem dX1_hasDoubt_15 : decode cX1_hasDoubt 15 = .ok (.ifCond .eq 7, 3) := by decide +kernel
theorem dX1_hasDoubt_18 : decode cX1_hasDoubt 18 = .ok (.iconst 1, 1) := by decide +kernel
theorem dX1_hasDoubt_19 : decode cX1_hasDoubt 19 = .ok (.goto 4, 3) := by decide +kernel
theorem dX1_hasDoubt_22 : decode cX1_hasDoubt 22 = .ok (.iconst 0, 1) := by decide +kernel
theorem dX1_hasDoubt_23 : decode cX1_hasDoubt 23 = .ok (.ireturn, 1) := by decide +kernel
set_option maxRecDepth 20000 in
theorem ggX1_setDoubt_X3_isBelow : GoodIn wsX1_setDoubt wsX3_isBelow := goodIn_r _ [4] (by decide +kernel) (by decide +kernel)
set_option maxRecDepth 20000 in
theorem gX1_setDoubt_X3_isBelow_n63 : GoodIn wsX1_setDoubt (wsX3_isBelow) := ggX1_setDoubt_X3_isBelow
theorem dX1_setDoubt_0 : decode cX1_setDoubt 0 = .ok (.iload_n 1, 1) := by decide +kernel
theorem dX1_setDoubt_1 : decode cX1_setDoubt 1 = .ok (.bipush 7, 2) := by decide +kernel
theorem dX1_setDoubt_3 : decode cX1_setDoubt 3 = .ok (.invokestatic 63, 3) := by decide +kernel
theorem dX1_setDoubt_6 : decode cX1_setDoubt 6 = .ok (.ifCond .eq 10, 3) := by decide +kernel
theorem dX1_setDoubt_9 : decode cX1_setDoubt 9 = .ok (.aload_n 0, 1) := by decide +kernel
theorem dX1_setDoubt_10 : decode cX1_setDoubt 10 = .ok (.getfield 9, 3) := by decide +kernel
theorem dX1_setDoubt_13 : decode cX1_setDoubt 13 = .ok (.iload_n 1, 1) := by decide +kernel
theorem dX1_setDoubt_14 : decode cX1_setDoubt 14 = .ok (.iload_n 2, 1) := by decide +kernel
theorem dX1_setDoubt_15 : decode cX1_setDoubt 15 = .ok (.bastore, 1) := by decide +kernel
theorem dX1_setDoubt_16 : decode cX1_setDoubt 16 = .ok (.return_, 1) := by decide +kernel
theorem dX1_changeStall_0 : decode cX1_changeStall 0 = .ok (.aload_n 0, 1) := by decide +kernel
theorem dX1_changeStall_1 : decode cX1_changeStall 1 = .ok (.getfield 29, 3) := by decide +kernel
theorem dX1_changeStall_4 : decode cX1_changeStall 4 = .ok (.iload_n 1, 1) := by decide +kernel
theorem dX1_changeStall_5 : decode cX1_changeStall 5 = .ok (.if_icmp .eq 7, 3) := by decide +kernel
theorem dX1_changeStall_8 : decode cX1_changeStall 8 = .ok (.iconst 1, 1) := by decide +kernel
theorem dX1_changeStall_9 : decode cX1_changeStall 9 = .ok (.goto 4, 3) := by decide +kernel
theorem dX1_changeStall_12 : decode cX1_changeStall 12 = .ok (.iconst 0, 1) := by decide +kernel
theorem dX1_changeStall_13 : decode cX1_changeStall 13 = .ok (.istore_n 2, 1) := by decide +kernel
theorem dX1_changeStall_14 : decode cX1_changeStall 14 = .ok (.aload_n 0, 1) := by decide +kernel
theorem dX1_changeStall_15 : decode cX1_changeStall 15 = .ok (.iload_n 1, 1) := by decide +kernel
theorem dX1_changeStall_16 : decode cX1_changeStall 16 = .ok (.putfield 29, 3) := by decide +kernel
theorem dX1_changeStall_19 : decode cX1_changeStall 19 = .ok (.iload_n 2, 1) := by decide +kernel
theorem dX1_changeStall_20 : decode cX1_changeStall 20 = .ok (.ireturn, 1) := by decide +kernel
theorem dX1_changeSmoke_0 : decode cX1_changeSmoke 0 = .ok (.aload_n 0, 1) := by decide +kernel
theorem dX1_changeSmoke_1 : decode cX1_changeSmoke 1 = .ok (.iload_n 1, 1) := by decide +kernel
theorem dX1_changeSmoke_2 : decode cX1_changeSmoke 2 = .ok (.putfield 33, 3) := by decide +kernel
theorem dX1_changeSmoke_5 : decode cX1_changeSmoke 5 = .ok (.return_, 1) := by decide +kernel
set_option maxRecDepth 20000 in
theorem ggX1_isInside_X3_isBelow : GoodIn wsX1_isInside wsX3_isBelow := goodIn_r _ [4] (by decide +kernel) (by decide +kernel)
set_option maxRecDepth 20000 in
theorem gX1_isInside_X3_isBelow_n63 : GoodIn wsX1_isInside (wsX3_isBelow) := ggX1_isInside_X3_isBelow
theorem dX1_isInside_0 : decode cX1_isInside 0 = .ok (.iload_n 1, 1) := by decide +kernel
theorem dX1_isInside_1 : decode cX1_isInside 1 = .ok (.iconst 4, 1) := by decide +kernel
theorem dX1_isInside_2 : decode cX1_isInside 2 = .ok (.invokestatic 63, 3) := by decide +kernel
theorem dX1_isInside_5 : decode cX1_isInside 5 = .ok (.ifCond .eq 16, 3) := by decide +kernel
theorem dX1_isInside_8 : decode cX1_isInside 8 = .ok (.aload_n 0, 1) := by decide +kernel
theorem dX1_isInside_9 : decode cX1_isInside 9 = .ok (.getfield 15, 3) := by decide +kernel
theorem dX1_isInside_12 : decode cX1_isInside 12 = .ok (.iload_n 1, 1) := by decide +kernel
theorem dX1_isInside_13 : decode cX1_isInside 13 = .ok (.baload, 1) := by decide +kernel
theorem dX1_isInside_14 : decode cX1_isInside 14 = .ok (.ifCond .eq 7, 3) := by decide +kernel
theorem dX1_isInside_17 : decode cX1_isInside 17 = .ok (.iconst 1, 1) := by decide +kernel
theorem dX1_isInside_18 : decode cX1_isInside 18 = .ok (.goto 4, 3) := by decide +kernel
theorem dX1_isInside_21 : decode cX1_isInside 21 = .ok (.iconst 0, 1) := by decide +kernel
theorem dX1_isInside_22 : decode cX1_isInside 22 = .ok (.ireturn, 1) := by decide +kernel
set_option maxRecDepth 20000 in
theorem ggX1_setInside_X3_isBelow : GoodIn wsX1_setInside wsX3_isBelow := goodIn_r _ [4] (by decide +kernel) (by decide +kernel)
set_option maxRecDepth 20000 in
theorem gX1_setInside_X3_isBelow_n63 : GoodIn wsX1_setInside (wsX3_isBelow) := ggX1_setInside_X3_isBelow
theorem dX1_setInside_0 : decode cX1_setInside 0 = .ok (.iload_n 1, 1) := by decide +kernel
theorem dX1_setInside_1 : decode cX1_setInside 1 = .ok (.iconst 4, 1) := by decide +kernel
theorem dX1_setInside_2 : decode cX1_setInside 2 = .ok (.invokestatic 63, 3) := by decide +kernel
theorem dX1_setInside_5 : decode cX1_setInside 5 = .ok (.ifCond .eq 10, 3) := by decide +kernel
theorem dX1_setInside_8 : decode cX1_setInside 8 = .ok (.aload_n 0, 1) := by decide +kernel
theorem dX1_setInside_9 : decode cX1_setInside 9 = .ok (.getfield 15, 3) := by decide +kernel
theorem dX1_setInside_12 : decode cX1_setInside 12 = .ok (.iload_n 1, 1) := by decide +kernel
theorem dX1_setInside_13 : decode cX1_setInside 13 = .ok (.iload_n 2, 1) := by decide +kernel
theorem dX1_setInside_14 : decode cX1_setInside 14 = .ok (.bastore, 1) := by decide +kernel
theorem dX1_setInside_15 : decode cX1_setInside 15 = .ok (.return_, 1) := by decide +kernel
theorem dX1_countInside_0 : decode cX1_countInside 0 = .ok (.iconst 0, 1) := by decide +kernel
theorem dX1_countInside_1 : decode cX1_countInside 1 = .ok (.istore_n 1, 1) := by decide +kernel
theorem dX1_countInside_2 : decode cX1_countInside 2 = .ok (.iconst 0, 1) := by decide +kernel
theorem dX1_countInside_3 : decode cX1_countInside 3 = .ok (.istore_n 2, 1) := by decide +kernel
theorem dX1_countInside_4 : decode cX1_countInside 4 = .ok (.iload_n 2, 1) := by decide +kernel
theorem dX1_countInside_5 : decode cX1_countInside 5 = .ok (.iconst 4, 1) := by decide +kernel
theorem dX1_countInside_6 : decode cX1_countInside 6 = .ok (.if_icmp .ge 21, 3) := by decide +kernel
theorem dX1_countInside_9 : decode cX1_countInside 9 = .ok (.aload_n 0, 1) := by decide +kernel
theorem dX1_countInside_10 : decode cX1_countInside 10 = .ok (.getfield 15, 3) := by decide +kernel
theorem dX1_countInside_13 : decode cX1_countInside 13 = .ok (.iload_n 2, 1) := by decide +kernel
theorem dX1_countInside_14 : decode cX1_countInside 14 = .ok (.baload, 1) := by decide +kernel
theorem dX1_countInside_15 : decode cX1_countInside 15 = .ok (.ifCond .eq 6, 3) := by decide +kernel
theorem dX1_countInside_18 : decode cX1_countInside 18 = .ok (.iinc 1 1, 3) := by decide +kernel
theorem dX1_countInside_21 : decode cX1_countInside 21 = .ok (.iinc 2 1, 3) := by decide +kernel
theorem dX1_countInside_24 : decode cX1_countInside 24 = .ok (.goto (-20), 3) := by decide +kernel
theorem dX1_countInside_27 : decode cX1_countInside 27 = .ok (.iload_n 1, 1) := by decide +kernel
theorem dX1_countInside_28 : decode cX1_countInside 28 = .ok (.ireturn, 1) := by decide +kernel
set_option maxRecDepth 20000 in
theorem ggX1_sendAllOut_X1_countInside : GoodIn wsX1_sendAllOut wsX1_countInside := goodIn_r _ [6, 1, 7, 8, 9, 10, 11, 12, 13] (by decide +kernel) (by decide +kernel)
set_option maxRecDepth 20000 in
theorem gX1_sendAllOut_X1_countInside : GoodIn wsX1_sendAllOut (wsV RX1 40 RX1 yX1_countInside wsX1_countInside) := goodIn_app (goodIn_of _ (by decide +kernel)) ggX1_sendAllOut_X1_countInside
theorem dX1_sendAllOut_0 : decode cX1_sendAllOut 0 = .ok (.aload_n 0, 1) := by decide +kernel
theorem dX1_sendAllOut_1 : decode cX1_sendAllOut 1 = .ok (.invokevirtual 40, 3) := by decide +kernel
theorem dX1_sendAllOut_4 : decode cX1_sendAllOut 4 = .ok (.istore_n 1, 1) := by decide +kernel
theorem dX1_sendAllOut_5 : decode cX1_sendAllOut 5 = .ok (.iconst 0, 1) := by decide +kernel
theorem dX1_sendAllOut_6 : decode cX1_sendAllOut 6 = .ok (.istore_n 2, 1) := by decide +kernel
theorem dX1_sendAllOut_7 : decode cX1_sendAllOut 7 = .ok (.iload_n 2, 1) := by decide +kernel
theorem dX1_sendAllOut_8 : decode cX1_sendAllOut 8 = .ok (.iconst 4, 1) := by decide +kernel
theorem dX1_sendAllOut_9 : decode cX1_sendAllOut 9 = .ok (.if_icmp .ge 16, 3) := by decide +kernel
theorem dX1_sendAllOut_12 : decode cX1_sendAllOut 12 = .ok (.aload_n 0, 1) := by decide +kernel
theorem dX1_sendAllOut_13 : decode cX1_sendAllOut 13 = .ok (.getfield 15, 3) := by decide +kernel
theorem dX1_sendAllOut_16 : decode cX1_sendAllOut 16 = .ok (.iload_n 2, 1) := by decide +kernel
theorem dX1_sendAllOut_17 : decode cX1_sendAllOut 17 = .ok (.iconst 0, 1) := by decide +kernel
theorem dX1_sendAllOut_18 : decode cX1_sendAllOut 18 = .ok (.bastore, 1) := by decide +kernel
theorem dX1_sendAllOut_19 : decode cX1_sendAllOut 19 = .ok (.iinc 2 1, 3) := by decide +kernel
theorem dX1_sendAllOut_22 : decode cX1_sendAllOut 22 = .ok (.goto (-15), 3) := by decide +kernel
theorem dX1_sendAllOut_25 : decode cX1_sendAllOut 25 = .ok (.iload_n 1, 1) := by decide +kernel
theorem dX1_sendAllOut_26 : decode cX1_sendAllOut 26 = .ok (.ireturn, 1) := by decide +kernel
theorem dX2_init_0 : decode cX2_init 0 = .ok (.aload_n 0, 1) := by decide +kernel
theorem dX2_init_1 : decode cX2_init 1 = .ok (.invokespecial 3, 3) := by decide +kernel
theorem dX2_init_4 : decode cX2_init 4 = .ok (.aload_n 0, 1) := by decide +kernel
theorem dX2_init_5 : decode cX2_init 5 = .ok (.bipush 6, 2) := by decide +kernel
theorem dX2_init_7 : decode cX2_init 7 = .ok (.newarray .int, 2) := by decide +kernel
theorem dX2_init_9 : decode cX2_init 9 = .ok (.putfield 9, 3) := by decide +kernel
theorem dX2_init_12 : decode cX2_init 12 = .ok (.aload_n 0, 1) := by decide +kernel
theorem dX2_init_13 : decode cX2_init 13 = .ok (.bipush 20, 2) := by decide +kernel
theorem dX2_init_15 : decode cX2_init 15 = .ok (.newarray .int, 2) := by decide +kernel
theorem dX2_init_17 : decode cX2_init 17 = .ok (.putfield 15, 3) := by decide +kernel
theorem dX2_init_20 : decode cX2_init 20 = .ok (.aload_n 0, 1) := by decide +kernel
theorem dX2_init_21 : decode cX2_init 21 = .ok (.bipush 20, 2) := by decide +kernel
theorem dX2_init_23 : decode cX2_init 23 = .ok (.newarray .int, 2) := by decide +kernel
theorem dX2_init_25 : decode cX2_init 25 = .ok (.putfield 18, 3) := by decide +kernel
theorem dX2_init_28 : decode cX2_init 28 = .ok (.aload_n 0, 1) := by decide +kernel
theorem dX2_init_29 : decode cX2_init 29 = .ok (.bipush 20, 2) := by decide +kernel
theorem dX2_init_31 : decode cX2_init 31 = .ok (.newarray .int, 2) := by decide +kernel
theorem dX2_init_33 : decode cX2_init 33 = .ok (.putfield 21, 3) := by decide +kernel
theorem dX2_init_36 : decode cX2_init 36 = .ok (.aload_n 0, 1) := by decide +kernel
theorem dX2_init_37 : decode cX2_init 37 = .ok (.bipush 20, 2) := by decide +kernel
theorem dX2_init_39 : decode cX2_init 39 = .ok (.newarray .int, 2) := by decide +kernel
theorem dX2_init_41 : decode cX2_init 41 = .ok (.putfield 24, 3) := by decide +kernel
theorem dX2_init_44 : decode cX2_init 44 = .ok (.aload_n 0, 1) := by decide +kernel
theorem dX2_init_45 : decode cX2_init 45 = .ok (.iconst 0, 1) := by decide +kernel
theorem dX2_init_46 : decode cX2_init 46 = .ok (.putfield 27, 3) := by decide +kernel
theorem dX2_init_49 : decode cX2_init 49 = .ok (.return_, 1) := by decide +kernel
set_option maxRecDepth 20000 in
theorem ggX2_climateOf_X3_isBelow : GoodIn wsX2_climateOf wsX3_isBelow := goodIn_r _ [4] (by decide +kernel) (by decide +kernel)
set_option maxRecDepth 20000 in
theorem gX2_climateOf_X3_isBelow_n31 : GoodIn wsX2_climateOf (wsX3_isBelow) := ggX2_climateOf_X3_isBelow
theorem dX2_climateOf_0 : decode cX2_climateOf 0 = .ok (.iload_n 1, 1) := by decide +kernel
theorem dX2_climateOf_1 : decode cX2_climateOf 1 = .ok (.bipush 6, 2) := by decide +kernel
theorem dX2_climateOf_3 : decode cX2_climateOf 3 = .ok (.invokestatic 31, 3) := by decide +kernel
theorem dX2_climateOf_6 : decode cX2_climateOf 6 = .ok (.ifCond .eq 12, 3) := by decide +kernel
theorem dX2_climateOf_9 : decode cX2_climateOf 9 = .ok (.aload_n 0, 1) := by decide +kernel
theorem dX2_climateOf_10 : decode cX2_climateOf 10 = .ok (.getfield 9, 3) := by decide +kernel
theorem dX2_climateOf_13 : decode cX2_climateOf 13 = .ok (.iload_n 1, 1) := by decide +kernel
theorem dX2_climateOf_14 : decode cX2_climateOf 14 = .ok (.iaload, 1) := by decide +kernel
theorem dX2_climateOf_15 : decode cX2_climateOf 15 = .ok (.goto 4, 3) := by decide +kernel
theorem dX2_climateOf_18 : decode cX2_climateOf 18 = .ok (.iconst (-1), 1) := by decide +kernel
theorem dX2_climateOf_19 : decode cX2_climateOf 19 = .ok (.ireturn, 1) := by decide +kernel
set_option maxRecDepth 20000 in
theorem ggX2_changeClimate_X3_isBelow : GoodIn wsX2_changeClimate wsX3_isBelow := goodIn_r _ [4] (by decide +kernel) (by decide +kernel)
set_option maxRecDepth 20000 in
theorem gX2_changeClimate_X3_isBelow_n31 : GoodIn wsX2_changeClimate (wsX3_isBelow) := ggX2_changeClimate_X3_isBelow
theorem dX2_changeClimate_0 : decode cX2_changeClimate 0 = .ok (.iload_n 1, 1) := by decide +kernel
theorem dX2_changeClimate_1 : decode cX2_changeClimate 1 = .ok (.bipush 6, 2) := by decide +kernel
theorem dX2_changeClimate_3 : decode cX2_changeClimate 3 = .ok (.invokestatic 31, 3) := by decide +kernel
theorem dX2_changeClimate_6 : decode cX2_changeClimate 6 = .ok (.ifCond .eq 10, 3) := by decide +kernel
theorem dX2_changeClimate_9 : decode cX2_changeClimate 9 = .ok (.aload_n 0, 1) := by decide +kernel
theorem dX2_changeClimate_10 : decode cX2_changeClimate 10 = .ok (.getfield 9, 3) := by decide +kernel
theorem dX2_changeClimate_13 : decode cX2_changeClimate 13 = .ok (.iload_n 1, 1) := by decide +kernel
theorem dX2_changeClimate_14 : decode cX2_changeClimate 14 = .ok (.iload_n 2, 1) := by decide +kernel
theorem dX2_changeClimate_15 : decode cX2_changeClimate 15 = .ok (.iastore, 1) := by decide +kernel
theorem dX2_changeClimate_16 : decode cX2_changeClimate 16 = .ok (.return_, 1) := by decide +kernel
theorem dX2_isFull_0 : decode cX2_isFull 0 = .ok (.aload_n 0, 1) := by decide +kernel
theorem dX2_isFull_1 : decode cX2_isFull 1 = .ok (.getfield 27, 3) := by decide +kernel
theorem dX2_isFull_4 : decode cX2_isFull 4 = .ok (.bipush 20, 2) := by decide +kernel
theorem dX2_isFull_6 : decode cX2_isFull 6 = .ok (.if_icmp .lt 7, 3) := by decide +kernel
theorem dX2_isFull_9 : decode cX2_isFull 9 = .ok (.iconst 1, 1) := by decide +kernel
theorem dX2_isFull_10 : decode cX2_isFull 10 = .ok (.goto 4, 3) := by decide +kernel
theorem dX2_isFull_13 : decode cX2_isFull 13 = .ok (.iconst 0, 1) := by decide +kernel
theorem dX2_isFull_14 : decode cX2_isFull 14 = .ok (.ireturn, 1) := by decide +kernel
set_option maxRecDepth 20000 in
theorem ggX2_has_X3_isBelow : GoodIn wsX2_has wsX3_isBelow := goodIn_r _ [4] (by decide +kernel) (by decide +kernel)
set_option maxRecDepth 20000 in
theorem gX2_has_X3_isBelow_n31 : GoodIn wsX2_has (wsX3_isBelow) := ggX2_has_X3_isBelow
theorem dX2_has_0 : decode cX2_has 0 = .ok (.iload_n 1, 1) := by decide +kernel
theorem dX2_has_1 : decode cX2_has 1 = .ok (.aload_n 0, 1) := by decide +kernel
theorem dX2_has_2 : decode cX2_has 2 = .ok (.getfield 27, 3) := by decide +kernel
theorem dX2_has_5 : decode cX2_has 5 = .ok (.invokestatic 31, 3) := by decide +kernel
theorem dX2_has_8 : decode cX2_has 8 = .ok (.ireturn, 1) := by decide +kernel
set_option maxRecDepth 20000 in
theorem ggX2_enter_X2_isFull : GoodIn wsX2_enter wsX2_isFull := goodIn_r _ [10, 1, 11, 12, 13, 14, 15, 16] (by decide +kernel) (by decide +kernel)
set_option maxRecDepth 20000 in
theorem gX2_enter_X2_isFull : GoodIn wsX2_enter (wsV RX2 35 RX2 yX2_isFull wsX2_isFull) := goodIn_app (goodIn_of _ (by decide +kernel)) ggX2_enter_X2_isFull
theorem dX2_enter_0 : decode cX2_enter 0 = .ok (.aload_n 0, 1) := by decide +kernel
theorem dX2_enter_1 : decode cX2_enter 1 = .ok (.invokevirtual 35, 3) := by decide +kernel
theorem dX2_enter_4 : decode cX2_enter 4 = .ok (.ifCond .eq 5, 3) := by decide +kernel
theorem dX2_enter_7 : decode cX2_enter 7 = .ok (.iconst (-1), 1) := by decide +kernel
theorem dX2_enter_8 : decode cX2_enter 8 = .ok (.ireturn, 1) := by decide +kernel
theorem dX2_enter_9 : decode cX2_enter 9 = .ok (.aload_n 0, 1) := by decide +kernel
theorem dX2_enter_10 : decode cX2_enter 10 = .ok (.getfield 27, 3) := by decide +kernel
theorem dX2_enter_13 : decode cX2_enter 13 = .ok (.istore 4, 2) := by decide +kernel
theorem dX2_enter_15 : decode cX2_enter 15 = .ok (.aload_n 0, 1) := by decide +kernel
theorem dX2_enter_16 : decode cX2_enter 16 = .ok (.getfield 15, 3) := by decide +kernel
theorem dX2_enter_19 : decode cX2_enter 19 = .ok (.iload 4, 2) := by decide +kernel
theorem dX2_enter_21 : decode cX2_enter 21 = .ok (.iload_n 1, 1) := by decide +kernel
theorem dX2_enter_22 : decode cX2_enter 22 = .ok (.iastore, 1) := by decide +kernel
theorem dX2_enter_23 : decode cX2_enter 23 = .ok (.aload_n 0, 1) := by decide +kernel
theorem dX2_enter_24 : decode cX2_enter 24 = .ok (.getfield 18, 3) := by decide +kernel
theorem dX2_enter_27 : decode cX2_enter 27 = .ok (.iload 4, 2) := by decide +kernel
theorem dX2_enter_29 : decode cX2_enter 29 = .ok (.iload_n 2, 1) := by decide +kernel
theorem dX2_enter_30 : decode cX2_enter 30 = .ok (.iastore, 1) := by decide +kernel
theorem dX2_enter_31 : decode cX2_enter 31 = .ok (.aload_n 0, 1) := by decide +kernel
theorem dX2_enter_32 : decode cX2_enter 32 = .ok (.getfield 21, 3) := by decide +kernel
theorem dX2_enter_35 : decode cX2_enter 35 = .ok (.iload 4, 2) := by decide +kernel
theorem dX2_enter_37 : decode cX2_enter 37 = .ok (.iload_n 3, 1) := by decide +kernel
theorem dX2_enter_38 : decode cX2_enter 38 = .ok (.iastore, 1) := by decide +kernel
theorem dX2_enter_39 : decode cX2_enter 39 = .ok (.aload_n 0, 1) := by decide +kernel
theorem dX2_enter_40 : decode cX2_enter 40 = .ok (.getfield 24, 3) := by decide +kernel
theorem dX2_enter_43 : decode cX2_enter 43 = .ok (.iload 4, 2) := by decide +kernel
theorem dX2_enter_45 : decode cX2_enter 45 = .ok (.iconst (-1), 1) := by decide +kernel
theorem dX2_enter_46 : decode cX2_enter 46 = .ok (.iastore, 1) := by decide +kernel
theorem dX2_enter_47 : decode cX2_enter 47 = .ok (.aload_n 0, 1) := by decide +kernel
theorem dX2_enter_48 : decode cX2_enter 48 = .ok (.dup, 1) := by decide +kernel
theorem dX2_enter_49 : decode cX2_enter 49 = .ok (.getfield 27, 3) := by decide +kernel
theorem dX2_enter_52 : decode cX2_enter 52 = .ok (.iconst 1, 1) := by decide +kernel
theorem dX2_enter_53 : decode cX2_enter 53 = .ok (.iadd, 1) := by decide +kernel
theorem dX2_enter_54 : decode cX2_enter 54 = .ok (.putfield 27, 3) := by decide +kernel
theorem dX2_enter_57 : decode cX2_enter 57 = .ok (.iload 4, 2) := by decide +kernel
theorem dX2_enter_59 : decode cX2_enter 59 = .ok (.ireturn, 1) := by decide +kernel
set_option maxRecDepth 20000 in
theorem ggX2_whereIs_X2_has : GoodIn wsX2_whereIs wsX2_has := goodIn_r _ [6, 7, 8, 9, 10, 11, 12, 13, 14, 15, 16] (by decide +kernel) (by decide +kernel)
set_option maxRecDepth 20000 in
theorem gX2_whereIs_X2_has : GoodIn wsX2_whereIs (wsV RX2 39 RX2 yX2_has wsX2_has) := goodIn_app (goodIn_of _ (by decide +kernel)) ggX2_whereIs_X2_has
theorem dX2_whereIs_0 : decode cX2_whereIs 0 = .ok (.aload_n 0, 1) := by decide +kernel
theorem dX2_whereIs_1 : decode cX2_whereIs 1 = .ok (.iload_n 1, 1) := by decide +kernel
theorem dX2_whereIs_2 : decode cX2_whereIs 2 = .ok (.invokevirtual 39, 3) := by decide +kernel
theorem dX2_whereIs_5 : decode cX2_whereIs 5 = .ok (.ifCond .eq 12, 3) := by decide +kernel
theorem dX2_whereIs_8 : decode cX2_whereIs 8 = .ok (.aload_n 0, 1) := by decide +kernel
theorem dX2_whereIs_9 : decode cX2_whereIs 9 = .ok (.getfield 24, 3) := by decide +kernel
theorem dX2_whereIs_12 : decode cX2_whereIs 12 = .ok (.iload_n 1, 1) := by decide +kernel
theorem dX2_whereIs_13 : decode cX2_whereIs 13 = .ok (.iaload, 1) := by decide +kernel
theorem dX2_whereIs_14 : decode cX2_whereIs 14 = .ok (.goto 4, 3) := by decide +kernel
theorem dX2_whereIs_17 : decode cX2_whereIs 17 = .ok (.iconst (-1), 1) := by decide +kernel
theorem dX2_whereIs_18 : decode cX2_whereIs 18 = .ok (.ireturn, 1) := by decide +kernel
set_option maxRecDepth 20000 in
theorem ggX2_put_X2_has : GoodIn wsX2_put wsX2_has := goodIn_r _ [6, 7, 8, 9, 10, 11, 12, 13, 14, 15, 16] (by decide +kernel) (by decide +kernel)
set_option maxRecDepth 20000 in
theorem gX2_put_X2_has : GoodIn wsX2_put (wsV RX2 39 RX2 yX2_has wsX2_has) := goodIn_app (goodIn_of _ (by decide +kernel)) ggX2_put_X2_has
theorem dX2_put_0 : decode cX2_put 0 = .ok (.aload_n 0, 1) := by decide +kernel
theorem dX2_put_1 : decode cX2_put 1 = .ok (.iload_n 1, 1) := by decide +kernel
theorem dX2_put_2 : decode cX2_put 2 = .ok (.invokevirtual 39, 3) := by decide +kernel
theorem dX2_put_5 : decode cX2_put 5 = .ok (.ifCond .eq 10, 3) := by decide +kernel
theorem dX2_put_8 : decode cX2_put 8 = .ok (.aload_n 0, 1) := by decide +kernel
theorem dX2_put_9 : decode cX2_put 9 = .ok (.getfield 24, 3) := by decide +kernel
theorem dX2_put_12 : decode cX2_put 12 = .ok (.iload_n 1, 1) := by decide +kernel
theorem dX2_put_13 : decode cX2_put 13 = .ok (.iload_n 2, 1) := by decide +kernel
theorem dX2_put_14 : decode cX2_put 14 = .ok (.iastore, 1) := by decide +kernel
theorem dX2_put_15 : decode cX2_put 15 = .ok (.return_, 1) := by decide +kernel
theorem dX2_boxIn_0 : decode cX2_boxIn 0 = .ok (.iconst 0, 1) := by decide +kernel
theorem dX2_boxIn_1 : decode cX2_boxIn 1 = .ok (.istore_n 2, 1) := by decide +kernel
theorem dX2_boxIn_2 : decode cX2_boxIn 2 = .ok (.iload_n 2, 1) := by decide +kernel
theorem dX2_boxIn_3 : decode cX2_boxIn 3 = .ok (.aload_n 0, 1) := by decide +kernel
theorem dX2_boxIn_4 : decode cX2_boxIn 4 = .ok (.getfield 27, 3) := by decide +kernel
theorem dX2_boxIn_7 : decode cX2_boxIn 7 = .ok (.if_icmp .ge 21, 3) := by decide +kernel
theorem dX2_boxIn_10 : decode cX2_boxIn 10 = .ok (.aload_n 0, 1) := by decide +kernel
theorem dX2_boxIn_11 : decode cX2_boxIn 11 = .ok (.getfield 24, 3) := by decide +kernel
theorem dX2_boxIn_14 : decode cX2_boxIn 14 = .ok (.iload_n 2, 1) := by decide +kernel
theorem dX2_boxIn_15 : decode cX2_boxIn 15 = .ok (.iaload, 1) := by decide +kernel
theorem dX2_boxIn_16 : decode cX2_boxIn 16 = .ok (.iload_n 1, 1) := by decide +kernel
theorem dX2_boxIn_17 : decode cX2_boxIn 17 = .ok (.if_icmp .ne 5, 3) := by decide +kernel
theorem dX2_boxIn_20 : decode cX2_boxIn 20 = .ok (.iload_n 2, 1) := by decide +kernel
theorem dX2_boxIn_21 : decode cX2_boxIn 21 = .ok (.ireturn, 1) := by decide +kernel
theorem dX2_boxIn_22 : decode cX2_boxIn 22 = .ok (.iinc 2 1, 3) := by decide +kernel
theorem dX2_boxIn_25 : decode cX2_boxIn 25 = .ok (.goto (-23), 3) := by decide +kernel
theorem dX2_boxIn_28 : decode cX2_boxIn 28 = .ok (.iconst (-1), 1) := by decide +kernel
theorem dX2_boxIn_29 : decode cX2_boxIn 29 = .ok (.ireturn, 1) := by decide +kernel
set_option maxRecDepth 20000 in
theorem ggX2_aisleOfBox_X2_whereIs : GoodIn wsX2_aisleOfBox wsX2_whereIs := goodIn_r _ [5, 6, 7, 8, 9, 4, 10, 11, 12, 13, 14, 23, 24, 25, 26, 27, 28] (by decide +kernel) (by decide +kernel)
set_option maxRecDepth 20000 in
theorem gX2_aisleOfBox_X2_whereIs : GoodIn wsX2_aisleOfBox (wsV RX2 43 RX2 yX2_whereIs wsX2_whereIs) := goodIn_app (goodIn_of _ (by decide +kernel)) ggX2_aisleOfBox_X2_whereIs
set_option maxRecDepth 20000 in
theorem ggX2_aisleOfBox_X3_aisleAt : GoodIn wsX2_aisleOfBox wsX3_aisleAt := goodIn_r _ [16, 17, 18, 13, 19, 20, 21, 22] (by decide +kernel) (by decide +kernel)
set_option maxRecDepth 20000 in
theorem gX2_aisleOfBox_X3_aisleAt_n47 : GoodIn wsX2_aisleOfBox (wsX3_aisleAt) := ggX2_aisleOfBox_X3_aisleAt
theorem dX2_aisleOfBox_0 : decode cX2_aisleOfBox 0 = .ok (.aload_n 0, 1) := by decide +kernel
theorem dX2_aisleOfBox_1 : decode cX2_aisleOfBox 1 = .ok (.iload_n 1, 1) := by decide +kernel
theorem dX2_aisleOfBox_2 : decode cX2_aisleOfBox 2 = .ok (.invokevirtual 43, 3) := by decide +kernel
theorem dX2_aisleOfBox_5 : decode cX2_aisleOfBox 5 = .ok (.istore_n 2, 1) := by decide +kernel
theorem dX2_aisleOfBox_6 : decode cX2_aisleOfBox 6 = .ok (.iload_n 2, 1) := by decide +kernel
theorem dX2_aisleOfBox_7 : decode cX2_aisleOfBox 7 = .ok (.iconst (-1), 1) := by decide +kernel
theorem dX2_aisleOfBox_8 : decode cX2_aisleOfBox 8 = .ok (.if_icmp .ne 7, 3) := by decide +kernel
theorem dX2_aisleOfBox_11 : decode cX2_aisleOfBox 11 = .ok (.iconst (-1), 1) := by decide +kernel
theorem dX2_aisleOfBox_12 : decode cX2_aisleOfBox 12 = .ok (.goto 7, 3) := by decide +kernel
theorem dX2_aisleOfBox_15 : decode cX2_aisleOfBox 15 = .ok (.iload_n 2, 1) := by decide +kernel
theorem dX2_aisleOfBox_16 : decode cX2_aisleOfBox 16 = .ok (.invokestatic 47, 3) := by decide +kernel
theorem dX2_aisleOfBox_19 : decode cX2_aisleOfBox 19 = .ok (.ireturn, 1) := by decide +kernel
set_option maxRecDepth 20000 in
theorem ggX2_liesOn_X2_whereIs : GoodIn wsX2_liesOn wsX2_whereIs := goodIn_r _ [5, 6, 7, 8, 9, 4, 10, 11, 12, 13, 14, 17, 18, 19, 20, 21, 22] (by decide +kernel) (by decide +kernel)
set_option maxRecDepth 20000 in
theorem gX2_liesOn_X2_whereIs : GoodIn wsX2_liesOn (wsV RX2 43 RX2 yX2_whereIs wsX2_whereIs) := goodIn_app (goodIn_of _ (by decide +kernel)) ggX2_liesOn_X2_whereIs
set_option maxRecDepth 20000 in
theorem ggX2_liesOn_X3_shelfAt : GoodIn wsX2_liesOn wsX3_shelfAt := goodIn_r _ [16] (by decide +kernel) (by decide +kernel)
set_option maxRecDepth 20000 in
theorem gX2_liesOn_X3_shelfAt_n50 : GoodIn wsX2_liesOn (wsX3_shelfAt) := ggX2_liesOn_X3_shelfAt
theorem dX2_liesOn_0 : decode cX2_liesOn 0 = .ok (.aload_n 0, 1) := by decide +kernel
theorem dX2_liesOn_1 : decode cX2_liesOn 1 = .ok (.iload_n 1, 1) := by decide +kernel
theorem dX2_liesOn_2 : decode cX2_liesOn 2 = .ok (.invokevirtual 43, 3) := by decide +kernel
theorem dX2_liesOn_5 : decode cX2_liesOn 5 = .ok (.istore_n 3, 1) := by decide +kernel
theorem dX2_liesOn_6 : decode cX2_liesOn 6 = .ok (.iload_n 3, 1) := by decide +kernel
theorem dX2_liesOn_7 : decode cX2_liesOn 7 = .ok (.iconst (-1), 1) := by decide +kernel
theorem dX2_liesOn_8 : decode cX2_liesOn 8 = .ok (.if_icmp .eq 15, 3) := by decide +kernel
theorem dX2_liesOn_11 : decode cX2_liesOn 11 = .ok (.iload_n 3, 1) := by decide +kernel
theorem dX2_liesOn_12 : decode cX2_liesOn 12 = .ok (.invokestatic 50, 3) := by decide +kernel
theorem dX2_liesOn_15 : decode cX2_liesOn 15 = .ok (.iload_n 2, 1) := by decide +kernel
theorem dX2_liesOn_16 : decode cX2_liesOn 16 = .ok (.if_icmp .ne 7, 3) := by decide +kernel
theorem dX2_liesOn_19 : decode cX2_liesOn 19 = .ok (.iconst 1, 1) := by decide +kernel
theorem dX2_liesOn_20 : decode cX2_liesOn 20 = .ok (.goto 4, 3) := by decide +kernel
theorem dX2_liesOn_23 : decode cX2_liesOn 23 = .ok (.iconst 0, 1) := by decide +kernel
theorem dX2_liesOn_24 : decode cX2_liesOn 24 = .ok (.ireturn, 1) := by decide +kernel
set_option maxRecDepth 20000 in
theorem ggX2_weightOn_X2_liesOn : GoodIn wsX2_weightOn wsX2_liesOn := goodIn_r _ [7, 8, 9, 10, 6, 11, 12, 13, 14, 15, 16, 1, 17, 18, 19, 20, 21, 22, 23, 24, 25, 26, 27] (by decide +kernel) (by decide +kernel)
set_option maxRecDepth 20000 in
theorem gX2_weightOn_X2_liesOn : GoodIn wsX2_weightOn (wsV RX2 53 RX2 yX2_liesOn wsX2_liesOn) := goodIn_app (goodIn_of _ (by decide +kernel)) ggX2_weightOn_X2_liesOn
theorem dX2_weightOn_0 : decode cX2_weightOn 0 = .ok (.iconst 0, 1) := by decide +kernel
theorem dX2_weightOn_1 : decode cX2_weightOn 1 = .ok (.istore_n 2, 1) := by decide +kernel
theorem dX2_weightOn_2 : decode cX2_weightOn 2 = .ok (.iconst 0, 1) := by decide +kernel
theorem dX2_weightOn_3 : decode cX2_weightOn 3 = .ok (.istore_n 3, 1) := by decide +kernel
theorem dX2_weightOn_4 : decode cX2_weightOn 4 = .ok (.iload_n 3, 1) := by decide +kernel
theorem dX2_weightOn_5 : decode cX2_weightOn 5 = .ok (.aload_n 0, 1) := by decide +kernel
theorem dX2_weightOn_6 : decode cX2_weightOn 6 = .ok (.getfield 27, 3) := by decide +kernel
theorem dX2_weightOn_9 : decode cX2_weightOn 9 = .ok (.if_icmp .ge 27, 3) := by decide +kernel
theorem dX2_weightOn_12 : decode cX2_weightOn 12 = .ok (.aload_n 0, 1) := by decide +kernel
theorem dX2_weightOn_13 : decode cX2_weightOn 13 = .ok (.iload_n 3, 1) := by decide +kernel
theorem dX2_weightOn_14 : decode cX2_weightOn 14 = .ok (.iload_n 1, 1) := by decide +kernel
theorem dX2_weightOn_15 : decode cX2_weightOn 15 = .ok (.invokevirtual 53, 3) := by decide +kernel
theorem dX2_weightOn_18 : decode cX2_weightOn 18 = .ok (.ifCond .eq 12, 3) := by decide +kernel
theorem dX2_weightOn_21 : decode cX2_weightOn 21 = .ok (.iload_n 2, 1) := by decide +kernel
theorem dX2_weightOn_22 : decode cX2_weightOn 22 = .ok (.aload_n 0, 1) := by decide +kernel
theorem dX2_weightOn_23 : decode cX2_weightOn 23 = .ok (.getfield 18, 3) := by decide +kernel
theorem dX2_weightOn_26 : decode cX2_weightOn 26 = .ok (.iload_n 3, 1) := by decide +kernel
theorem dX2_weightOn_27 : decode cX2_weightOn 27 = .ok (.iaload, 1) := by decide +kernel
theorem dX2_weightOn_28 : decode cX2_weightOn 28 = .ok (.iadd, 1) := by decide +kernel
theorem dX2_weightOn_29 : decode cX2_weightOn 29 = .ok (.istore_n 2, 1) := by decide +kernel
theorem dX2_weightOn_30 : decode cX2_weightOn 30 = .ok (.iinc 3 1, 3) := by decide +kernel
theorem dX2_weightOn_33 : decode cX2_weightOn 33 = .ok (.goto (-29), 3) := by decide +kernel
theorem dX2_weightOn_36 : decode cX2_weightOn 36 = .ok (.iload_n 2, 1) := by decide +kernel
theorem dX2_weightOn_37 : decode cX2_weightOn 37 = .ok (.ireturn, 1) := by decide +kernel
set_option maxRecDepth 20000 in
theorem ggX2_countKin_X2_liesOn : GoodIn wsX2_countKin wsX2_liesOn := goodIn_r _ [7, 8, 9, 10, 6, 11, 12, 13, 14, 15, 16, 1, 17, 18, 19, 20, 21, 22, 23, 24, 25, 26, 27] (by decide +kernel) (by decide +kernel)
set_option maxRecDepth 20000 in
theorem gX2_countKin_X2_liesOn : GoodIn wsX2_countKin (wsV RX2 53 RX2 yX2_liesOn wsX2_liesOn) := goodIn_app (goodIn_of _ (by decide +kernel)) ggX2_countKin_X2_liesOn
theorem dX2_countKin_0 : decode cX2_countKin 0 = .ok (.iconst 0, 1) := by decide +kernel
theorem dX2_countKin_1 : decode cX2_countKin 1 = .ok (.istore_n 3, 1) := by decide +kernel
theorem dX2_countKin_2 : decode cX2_countKin 2 = .ok (.iconst 0, 1) := by decide +kernel
theorem dX2_countKin_3 : decode cX2_countKin 3 = .ok (.istore 4, 2) := by decide +kernel
theorem dX2_countKin_5 : decode cX2_countKin 5 = .ok (.iload 4, 2) := by decide +kernel
theorem dX2_countKin_7 : decode cX2_countKin 7 = .ok (.aload_n 0, 1) := by decide +kernel
theorem dX2_countKin_8 : decode cX2_countKin 8 = .ok (.getfield 27, 3) := by decide +kernel
theorem dX2_countKin_11 : decode cX2_countKin 11 = .ok (.if_icmp .ge 33, 3) := by decide +kernel
theorem dX2_countKin_14 : decode cX2_countKin 14 = .ok (.aload_n 0, 1) := by decide +kernel
theorem dX2_countKin_15 : decode cX2_countKin 15 = .ok (.getfield 21, 3) := by decide +kernel
theorem dX2_countKin_18 : decode cX2_countKin 18 = .ok (.iload 4, 2) := by decide +kernel
theorem dX2_countKin_20 : decode cX2_countKin 20 = .ok (.iaload, 1) := by decide +kernel
theorem dX2_countKin_21 : decode cX2_countKin 21 = .ok (.iload_n 2, 1) := by decide +kernel
theorem dX2_countKin_22 : decode cX2_countKin 22 = .ok (.if_icmp .ne 16, 3) := by decide +kernel
theorem dX2_countKin_25 : decode cX2_countKin 25 = .ok (.aload_n 0, 1) := by decide +kernel
theorem dX2_countKin_26 : decode cX2_countKin 26 = .ok (.iload 4, 2) := by decide +kernel
theorem dX2_countKin_28 : decode cX2_countKin 28 = .ok (.iload_n 1, 1) := by decide +kernel
theorem dX2_countKin_29 : decode cX2_countKin 29 = .ok (.invokevirtual 53, 3) := by decide +kernel
theorem dX2_countKin_32 : decode cX2_countKin 32 = .ok (.ifCond .eq 6, 3) := by decide +kernel
theorem dX2_countKin_35 : decode cX2_countKin 35 = .ok (.iinc 3 1, 3) := by decide +kernel
theorem dX2_countKin_38 : decode cX2_countKin 38 = .ok (.iinc 4 1, 3) := by decide +kernel
theorem dX2_countKin_41 : decode cX2_countKin 41 = .ok (.goto (-36), 3) := by decide +kernel
theorem dX2_countKin_44 : decode cX2_countKin 44 = .ok (.iload_n 3, 1) := by decide +kernel
theorem dX2_countKin_45 : decode cX2_countKin 45 = .ok (.ireturn, 1) := by decide +kernel
set_option maxRecDepth 20000 in
theorem ggX2_isWrong_X2_whereIs : GoodIn wsX2_isWrong wsX2_whereIs := goodIn_r _ [6, 7, 8, 9, 10, 5, 11, 12, 13, 14, 15, 23, 24, 25, 26, 27, 28] (by decide +kernel) (by decide +kernel)
set_option maxRecDepth 20000 in
theorem gX2_isWrong_X2_whereIs : GoodIn wsX2_isWrong (wsV RX2 43 RX2 yX2_whereIs wsX2_whereIs) := goodIn_app (goodIn_of _ (by decide +kernel)) ggX2_isWrong_X2_whereIs
set_option maxRecDepth 20000 in
theorem ggX2_isWrong_X3_shelfAt : GoodIn wsX2_isWrong wsX3_shelfAt := goodIn_r _ [17] (by decide +kernel) (by decide +kernel)
set_option maxRecDepth 20000 in
theorem gX2_isWrong_X3_shelfAt_n50 : GoodIn wsX2_isWrong (wsX3_shelfAt) := ggX2_isWrong_X3_shelfAt
set_option maxRecDepth 20000 in
theorem ggX2_isWrong_X2_climateOf : GoodIn wsX2_isWrong wsX2_climateOf := goodIn_r _ [21, 22, 13, 14, 15, 23, 24, 25, 26, 27, 28] (by decide +kernel) (by decide +kernel)
set_option maxRecDepth 20000 in
theorem gX2_isWrong_X2_climateOf : GoodIn wsX2_isWrong (wsV RX2 56 RX2 yX2_climateOf wsX2_climateOf) := goodIn_app (goodIn_of _ (by decide +kernel)) ggX2_isWrong_X2_climateOf
theorem dX2_isWrong_0 : decode cX2_isWrong 0 = .ok (.aload_n 0, 1) := by decide +kernel
theorem dX2_isWrong_1 : decode cX2_isWrong 1 = .ok (.iload_n 1, 1) := by decide +kernel
theorem dX2_isWrong_2 : decode cX2_isWrong 2 = .ok (.invokevirtual 43, 3) := by decide +kernel
theorem dX2_isWrong_5 : decode cX2_isWrong 5 = .ok (.istore_n 2, 1) := by decide +kernel
theorem dX2_isWrong_6 : decode cX2_isWrong 6 = .ok (.iload_n 2, 1) := by decide +kernel
theorem dX2_isWrong_7 : decode cX2_isWrong 7 = .ok (.iconst (-1), 1) := by decide +kernel
theorem dX2_isWrong_8 : decode cX2_isWrong 8 = .ok (.if_icmp .eq 24, 3) := by decide +kernel
theorem dX2_isWrong_11 : decode cX2_isWrong 11 = .ok (.aload_n 0, 1) := by decide +kernel
theorem dX2_isWrong_12 : decode cX2_isWrong 12 = .ok (.getfield 15, 3) := by decide +kernel
theorem dX2_isWrong_15 : decode cX2_isWrong 15 = .ok (.iload_n 1, 1) := by decide +kernel
theorem dX2_isWrong_16 : decode cX2_isWrong 16 = .ok (.iaload, 1) := by decide +kernel
theorem dX2_isWrong_17 : decode cX2_isWrong 17 = .ok (.aload_n 0, 1) := by decide +kernel
theorem dX2_isWrong_18 : decode cX2_isWrong 18 = .ok (.iload_n 2, 1) := by decide +kernel
theorem dX2_isWrong_19 : decode cX2_isWrong 19 = .ok (.invokestatic 50, 3) := by decide +kernel
theorem dX2_isWrong_22 : decode cX2_isWrong 22 = .ok (.invokevirtual 56, 3) := by decide +kernel
theorem dX2_isWrong_25 : decode cX2_isWrong 25 = .ok (.if_icmp .eq 7, 3) := by decide +kernel
theorem dX2_isWrong_28 : decode cX2_isWrong 28 = .ok (.iconst 1, 1) := by decide +kernel
theorem dX2_isWrong_29 : decode cX2_isWrong 29 = .ok (.goto 4, 3) := by decide +kernel
theorem dX2_isWrong_32 : decode cX2_isWrong 32 = .ok (.iconst 0, 1) := by decide +kernel
theorem dX2_isWrong_33 : decode cX2_isWrong 33 = .ok (.ireturn, 1) := by decide +kernel
set_option maxRecDepth 20000 in
theorem ggX2_countWrong_X2_isWrong : GoodIn wsX2_countWrong wsX2_isWrong := goodIn_r _ [6, 7, 8, 9, 10, 5, 11, 12, 13, 14, 15, 16, 1, 17, 18, 19, 20, 21, 22, 23, 24, 25, 26, 27, 28, 29, 30, 31, 32] (by decide +kernel) (by decide +kernel)
set_option maxRecDepth 20000 in
theorem gX2_countWrong_X2_isWrong : GoodIn wsX2_countWrong (wsV RX2 59 RX2 yX2_isWrong wsX2_isWrong) := goodIn_app (goodIn_of _ (by decide +kernel)) ggX2_countWrong_X2_isWrong
theorem dX2_countWrong_0 : decode cX2_countWrong 0 = .ok (.iconst 0, 1) := by decide +kernel
theorem dX2_countWrong_1 : decode cX2_countWrong 1 = .ok (.istore_n 1, 1) := by decide +kernel
theorem dX2_countWrong_2 : decode cX2_countWrong 2 = .ok (.iconst 0, 1) := by decide +kernel
theorem dX2_countWrong_3 : decode cX2_countWrong 3 = .ok (.istore_n 2, 1) := by decide +kernel
theorem dX2_countWrong_4 : decode cX2_countWrong 4 = .ok (.iload_n 2, 1) := by decide +kernel
theorem dX2_countWrong_5 : decode cX2_countWrong 5 = .ok (.aload_n 0, 1) := by decide +kernel
theorem dX2_countWrong_6 : decode cX2_countWrong 6 = .ok (.getfield 27, 3) := by decide +kernel
theorem dX2_countWrong_9 : decode cX2_countWrong 9 = .ok (.if_icmp .ge 20, 3) := by decide +kernel
theorem dX2_countWrong_12 : decode cX2_countWrong 12 = .ok (.aload_n 0, 1) := by decide +kernel
theorem dX2_countWrong_13 : decode cX2_countWrong 13 = .ok (.iload_n 2, 1) := by decide +kernel
theorem dX2_countWrong_14 : decode cX2_countWrong 14 = .ok (.invokevirtual 59, 3) := by decide +kernel
theorem dX2_countWrong_17 : decode cX2_countWrong 17 = .ok (.ifCond .eq 6, 3) := by decide +kernel
theorem dX2_countWrong_20 : decode cX2_countWrong 20 = .ok (.iinc 1 1, 3) := by decide +kernel
theorem dX2_countWrong_23 : decode cX2_countWrong 23 = .ok (.iinc 2 1, 3) := by decide +kernel
theorem dX2_countWrong_26 : decode cX2_countWrong 26 = .ok (.goto (-22), 3) := by decide +kernel
theorem dX2_countWrong_29 : decode cX2_countWrong 29 = .ok (.iload_n 1, 1) := by decide +kernel
theorem dX2_countWrong_30 : decode cX2_countWrong 30 = .ok (.ireturn, 1) := by decide +kernel
set_option maxRecDepth 20000 in
theorem ggX2_firstFreeSpot_X3_spotAt : GoodIn wsX2_firstFreeSpot wsX3_spotAt := goodIn_r _ [3] (by decide +kernel) (by decide +kernel)
set_option maxRecDepth 20000 in
theorem gX2_firstFreeSpot_X3_spotAt_n62 : GoodIn wsX2_firstFreeSpot (wsX3_spotAt) := ggX2_firstFreeSpot_X3_spotAt
set_option maxRecDepth 20000 in
theorem ggX2_firstFreeSpot_X2_boxIn : GoodIn wsX2_firstFreeSpot wsX2_boxIn := goodIn_r _ [8, 9, 10, 11, 12, 13, 14, 15, 16] (by decide +kernel) (by decide +kernel)
set_option maxRecDepth 20000 in
theorem gX2_firstFreeSpot_X2_boxIn : GoodIn wsX2_firstFreeSpot (wsV RX2 66 RX2 yX2_boxIn wsX2_boxIn) := goodIn_app (goodIn_of _ (by decide +kernel)) ggX2_firstFreeSpot_X2_boxIn
theorem dX2_firstFreeSpot_0 : decode cX2_firstFreeSpot 0 = .ok (.iconst 0, 1) := by decide +kernel
theorem dX2_firstFreeSpot_1 : decode cX2_firstFreeSpot 1 = .ok (.istore_n 2, 1) := by decide +kernel
theorem dX2_firstFreeSpot_2 : decode cX2_firstFreeSpot 2 = .ok (.iload_n 2, 1) := by decide +kernel
theorem dX2_firstFreeSpot_3 : decode cX2_firstFreeSpot 3 = .ok (.iconst 2, 1) := by decide +kernel
theorem dX2_firstFreeSpot_4 : decode cX2_firstFreeSpot 4 = .ok (.if_icmp .ge 43, 3) := by decide +kernel
theorem dX2_firstFreeSpot_7 : decode cX2_firstFreeSpot 7 = .ok (.iconst 0, 1) := by decide +kernel
theorem dX2_firstFreeSpot_8 : decode cX2_firstFreeSpot 8 = .ok (.istore_n 3, 1) := by decide +kernel
theorem dX2_firstFreeSpot_9 : decode cX2_firstFreeSpot 9 = .ok (.iload_n 3, 1) := by decide +kernel
theorem dX2_firstFreeSpot_10 : decode cX2_firstFreeSpot 10 = .ok (.iconst 3, 1) := by decide +kernel
theorem dX2_firstFreeSpot_11 : decode cX2_firstFreeSpot 11 = .ok (.if_icmp .ge 30, 3) := by decide +kernel
theorem dX2_firstFreeSpot_14 : decode cX2_firstFreeSpot 14 = .ok (.iload_n 1, 1) := by decide +kernel
theorem dX2_firstFreeSpot_15 : decode cX2_firstFreeSpot 15 = .ok (.iload_n 2, 1) := by decide +kernel
theorem dX2_firstFreeSpot_16 : decode cX2_firstFreeSpot 16 = .ok (.iload_n 3, 1) := by decide +kernel
theorem dX2_firstFreeSpot_17 : decode cX2_firstFreeSpot 17 = .ok (.invokestatic 62, 3) := by decide +kernel
theorem dX2_firstFreeSpot_20 : decode cX2_firstFreeSpot 20 = .ok (.istore 4, 2) := by decide +kernel
theorem dX2_firstFreeSpot_22 : decode cX2_firstFreeSpot 22 = .ok (.aload_n 0, 1) := by decide +kernel
theorem dX2_firstFreeSpot_23 : decode cX2_firstFreeSpot 23 = .ok (.iload 4, 2) := by decide +kernel
theorem dX2_firstFreeSpot_25 : decode cX2_firstFreeSpot 25 = .ok (.invokevirtual 66, 3) := by decide +kernel
theorem dX2_firstFreeSpot_28 : decode cX2_firstFreeSpot 28 = .ok (.iconst (-1), 1) := by decide +kernel
theorem dX2_firstFreeSpot_29 : decode cX2_firstFreeSpot 29 = .ok (.if_icmp .ne 6, 3) := by decide +kernel
theorem dX2_firstFreeSpot_32 : decode cX2_firstFreeSpot 32 = .ok (.iload 4, 2) := by decide +kernel
theorem dX2_firstFreeSpot_34 : decode cX2_firstFreeSpot 34 = .ok (.ireturn, 1) := by decide +kernel
theorem dX2_firstFreeSpot_35 : decode cX2_firstFreeSpot 35 = .ok (.iinc 3 1, 3) := by decide +kernel
theorem dX2_firstFreeSpot_38 : decode cX2_firstFreeSpot 38 = .ok (.goto (-29), 3) := by decide +kernel
theorem dX2_firstFreeSpot_41 : decode cX2_firstFreeSpot 41 = .ok (.iinc 2 1, 3) := by decide +kernel
theorem dX2_firstFreeSpot_44 : decode cX2_firstFreeSpot 44 = .ok (.goto (-42), 3) := by decide +kernel
theorem dX2_firstFreeSpot_47 : decode cX2_firstFreeSpot 47 = .ok (.iconst (-1), 1) := by decide +kernel
theorem dX2_firstFreeSpot_48 : decode cX2_firstFreeSpot 48 = .ok (.ireturn, 1) := by decide +kernel
set_option maxRecDepth 20000 in
theorem ggX2_bestSpotFor_X2_has : GoodIn wsX2_bestSpotFor wsX2_has := goodIn_r _ [9, 10, 11, 12, 13, 43, 44, 45, 46, 47, 48] (by decide +kernel) (by decide +kernel)
set_option maxRecDepth 20000 in
theorem gX2_bestSpotFor_X2_has : GoodIn wsX2_bestSpotFor (wsV RX2 39 RX2 yX2_has wsX2_has) := goodIn_app (goodIn_of _ (by decide +kernel)) ggX2_bestSpotFor_X2_has
set_option maxRecDepth 20000 in
theorem ggX2_bestSpotFor_X2_weightOn : GoodIn wsX2_bestSpotFor wsX2_weightOn := goodIn_r _ [17, 10, 3, 18, 19, 20, 8, 21, 22, 23, 24, 25, 26, 5, 6, 7, 9, 11, 12, 13, 27, 28, 43, 44, 45, 46, 47, 48] (by decide +kernel) (by decide +kernel)
set_option maxRecDepth 20000 in
theorem gX2_bestSpotFor_X2_weightOn : GoodIn wsX2_bestSpotFor (wsV RX2 69 RX2 yX2_weightOn wsX2_weightOn) := goodIn_app (goodIn_of _ (by decide +kernel)) ggX2_bestSpotFor_X2_weightOn
set_option maxRecDepth 20000 in
theorem ggX2_bestSpotFor_X2_firstFreeSpot : GoodIn wsX2_bestSpotFor wsX2_firstFreeSpot := goodIn_r _ [32, 33, 12, 34, 35, 36, 37, 8, 38, 10, 26, 43, 44, 45, 46, 47, 48] (by decide +kernel) (by decide +kernel)
set_option maxRecDepth 20000 in
theorem gX2_bestSpotFor_X2_firstFreeSpot : GoodIn wsX2_bestSpotFor (wsV RX2 72 RX2 yX2_firstFreeSpot wsX2_firstFreeSpot) := goodIn_app (goodIn_of _ (by decide +kernel)) ggX2_bestSpotFor_X2_firstFreeSpot
set_option maxRecDepth 20000 in
theorem ggX2_bestSpotFor_X2_countKin : GoodIn wsX2_bestSpotFor wsX2_countKin := goodIn_r _ [42, 10, 4, 18, 19, 20, 8, 21, 22, 23, 24, 25, 26, 5, 6, 7, 9, 11, 12, 13, 27, 28, 43, 44, 45, 46, 47, 48] (by decide +kernel) (by decide +kernel)
set_option maxRecDepth 20000 in
theorem gX2_bestSpotFor_X2_countKin : GoodIn wsX2_bestSpotFor (wsV RX2 75 RX2 yX2_countKin wsX2_countKin) := goodIn_app (goodIn_of _ (by decide +kernel)) ggX2_bestSpotFor_X2_countKin
theorem dX2_bestSpotFor_0 : decode cX2_bestSpotFor 0 = .ok (.aload_n 0, 1) := by decide +kernel
theorem dX2_bestSpotFor_1 : decode cX2_bestSpotFor 1 = .ok (.iload_n 1, 1) := by decide +kernel
theorem dX2_bestSpotFor_2 : decode cX2_bestSpotFor 2 = .ok (.invokevirtual 39, 3) := by decide +kernel
theorem dX2_bestSpotFor_5 : decode cX2_bestSpotFor 5 = .ok (.ifCond .ne 5, 3) := by decide +kernel
theorem dX2_bestSpotFor_8 : decode cX2_bestSpotFor 8 = .ok (.iconst (-1), 1) := by decide +kernel
theorem dX2_bestSpotFor_9 : decode cX2_bestSpotFor 9 = .ok (.ireturn, 1) := by decide +kernel
theorem dX2_bestSpotFor_10 : decode cX2_bestSpotFor 10 = .ok (.iconst (-1), 1) := by decide +kernel
theorem dX2_bestSpotFor_11 : decode cX2_bestSpotFor 11 = .ok (.istore_n 2, 1) := by decide +kernel
theorem dX2_bestSpotFor_12 : decode cX2_bestSpotFor 12 = .ok (.iconst (-1), 1) := by decide +kernel
theorem dX2_bestSpotFor_13 : decode cX2_bestSpotFor 13 = .ok (.istore_n 3, 1) := by decide +kernel
theorem dX2_bestSpotFor_14 : decode cX2_bestSpotFor 14 = .ok (.iconst 0, 1) := by decide +kernel
theorem dX2_bestSpotFor_15 : decode cX2_bestSpotFor 15 = .ok (.istore 4, 2) := by decide +kernel
theorem dX2_bestSpotFor_17 : decode cX2_bestSpotFor 17 = .ok (.iload 4, 2) := by decide +kernel
theorem dX2_bestSpotFor_19 : decode cX2_bestSpotFor 19 = .ok (.bipush 6, 2) := by decide +kernel
theorem dX2_bestSpotFor_21 : decode cX2_bestSpotFor 21 = .ok (.if_icmp .ge 95, 3) := by decide +kernel
theorem dX2_bestSpotFor_24 : decode cX2_bestSpotFor 24 = .ok (.aload_n 0, 1) := by decide +kernel
theorem dX2_bestSpotFor_25 : decode cX2_bestSpotFor 25 = .ok (.getfield 9, 3) := by decide +kernel
theorem dX2_bestSpotFor_28 : decode cX2_bestSpotFor 28 = .ok (.iload 4, 2) := by decide +kernel
theorem dX2_bestSpotFor_30 : decode cX2_bestSpotFor 30 = .ok (.iaload, 1) := by decide +kernel
theorem dX2_bestSpotFor_31 : decode cX2_bestSpotFor 31 = .ok (.aload_n 0, 1) := by decide +kernel
theorem dX2_bestSpotFor_32 : decode cX2_bestSpotFor 32 = .ok (.getfield 15, 3) := by decide +kernel
theorem dX2_bestSpotFor_35 : decode cX2_bestSpotFor 35 = .ok (.iload_n 1, 1) := by decide +kernel
theorem dX2_bestSpotFor_36 : decode cX2_bestSpotFor 36 = .ok (.iaload, 1) := by decide +kernel
theorem dX2_bestSpotFor_37 : decode cX2_bestSpotFor 37 = .ok (.if_icmp .ne 25, 3) := by decide +kernel
theorem dX2_bestSpotFor_40 : decode cX2_bestSpotFor 40 = .ok (.aload_n 0, 1) := by decide +kernel
theorem dX2_bestSpotFor_41 : decode cX2_bestSpotFor 41 = .ok (.iload 4, 2) := by decide +kernel
theorem dX2_bestSpotFor_43 : decode cX2_bestSpotFor 43 = .ok (.invokevirtual 69, 3) := by decide +kernel
theorem dX2_bestSpotFor_46 : decode cX2_bestSpotFor 46 = .ok (.aload_n 0, 1) := by decide +kernel
theorem dX2_bestSpotFor_47 : decode cX2_bestSpotFor 47 = .ok (.getfield 18, 3) := by decide +kernel
theorem dX2_bestSpotFor_50 : decode cX2_bestSpotFor 50 = .ok (.iload_n 1, 1) := by decide +kernel
theorem dX2_bestSpotFor_51 : decode cX2_bestSpotFor 51 = .ok (.iaload, 1) := by decide +kernel
theorem dX2_bestSpotFor_52 : decode cX2_bestSpotFor 52 = .ok (.iadd, 1) := by decide +kernel
theorem dX2_bestSpotFor_53 : decode cX2_bestSpotFor 53 = .ok (.bipush 100, 2) := by decide +kernel
theorem dX2_bestSpotFor_55 : decode cX2_bestSpotFor 55 = .ok (.if_icmp .gt 7, 3) := by decide +kernel
theorem dX2_bestSpotFor_58 : decode cX2_bestSpotFor 58 = .ok (.iconst 1, 1) := by decide +kernel
theorem dX2_bestSpotFor_59 : decode cX2_bestSpotFor 59 = .ok (.goto 4, 3) := by decide +kernel
theorem dX2_bestSpotFor_62 : decode cX2_bestSpotFor 62 = .ok (.iconst 0, 1) := by decide +kernel
theorem dX2_bestSpotFor_63 : decode cX2_bestSpotFor 63 = .ok (.istore 5, 2) := by decide +kernel
theorem dX2_bestSpotFor_65 : decode cX2_bestSpotFor 65 = .ok (.aload_n 0, 1) := by decide +kernel
theorem dX2_bestSpotFor_66 : decode cX2_bestSpotFor 66 = .ok (.iload 4, 2) := by decide +kernel
theorem dX2_bestSpotFor_68 : decode cX2_bestSpotFor 68 = .ok (.invokevirtual 72, 3) := by decide +kernel
theorem dX2_bestSpotFor_71 : decode cX2_bestSpotFor 71 = .ok (.istore 6, 2) := by decide +kernel
theorem dX2_bestSpotFor_73 : decode cX2_bestSpotFor 73 = .ok (.aload_n 0, 1) := by decide +kernel
theorem dX2_bestSpotFor_74 : decode cX2_bestSpotFor 74 = .ok (.iload 4, 2) := by decide +kernel
theorem dX2_bestSpotFor_76 : decode cX2_bestSpotFor 76 = .ok (.aload_n 0, 1) := by decide +kernel
theorem dX2_bestSpotFor_77 : decode cX2_bestSpotFor 77 = .ok (.getfield 21, 3) := by decide +kernel
theorem dX2_bestSpotFor_80 : decode cX2_bestSpotFor 80 = .ok (.iload_n 1, 1) := by decide +kernel
theorem dX2_bestSpotFor_81 : decode cX2_bestSpotFor 81 = .ok (.iaload, 1) := by decide +kernel
theorem dX2_bestSpotFor_82 : decode cX2_bestSpotFor 82 = .ok (.invokevirtual 75, 3) := by decide +kernel
theorem dX2_bestSpotFor_85 : decode cX2_bestSpotFor 85 = .ok (.istore 7, 2) := by decide +kernel
theorem dX2_bestSpotFor_87 : decode cX2_bestSpotFor 87 = .ok (.iload 5, 2) := by decide +kernel
theorem dX2_bestSpotFor_89 : decode cX2_bestSpotFor 89 = .ok (.ifCond .eq 21, 3) := by decide +kernel
theorem dX2_bestSpotFor_92 : decode cX2_bestSpotFor 92 = .ok (.iload 6, 2) := by decide +kernel
theorem dX2_bestSpotFor_94 : decode cX2_bestSpotFor 94 = .ok (.iconst (-1), 1) := by decide +kernel
theorem dX2_bestSpotFor_95 : decode cX2_bestSpotFor 95 = .ok (.if_icmp .eq 15, 3) := by decide +kernel
theorem dX2_bestSpotFor_98 : decode cX2_bestSpotFor 98 = .ok (.iload 7, 2) := by decide +kernel
theorem dX2_bestSpotFor_100 : decode cX2_bestSpotFor 100 = .ok (.iload_n 3, 1) := by decide +kernel
theorem dX2_bestSpotFor_101 : decode cX2_bestSpotFor 101 = .ok (.if_icmp .le 9, 3) := by decide +kernel
theorem dX2_bestSpotFor_104 : decode cX2_bestSpotFor 104 = .ok (.iload 6, 2) := by decide +kernel
theorem dX2_bestSpotFor_106 : decode cX2_bestSpotFor 106 = .ok (.istore_n 2, 1) := by decide +kernel
theorem dX2_bestSpotFor_107 : decode cX2_bestSpotFor 107 = .ok (.iload 7, 2) := by decide +kernel
theorem dX2_bestSpotFor_109 : decode cX2_bestSpotFor 109 = .ok (.istore_n 3, 1) := by decide +kernel
theorem dX2_bestSpotFor_110 : decode cX2_bestSpotFor 110 = .ok (.iinc 4 1, 3) := by decide +kernel
theorem dX2_bestSpotFor_113 : decode cX2_bestSpotFor 113 = .ok (.goto (-96), 3) := by decide +kernel
theorem dX2_bestSpotFor_116 : decode cX2_bestSpotFor 116 = .ok (.iload_n 2, 1) := by decide +kernel
theorem dX2_bestSpotFor_117 : decode cX2_bestSpotFor 117 = .ok (.ireturn, 1) := by decide +kernel
theorem dJ9_abs_0f7a4_0 : decode cJ9_abs_0f7a4 0 = .ok (.iload_n 0, 1) := by decide +kernel
theorem dJ9_abs_0f7a4_1 : decode cJ9_abs_0f7a4 1 = .ok (.ifCond .ge 8, 3) := by decide +kernel
theorem dJ9_abs_0f7a4_4 : decode cJ9_abs_0f7a4 4 = .ok (.iload_n 0, 1) := by decide +kernel
theorem dJ9_abs_0f7a4_5 : decode cJ9_abs_0f7a4 5 = .ok (.ineg, 1) := by decide +kernel
theorem dJ9_abs_0f7a4_6 : decode cJ9_abs_0f7a4 6 = .ok (.goto 4, 3) := by decide +kernel
theorem dJ9_abs_0f7a4_9 : decode cJ9_abs_0f7a4 9 = .ok (.iload_n 0, 1) := by decide +kernel
theorem dJ9_abs_0f7a4_10 : decode cJ9_abs_0f7a4 10 = .ok (.ireturn, 1) := by decide +kernel
theorem dJ9_min_7cf53_0 : decode cJ9_min_7cf53 0 = .ok (.iload_n 0, 1) := by decide +kernel
theorem dJ9_min_7cf53_1 : decode cJ9_min_7cf53 1 = .ok (.iload_n 1, 1) := by decide +kernel
theorem dJ9_min_7cf53_2 : decode cJ9_min_7cf53 2 = .ok (.if_icmp .gt 7, 3) := by decide +kernel
theorem dJ9_min_7cf53_5 : decode cJ9_min_7cf53 5 = .ok (.iload_n 0, 1) := by decide +kernel
theorem dJ9_min_7cf53_6 : decode cJ9_min_7cf53 6 = .ok (.goto 4, 3) := by decide +kernel
theorem dJ9_min_7cf53_9 : decode cJ9_min_7cf53 9 = .ok (.iload_n 1, 1) := by decide +kernel
theorem dJ9_min_7cf53_10 : decode cJ9_min_7cf53 10 = .ok (.ireturn, 1) := by decide +kernel
