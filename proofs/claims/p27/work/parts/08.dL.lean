theorem dL_cell_0 : decode cL_cell 0 = .ok (.iload_n 1, 1) := by decide +kernel
theorem dL_cell_1 : decode cL_cell 1 = .ok (.aload_n 0, 1) := by decide +kernel
theorem dL_cell_2 : decode cL_cell 2 = .ok (.arraylength, 1) := by decide +kernel
theorem dL_cell_3 : decode cL_cell 3 = .ok (.if_icmp .ge 9, 3) := by decide +kernel
theorem dL_cell_6 : decode cL_cell 6 = .ok (.aload_n 0, 1) := by decide +kernel
theorem dL_cell_7 : decode cL_cell 7 = .ok (.iload_n 1, 1) := by decide +kernel
theorem dL_cell_8 : decode cL_cell 8 = .ok (.iaload, 1) := by decide +kernel
theorem dL_cell_9 : decode cL_cell 9 = .ok (.goto 15, 3) := by decide +kernel
theorem dL_cell_12 : decode cL_cell 12 = .ok (.sipush 7919, 3) := by decide +kernel
theorem dL_cell_15 : decode cL_cell 15 = .ok (.iload_n 1, 1) := by decide +kernel
theorem dL_cell_16 : decode cL_cell 16 = .ok (.iconst 3, 1) := by decide +kernel
theorem dL_cell_17 : decode cL_cell 17 = .ok (.iadd, 1) := by decide +kernel
theorem dL_cell_18 : decode cL_cell 18 = .ok (.imul, 1) := by decide +kernel
theorem dL_cell_19 : decode cL_cell 19 = .ok (.iload_n 1, 1) := by decide +kernel
theorem dL_cell_20 : decode cL_cell 20 = .ok (.bipush 11, 2) := by decide +kernel
theorem dL_cell_22 : decode cL_cell 22 = .ok (.iadd, 1) := by decide +kernel
theorem dL_cell_23 : decode cL_cell 23 = .ok (.imul, 1) := by decide +kernel
theorem dL_cell_24 : decode cL_cell 24 = .ok (.ireturn, 1) := by decide +kernel
theorem dL_low_0 : decode cL_low 0 = .ok (.iload_n 0, 1) := by decide +kernel
theorem dL_low_1 : decode cL_low 1 = .ok (.ldc 7, 2) := by decide +kernel
theorem dL_low_3 : decode cL_low 3 = .ok (.iand, 1) := by decide +kernel
theorem dL_low_4 : decode cL_low 4 = .ok (.iload_n 1, 1) := by decide +kernel
theorem dL_low_5 : decode cL_low 5 = .ok (.irem, 1) := by decide +kernel
theorem dL_low_6 : decode cL_low 6 = .ok (.ireturn, 1) := by decide +kernel
set_option maxRecDepth 20000 in
theorem ggL_areBoxes_X3_boxAt : GoodIn wsL_areBoxes wsX3_boxAt := goodIn_ca (goodIn_r _ [5, 6, 7, 8, 9, 4, 10, 11, 12, 13, 14, 15, 16, 17, 18, 19, 20, 21, 22, 23, 24, 25, 26, 27, 28, 29, 30, 31, 88, 89, 90, 91, 92, 93, 94, 95, 96, 97] (by decide +kernel) (by decide +kernel)) (goodIn_sub (fun _ h => List.mem_cons_of_mem _ (List.mem_append_right _ h)) (by decide +kernel))
set_option maxRecDepth 20000 in
theorem gL_areBoxes_X3_boxAt : GoodIn wsL_areBoxes (wsV RL 8 RX3 yX3_boxAt wsX3_boxAt) := goodIn_app (goodIn_of _ (by decide +kernel)) ggL_areBoxes_X3_boxAt
set_option maxRecDepth 20000 in
theorem ggL_areBoxes_X3_spotOf : GoodIn wsL_areBoxes wsX3_spotOf := goodIn_ca (goodIn_r _ [35, 6, 36, 37, 38, 4, 39, 11, 12, 40, 41, 42, 28, 43, 30, 44, 45, 46, 47, 48, 49, 31, 50, 88, 89, 90, 91, 92, 93, 94, 95, 96, 97] (by decide +kernel) (by decide +kernel)) (goodIn_sub (fun _ h => List.mem_cons_of_mem _ (List.mem_append_right _ h)) (by decide +kernel))
set_option maxRecDepth 20000 in
theorem gL_areBoxes_X3_spotOf : GoodIn wsL_areBoxes (wsV RL 14 RX3 yX3_spotOf wsX3_spotOf) := goodIn_app (goodIn_of _ (by decide +kernel)) ggL_areBoxes_X3_spotOf
set_option maxRecDepth 20000 in
theorem ggL_areBoxes_X3_weight : GoodIn wsL_areBoxes wsX3_weight := goodIn_ca (goodIn_r _ [54, 6, 55, 56, 57, 4, 58, 11, 12, 59, 44, 45, 60, 61, 62, 28, 63, 30, 64, 65, 66, 67, 68, 69, 47, 48, 49, 31, 50, 41, 42, 43, 17, 18, 88, 89, 90, 91, 92, 93, 94, 95, 96, 97] (by decide +kernel) (by decide +kernel)) (goodIn_sub (fun _ h => List.mem_cons_of_mem _ (List.mem_append_right _ h)) (by decide +kernel))
set_option maxRecDepth 20000 in
theorem gL_areBoxes_X3_weight : GoodIn wsL_areBoxes (wsV RL 17 RX3 yX3_weight wsX3_weight) := goodIn_app (goodIn_of _ (by decide +kernel)) ggL_areBoxes_X3_weight
set_option maxRecDepth 20000 in
theorem ggL_areBoxes_X3_wrong : GoodIn wsL_areBoxes wsX3_wrong := goodIn_r _ [73, 6, 74, 75, 76, 28, 77, 30, 78, 79, 80, 81, 82, 69, 47, 48, 49, 31, 50, 41, 42, 43, 44, 4, 45, 17, 18, 83, 84, 85, 86, 87, 88, 89, 90, 91, 92, 93, 94, 95, 96, 97] (by decide +kernel) (by decide +kernel)
set_option maxRecDepth 20000 in
theorem gL_areBoxes_X3_wrong : GoodIn wsL_areBoxes (wsV RL 20 RX3 yX3_wrong wsX3_wrong) := goodIn_app (goodIn_of _ (by decide +kernel)) ggL_areBoxes_X3_wrong
theorem dL_areBoxes_0 : decode cL_areBoxes 0 = .ok (.iconst 0, 1) := by decide +kernel
theorem dL_areBoxes_1 : decode cL_areBoxes 1 = .ok (.istore 5, 2) := by decide +kernel
theorem dL_areBoxes_3 : decode cL_areBoxes 3 = .ok (.iconst 0, 1) := by decide +kernel
theorem dL_areBoxes_4 : decode cL_areBoxes 4 = .ok (.istore 6, 2) := by decide +kernel
theorem dL_areBoxes_6 : decode cL_areBoxes 6 = .ok (.iconst 1, 1) := by decide +kernel
theorem dL_areBoxes_7 : decode cL_areBoxes 7 = .ok (.istore 7, 2) := by decide +kernel
theorem dL_areBoxes_9 : decode cL_areBoxes 9 = .ok (.iconst 0, 1) := by decide +kernel
theorem dL_areBoxes_10 : decode cL_areBoxes 10 = .ok (.istore 8, 2) := by decide +kernel
theorem dL_areBoxes_12 : decode cL_areBoxes 12 = .ok (.iload 8, 2) := by decide +kernel
theorem dL_areBoxes_14 : decode cL_areBoxes 14 = .ok (.bipush 6, 2) := by decide +kernel
theorem dL_areBoxes_16 : decode cL_areBoxes 16 = .ok (.if_icmp .ge 152, 3) := by decide +kernel
theorem dL_areBoxes_19 : decode cL_areBoxes 19 = .ok (.iload 7, 2) := by decide +kernel
theorem dL_areBoxes_21 : decode cL_areBoxes 21 = .ok (.ifCond .eq 147, 3) := by decide +kernel
theorem dL_areBoxes_24 : decode cL_areBoxes 24 = .ok (.iconst 0, 1) := by decide +kernel
theorem dL_areBoxes_25 : decode cL_areBoxes 25 = .ok (.istore 9, 2) := by decide +kernel
theorem dL_areBoxes_27 : decode cL_areBoxes 27 = .ok (.iconst 0, 1) := by decide +kernel
theorem dL_areBoxes_28 : decode cL_areBoxes 28 = .ok (.istore 10, 2) := by decide +kernel
theorem dL_areBoxes_30 : decode cL_areBoxes 30 = .ok (.iload 10, 2) := by decide +kernel
theorem dL_areBoxes_32 : decode cL_areBoxes 32 = .ok (.bipush 6, 2) := by decide +kernel
theorem dL_areBoxes_34 : decode cL_areBoxes 34 = .ok (.if_icmp .ge 105, 3) := by decide +kernel
theorem dL_areBoxes_37 : decode cL_areBoxes 37 = .ok (.iload 7, 2) := by decide +kernel
theorem dL_areBoxes_39 : decode cL_areBoxes 39 = .ok (.ifCond .eq 100, 3) := by decide +kernel
theorem dL_areBoxes_42 : decode cL_areBoxes 42 = .ok (.bipush 100, 2) := by decide +kernel
theorem dL_areBoxes_44 : decode cL_areBoxes 44 = .ok (.iload 8, 2) := by decide +kernel
theorem dL_areBoxes_46 : decode cL_areBoxes 46 = .ok (.imul, 1) := by decide +kernel
theorem dL_areBoxes_47 : decode cL_areBoxes 47 = .ok (.bipush 10, 2) := by decide +kernel
theorem dL_areBoxes_49 : decode cL_areBoxes 49 = .ok (.iload 10, 2) := by decide +kernel
theorem dL_areBoxes_51 : decode cL_areBoxes 51 = .ok (.iconst 3, 1) := by decide +kernel
theorem dL_areBoxes_52 : decode cL_areBoxes 52 = .ok (.idiv, 1) := by decide +kernel
theorem dL_areBoxes_53 : decode cL_areBoxes 53 = .ok (.imul, 1) := by decide +kernel
theorem dL_areBoxes_54 : decode cL_areBoxes 54 = .ok (.iadd, 1) := by decide +kernel
theorem dL_areBoxes_55 : decode cL_areBoxes 55 = .ok (.iload 10, 2) := by decide +kernel
theorem dL_areBoxes_57 : decode cL_areBoxes 57 = .ok (.iconst 3, 1) := by decide +kernel
theorem dL_areBoxes_58 : decode cL_areBoxes 58 = .ok (.irem, 1) := by decide +kernel
theorem dL_areBoxes_59 : decode cL_areBoxes 59 = .ok (.iadd, 1) := by decide +kernel
theorem dL_areBoxes_60 : decode cL_areBoxes 60 = .ok (.istore 11, 2) := by decide +kernel
theorem dL_areBoxes_62 : decode cL_areBoxes 62 = .ok (.aload_n 0, 1) := by decide +kernel
theorem dL_areBoxes_63 : decode cL_areBoxes 63 = .ok (.iload 11, 2) := by decide +kernel
theorem dL_areBoxes_65 : decode cL_areBoxes 65 = .ok (.invokevirtual 8, 3) := by decide +kernel
theorem dL_areBoxes_68 : decode cL_areBoxes 68 = .ok (.istore 12, 2) := by decide +kernel
theorem dL_areBoxes_70 : decode cL_areBoxes 70 = .ok (.iload 12, 2) := by decide +kernel
theorem dL_areBoxes_72 : decode cL_areBoxes 72 = .ok (.ifCond .lt 61, 3) := by decide +kernel
theorem dL_areBoxes_75 : decode cL_areBoxes 75 = .ok (.iload 9, 2) := by decide +kernel
theorem dL_areBoxes_77 : decode cL_areBoxes 77 = .ok (.aload_n 2, 1) := by decide +kernel
theorem dL_areBoxes_78 : decode cL_areBoxes 78 = .ok (.iload 12, 2) := by decide +kernel
theorem dL_areBoxes_80 : decode cL_areBoxes 80 = .ok (.iaload, 1) := by decide +kernel
theorem dL_areBoxes_81 : decode cL_areBoxes 81 = .ok (.iadd, 1) := by decide +kernel
theorem dL_areBoxes_82 : decode cL_areBoxes 82 = .ok (.istore 9, 2) := by decide +kernel
theorem dL_areBoxes_84 : decode cL_areBoxes 84 = .ok (.iinc 5 1, 3) := by decide +kernel
theorem dL_areBoxes_87 : decode cL_areBoxes 87 = .ok (.iload 6, 2) := by decide +kernel
theorem dL_areBoxes_89 : decode cL_areBoxes 89 = .ok (.aload_n 1, 1) := by decide +kernel
theorem dL_areBoxes_90 : decode cL_areBoxes 90 = .ok (.iload 12, 2) := by decide +kernel
theorem dL_areBoxes_92 : decode cL_areBoxes 92 = .ok (.iaload, 1) := by decide +kernel
theorem dL_areBoxes_93 : decode cL_areBoxes 93 = .ok (.aload_n 3, 1) := by decide +kernel
theorem dL_areBoxes_94 : decode cL_areBoxes 94 = .ok (.iload 8, 2) := by decide +kernel
theorem dL_areBoxes_96 : decode cL_areBoxes 96 = .ok (.iaload, 1) := by decide +kernel
theorem dL_areBoxes_97 : decode cL_areBoxes 97 = .ok (.if_icmp .ne 7, 3) := by decide +kernel
theorem dL_areBoxes_100 : decode cL_areBoxes 100 = .ok (.iconst 0, 1) := by decide +kernel
theorem dL_areBoxes_101 : decode cL_areBoxes 101 = .ok (.goto 4, 3) := by decide +kernel
theorem dL_areBoxes_104 : decode cL_areBoxes 104 = .ok (.iconst 1, 1) := by decide +kernel
theorem dL_areBoxes_105 : decode cL_areBoxes 105 = .ok (.iadd, 1) := by decide +kernel
theorem dL_areBoxes_106 : decode cL_areBoxes 106 = .ok (.istore 6, 2) := by decide +kernel
theorem dL_areBoxes_108 : decode cL_areBoxes 108 = .ok (.iload 12, 2) := by decide +kernel
theorem dL_areBoxes_110 : decode cL_areBoxes 110 = .ok (.iload 4, 2) := by decide +kernel
theorem dL_areBoxes_112 : decode cL_areBoxes 112 = .ok (.if_icmp .ge 18, 3) := by decide +kernel
theorem dL_areBoxes_115 : decode cL_areBoxes 115 = .ok (.aload_n 0, 1) := by decide +kernel
theorem dL_areBoxes_116 : decode cL_areBoxes 116 = .ok (.iload 12, 2) := by decide +kernel
theorem dL_areBoxes_118 : decode cL_areBoxes 118 = .ok (.invokevirtual 14, 3) := by decide +kernel
theorem dL_areBoxes_121 : decode cL_areBoxes 121 = .ok (.iload 11, 2) := by decide +kernel
theorem dL_areBoxes_123 : decode cL_areBoxes 123 = .ok (.if_icmp .ne 7, 3) := by decide +kernel
theorem dL_areBoxes_126 : decode cL_areBoxes 126 = .ok (.iconst 1, 1) := by decide +kernel
theorem dL_areBoxes_127 : decode cL_areBoxes 127 = .ok (.goto 4, 3) := by decide +kernel
theorem dL_areBoxes_130 : decode cL_areBoxes 130 = .ok (.iconst 0, 1) := by decide +kernel
theorem dL_areBoxes_131 : decode cL_areBoxes 131 = .ok (.istore 7, 2) := by decide +kernel
theorem dL_areBoxes_133 : decode cL_areBoxes 133 = .ok (.iinc 10 1, 3) := by decide +kernel
theorem dL_areBoxes_136 : decode cL_areBoxes 136 = .ok (.goto (-106), 3) := by decide +kernel
theorem dL_areBoxes_139 : decode cL_areBoxes 139 = .ok (.iload 7, 2) := by decide +kernel
theorem dL_areBoxes_141 : decode cL_areBoxes 141 = .ok (.ifCond .eq 18, 3) := by decide +kernel
theorem dL_areBoxes_144 : decode cL_areBoxes 144 = .ok (.aload_n 0, 1) := by decide +kernel
theorem dL_areBoxes_145 : decode cL_areBoxes 145 = .ok (.iload 8, 2) := by decide +kernel
theorem dL_areBoxes_147 : decode cL_areBoxes 147 = .ok (.invokevirtual 17, 3) := by decide +kernel
theorem dL_areBoxes_150 : decode cL_areBoxes 150 = .ok (.iload 9, 2) := by decide +kernel
theorem dL_areBoxes_152 : decode cL_areBoxes 152 = .ok (.if_icmp .ne 7, 3) := by decide +kernel
theorem dL_areBoxes_155 : decode cL_areBoxes 155 = .ok (.iconst 1, 1) := by decide +kernel
theorem dL_areBoxes_156 : decode cL_areBoxes 156 = .ok (.goto 4, 3) := by decide +kernel
theorem dL_areBoxes_159 : decode cL_areBoxes 159 = .ok (.iconst 0, 1) := by decide +kernel
theorem dL_areBoxes_160 : decode cL_areBoxes 160 = .ok (.istore 7, 2) := by decide +kernel
theorem dL_areBoxes_162 : decode cL_areBoxes 162 = .ok (.iinc 8 1, 3) := by decide +kernel
theorem dL_areBoxes_165 : decode cL_areBoxes 165 = .ok (.goto (-153), 3) := by decide +kernel
theorem dL_areBoxes_168 : decode cL_areBoxes 168 = .ok (.iconst 0, 1) := by decide +kernel
theorem dL_areBoxes_169 : decode cL_areBoxes 169 = .ok (.istore 8, 2) := by decide +kernel
theorem dL_areBoxes_171 : decode cL_areBoxes 171 = .ok (.iload 8, 2) := by decide +kernel
theorem dL_areBoxes_173 : decode cL_areBoxes 173 = .ok (.iload 4, 2) := by decide +kernel
theorem dL_areBoxes_175 : decode cL_areBoxes 175 = .ok (.if_icmp .ge 28, 3) := by decide +kernel
theorem dL_areBoxes_178 : decode cL_areBoxes 178 = .ok (.iload 5, 2) := by decide +kernel
theorem dL_areBoxes_180 : decode cL_areBoxes 180 = .ok (.aload_n 0, 1) := by decide +kernel
theorem dL_areBoxes_181 : decode cL_areBoxes 181 = .ok (.iload 8, 2) := by decide +kernel
theorem dL_areBoxes_183 : decode cL_areBoxes 183 = .ok (.invokevirtual 14, 3) := by decide +kernel
theorem dL_areBoxes_186 : decode cL_areBoxes 186 = .ok (.ifCond .lt 7, 3) := by decide +kernel
theorem dL_areBoxes_189 : decode cL_areBoxes 189 = .ok (.iconst 1, 1) := by decide +kernel
theorem dL_areBoxes_190 : decode cL_areBoxes 190 = .ok (.goto 4, 3) := by decide +kernel
theorem dL_areBoxes_193 : decode cL_areBoxes 193 = .ok (.iconst 0, 1) := by decide +kernel
theorem dL_areBoxes_194 : decode cL_areBoxes 194 = .ok (.isub, 1) := by decide +kernel
theorem dL_areBoxes_195 : decode cL_areBoxes 195 = .ok (.istore 5, 2) := by decide +kernel
theorem dL_areBoxes_197 : decode cL_areBoxes 197 = .ok (.iinc 8 1, 3) := by decide +kernel
theorem dL_areBoxes_200 : decode cL_areBoxes 200 = .ok (.goto (-29), 3) := by decide +kernel
theorem dL_areBoxes_203 : decode cL_areBoxes 203 = .ok (.iload 7, 2) := by decide +kernel
theorem dL_areBoxes_205 : decode cL_areBoxes 205 = .ok (.ifCond .eq 21, 3) := by decide +kernel
theorem dL_areBoxes_208 : decode cL_areBoxes 208 = .ok (.iload 5, 2) := by decide +kernel
theorem dL_areBoxes_210 : decode cL_areBoxes 210 = .ok (.ifCond .ne 16, 3) := by decide +kernel
theorem dL_areBoxes_213 : decode cL_areBoxes 213 = .ok (.aload_n 0, 1) := by decide +kernel
theorem dL_areBoxes_214 : decode cL_areBoxes 214 = .ok (.invokevirtual 20, 3) := by decide +kernel
theorem dL_areBoxes_217 : decode cL_areBoxes 217 = .ok (.iload 6, 2) := by decide +kernel
theorem dL_areBoxes_219 : decode cL_areBoxes 219 = .ok (.if_icmp .ne 7, 3) := by decide +kernel
theorem dL_areBoxes_222 : decode cL_areBoxes 222 = .ok (.iconst 1, 1) := by decide +kernel
theorem dL_areBoxes_223 : decode cL_areBoxes 223 = .ok (.goto 4, 3) := by decide +kernel
theorem dL_areBoxes_226 : decode cL_areBoxes 226 = .ok (.iconst 0, 1) := by decide +kernel
theorem dL_areBoxes_227 : decode cL_areBoxes 227 = .ok (.ireturn, 1) := by decide +kernel
set_option maxRecDepth 20000 in
theorem ggL_isOpen_X3_nextAisle : GoodIn wsL_isOpen wsX3_nextAisle := goodIn_r _ [5, 6, 7, 8, 9, 10, 11, 12, 13, 14, 15, 16, 17, 18, 19, 20, 21, 22, 23, 24, 25, 26, 27, 28, 29, 30, 31, 32, 4, 33, 34, 35, 36, 37, 38, 39, 40, 41, 42, 43, 44, 45, 46, 76, 77, 78, 79, 80, 81, 82, 83, 84, 85, 86, 87, 88, 89, 90] (by decide +kernel) (by decide +kernel)
set_option maxRecDepth 20000 in
theorem gL_isOpen_X3_nextAisle : GoodIn wsL_isOpen (wsV RL 24 RX3 yX3_nextAisle wsX3_nextAisle) := goodIn_app (goodIn_of _ (by decide +kernel)) ggL_isOpen_X3_nextAisle
set_option maxRecDepth 20000 in
theorem ggL_isOpen_X3_opened : GoodIn wsL_isOpen wsX3_opened := goodIn_r _ [50, 51, 52, 53, 54, 55, 56, 57, 58, 76, 77, 78, 79, 91, 92, 93, 94, 95, 96, 97] (by decide +kernel) (by decide +kernel)
set_option maxRecDepth 20000 in
theorem gL_isOpen_X3_opened : GoodIn wsL_isOpen (wsV RL 27 RX3 yX3_opened wsX3_opened) := goodIn_app (goodIn_of _ (by decide +kernel)) ggL_isOpen_X3_opened
set_option maxRecDepth 20000 in
theorem ggL_isOpen_X3_openedByMoves : GoodIn wsL_isOpen wsX3_openedByMoves := goodIn_r _ [62, 51, 63, 64, 65, 55, 66, 67, 58, 76, 77, 78, 79, 91, 92, 93, 94, 95, 96, 97] (by decide +kernel) (by decide +kernel)
set_option maxRecDepth 20000 in
theorem gL_isOpen_X3_openedByMoves : GoodIn wsL_isOpen (wsV RL 30 RX3 yX3_openedByMoves wsX3_openedByMoves) := goodIn_app (goodIn_of _ (by decide +kernel)) ggL_isOpen_X3_openedByMoves
set_option maxRecDepth 20000 in
theorem ggL_isOpen_X3_waiting : GoodIn wsL_isOpen wsX3_waiting := goodIn_r _ [71, 6, 72, 73, 74, 11, 75, 13, 15, 76, 77, 78, 79, 80, 81, 82, 83, 84] (by decide +kernel) (by decide +kernel)
set_option maxRecDepth 20000 in
theorem gL_isOpen_X3_waiting : GoodIn wsL_isOpen (wsV RL 33 RX3 yX3_waiting wsX3_waiting) := goodIn_app (goodIn_of _ (by decide +kernel)) ggL_isOpen_X3_waiting
theorem dL_isOpen_0 : decode cL_isOpen 0 = .ok (.aload_n 0, 1) := by decide +kernel
theorem dL_isOpen_1 : decode cL_isOpen 1 = .ok (.invokevirtual 24, 3) := by decide +kernel
theorem dL_isOpen_4 : decode cL_isOpen 4 = .ok (.istore_n 2, 1) := by decide +kernel
theorem dL_isOpen_5 : decode cL_isOpen 5 = .ok (.aload_n 0, 1) := by decide +kernel
theorem dL_isOpen_6 : decode cL_isOpen 6 = .ok (.invokevirtual 27, 3) := by decide +kernel
theorem dL_isOpen_9 : decode cL_isOpen 9 = .ok (.aload_n 0, 1) := by decide +kernel
theorem dL_isOpen_10 : decode cL_isOpen 10 = .ok (.invokevirtual 30, 3) := by decide +kernel
theorem dL_isOpen_13 : decode cL_isOpen 13 = .ok (.if_icmp .ne 35, 3) := by decide +kernel
theorem dL_isOpen_16 : decode cL_isOpen 16 = .ok (.iload_n 2, 1) := by decide +kernel
theorem dL_isOpen_17 : decode cL_isOpen 17 = .ok (.iconst (-1), 1) := by decide +kernel
theorem dL_isOpen_18 : decode cL_isOpen 18 = .ok (.if_icmp .lt 30, 3) := by decide +kernel
theorem dL_isOpen_21 : decode cL_isOpen 21 = .ok (.iload_n 2, 1) := by decide +kernel
theorem dL_isOpen_22 : decode cL_isOpen 22 = .ok (.bipush 6, 2) := by decide +kernel
theorem dL_isOpen_24 : decode cL_isOpen 24 = .ok (.if_icmp .gt 24, 3) := by decide +kernel
theorem dL_isOpen_27 : decode cL_isOpen 27 = .ok (.iload_n 1, 1) := by decide +kernel
theorem dL_isOpen_28 : decode cL_isOpen 28 = .ok (.ifCond .gt 8, 3) := by decide +kernel
theorem dL_isOpen_31 : decode cL_isOpen 31 = .ok (.iload_n 2, 1) := by decide +kernel
theorem dL_isOpen_32 : decode cL_isOpen 32 = .ok (.iconst (-1), 1) := by decide +kernel
theorem dL_isOpen_33 : decode cL_isOpen 33 = .ok (.if_icmp .ne 15, 3) := by decide +kernel
theorem dL_isOpen_36 : decode cL_isOpen 36 = .ok (.aload_n 0, 1) := by decide +kernel
theorem dL_isOpen_37 : decode cL_isOpen 37 = .ok (.invokevirtual 33, 3) := by decide +kernel
theorem dL_isOpen_40 : decode cL_isOpen 40 = .ok (.iload_n 1, 1) := by decide +kernel
theorem dL_isOpen_41 : decode cL_isOpen 41 = .ok (.if_icmp .ne 7, 3) := by decide +kernel
theorem dL_isOpen_44 : decode cL_isOpen 44 = .ok (.iconst 1, 1) := by decide +kernel
theorem dL_isOpen_45 : decode cL_isOpen 45 = .ok (.goto 4, 3) := by decide +kernel
theorem dL_isOpen_48 : decode cL_isOpen 48 = .ok (.iconst 0, 1) := by decide +kernel
theorem dL_isOpen_49 : decode cL_isOpen 49 = .ok (.ireturn, 1) := by decide +kernel
