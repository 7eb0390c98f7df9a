set_option maxRecDepth 20000 in
theorem ggL_law_X3_init : GoodIn wsL_law wsX3_init := goodIn_r _ [6, 7, 8, 9, 10, 11, 12, 13, 14, 15, 16, 17, 18, 19, 20, 21, 22, 23, 24, 25, 3, 26, 27, 28, 29, 30, 31, 32, 33, 34, 35, 36, 37, 38, 39, 40, 41, 42, 43, 44, 45, 46, 47, 48, 49, 50, 393, 394, 395, 396, 397, 398, 389, 390, 391, 392, 399, 400, 401, 402, 403, 404, 405, 406, 407, 408, 409, 410] (by decide +kernel) (by decide +kernel)
set_option maxRecDepth 20000 in
theorem gL_law_X3_init : GoodIn wsL_law (wsX3_init) := ggL_law_X3_init
set_option maxRecDepth 20000 in
theorem ggL_law_L_cell : GoodIn wsL_law wsL_cell := goodIn_r _ [54] (by decide +kernel) (by decide +kernel)
set_option maxRecDepth 20000 in
theorem gL_law_L_cell : GoodIn wsL_law (va_wsS RL 37 yL_cell wsL_cell) := goodIn_app (goodIn_of _ (by decide +kernel)) ggL_law_L_cell
set_option maxRecDepth 20000 in
theorem ggL_law_L_low : GoodIn wsL_law wsL_low := goodIn_r _ [57, 58] (by decide +kernel) (by decide +kernel)
set_option maxRecDepth 20000 in
theorem gL_law_L_low : GoodIn wsL_law (va_wsS RL 43 yL_low wsL_low) := goodIn_app (goodIn_of _ (by decide +kernel)) ggL_law_L_low
set_option maxRecDepth 20000 in
theorem ggL_law_X3_addBox : GoodIn wsL_law wsX3_addBox := goodIn_ca (goodIn_ca (goodIn_r _ [62, 63, 64, 65, 66, 13, 67, 68, 2, 69, 70, 71, 72, 12, 73, 31, 74, 75, 76, 77, 27, 28, 29, 30, 78, 389, 390, 391, 392, 393, 394, 395, 396, 397, 398] (by decide +kernel) (by decide +kernel)) (goodIn_sub (fun _ h => List.mem_append_left _ (List.mem_append_left _ (List.mem_append_right _ h))) (by decide +kernel))) (goodIn_sub (fun _ h => List.mem_append_left _ (List.mem_append_right _ h)) (by decide +kernel))
set_option maxRecDepth 20000 in
theorem gL_law_X3_addBox : GoodIn wsL_law (wsV RL 47 RX3 yX3_addBox wsX3_addBox) := goodIn_app (goodIn_of _ (by decide +kernel)) ggL_law_X3_addBox
set_option maxRecDepth 20000 in
theorem ggL_law_X3_spotOf : GoodIn wsL_law wsX3_spotOf := goodIn_ca (goodIn_r _ [82, 13, 83, 84, 85, 2, 86, 87, 88, 89, 90, 91, 12, 92, 31, 68, 69, 93, 94, 95, 96, 30, 97, 389, 390, 391, 392, 393, 394, 395, 396, 397, 398] (by decide +kernel) (by decide +kernel)) (goodIn_sub (fun _ h => List.mem_append_right _ h) (by decide +kernel))
set_option maxRecDepth 20000 in
theorem gL_law_X3_spotOf : GoodIn wsL_law (wsV RL 14 RX3 yX3_spotOf wsX3_spotOf) := goodIn_app (goodIn_of _ (by decide +kernel)) ggL_law_X3_spotOf
set_option maxRecDepth 20000 in
theorem ggL_law_X3_bestSpot : GoodIn wsL_law wsX3_bestSpot := goodIn_ca (goodIn_ca (goodIn_r _ [101, 13, 83, 84, 85, 2, 86, 87, 88, 89, 90, 91, 12, 92, 31, 68, 69, 102, 103, 104, 105, 65, 66, 93, 94, 95, 96, 30, 97, 106, 107, 108, 109, 26, 27, 28, 29, 110, 111, 112, 113, 114, 115, 116, 117, 118, 119, 120, 121, 122, 123, 124, 125, 126, 127, 128, 129, 130, 131, 132, 133, 134, 389, 390, 391, 392, 393, 394, 395, 396, 397, 398] (by decide +kernel) (by decide +kernel)) (goodIn_sub (fun _ h => List.mem_append_right _ h) (by decide +kernel))) (goodIn_sub (fun _ h => List.mem_append_left _ (List.mem_append_right _ h)) (by decide +kernel))
set_option maxRecDepth 20000 in
theorem gL_law_X3_bestSpot : GoodIn wsL_law (wsV RL 51 RX3 yX3_bestSpot wsX3_bestSpot) := goodIn_app (goodIn_of _ (by decide +kernel)) ggL_law_X3_bestSpot
set_option maxRecDepth 20000 in
theorem ggL_law_X3_weight : GoodIn wsL_law wsX3_weight := goodIn_ca (goodIn_r _ [138, 13, 139, 140, 141, 2, 142, 87, 88, 67, 68, 69, 143, 111, 112, 12, 113, 31, 28, 114, 115, 116, 117, 118, 94, 95, 96, 30, 97, 90, 91, 92, 119, 120, 389, 390, 391, 392, 393, 394, 395, 396, 397, 398] (by decide +kernel) (by decide +kernel)) (goodIn_sub (fun _ h => List.mem_append_right _ h) (by decide +kernel))
set_option maxRecDepth 20000 in
theorem gL_law_X3_weight : GoodIn wsL_law (wsV RL 17 RX3 yX3_weight wsX3_weight) := goodIn_app (goodIn_of _ (by decide +kernel)) ggL_law_X3_weight
set_option maxRecDepth 20000 in
theorem ggL_law_X3_lay : GoodIn wsL_law wsX3_lay := goodIn_ca (goodIn_ca (goodIn_r _ [147, 65, 66, 13, 83, 84, 85, 2, 86, 87, 88, 89, 90, 91, 12, 92, 31, 68, 69, 102, 103, 104, 105, 93, 94, 95, 96, 30, 97, 106, 107, 108, 109, 26, 27, 28, 29, 110, 111, 112, 113, 114, 115, 116, 117, 118, 119, 120, 121, 122, 123, 124, 125, 126, 127, 128, 129, 130, 131, 132, 133, 134, 148, 149, 150, 151, 389, 390, 391, 392, 393, 394, 395, 396, 397, 398] (by decide +kernel) (by decide +kernel)) (goodIn_sub (fun _ h => List.mem_append_left _ (List.mem_append_right _ h)) (by decide +kernel))) (goodIn_sub (fun _ h => List.mem_append_right _ h) (by decide +kernel))
set_option maxRecDepth 20000 in
theorem gL_law_X3_lay : GoodIn wsL_law (wsV RL 54 RX3 yX3_lay wsX3_lay) := goodIn_app (goodIn_of _ (by decide +kernel)) ggL_law_X3_lay
set_option maxRecDepth 20000 in
theorem ggL_law_X3_setClimate : GoodIn wsL_law wsX3_setClimate := goodIn_ca (goodIn_ca (goodIn_r _ [155, 63, 64, 13, 139, 140, 141, 2, 142, 87, 88, 67, 68, 69, 156, 157, 158, 12, 159, 26, 160, 161, 162, 163, 389, 390, 391, 392, 393, 394, 395, 396, 397, 398] (by decide +kernel) (by decide +kernel)) (goodIn_sub (fun _ h => List.mem_append_left _ (List.mem_append_left _ (List.mem_append_right _ h))) (by decide +kernel))) (goodIn_sub (fun _ h => List.mem_append_right _ h) (by decide +kernel))
set_option maxRecDepth 20000 in
theorem gL_law_X3_setClimate : GoodIn wsL_law (wsV RL 57 RX3 yX3_setClimate wsX3_setClimate) := goodIn_app (goodIn_of _ (by decide +kernel)) ggL_law_X3_setClimate
set_option maxRecDepth 20000 in
theorem ggL_law_X3_order : GoodIn wsL_law wsX3_order := goodIn_ca (goodIn_ca (goodIn_ca (goodIn_r _ [167, 63, 64, 65, 66, 21, 83, 84, 85, 2, 86, 87, 88, 13, 89, 90, 91, 12, 92, 31, 68, 69, 168, 169, 170, 20, 171, 49, 48, 46, 172, 173, 174, 175, 176, 177, 178, 179, 47, 180, 389, 390, 391, 392, 393, 394, 395, 396, 397, 398, 406, 407, 408, 409, 410] (by decide +kernel) (by decide +kernel)) (goodIn_sub (fun _ h => List.mem_append_left _ (List.mem_append_left _ (List.mem_append_right _ h))) (by decide +kernel))) (goodIn_sub (fun _ h => List.mem_append_left _ (List.mem_append_right _ h)) (by decide +kernel))) (goodIn_sub (fun _ h => List.mem_append_right _ h) (by decide +kernel))
set_option maxRecDepth 20000 in
theorem gL_law_X3_order : GoodIn wsL_law (wsV RL 60 RX3 yX3_order wsX3_order) := goodIn_app (goodIn_of _ (by decide +kernel)) ggL_law_X3_order
set_option maxRecDepth 20000 in
theorem ggL_law_X3_nextAisle : GoodIn wsL_law wsX3_nextAisle := goodIn_r _ [184, 21, 13, 185, 186, 187, 20, 188, 49, 46, 48, 47, 189, 190, 191, 12, 192, 118, 94, 95, 96, 30, 97, 90, 91, 92, 31, 68, 2, 69, 193, 194, 195, 119, 120, 196, 197, 198, 199, 200, 201, 202, 203, 389, 390, 391, 392, 406, 407, 408, 409, 410, 393, 394, 395, 396, 397, 398] (by decide +kernel) (by decide +kernel)
set_option maxRecDepth 20000 in
theorem gL_law_X3_nextAisle : GoodIn wsL_law (wsV RL 24 RX3 yX3_nextAisle wsX3_nextAisle) := goodIn_app (goodIn_of _ (by decide +kernel)) ggL_law_X3_nextAisle
set_option maxRecDepth 20000 in
theorem ggL_law_X3_opened : GoodIn wsL_law wsX3_opened := goodIn_r _ [207, 17, 208, 209, 210, 16, 211, 39, 40, 389, 390, 391, 392, 399, 400, 401, 402, 403, 404, 405] (by decide +kernel) (by decide +kernel)
set_option maxRecDepth 20000 in
theorem gL_law_X3_opened : GoodIn wsL_law (wsV RL 27 RX3 yX3_opened wsX3_opened) := goodIn_app (goodIn_of _ (by decide +kernel)) ggL_law_X3_opened
set_option maxRecDepth 20000 in
theorem ggL_law_X3_look : GoodIn wsL_law wsX3_look := goodIn_ca (goodIn_r _ [215, 65, 66, 17, 208, 209, 210, 16, 211, 39, 40, 216, 217, 218, 219, 36, 68, 2, 69, 220, 221, 222, 223, 389, 390, 391, 392, 399, 400, 401, 402, 403, 404, 405] (by decide +kernel) (by decide +kernel)) (goodIn_sub (fun _ h => List.mem_append_left _ (List.mem_append_right _ h)) (by decide +kernel))
set_option maxRecDepth 20000 in
theorem gL_law_X3_look : GoodIn wsL_law (wsV RL 63 RX3 yX3_look wsX3_look) := goodIn_app (goodIn_of _ (by decide +kernel)) ggL_law_X3_look
set_option maxRecDepth 20000 in
theorem ggL_law_X3_open : GoodIn wsL_law wsX3_open := goodIn_ca (goodIn_ca (goodIn_r _ [227, 65, 66, 17, 228, 229, 230, 2, 231, 87, 88, 67, 68, 69, 232, 233, 234, 16, 235, 41, 42, 236, 209, 210, 211, 39, 40, 237, 238, 239, 240, 37, 241, 217, 218, 219, 36, 242, 243, 244, 245, 246, 247, 248, 249, 250, 251, 252, 253, 389, 390, 391, 392, 399, 400, 401, 402, 403, 404, 405] (by decide +kernel) (by decide +kernel)) (goodIn_sub (fun _ h => List.mem_append_left _ (List.mem_append_right _ h)) (by decide +kernel))) (goodIn_sub (fun _ h => List.mem_append_right _ h) (by decide +kernel))
set_option maxRecDepth 20000 in
theorem gL_law_X3_open : GoodIn wsL_law (wsV RL 67 RX3 yX3_open wsX3_open) := goodIn_app (goodIn_of _ (by decide +kernel)) ggL_law_X3_open
set_option maxRecDepth 20000 in
theorem ggL_law_X3_pass : GoodIn wsL_law wsX3_pass := goodIn_ca (goodIn_ca (goodIn_r _ [257, 63, 64, 65, 66, 22, 17, 258, 259, 260, 16, 261, 41, 42, 262, 263, 252, 264, 265, 247, 248, 249, 40, 39, 250, 251, 253, 266, 267, 268, 269, 38, 68, 2, 69, 389, 390, 391, 392, 399, 400, 401, 402, 403, 404, 405] (by decide +kernel) (by decide +kernel)) (goodIn_sub (fun _ h => List.mem_append_left _ (List.mem_append_left _ (List.mem_append_right _ h))) (by decide +kernel))) (goodIn_sub (fun _ h => List.mem_append_left _ (List.mem_append_right _ h)) (by decide +kernel))
set_option maxRecDepth 20000 in
theorem gL_law_X3_pass : GoodIn wsL_law (wsV RL 70 RX3 yX3_pass wsX3_pass) := goodIn_app (goodIn_of _ (by decide +kernel)) ggL_law_X3_pass
set_option maxRecDepth 20000 in
theorem ggL_law_X3_goIn : GoodIn wsL_law wsX3_goIn := goodIn_ca (goodIn_ca (goodIn_r _ [273, 65, 66, 17, 274, 275, 276, 2, 277, 87, 88, 67, 68, 69, 278, 279, 280, 16, 281, 37, 282, 283, 284, 285, 42, 236, 209, 210, 211, 39, 40, 286, 287, 288, 289, 290, 238, 239, 240, 389, 390, 391, 392, 399, 400, 401, 402, 403, 404, 405] (by decide +kernel) (by decide +kernel)) (goodIn_sub (fun _ h => List.mem_append_left _ (List.mem_append_right _ h)) (by decide +kernel))) (goodIn_sub (fun _ h => List.mem_append_right _ h) (by decide +kernel))
set_option maxRecDepth 20000 in
theorem gL_law_X3_goIn : GoodIn wsL_law (wsV RL 73 RX3 yX3_goIn wsX3_goIn) := goodIn_app (goodIn_of _ (by decide +kernel)) ggL_law_X3_goIn
set_option maxRecDepth 20000 in
theorem ggL_law_X3_late : GoodIn wsL_law wsX3_late := goodIn_r _ [294, 21, 295, 296, 297, 20, 298, 50, 389, 390, 391, 392, 406, 407, 408, 409, 410] (by decide +kernel) (by decide +kernel)
set_option maxRecDepth 20000 in
theorem gL_law_X3_late : GoodIn wsL_law (wsV RL 76 RX3 yX3_late wsX3_late) := goodIn_app (goodIn_of _ (by decide +kernel)) ggL_law_X3_late
set_option maxRecDepth 20000 in
theorem ggL_law_X3_fetch : GoodIn wsL_law wsX3_fetch := goodIn_ca (goodIn_ca (goodIn_r _ [302, 65, 66, 21, 13, 17, 22, 274, 275, 276, 2, 277, 87, 88, 67, 68, 69, 303, 304, 305, 306, 278, 279, 280, 16, 281, 37, 208, 209, 210, 211, 39, 40, 185, 186, 187, 20, 188, 49, 46, 48, 47, 189, 190, 191, 12, 192, 118, 94, 95, 96, 30, 97, 90, 91, 92, 31, 193, 194, 195, 119, 120, 196, 197, 198, 307, 308, 309, 310, 50, 199, 200, 201, 202, 148, 149, 150, 151, 389, 390, 391, 392, 399, 400, 401, 402, 403, 404, 405, 406, 407, 408, 409, 410, 393, 394, 395, 396, 397, 398] (by decide +kernel) (by decide +kernel)) (goodIn_sub (fun _ h => List.mem_append_left _ (List.mem_append_right _ h)) (by decide +kernel))) (goodIn_sub (fun _ h => List.mem_append_right _ h) (by decide +kernel))
set_option maxRecDepth 20000 in
theorem gL_law_X3_fetch : GoodIn wsL_law (wsV RL 79 RX3 yX3_fetch wsX3_fetch) := goodIn_app (goodIn_of _ (by decide +kernel)) ggL_law_X3_fetch
set_option maxRecDepth 20000 in
theorem ggL_law_X3_goOut : GoodIn wsL_law wsX3_goOut := goodIn_ca (goodIn_ca (goodIn_r _ [314, 17, 274, 275, 276, 2, 277, 87, 88, 67, 68, 69, 303, 304, 305, 306, 65, 66, 278, 279, 280, 16, 281, 37, 286, 287, 288, 289, 290, 238, 239, 240, 389, 390, 391, 392, 399, 400, 401, 402, 403, 404, 405] (by decide +kernel) (by decide +kernel)) (goodIn_sub (fun _ h => List.mem_append_right _ h) (by decide +kernel))) (goodIn_sub (fun _ h => List.mem_append_left _ (List.mem_append_right _ h)) (by decide +kernel))
set_option maxRecDepth 20000 in
theorem gL_law_X3_goOut : GoodIn wsL_law (wsV RL 82 RX3 yX3_goOut wsX3_goOut) := goodIn_app (goodIn_of _ (by decide +kernel)) ggL_law_X3_goOut
set_option maxRecDepth 20000 in
theorem ggL_law_X3_doubt : GoodIn wsL_law wsX3_doubt := goodIn_ca (goodIn_r _ [318, 17, 228, 229, 230, 2, 231, 87, 88, 67, 68, 69, 216, 217, 218, 16, 219, 36, 220, 221, 222, 223, 389, 390, 391, 392, 399, 400, 401, 402, 403, 404, 405] (by decide +kernel) (by decide +kernel)) (goodIn_sub (fun _ h => List.mem_append_right _ h) (by decide +kernel))
set_option maxRecDepth 20000 in
theorem gL_law_X3_doubt : GoodIn wsL_law (wsV RL 85 RX3 yX3_doubt wsX3_doubt) := goodIn_app (goodIn_of _ (by decide +kernel)) ggL_law_X3_doubt
set_option maxRecDepth 20000 in
theorem ggL_law_X3_stall : GoodIn wsL_law wsX3_stall := goodIn_r _ [322, 17, 323, 324, 325, 16, 326, 41, 389, 390, 391, 392, 399, 400, 401, 402, 403, 404, 405] (by decide +kernel) (by decide +kernel)
set_option maxRecDepth 20000 in
theorem gL_law_X3_stall : GoodIn wsL_law (wsV RL 89 RX3 yX3_stall wsX3_stall) := goodIn_app (goodIn_of _ (by decide +kernel)) ggL_law_X3_stall
set_option maxRecDepth 20000 in
theorem ggL_law_X3_smoke : GoodIn wsL_law wsX3_smoke := goodIn_r _ [330, 17, 331, 332, 333, 16, 334, 42, 335, 336, 337, 338, 37, 237, 238, 239, 240, 389, 390, 391, 392, 399, 400, 401, 402, 403, 404, 405] (by decide +kernel) (by decide +kernel)
set_option maxRecDepth 20000 in
theorem gL_law_X3_smoke : GoodIn wsL_law (wsV RL 93 RX3 yX3_smoke wsX3_smoke) := goodIn_app (goodIn_of _ (by decide +kernel)) ggL_law_X3_smoke
set_option maxRecDepth 20000 in
theorem ggL_law_L_areBoxes : GoodIn wsL_law wsL_areBoxes := goodIn_ca (goodIn_r _ [341, 342, 343, 344, 2, 345, 13, 346, 347, 348, 349, 87, 88, 350, 351, 352, 195, 119, 120, 196, 197, 198, 353, 354, 355, 356, 128, 129, 12, 130, 31, 30, 79, 80, 81, 82, 83, 84, 85, 86, 89, 90, 91, 92, 68, 69, 93, 94, 95, 96, 97, 135, 136, 137, 138, 139, 140, 141, 142, 67, 143, 111, 112, 113, 28, 114, 115, 116, 117, 118, 357, 358, 359, 360, 361, 362, 363, 364, 365, 366, 367, 368, 27, 369, 157, 158, 159, 26, 389, 390, 391, 392, 393, 394, 395, 396, 397, 398] (by decide +kernel) (by decide +kernel)) (goodIn_sub (fun _ h => List.mem_append_right _ h) (by decide +kernel))
set_option maxRecDepth 20000 in
theorem gL_law_L_areBoxes : GoodIn wsL_law (va_wsS RL 97 yL_areBoxes wsL_areBoxes) := goodIn_app (goodIn_of _ (by decide +kernel)) ggL_law_L_areBoxes
set_option maxRecDepth 20000 in
theorem ggL_law_L_isOpen : GoodIn wsL_law wsL_isOpen := goodIn_r _ [372, 181, 182, 183, 2, 184, 21, 13, 185, 186, 187, 20, 188, 49, 46, 48, 47, 189, 190, 191, 12, 192, 118, 94, 95, 96, 30, 97, 90, 91, 92, 31, 68, 69, 193, 194, 195, 119, 120, 196, 197, 198, 199, 200, 201, 202, 203, 204, 205, 206, 207, 17, 208, 209, 210, 16, 211, 39, 40, 373, 374, 375, 376, 377, 378, 379, 380, 38, 381, 382, 383, 384, 385, 386, 387, 388, 389, 390, 391, 392, 406, 407, 408, 409, 410, 393, 394, 395, 396, 397, 398, 399, 400, 401, 402, 403, 404, 405] (by decide +kernel) (by decide +kernel)
set_option maxRecDepth 20000 in
theorem gL_law_L_isOpen : GoodIn wsL_law (va_wsS RL 101 yL_isOpen wsL_isOpen) := goodIn_app (goodIn_of _ (by decide +kernel)) ggL_law_L_isOpen
theorem dL_law_621 : decode cL_law 621 = .ok (.iload 18, 2) := by decide +kernel
theorem dL_law_623 : decode cL_law 623 = .ok (.aload_n 1, 1) := by decide +kernel
theorem dL_law_624 : decode cL_law 624 = .ok (.invokevirtual 27, 3) := by decide +kernel
theorem dL_law_627 : decode cL_law 627 = .ok (.if_icmp .ne 73, 3) := by decide +kernel
theorem dL_law_630 : decode cL_law 630 = .ok (.aload_n 1, 1) := by decide +kernel
theorem dL_law_631 : decode cL_law 631 = .ok (.invokevirtual 76, 3) := by decide +kernel
theorem dL_law_634 : decode cL_law 634 = .ok (.istore 19, 2) := by decide +kernel
theorem dL_law_636 : decode cL_law 636 = .ok (.aload_n 1, 1) := by decide +kernel
theorem dL_law_637 : decode cL_law 637 = .ok (.iconst 2, 1) := by decide +kernel
theorem dL_law_638 : decode cL_law 638 = .ok (.invokevirtual 79, 3) := by decide +kernel
theorem dL_law_641 : decode cL_law 641 = .ok (.istore 20, 2) := by decide +kernel
theorem dL_law_643 : decode cL_law 643 = .ok (.iinc 9 (-1), 3) := by decide +kernel
theorem dL_law_646 : decode cL_law 646 = .ok (.aload 5, 2) := by decide +kernel
theorem dL_law_648 : decode cL_law 648 = .ok (.aload 6, 2) := by decide +kernel
theorem dL_law_650 : decode cL_law 650 = .ok (.iload 20, 2) := by decide +kernel
theorem dL_law_652 : decode cL_law 652 = .ok (.iaload, 1) := by decide +kernel
theorem dL_law_653 : decode cL_law 653 = .ok (.iconst 0, 1) := by decide +kernel
theorem dL_law_654 : decode cL_law 654 = .ok (.iastore, 1) := by decide +kernel
theorem dL_law_655 : decode cL_law 655 = .ok (.iload 17, 2) := by decide +kernel
theorem dL_law_657 : decode cL_law 657 = .ok (.ifCond .eq 40, 3) := by decide +kernel
theorem dL_law_660 : decode cL_law 660 = .ok (.aload_n 1, 1) := by decide +kernel
theorem dL_law_661 : decode cL_law 661 = .ok (.aload 6, 2) := by decide +kernel
theorem dL_law_663 : decode cL_law 663 = .ok (.iload 20, 2) := by decide +kernel
theorem dL_law_665 : decode cL_law 665 = .ok (.iaload, 1) := by decide +kernel
theorem dL_law_666 : decode cL_law 666 = .ok (.invokevirtual 14, 3) := by decide +kernel
theorem dL_law_669 : decode cL_law 669 = .ok (.iconst (-1), 1) := by decide +kernel
theorem dL_law_670 : decode cL_law 670 = .ok (.if_icmp .ne 27, 3) := by decide +kernel
theorem dL_law_673 : decode cL_law 673 = .ok (.aload_n 1, 1) := by decide +kernel
theorem dL_law_674 : decode cL_law 674 = .ok (.invokevirtual 76, 3) := by decide +kernel
theorem dL_law_677 : decode cL_law 677 = .ok (.iload 19, 2) := by decide +kernel
theorem dL_law_679 : decode cL_law 679 = .ok (.if_icmp .lt 18, 3) := by decide +kernel
theorem dL_law_682 : decode cL_law 682 = .ok (.aload_n 1, 1) := by decide +kernel
theorem dL_law_683 : decode cL_law 683 = .ok (.invokevirtual 76, 3) := by decide +kernel
theorem dL_law_686 : decode cL_law 686 = .ok (.iload 19, 2) := by decide +kernel
theorem dL_law_688 : decode cL_law 688 = .ok (.iconst 1, 1) := by decide +kernel
theorem dL_law_689 : decode cL_law 689 = .ok (.iadd, 1) := by decide +kernel
theorem dL_law_690 : decode cL_law 690 = .ok (.if_icmp .gt 7, 3) := by decide +kernel
theorem dL_law_693 : decode cL_law 693 = .ok (.iconst 1, 1) := by decide +kernel
theorem dL_law_694 : decode cL_law 694 = .ok (.goto 4, 3) := by decide +kernel
theorem dL_law_697 : decode cL_law 697 = .ok (.iconst 0, 1) := by decide +kernel
theorem dL_law_698 : decode cL_law 698 = .ok (.istore 17, 2) := by decide +kernel
theorem dL_law_700 : decode cL_law 700 = .ok (.iload 17, 2) := by decide +kernel
theorem dL_law_702 : decode cL_law 702 = .ok (.ifCond .eq 15, 3) := by decide +kernel
theorem dL_law_705 : decode cL_law 705 = .ok (.aload_n 1, 1) := by decide +kernel
theorem dL_law_706 : decode cL_law 706 = .ok (.iconst 2, 1) := by decide +kernel
theorem dL_law_707 : decode cL_law 707 = .ok (.invokevirtual 82, 3) := by decide +kernel
theorem dL_law_710 : decode cL_law 710 = .ok (.ifCond .ne 7, 3) := by decide +kernel
theorem dL_law_713 : decode cL_law 713 = .ok (.iconst 1, 1) := by decide +kernel
theorem dL_law_714 : decode cL_law 714 = .ok (.goto 4, 3) := by decide +kernel
theorem dL_law_717 : decode cL_law 717 = .ok (.iconst 0, 1) := by decide +kernel
theorem dL_law_718 : decode cL_law 718 = .ok (.istore 17, 2) := by decide +kernel
theorem dL_law_720 : decode cL_law 720 = .ok (.iconst 0, 1) := by decide +kernel
theorem dL_law_721 : decode cL_law 721 = .ok (.istore 10, 2) := by decide +kernel
theorem dL_law_723 : decode cL_law 723 = .ok (.goto 146, 3) := by decide +kernel
theorem dL_law_726 : decode cL_law 726 = .ok (.iload 15, 2) := by decide +kernel
theorem dL_law_728 : decode cL_law 728 = .ok (.bipush 10, 2) := by decide +kernel
theorem dL_law_730 : decode cL_law 730 = .ok (.if_icmp .ne 46, 3) := by decide +kernel
theorem dL_law_733 : decode cL_law 733 = .ok (.iload 14, 2) := by decide +kernel
theorem dL_law_735 : decode cL_law 735 = .ok (.bipush 7, 2) := by decide +kernel
theorem dL_law_737 : decode cL_law 737 = .ok (.invokestatic 43, 3) := by decide +kernel
theorem dL_law_740 : decode cL_law 740 = .ok (.istore 18, 2) := by decide +kernel
theorem dL_law_742 : decode cL_law 742 = .ok (.aload_n 1, 1) := by decide +kernel
theorem dL_law_743 : decode cL_law 743 = .ok (.iload 18, 2) := by decide +kernel
theorem dL_law_745 : decode cL_law 745 = .ok (.invokevirtual 85, 3) := by decide +kernel
theorem dL_law_748 : decode cL_law 748 = .ok (.aload_n 1, 1) := by decide +kernel
theorem dL_law_749 : decode cL_law 749 = .ok (.iload 18, 2) := by decide +kernel
theorem dL_law_751 : decode cL_law 751 = .ok (.invokevirtual 85, 3) := by decide +kernel
theorem dL_law_754 : decode cL_law 754 = .ok (.if_icmp .ne 12, 3) := by decide +kernel
theorem dL_law_757 : decode cL_law 757 = .ok (.aload_n 1, 1) := by decide +kernel
theorem dL_law_758 : decode cL_law 758 = .ok (.iload 18, 2) := by decide +kernel
theorem dL_law_760 : decode cL_law 760 = .ok (.invokevirtual 85, 3) := by decide +kernel
theorem dL_law_763 : decode cL_law 763 = .ok (.ifCond .ne 7, 3) := by decide +kernel
theorem dL_law_766 : decode cL_law 766 = .ok (.iconst 1, 1) := by decide +kernel
theorem dL_law_767 : decode cL_law 767 = .ok (.goto 4, 3) := by decide +kernel
theorem dL_law_770 : decode cL_law 770 = .ok (.iconst 0, 1) := by decide +kernel
theorem dL_law_771 : decode cL_law 771 = .ok (.istore 17, 2) := by decide +kernel
theorem dL_law_773 : decode cL_law 773 = .ok (.goto 96, 3) := by decide +kernel
theorem dL_law_776 : decode cL_law 776 = .ok (.iload 15, 2) := by decide +kernel
theorem dL_law_778 : decode cL_law 778 = .ok (.bipush 11, 2) := by decide +kernel
theorem dL_law_780 : decode cL_law 780 = .ok (.if_icmp .ne 53, 3) := by decide +kernel
theorem dL_law_783 : decode cL_law 783 = .ok (.aload_n 1, 1) := by decide +kernel
theorem dL_law_784 : decode cL_law 784 = .ok (.iconst 1, 1) := by decide +kernel
theorem dL_law_785 : decode cL_law 785 = .ok (.invokevirtual 89, 3) := by decide +kernel
theorem dL_law_788 : decode cL_law 788 = .ok (.ifCond .eq 39, 3) := by decide +kernel
theorem dL_law_791 : decode cL_law 791 = .ok (.aload_n 1, 1) := by decide +kernel
theorem dL_law_792 : decode cL_law 792 = .ok (.iconst 1, 1) := by decide +kernel
theorem dL_law_793 : decode cL_law 793 = .ok (.invokevirtual 89, 3) := by decide +kernel
theorem dL_law_796 : decode cL_law 796 = .ok (.ifCond .ne 31, 3) := by decide +kernel
theorem dL_law_799 : decode cL_law 799 = .ok (.aload_n 1, 1) := by decide +kernel
theorem dL_law_800 : decode cL_law 800 = .ok (.iconst 0, 1) := by decide +kernel
theorem dL_law_801 : decode cL_law 801 = .ok (.invokevirtual 89, 3) := by decide +kernel
theorem dL_law_804 : decode cL_law 804 = .ok (.ifCond .eq 23, 3) := by decide +kernel
theorem dL_law_807 : decode cL_law 807 = .ok (.aload_n 1, 1) := by decide +kernel
theorem dL_law_808 : decode cL_law 808 = .ok (.iconst 1, 1) := by decide +kernel
theorem dL_law_809 : decode cL_law 809 = .ok (.invokevirtual 93, 3) := by decide +kernel
theorem dL_law_812 : decode cL_law 812 = .ok (.ifCond .ne 15, 3) := by decide +kernel
theorem dL_law_815 : decode cL_law 815 = .ok (.aload_n 1, 1) := by decide +kernel
theorem dL_law_816 : decode cL_law 816 = .ok (.iconst 0, 1) := by decide +kernel
theorem dL_law_817 : decode cL_law 817 = .ok (.invokevirtual 93, 3) := by decide +kernel
theorem dL_law_820 : decode cL_law 820 = .ok (.ifCond .ne 7, 3) := by decide +kernel
theorem dL_law_823 : decode cL_law 823 = .ok (.iconst 1, 1) := by decide +kernel
theorem dL_law_824 : decode cL_law 824 = .ok (.goto 4, 3) := by decide +kernel
theorem dL_law_827 : decode cL_law 827 = .ok (.iconst 0, 1) := by decide +kernel
theorem dL_law_828 : decode cL_law 828 = .ok (.istore 17, 2) := by decide +kernel
theorem dL_law_830 : decode cL_law 830 = .ok (.goto 39, 3) := by decide +kernel
theorem dL_law_833 : decode cL_law 833 = .ok (.iconst 1, 1) := by decide +kernel
theorem dL_law_834 : decode cL_law 834 = .ok (.iload 14, 2) := by decide +kernel
theorem dL_law_836 : decode cL_law 836 = .ok (.bipush 30, 2) := by decide +kernel
theorem dL_law_838 : decode cL_law 838 = .ok (.invokestatic 43, 3) := by decide +kernel
theorem dL_law_841 : decode cL_law 841 = .ok (.iadd, 1) := by decide +kernel
theorem dL_law_842 : decode cL_law 842 = .ok (.istore 18, 2) := by decide +kernel
theorem dL_law_844 : decode cL_law 844 = .ok (.iload 11, 2) := by decide +kernel
theorem dL_law_846 : decode cL_law 846 = .ok (.iload 18, 2) := by decide +kernel
theorem dL_law_848 : decode cL_law 848 = .ok (.iadd, 1) := by decide +kernel
theorem dL_law_849 : decode cL_law 849 = .ok (.istore 11, 2) := by decide +kernel
theorem dL_law_851 : decode cL_law 851 = .ok (.aload_n 1, 1) := by decide +kernel
theorem dL_law_852 : decode cL_law 852 = .ok (.iload 18, 2) := by decide +kernel
theorem dL_law_854 : decode cL_law 854 = .ok (.invokevirtual 70, 3) := by decide +kernel
theorem dL_law_857 : decode cL_law 857 = .ok (.iload 11, 2) := by decide +kernel
theorem dL_law_859 : decode cL_law 859 = .ok (.if_icmp .ne 7, 3) := by decide +kernel
theorem dL_law_862 : decode cL_law 862 = .ok (.iconst 1, 1) := by decide +kernel
theorem dL_law_863 : decode cL_law 863 = .ok (.goto 4, 3) := by decide +kernel
theorem dL_law_866 : decode cL_law 866 = .ok (.iconst 0, 1) := by decide +kernel
theorem dL_law_867 : decode cL_law 867 = .ok (.istore 17, 2) := by decide +kernel
theorem dL_law_869 : decode cL_law 869 = .ok (.iload 17, 2) := by decide +kernel
theorem dL_law_871 : decode cL_law 871 = .ok (.ifCond .eq 25, 3) := by decide +kernel
theorem dL_law_874 : decode cL_law 874 = .ok (.aload_n 1, 1) := by decide +kernel
theorem dL_law_875 : decode cL_law 875 = .ok (.aload_n 2, 1) := by decide +kernel
theorem dL_law_876 : decode cL_law 876 = .ok (.aload_n 3, 1) := by decide +kernel
theorem dL_law_877 : decode cL_law 877 = .ok (.aload 4, 2) := by decide +kernel
theorem dL_law_879 : decode cL_law 879 = .ok (.iload 7, 2) := by decide +kernel
theorem dL_law_881 : decode cL_law 881 = .ok (.invokestatic 97, 3) := by decide +kernel
theorem dL_law_884 : decode cL_law 884 = .ok (.ifCond .eq 12, 3) := by decide +kernel
theorem dL_law_887 : decode cL_law 887 = .ok (.aload_n 1, 1) := by decide +kernel
theorem dL_law_888 : decode cL_law 888 = .ok (.iload 9, 2) := by decide +kernel
theorem dL_law_890 : decode cL_law 890 = .ok (.invokestatic 101, 3) := by decide +kernel
theorem dL_law_893 : decode cL_law 893 = .ok (.ifCond .ne 5, 3) := by decide +kernel
theorem dL_law_896 : decode cL_law 896 = .ok (.iconst 0, 1) := by decide +kernel
theorem dL_law_897 : decode cL_law 897 = .ok (.ireturn, 1) := by decide +kernel
theorem dL_law_898 : decode cL_law 898 = .ok (.iinc 12 1, 3) := by decide +kernel
theorem dL_law_901 : decode cL_law 901 = .ok (.goto (-847), 3) := by decide +kernel
theorem dL_law_904 : decode cL_law 904 = .ok (.iconst 1, 1) := by decide +kernel
theorem dL_law_905 : decode cL_law 905 = .ok (.ireturn, 1) := by decide +kernel
