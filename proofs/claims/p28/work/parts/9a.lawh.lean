theorem dL_cell_0 : decode cL_cell 0 = .ok (.iload_n 1, 1) := by decide +kernel
theorem dL_cell_1 : decode cL_cell 1 = .ok (.aload_n 0, 1) := by decide +kernel
theorem dL_cell_2 : decode cL_cell 2 = .ok (.arraylength, 1) := by decide +kernel
theorem dL_cell_3 : decode cL_cell 3 = .ok (.if_icmp .ge 9, 3) := by decide +kernel
theorem dL_cell_6 : decode cL_cell 6 = .ok (.aload_n 0, 1) := by decide +kernel
theorem dL_cell_7 : decode cL_cell 7 = .ok (.iload_n 1, 1) := by decide +kernel
theorem dL_cell_8 : decode cL_cell 8 = .ok (.iaload, 1) := by decide +kernel
theorem dL_cell_9 : decode cL_cell 9 = .ok (.goto 11, 3) := by decide +kernel
theorem dL_cell_12 : decode cL_cell 12 = .ok (.ldc 7, 2) := by decide +kernel
theorem dL_cell_14 : decode cL_cell 14 = .ok (.iload_n 1, 1) := by decide +kernel
theorem dL_cell_15 : decode cL_cell 15 = .ok (.sipush 613, 3) := by decide +kernel
theorem dL_cell_18 : decode cL_cell 18 = .ok (.iadd, 1) := by decide +kernel
theorem dL_cell_19 : decode cL_cell 19 = .ok (.imul, 1) := by decide +kernel
theorem dL_cell_20 : decode cL_cell 20 = .ok (.ireturn, 1) := by decide +kernel
theorem dL_up_0 : decode cL_up 0 = .ok (.iload_n 0, 1) := by decide +kernel
theorem dL_up_1 : decode cL_up 1 = .ok (.ldc 8, 2) := by decide +kernel
theorem dL_up_3 : decode cL_up 3 = .ok (.iand, 1) := by decide +kernel
theorem dL_up_4 : decode cL_up 4 = .ok (.iload_n 1, 1) := by decide +kernel
theorem dL_up_5 : decode cL_up 5 = .ok (.irem, 1) := by decide +kernel
theorem dL_up_6 : decode cL_up 6 = .ok (.ireturn, 1) := by decide +kernel
set_option maxRecDepth 20000 in
theorem ggL_isStep_L_up : GoodIn wsL_isStep wsL_up := goodIn_r _ [4, 5] (by decide +kernel) (by decide +kernel)
set_option maxRecDepth 20000 in
theorem gL_isStep_L_up : GoodIn wsL_isStep (va_wsS RL 9 yL_up wsL_up) := goodIn_app (goodIn_of _ (by decide +kernel)) ggL_isStep_L_up
set_option maxRecDepth 20000 in
theorem ggL_isStep_X7_setNote : GoodIn wsL_isStep wsX7_setNote := goodIn_ca (goodIn_ca (goodIn_r _ [10, 11, 12, 13, 14, 15, 9, 16, 17, 18, 19, 20, 21, 22, 23, 24, 25, 26, 27, 28, 29, 30, 31, 32, 33, 34, 35, 36, 37, 38, 39, 40, 41, 42, 43, 44, 45, 46, 47, 48, 49, 50, 51, 52, 53, 54, 55, 56, 57, 58, 59, 60, 61, 62, 63, 64, 65, 66, 67, 68, 69, 70, 71, 72, 73, 74, 75, 76, 77, 78, 79, 80, 81, 82, 83, 84, 85, 86, 87, 88, 89, 90, 91, 92, 93, 94, 95, 96, 97, 98, 99, 100, 101, 102, 103, 104, 105, 106, 107, 108, 109, 294, 295, 296, 297, 298, 299, 300, 301, 302, 303, 304, 305, 306, 307, 308, 309, 310, 311, 312, 313, 314, 315, 316, 317, 318, 319, 320, 321, 322] (by decide +kernel) (by decide +kernel)) (goodIn_sub (fun _ h => List.mem_cons_of_mem _ (List.mem_append_left _ (List.mem_append_left _ (List.mem_append_right _ h)))) (by decide +kernel))) (goodIn_sub (fun _ h => List.mem_cons_of_mem _ (List.mem_append_left _ (List.mem_append_right _ h))) (by decide +kernel))
set_option maxRecDepth 20000 in
theorem gL_isStep_X7_setNote : GoodIn wsL_isStep (wsV RL 15 RX7 yX7_setNote wsX7_setNote) := goodIn_app (goodIn_of _ (by decide +kernel)) ggL_isStep_X7_setNote
set_option maxRecDepth 20000 in
theorem ggL_isStep_X7_setEffect : GoodIn wsL_isStep wsX7_setEffect := goodIn_ca (goodIn_ca (goodIn_r _ [113, 11, 12, 13, 14, 15, 9, 16, 17, 18, 19, 20, 21, 22, 23, 24, 25, 26, 27, 28, 29, 30, 31, 32, 33, 34, 35, 36, 37, 38, 39, 40, 41, 42, 43, 44, 45, 46, 47, 48, 49, 50, 51, 52, 53, 54, 55, 56, 57, 58, 59, 60, 61, 62, 63, 64, 65, 66, 67, 68, 69, 70, 71, 72, 73, 74, 75, 76, 77, 78, 79, 80, 81, 82, 83, 84, 85, 86, 87, 88, 89, 90, 91, 92, 107, 108, 95, 109, 114, 115, 116, 100, 101, 102, 103, 104, 105, 106, 93, 94, 96, 294, 295, 296, 297, 298, 299, 300, 301, 302, 303, 304, 305, 306, 307, 308, 309, 310, 311, 312, 313, 314, 315, 316, 317, 318, 319, 320, 321, 322] (by decide +kernel) (by decide +kernel)) (goodIn_sub (fun _ h => List.mem_cons_of_mem _ (List.mem_append_left _ (List.mem_append_left _ (List.mem_append_right _ h)))) (by decide +kernel))) (goodIn_sub (fun _ h => List.mem_cons_of_mem _ (List.mem_append_left _ (List.mem_append_right _ h))) (by decide +kernel))
set_option maxRecDepth 20000 in
theorem gL_isStep_X7_setEffect : GoodIn wsL_isStep (wsV RL 21 RX7 yX7_setEffect wsX7_setEffect) := goodIn_app (goodIn_of _ (by decide +kernel)) ggL_isStep_X7_setEffect
set_option maxRecDepth 20000 in
theorem ggL_isStep_X7_setRows : GoodIn wsL_isStep wsX7_setRows := goodIn_ca (goodIn_ca (goodIn_r _ [120, 11, 12, 13, 121, 122, 9, 123, 17, 18, 124, 125, 126, 22, 23, 24, 25, 26, 27, 28, 29, 30, 31, 32, 33, 34, 35, 36, 37, 38, 39, 40, 41, 42, 43, 44, 45, 46, 47, 48, 49, 50, 51, 52, 53, 54, 55, 56, 57, 58, 59, 60, 61, 62, 63, 64, 65, 66, 67, 68, 69, 70, 71, 72, 73, 74, 75, 76, 77, 78, 79, 80, 81, 82, 83, 84, 85, 127, 128, 129, 130, 131, 132, 133, 134, 294, 295, 296, 297, 298, 299, 300, 301, 302, 303, 304, 305, 306, 307, 308, 309, 310, 311, 312, 313, 314, 315, 316, 317, 318, 319, 320, 321, 322] (by decide +kernel) (by decide +kernel)) (goodIn_sub (fun _ h => List.mem_cons_of_mem _ (List.mem_append_left _ (List.mem_append_left _ (List.mem_append_right _ h)))) (by decide +kernel))) (goodIn_sub (fun _ h => List.mem_cons_of_mem _ (List.mem_append_left _ (List.mem_append_right _ h))) (by decide +kernel))
set_option maxRecDepth 20000 in
theorem gL_isStep_X7_setRows : GoodIn wsL_isStep (wsV RL 24 RX7 yX7_setRows wsX7_setRows) := goodIn_app (goodIn_of _ (by decide +kernel)) ggL_isStep_X7_setRows
set_option maxRecDepth 20000 in
theorem ggL_isStep_X7_value : GoodIn wsL_isStep wsX7_value := goodIn_ca (goodIn_r _ [138, 22, 23, 9, 24, 25, 26, 139, 140, 141, 142, 12, 143, 144, 145, 146, 147, 148, 149, 13, 150, 151, 152, 153, 49, 154, 58, 57, 125, 126, 294, 295, 296, 297, 298, 299, 307, 308, 309, 310, 311, 312, 313, 303, 304, 305, 306] (by decide +kernel) (by decide +kernel)) (goodIn_sub (fun _ h => List.mem_cons_of_mem _ (List.mem_append_left _ (List.mem_append_right _ h))) (by decide +kernel))
set_option maxRecDepth 20000 in
theorem gL_isStep_X7_value : GoodIn wsL_isStep (wsV RL 27 RX7 yX7_value wsX7_value) := goodIn_app (goodIn_of _ (by decide +kernel)) ggL_isStep_X7_value
set_option maxRecDepth 20000 in
theorem ggL_isStep_X7_setOrder : GoodIn wsL_isStep wsX7_setOrder := goodIn_ca (goodIn_ca (goodIn_r _ [158, 12, 13, 150, 159, 160, 161, 162, 11, 121, 122, 9, 123, 17, 18, 124, 125, 126, 22, 23, 24, 25, 26, 27, 28, 29, 30, 31, 32, 33, 34, 35, 36, 37, 38, 39, 40, 41, 42, 43, 44, 45, 46, 47, 48, 49, 50, 51, 52, 53, 54, 55, 56, 57, 58, 59, 60, 61, 62, 63, 64, 65, 66, 67, 68, 69, 70, 71, 72, 73, 74, 75, 76, 77, 78, 79, 80, 81, 82, 83, 84, 85, 163, 164, 165, 166, 167, 168, 169, 294, 295, 296, 297, 298, 299, 303, 304, 305, 306, 300, 301, 302, 307, 308, 309, 310, 311, 312, 313, 314, 315, 316, 317, 318, 319, 320, 321, 322] (by decide +kernel) (by decide +kernel)) (goodIn_sub (fun _ h => List.mem_cons_of_mem _ (List.mem_append_left _ (List.mem_append_left _ (List.mem_append_right _ h)))) (by decide +kernel))) (goodIn_sub (fun _ h => List.mem_cons_of_mem _ (List.mem_append_left _ (List.mem_append_right _ h))) (by decide +kernel))
set_option maxRecDepth 20000 in
theorem gL_isStep_X7_setOrder : GoodIn wsL_isStep (wsV RL 31 RX7 yX7_setOrder wsX7_setOrder) := goodIn_app (goodIn_of _ (by decide +kernel)) ggL_isStep_X7_setOrder
set_option maxRecDepth 20000 in
theorem ggL_isStep_X7_steal : GoodIn wsL_isStep wsX7_steal := goodIn_ca (goodIn_ca (goodIn_r _ [173, 11, 12, 143, 174, 121, 122, 9, 123, 17, 18, 124, 125, 126, 22, 23, 24, 25, 26, 27, 28, 29, 30, 31, 32, 33, 34, 35, 36, 37, 38, 39, 40, 41, 42, 43, 44, 45, 46, 47, 48, 49, 50, 51, 52, 53, 54, 55, 56, 57, 58, 59, 60, 61, 62, 63, 64, 65, 66, 67, 68, 69, 70, 71, 72, 73, 74, 75, 76, 77, 78, 79, 80, 81, 82, 83, 84, 85, 175, 176, 177, 178, 294, 295, 296, 297, 298, 299, 307, 308, 309, 310, 311, 312, 313, 300, 301, 302, 303, 304, 305, 306, 314, 315, 316, 317, 318, 319, 320, 321, 322] (by decide +kernel) (by decide +kernel)) (goodIn_sub (fun _ h => List.mem_cons_of_mem _ (List.mem_append_left _ (List.mem_append_left _ (List.mem_append_right _ h)))) (by decide +kernel))) (goodIn_sub (fun _ h => List.mem_cons_of_mem _ (List.mem_append_left _ (List.mem_append_right _ h))) (by decide +kernel))
set_option maxRecDepth 20000 in
theorem gL_isStep_X7_steal : GoodIn wsL_isStep (wsV RL 34 RX7 yX7_steal wsX7_steal) := goodIn_app (goodIn_of _ (by decide +kernel)) ggL_isStep_X7_steal
set_option maxRecDepth 20000 in
theorem ggL_isStep_X7_giveBack : GoodIn wsL_isStep wsX7_giveBack := goodIn_ca (goodIn_r _ [182, 11, 12, 143, 174, 121, 122, 9, 123, 17, 18, 124, 125, 126, 27, 28, 29, 30, 31, 32, 33, 34, 35, 36, 37, 38, 39, 40, 41, 42, 43, 44, 45, 46, 47, 48, 49, 50, 51, 52, 53, 54, 55, 56, 57, 58, 59, 60, 61, 62, 63, 64, 65, 66, 67, 68, 69, 70, 71, 72, 73, 74, 75, 76, 77, 78, 79, 80, 81, 82, 83, 84, 85, 175, 176, 177, 178, 294, 295, 296, 297, 298, 299, 307, 308, 309, 310, 311, 312, 313, 300, 301, 302, 303, 304, 305, 306, 314, 315, 316, 317, 318, 319, 320, 321, 322] (by decide +kernel) (by decide +kernel)) (goodIn_sub (fun _ h => List.mem_cons_of_mem _ (List.mem_append_left _ (List.mem_append_left _ (List.mem_append_right _ h)))) (by decide +kernel))
set_option maxRecDepth 20000 in
theorem gL_isStep_X7_giveBack : GoodIn wsL_isStep (wsV RL 38 RX7 yX7_giveBack wsX7_giveBack) := goodIn_app (goodIn_of _ (by decide +kernel)) ggL_isStep_X7_giveBack
set_option maxRecDepth 20000 in
theorem ggL_isStep_X7_shorten : GoodIn wsL_isStep wsX7_shorten := goodIn_ca (goodIn_r _ [186, 187, 188, 12, 13, 150, 143, 144, 11, 27, 28, 29, 30, 31, 32, 33, 34, 35, 36, 37, 38, 39, 40, 41, 42, 43, 44, 45, 46, 47, 48, 49, 50, 51, 52, 53, 54, 55, 56, 57, 58, 59, 60, 61, 62, 63, 64, 65, 66, 67, 68, 69, 70, 71, 72, 73, 74, 75, 76, 77, 78, 79, 80, 81, 82, 83, 84, 85, 294, 295, 296, 297, 298, 299, 303, 304, 305, 306, 307, 308, 309, 310, 311, 312, 313, 300, 301, 302, 314, 315, 316, 317, 318, 319, 320, 321, 322] (by decide +kernel) (by decide +kernel)) (goodIn_sub (fun _ h => List.mem_cons_of_mem _ (List.mem_append_right _ h)) (by decide +kernel))
set_option maxRecDepth 20000 in
theorem gL_isStep_X7_shorten : GoodIn wsL_isStep (wsV RL 41 RX7 yX7_shorten wsX7_shorten) := goodIn_app (goodIn_of _ (by decide +kernel)) ggL_isStep_X7_shorten
set_option maxRecDepth 20000 in
theorem ggL_isStep_X7_hashOf : GoodIn wsL_isStep wsX7_hashOf := goodIn_ca (goodIn_r _ [192, 193, 12, 143, 13, 22, 23, 9, 24, 25, 26, 194, 60, 61, 62, 63, 64, 65, 66, 67, 68, 69, 70, 71, 72, 73, 74, 75, 76, 77, 78, 79, 80, 81, 82, 83, 53, 54, 55, 84, 85, 195, 196, 197, 198, 199, 200, 201, 202, 203, 204, 205, 206, 207, 208, 209, 210, 211, 212, 213, 214, 215, 216, 125, 126, 217, 218, 219, 220, 221, 87, 88, 49, 89, 51, 20, 21, 90, 91, 92, 222, 152, 153, 154, 58, 57, 223, 224, 95, 225, 226, 94, 96, 227, 98, 99, 228, 229, 230, 231, 232, 233, 234, 235, 236, 237, 238, 239, 240, 108, 109, 241, 242, 243, 244, 115, 116, 245, 246, 247, 248, 249, 250, 251, 252, 253, 160, 161, 162, 254, 168, 169, 255, 256, 257, 258, 259, 260, 261, 262, 263, 264, 265, 266, 267, 268, 269, 270, 271, 272, 273, 274, 275, 128, 129, 130, 56, 276, 277, 278, 279, 280, 281, 282, 283, 284, 285, 286, 287, 288, 294, 295, 296, 297, 298, 299, 307, 308, 309, 310, 311, 312, 313, 314, 315, 316, 317, 318, 319, 320, 321, 322, 303, 304, 305, 306] (by decide +kernel) (by decide +kernel)) (goodIn_sub (fun _ h => List.mem_cons_of_mem _ (List.mem_append_left _ (List.mem_append_right _ h))) (by decide +kernel))
set_option maxRecDepth 20000 in
theorem gL_isStep_X7_hashOf : GoodIn wsL_isStep (wsV RL 45 RX7 yX7_hashOf wsX7_hashOf) := goodIn_app (goodIn_of _ (by decide +kernel)) ggL_isStep_X7_hashOf
set_option maxRecDepth 20000 in
theorem ggL_isStep_X7_play : GoodIn wsL_isStep wsX7_play := goodIn_ca (goodIn_ca (goodIn_r _ [292, 187, 188, 12, 143, 148, 293, 11, 13, 22, 23, 9, 24, 25, 26, 27, 28, 29, 30, 31, 32, 33, 34, 35, 36, 37, 38, 39, 40, 41, 42, 43, 44, 45, 46, 47, 48, 49, 50, 51, 52, 53, 54, 55, 56, 57, 58, 59, 60, 61, 62, 63, 64, 65, 66, 67, 68, 69, 70, 71, 72, 73, 74, 75, 76, 77, 78, 79, 80, 81, 82, 83, 84, 85, 195, 196, 197, 198, 199, 200, 201, 202, 203, 204, 205, 206, 207, 208, 209, 210, 211, 212, 213, 214, 215, 216, 125, 126, 217, 218, 219, 220, 221, 87, 88, 89, 20, 21, 90, 91, 92, 222, 152, 153, 154, 223, 224, 95, 225, 226, 94, 96, 227, 98, 99, 228, 229, 230, 231, 232, 233, 234, 235, 236, 237, 238, 239, 240, 108, 109, 241, 242, 243, 244, 115, 116, 245, 246, 247, 248, 249, 250, 251, 252, 253, 160, 161, 162, 254, 168, 169, 255, 256, 257, 258, 259, 260, 261, 262, 263, 264, 265, 266, 267, 268, 269, 270, 271, 272, 273, 274, 275, 128, 129, 130, 276, 277, 278, 279, 280, 281, 282, 283, 284, 285, 286, 287, 288, 294, 295, 296, 297, 298, 299, 307, 308, 309, 310, 311, 312, 313, 300, 301, 302, 303, 304, 305, 306, 314, 315, 316, 317, 318, 319, 320, 321, 322] (by decide +kernel) (by decide +kernel)) (goodIn_sub (fun _ h => List.mem_cons_of_mem _ (List.mem_append_right _ h)) (by decide +kernel))) (goodIn_sub (fun _ h => List.mem_cons_of_mem _ (List.mem_append_left _ (List.mem_append_right _ h))) (by decide +kernel))
set_option maxRecDepth 20000 in
theorem gL_isStep_X7_play : GoodIn wsL_isStep (wsV RL 48 RX7 yX7_play wsX7_play) := goodIn_app (goodIn_of _ (by decide +kernel)) ggL_isStep_X7_play
theorem dL_isStep_0 : decode cL_isStep 0 = .ok (.iload_n 2, 1) := by decide +kernel
theorem dL_isStep_1 : decode cL_isStep 1 = .ok (.iconst 4, 1) := by decide +kernel
theorem dL_isStep_2 : decode cL_isStep 2 = .ok (.ishr, 1) := by decide +kernel
theorem dL_isStep_3 : decode cL_isStep 3 = .ok (.istore_n 3, 1) := by decide +kernel
theorem dL_isStep_4 : decode cL_isStep 4 = .ok (.iload_n 3, 1) := by decide +kernel
theorem dL_isStep_5 : decode cL_isStep 5 = .ok (.bipush 6, 2) := by decide +kernel
theorem dL_isStep_7 : decode cL_isStep 7 = .ok (.invokestatic 9, 3) := by decide +kernel
theorem dL_isStep_10 : decode cL_isStep 10 = .ok (.istore 4, 2) := by decide +kernel
theorem dL_isStep_12 : decode cL_isStep 12 = .ok (.iload_n 3, 1) := by decide +kernel
theorem dL_isStep_13 : decode cL_isStep 13 = .ok (.iconst 3, 1) := by decide +kernel
theorem dL_isStep_14 : decode cL_isStep 14 = .ok (.ishr, 1) := by decide +kernel
theorem dL_isStep_15 : decode cL_isStep 15 = .ok (.bipush 8, 2) := by decide +kernel
theorem dL_isStep_17 : decode cL_isStep 17 = .ok (.invokestatic 9, 3) := by decide +kernel
theorem dL_isStep_20 : decode cL_isStep 20 = .ok (.istore 5, 2) := by decide +kernel
theorem dL_isStep_22 : decode cL_isStep 22 = .ok (.iload_n 3, 1) := by decide +kernel
theorem dL_isStep_23 : decode cL_isStep 23 = .ok (.bipush 6, 2) := by decide +kernel
theorem dL_isStep_25 : decode cL_isStep 25 = .ok (.ishr, 1) := by decide +kernel
theorem dL_isStep_26 : decode cL_isStep 26 = .ok (.iconst 3, 1) := by decide +kernel
theorem dL_isStep_27 : decode cL_isStep 27 = .ok (.iand, 1) := by decide +kernel
theorem dL_isStep_28 : decode cL_isStep 28 = .ok (.istore 6, 2) := by decide +kernel
theorem dL_isStep_30 : decode cL_isStep 30 = .ok (.iload_n 2, 1) := by decide +kernel
theorem dL_isStep_31 : decode cL_isStep 31 = .ok (.bipush 12, 2) := by decide +kernel
theorem dL_isStep_33 : decode cL_isStep 33 = .ok (.invokestatic 9, 3) := by decide +kernel
theorem dL_isStep_36 : decode cL_isStep 36 = .ok (.tableswitch 440 0 10 #[60, 60, 60, 127, 127, 127, 201, 242, 299, 366, 397], 60) := by decide +kernel
theorem dL_isStep_96 : decode cL_isStep 96 = .ok (.aload_n 0, 1) := by decide +kernel
theorem dL_isStep_97 : decode cL_isStep 97 = .ok (.iload 4, 2) := by decide +kernel
theorem dL_isStep_99 : decode cL_isStep 99 = .ok (.iload 5, 2) := by decide +kernel
theorem dL_isStep_101 : decode cL_isStep 101 = .ok (.iload 6, 2) := by decide +kernel
theorem dL_isStep_103 : decode cL_isStep 103 = .ok (.iload_n 3, 1) := by decide +kernel
theorem dL_isStep_104 : decode cL_isStep 104 = .ok (.bipush 8, 2) := by decide +kernel
theorem dL_isStep_106 : decode cL_isStep 106 = .ok (.ishr, 1) := by decide +kernel
theorem dL_isStep_107 : decode cL_isStep 107 = .ok (.bipush 62, 2) := by decide +kernel
theorem dL_isStep_109 : decode cL_isStep 109 = .ok (.invokestatic 9, 3) := by decide +kernel
theorem dL_isStep_112 : decode cL_isStep 112 = .ok (.iload_n 3, 1) := by decide +kernel
theorem dL_isStep_113 : decode cL_isStep 113 = .ok (.bipush 14, 2) := by decide +kernel
theorem dL_isStep_115 : decode cL_isStep 115 = .ok (.ishr, 1) := by decide +kernel
theorem dL_isStep_116 : decode cL_isStep 116 = .ok (.bipush 16, 2) := by decide +kernel
theorem dL_isStep_118 : decode cL_isStep 118 = .ok (.invokestatic 9, 3) := by decide +kernel
theorem dL_isStep_121 : decode cL_isStep 121 = .ok (.invokevirtual 15, 3) := by decide +kernel
theorem dL_isStep_124 : decode cL_isStep 124 = .ok (.aload_n 1, 1) := by decide +kernel
theorem dL_isStep_125 : decode cL_isStep 125 = .ok (.iload 4, 2) := by decide +kernel
theorem dL_isStep_127 : decode cL_isStep 127 = .ok (.iload 5, 2) := by decide +kernel
theorem dL_isStep_129 : decode cL_isStep 129 = .ok (.iconst 3, 1) := by decide +kernel
theorem dL_isStep_130 : decode cL_isStep 130 = .ok (.iload 6, 2) := by decide +kernel
theorem dL_isStep_132 : decode cL_isStep 132 = .ok (.isub, 1) := by decide +kernel
theorem dL_isStep_133 : decode cL_isStep 133 = .ok (.iload_n 3, 1) := by decide +kernel
theorem dL_isStep_134 : decode cL_isStep 134 = .ok (.bipush 8, 2) := by decide +kernel
theorem dL_isStep_136 : decode cL_isStep 136 = .ok (.ishr, 1) := by decide +kernel
theorem dL_isStep_137 : decode cL_isStep 137 = .ok (.bipush 62, 2) := by decide +kernel
theorem dL_isStep_139 : decode cL_isStep 139 = .ok (.invokestatic 9, 3) := by decide +kernel
theorem dL_isStep_142 : decode cL_isStep 142 = .ok (.iload_n 3, 1) := by decide +kernel
theorem dL_isStep_143 : decode cL_isStep 143 = .ok (.bipush 14, 2) := by decide +kernel
theorem dL_isStep_145 : decode cL_isStep 145 = .ok (.ishr, 1) := by decide +kernel
theorem dL_isStep_146 : decode cL_isStep 146 = .ok (.bipush 16, 2) := by decide +kernel
theorem dL_isStep_148 : decode cL_isStep 148 = .ok (.invokestatic 9, 3) := by decide +kernel
theorem dL_isStep_151 : decode cL_isStep 151 = .ok (.invokevirtual 15, 3) := by decide +kernel
theorem dL_isStep_154 : decode cL_isStep 154 = .ok (.if_icmp .ne 7, 3) := by decide +kernel
theorem dL_isStep_157 : decode cL_isStep 157 = .ok (.iconst 1, 1) := by decide +kernel
theorem dL_isStep_158 : decode cL_isStep 158 = .ok (.goto 4, 3) := by decide +kernel
theorem dL_isStep_161 : decode cL_isStep 161 = .ok (.iconst 0, 1) := by decide +kernel
theorem dL_isStep_162 : decode cL_isStep 162 = .ok (.ireturn, 1) := by decide +kernel
theorem dL_isStep_163 : decode cL_isStep 163 = .ok (.iload_n 3, 1) := by decide +kernel
theorem dL_isStep_164 : decode cL_isStep 164 = .ok (.bipush 8, 2) := by decide +kernel
theorem dL_isStep_166 : decode cL_isStep 166 = .ok (.ishr, 1) := by decide +kernel
theorem dL_isStep_167 : decode cL_isStep 167 = .ok (.iload 6, 2) := by decide +kernel
theorem dL_isStep_169 : decode cL_isStep 169 = .ok (.ifCond .ne 8, 3) := by decide +kernel
theorem dL_isStep_172 : decode cL_isStep 172 = .ok (.bipush 8, 2) := by decide +kernel
theorem dL_isStep_174 : decode cL_isStep 174 = .ok (.goto 5, 3) := by decide +kernel
theorem dL_isStep_177 : decode cL_isStep 177 = .ok (.bipush 7, 2) := by decide +kernel
theorem dL_isStep_179 : decode cL_isStep 179 = .ok (.invokestatic 9, 3) := by decide +kernel
theorem dL_isStep_182 : decode cL_isStep 182 = .ok (.istore 7, 2) := by decide +kernel
theorem dL_isStep_184 : decode cL_isStep 184 = .ok (.aload_n 0, 1) := by decide +kernel
theorem dL_isStep_185 : decode cL_isStep 185 = .ok (.iload 4, 2) := by decide +kernel
theorem dL_isStep_187 : decode cL_isStep 187 = .ok (.iload 5, 2) := by decide +kernel
theorem dL_isStep_189 : decode cL_isStep 189 = .ok (.iload 6, 2) := by decide +kernel
theorem dL_isStep_191 : decode cL_isStep 191 = .ok (.iload 7, 2) := by decide +kernel
theorem dL_isStep_193 : decode cL_isStep 193 = .ok (.iload_n 3, 1) := by decide +kernel
theorem dL_isStep_194 : decode cL_isStep 194 = .ok (.bipush 11, 2) := by decide +kernel
theorem dL_isStep_196 : decode cL_isStep 196 = .ok (.ishr, 1) := by decide +kernel
theorem dL_isStep_197 : decode cL_isStep 197 = .ok (.bipush 10, 2) := by decide +kernel
theorem dL_isStep_199 : decode cL_isStep 199 = .ok (.invokestatic 9, 3) := by decide +kernel
theorem dL_isStep_202 : decode cL_isStep 202 = .ok (.invokevirtual 21, 3) := by decide +kernel
theorem dL_isStep_205 : decode cL_isStep 205 = .ok (.aload_n 1, 1) := by decide +kernel
theorem dL_isStep_206 : decode cL_isStep 206 = .ok (.iload 4, 2) := by decide +kernel
theorem dL_isStep_208 : decode cL_isStep 208 = .ok (.iload 5, 2) := by decide +kernel
theorem dL_isStep_210 : decode cL_isStep 210 = .ok (.iconst 3, 1) := by decide +kernel
theorem dL_isStep_211 : decode cL_isStep 211 = .ok (.iload 6, 2) := by decide +kernel
theorem dL_isStep_213 : decode cL_isStep 213 = .ok (.isub, 1) := by decide +kernel
theorem dL_isStep_214 : decode cL_isStep 214 = .ok (.iload 7, 2) := by decide +kernel
theorem dL_isStep_216 : decode cL_isStep 216 = .ok (.iload_n 3, 1) := by decide +kernel
theorem dL_isStep_217 : decode cL_isStep 217 = .ok (.bipush 11, 2) := by decide +kernel
theorem dL_isStep_219 : decode cL_isStep 219 = .ok (.ishr, 1) := by decide +kernel
theorem dL_isStep_220 : decode cL_isStep 220 = .ok (.bipush 10, 2) := by decide +kernel
theorem dL_isStep_222 : decode cL_isStep 222 = .ok (.invokestatic 9, 3) := by decide +kernel
theorem dL_isStep_225 : decode cL_isStep 225 = .ok (.invokevirtual 21, 3) := by decide +kernel
theorem dL_isStep_228 : decode cL_isStep 228 = .ok (.if_icmp .ne 7, 3) := by decide +kernel
theorem dL_isStep_231 : decode cL_isStep 231 = .ok (.iconst 1, 1) := by decide +kernel
theorem dL_isStep_232 : decode cL_isStep 232 = .ok (.goto 4, 3) := by decide +kernel
theorem dL_isStep_235 : decode cL_isStep 235 = .ok (.iconst 0, 1) := by decide +kernel
theorem dL_isStep_236 : decode cL_isStep 236 = .ok (.ireturn, 1) := by decide +kernel
theorem dL_isStep_237 : decode cL_isStep 237 = .ok (.aload_n 0, 1) := by decide +kernel
theorem dL_isStep_238 : decode cL_isStep 238 = .ok (.iload 4, 2) := by decide +kernel
theorem dL_isStep_240 : decode cL_isStep 240 = .ok (.iconst 1, 1) := by decide +kernel
theorem dL_isStep_241 : decode cL_isStep 241 = .ok (.iload_n 3, 1) := by decide +kernel
theorem dL_isStep_242 : decode cL_isStep 242 = .ok (.bipush 6, 2) := by decide +kernel
theorem dL_isStep_244 : decode cL_isStep 244 = .ok (.ishr, 1) := by decide +kernel
theorem dL_isStep_245 : decode cL_isStep 245 = .ok (.iconst 5, 1) := by decide +kernel
theorem dL_isStep_246 : decode cL_isStep 246 = .ok (.invokestatic 9, 3) := by decide +kernel
theorem dL_isStep_249 : decode cL_isStep 249 = .ok (.iadd, 1) := by decide +kernel
theorem dL_isStep_250 : decode cL_isStep 250 = .ok (.invokevirtual 24, 3) := by decide +kernel
theorem dL_isStep_253 : decode cL_isStep 253 = .ok (.aload_n 1, 1) := by decide +kernel
theorem dL_isStep_254 : decode cL_isStep 254 = .ok (.iload 4, 2) := by decide +kernel
theorem dL_isStep_256 : decode cL_isStep 256 = .ok (.iconst 1, 1) := by decide +kernel
theorem dL_isStep_257 : decode cL_isStep 257 = .ok (.iload_n 3, 1) := by decide +kernel
theorem dL_isStep_258 : decode cL_isStep 258 = .ok (.bipush 6, 2) := by decide +kernel
theorem dL_isStep_260 : decode cL_isStep 260 = .ok (.ishr, 1) := by decide +kernel
theorem dL_isStep_261 : decode cL_isStep 261 = .ok (.iconst 5, 1) := by decide +kernel
theorem dL_isStep_262 : decode cL_isStep 262 = .ok (.invokestatic 9, 3) := by decide +kernel
theorem dL_isStep_265 : decode cL_isStep 265 = .ok (.iadd, 1) := by decide +kernel
theorem dL_isStep_266 : decode cL_isStep 266 = .ok (.invokevirtual 24, 3) := by decide +kernel
theorem dL_isStep_269 : decode cL_isStep 269 = .ok (.if_icmp .ne 7, 3) := by decide +kernel
theorem dL_isStep_272 : decode cL_isStep 272 = .ok (.iconst 1, 1) := by decide +kernel
theorem dL_isStep_273 : decode cL_isStep 273 = .ok (.goto 4, 3) := by decide +kernel
theorem dL_isStep_276 : decode cL_isStep 276 = .ok (.iconst 0, 1) := by decide +kernel
theorem dL_isStep_277 : decode cL_isStep 277 = .ok (.ireturn, 1) := by decide +kernel
theorem dL_isStep_278 : decode cL_isStep 278 = .ok (.iload_n 3, 1) := by decide +kernel
theorem dL_isStep_279 : decode cL_isStep 279 = .ok (.iconst 3, 1) := by decide +kernel
theorem dL_isStep_280 : decode cL_isStep 280 = .ok (.ishr, 1) := by decide +kernel
theorem dL_isStep_281 : decode cL_isStep 281 = .ok (.aload_n 0, 1) := by decide +kernel
theorem dL_isStep_282 : decode cL_isStep 282 = .ok (.bipush 6, 2) := by decide +kernel
theorem dL_isStep_284 : decode cL_isStep 284 = .ok (.invokevirtual 27, 3) := by decide +kernel
theorem dL_isStep_287 : decode cL_isStep 287 = .ok (.bipush 8, 2) := by decide +kernel
theorem dL_isStep_289 : decode cL_isStep 289 = .ok (.if_icmp .ne 8, 3) := by decide +kernel
theorem dL_isStep_292 : decode cL_isStep 292 = .ok (.bipush 8, 2) := by decide +kernel
theorem dL_isStep_294 : decode cL_isStep 294 = .ok (.goto 11, 3) := by decide +kernel
theorem dL_isStep_297 : decode cL_isStep 297 = .ok (.aload_n 0, 1) := by decide +kernel
theorem dL_isStep_298 : decode cL_isStep 298 = .ok (.bipush 6, 2) := by decide +kernel
theorem dL_isStep_300 : decode cL_isStep 300 = .ok (.invokevirtual 27, 3) := by decide +kernel
theorem dL_isStep_303 : decode cL_isStep 303 = .ok (.iconst 1, 1) := by decide +kernel
theorem dL_isStep_304 : decode cL_isStep 304 = .ok (.iadd, 1) := by decide +kernel
theorem dL_isStep_305 : decode cL_isStep 305 = .ok (.invokestatic 9, 3) := by decide +kernel
theorem dL_isStep_308 : decode cL_isStep 308 = .ok (.istore 7, 2) := by decide +kernel
theorem dL_isStep_310 : decode cL_isStep 310 = .ok (.aload_n 0, 1) := by decide +kernel
theorem dL_isStep_311 : decode cL_isStep 311 = .ok (.iload 7, 2) := by decide +kernel
theorem dL_isStep_313 : decode cL_isStep 313 = .ok (.iload 4, 2) := by decide +kernel
theorem dL_isStep_315 : decode cL_isStep 315 = .ok (.invokevirtual 31, 3) := by decide +kernel
theorem dL_isStep_318 : decode cL_isStep 318 = .ok (.aload_n 1, 1) := by decide +kernel
theorem dL_isStep_319 : decode cL_isStep 319 = .ok (.iload 7, 2) := by decide +kernel
theorem dL_isStep_321 : decode cL_isStep 321 = .ok (.iload 4, 2) := by decide +kernel
theorem dL_isStep_323 : decode cL_isStep 323 = .ok (.invokevirtual 31, 3) := by decide +kernel
theorem dL_isStep_326 : decode cL_isStep 326 = .ok (.if_icmp .ne 7, 3) := by decide +kernel
theorem dL_isStep_329 : decode cL_isStep 329 = .ok (.iconst 1, 1) := by decide +kernel
theorem dL_isStep_330 : decode cL_isStep 330 = .ok (.goto 4, 3) := by decide +kernel
theorem dL_isStep_333 : decode cL_isStep 333 = .ok (.iconst 0, 1) := by decide +kernel
theorem dL_isStep_334 : decode cL_isStep 334 = .ok (.ireturn, 1) := by decide +kernel
theorem dL_isStep_335 : decode cL_isStep 335 = .ok (.aload_n 0, 1) := by decide +kernel
theorem dL_isStep_336 : decode cL_isStep 336 = .ok (.iload 6, 2) := by decide +kernel
theorem dL_isStep_338 : decode cL_isStep 338 = .ok (.iconst 1, 1) := by decide +kernel
theorem dL_isStep_339 : decode cL_isStep 339 = .ok (.iload_n 3, 1) := by decide +kernel
theorem dL_isStep_340 : decode cL_isStep 340 = .ok (.bipush 8, 2) := by decide +kernel
theorem dL_isStep_342 : decode cL_isStep 342 = .ok (.ishr, 1) := by decide +kernel
theorem dL_isStep_343 : decode cL_isStep 343 = .ok (.bipush 60, 2) := by decide +kernel
theorem dL_isStep_345 : decode cL_isStep 345 = .ok (.invokestatic 9, 3) := by decide +kernel
theorem dL_isStep_348 : decode cL_isStep 348 = .ok (.iadd, 1) := by decide +kernel
theorem dL_isStep_349 : decode cL_isStep 349 = .ok (.iconst 1, 1) := by decide +kernel
theorem dL_isStep_350 : decode cL_isStep 350 = .ok (.iload_n 3, 1) := by decide +kernel
theorem dL_isStep_351 : decode cL_isStep 351 = .ok (.bipush 14, 2) := by decide +kernel
theorem dL_isStep_353 : decode cL_isStep 353 = .ok (.ishr, 1) := by decide +kernel
theorem dL_isStep_354 : decode cL_isStep 354 = .ok (.bipush 20, 2) := by decide +kernel
theorem dL_isStep_356 : decode cL_isStep 356 = .ok (.invokestatic 9, 3) := by decide +kernel
theorem dL_isStep_359 : decode cL_isStep 359 = .ok (.iadd, 1) := by decide +kernel
theorem dL_isStep_360 : decode cL_isStep 360 = .ok (.invokevirtual 34, 3) := by decide +kernel
theorem dL_isStep_363 : decode cL_isStep 363 = .ok (.aload_n 1, 1) := by decide +kernel
theorem dL_isStep_364 : decode cL_isStep 364 = .ok (.iconst 3, 1) := by decide +kernel
theorem dL_isStep_365 : decode cL_isStep 365 = .ok (.iload 6, 2) := by decide +kernel
theorem dL_isStep_367 : decode cL_isStep 367 = .ok (.isub, 1) := by decide +kernel
theorem dL_isStep_368 : decode cL_isStep 368 = .ok (.iconst 1, 1) := by decide +kernel
theorem dL_isStep_369 : decode cL_isStep 369 = .ok (.iload_n 3, 1) := by decide +kernel
theorem dL_isStep_370 : decode cL_isStep 370 = .ok (.bipush 8, 2) := by decide +kernel
theorem dL_isStep_372 : decode cL_isStep 372 = .ok (.ishr, 1) := by decide +kernel
theorem dL_isStep_373 : decode cL_isStep 373 = .ok (.bipush 60, 2) := by decide +kernel
theorem dL_isStep_375 : decode cL_isStep 375 = .ok (.invokestatic 9, 3) := by decide +kernel
theorem dL_isStep_378 : decode cL_isStep 378 = .ok (.iadd, 1) := by decide +kernel
theorem dL_isStep_379 : decode cL_isStep 379 = .ok (.iconst 1, 1) := by decide +kernel
theorem dL_isStep_380 : decode cL_isStep 380 = .ok (.iload_n 3, 1) := by decide +kernel
theorem dL_isStep_381 : decode cL_isStep 381 = .ok (.bipush 14, 2) := by decide +kernel
theorem dL_isStep_383 : decode cL_isStep 383 = .ok (.ishr, 1) := by decide +kernel
theorem dL_isStep_384 : decode cL_isStep 384 = .ok (.bipush 20, 2) := by decide +kernel
theorem dL_isStep_386 : decode cL_isStep 386 = .ok (.invokestatic 9, 3) := by decide +kernel
theorem dL_isStep_389 : decode cL_isStep 389 = .ok (.iadd, 1) := by decide +kernel
theorem dL_isStep_390 : decode cL_isStep 390 = .ok (.invokevirtual 34, 3) := by decide +kernel
theorem dL_isStep_393 : decode cL_isStep 393 = .ok (.if_icmp .ne 7, 3) := by decide +kernel
theorem dL_isStep_396 : decode cL_isStep 396 = .ok (.iconst 1, 1) := by decide +kernel
theorem dL_isStep_397 : decode cL_isStep 397 = .ok (.goto 4, 3) := by decide +kernel
theorem dL_isStep_400 : decode cL_isStep 400 = .ok (.iconst 0, 1) := by decide +kernel
theorem dL_isStep_401 : decode cL_isStep 401 = .ok (.ireturn, 1) := by decide +kernel
theorem dL_isStep_402 : decode cL_isStep 402 = .ok (.iload_n 3, 1) := by decide +kernel
theorem dL_isStep_403 : decode cL_isStep 403 = .ok (.iconst 4, 1) := by decide +kernel
theorem dL_isStep_404 : decode cL_isStep 404 = .ok (.invokestatic 9, 3) := by decide +kernel
theorem dL_isStep_407 : decode cL_isStep 407 = .ok (.ifCond .gt 20, 3) := by decide +kernel
theorem dL_isStep_410 : decode cL_isStep 410 = .ok (.aload_n 0, 1) := by decide +kernel
theorem dL_isStep_411 : decode cL_isStep 411 = .ok (.iload 6, 2) := by decide +kernel
theorem dL_isStep_413 : decode cL_isStep 413 = .ok (.invokevirtual 38, 3) := by decide +kernel
theorem dL_isStep_416 : decode cL_isStep 416 = .ok (.aload_n 1, 1) := by decide +kernel
theorem dL_isStep_417 : decode cL_isStep 417 = .ok (.iconst 3, 1) := by decide +kernel
theorem dL_isStep_418 : decode cL_isStep 418 = .ok (.iload 6, 2) := by decide +kernel
theorem dL_isStep_420 : decode cL_isStep 420 = .ok (.isub, 1) := by decide +kernel
theorem dL_isStep_421 : decode cL_isStep 421 = .ok (.invokevirtual 38, 3) := by decide +kernel
theorem dL_isStep_424 : decode cL_isStep 424 = .ok (.if_icmp .ne 7, 3) := by decide +kernel
theorem dL_isStep_427 : decode cL_isStep 427 = .ok (.iconst 1, 1) := by decide +kernel
theorem dL_isStep_428 : decode cL_isStep 428 = .ok (.goto 4, 3) := by decide +kernel
theorem dL_isStep_431 : decode cL_isStep 431 = .ok (.iconst 0, 1) := by decide +kernel
theorem dL_isStep_432 : decode cL_isStep 432 = .ok (.ireturn, 1) := by decide +kernel
theorem dL_isStep_433 : decode cL_isStep 433 = .ok (.aload_n 0, 1) := by decide +kernel
theorem dL_isStep_434 : decode cL_isStep 434 = .ok (.bipush 6, 2) := by decide +kernel
theorem dL_isStep_436 : decode cL_isStep 436 = .ok (.invokevirtual 27, 3) := by decide +kernel
theorem dL_isStep_439 : decode cL_isStep 439 = .ok (.iconst 1, 1) := by decide +kernel
theorem dL_isStep_440 : decode cL_isStep 440 = .ok (.if_icmp .eq 30, 3) := by decide +kernel
theorem dL_isStep_443 : decode cL_isStep 443 = .ok (.aload_n 0, 1) := by decide +kernel
theorem dL_isStep_444 : decode cL_isStep 444 = .ok (.iconst 0, 1) := by decide +kernel
theorem dL_isStep_445 : decode cL_isStep 445 = .ok (.invokevirtual 27, 3) := by decide +kernel
theorem dL_isStep_448 : decode cL_isStep 448 = .ok (.aload_n 0, 1) := by decide +kernel
theorem dL_isStep_449 : decode cL_isStep 449 = .ok (.bipush 6, 2) := by decide +kernel
theorem dL_isStep_451 : decode cL_isStep 451 = .ok (.invokevirtual 27, 3) := by decide +kernel
theorem dL_isStep_454 : decode cL_isStep 454 = .ok (.iconst 1, 1) := by decide +kernel
theorem dL_isStep_455 : decode cL_isStep 455 = .ok (.isub, 1) := by decide +kernel
theorem dL_isStep_456 : decode cL_isStep 456 = .ok (.if_icmp .eq 14, 3) := by decide +kernel
theorem dL_isStep_459 : decode cL_isStep 459 = .ok (.aload_n 0, 1) := by decide +kernel
theorem dL_isStep_460 : decode cL_isStep 460 = .ok (.invokevirtual 41, 3) := by decide +kernel
theorem dL_isStep_463 : decode cL_isStep 463 = .ok (.aload_n 1, 1) := by decide +kernel
theorem dL_isStep_464 : decode cL_isStep 464 = .ok (.invokevirtual 41, 3) := by decide +kernel
theorem dL_isStep_467 : decode cL_isStep 467 = .ok (.if_icmp .ne 7, 3) := by decide +kernel
theorem dL_isStep_470 : decode cL_isStep 470 = .ok (.iconst 1, 1) := by decide +kernel
theorem dL_isStep_471 : decode cL_isStep 471 = .ok (.goto 4, 3) := by decide +kernel
theorem dL_isStep_474 : decode cL_isStep 474 = .ok (.iconst 0, 1) := by decide +kernel
theorem dL_isStep_475 : decode cL_isStep 475 = .ok (.ireturn, 1) := by decide +kernel
theorem dL_isStep_476 : decode cL_isStep 476 = .ok (.iconst 1, 1) := by decide +kernel
theorem dL_isStep_477 : decode cL_isStep 477 = .ok (.iload_n 3, 1) := by decide +kernel
theorem dL_isStep_478 : decode cL_isStep 478 = .ok (.bipush 20, 2) := by decide +kernel
theorem dL_isStep_480 : decode cL_isStep 480 = .ok (.invokestatic 9, 3) := by decide +kernel
theorem dL_isStep_483 : decode cL_isStep 483 = .ok (.iadd, 1) := by decide +kernel
theorem dL_isStep_484 : decode cL_isStep 484 = .ok (.istore 7, 2) := by decide +kernel
theorem dL_isStep_486 : decode cL_isStep 486 = .ok (.aload_n 0, 1) := by decide +kernel
theorem dL_isStep_487 : decode cL_isStep 487 = .ok (.iload 7, 2) := by decide +kernel
theorem dL_isStep_489 : decode cL_isStep 489 = .ok (.invokevirtual 45, 3) := by decide +kernel
theorem dL_isStep_492 : decode cL_isStep 492 = .ok (.istore 8, 2) := by decide +kernel
theorem dL_isStep_494 : decode cL_isStep 494 = .ok (.aload_n 1, 1) := by decide +kernel
theorem dL_isStep_495 : decode cL_isStep 495 = .ok (.iload 7, 2) := by decide +kernel
theorem dL_isStep_497 : decode cL_isStep 497 = .ok (.invokevirtual 45, 3) := by decide +kernel
theorem dL_isStep_500 : decode cL_isStep 500 = .ok (.istore 9, 2) := by decide +kernel
theorem dL_isStep_502 : decode cL_isStep 502 = .ok (.aload_n 0, 1) := by decide +kernel
theorem dL_isStep_503 : decode cL_isStep 503 = .ok (.iload 7, 2) := by decide +kernel
theorem dL_isStep_505 : decode cL_isStep 505 = .ok (.invokevirtual 48, 3) := by decide +kernel
theorem dL_isStep_508 : decode cL_isStep 508 = .ok (.iload 8, 2) := by decide +kernel
theorem dL_isStep_510 : decode cL_isStep 510 = .ok (.if_icmp .ne 18, 3) := by decide +kernel
theorem dL_isStep_513 : decode cL_isStep 513 = .ok (.aload_n 1, 1) := by decide +kernel
theorem dL_isStep_514 : decode cL_isStep 514 = .ok (.iload 7, 2) := by decide +kernel
theorem dL_isStep_516 : decode cL_isStep 516 = .ok (.invokevirtual 48, 3) := by decide +kernel
theorem dL_isStep_519 : decode cL_isStep 519 = .ok (.iload 9, 2) := by decide +kernel
theorem dL_isStep_521 : decode cL_isStep 521 = .ok (.if_icmp .ne 7, 3) := by decide +kernel
theorem dL_isStep_524 : decode cL_isStep 524 = .ok (.iconst 1, 1) := by decide +kernel
theorem dL_isStep_525 : decode cL_isStep 525 = .ok (.goto 4, 3) := by decide +kernel
theorem dL_isStep_528 : decode cL_isStep 528 = .ok (.iconst 0, 1) := by decide +kernel
theorem dL_isStep_529 : decode cL_isStep 529 = .ok (.ireturn, 1) := by decide +kernel
set_option maxRecDepth 20000 in
theorem ggL_areAlike_X7_ticksToRound : GoodIn wsL_areAlike wsX7_ticksToRound := goodIn_r _ [5, 6, 7, 8, 9, 10, 11, 12, 13, 14, 15, 16, 17, 18, 19, 20, 21, 22, 23, 24, 25, 26, 27, 28, 29, 30, 31, 32, 33, 34, 35, 36, 37, 38, 39, 40, 41, 42, 43, 44, 45, 46, 47, 48, 49, 50, 51, 52, 53, 54, 55, 56, 57, 58, 4, 59, 60, 61, 62, 63, 64, 65, 66, 67, 68, 69, 70, 71, 72, 73, 74, 75, 76, 77, 78, 79, 80, 81, 82, 83, 84, 85, 86, 87, 88, 89, 90, 91, 92, 93, 94, 95, 96, 97, 98, 99, 100, 101, 102, 103, 104, 105, 106, 107, 108, 109, 110, 111, 112, 113, 114, 115, 116, 117, 118, 119, 120, 121, 122, 123, 124, 125, 126, 127, 128, 129, 130, 131, 132, 133, 134, 135, 136, 137, 138, 139, 140, 141, 142, 143, 144, 145, 146, 147, 148, 149, 150, 151, 152, 153, 154, 155, 156, 157, 158, 159, 160, 161, 162, 163, 164, 265, 266, 267, 268, 269, 270, 271, 272, 273, 274, 275, 276, 277, 278, 279, 280, 281, 282, 283, 284, 285, 286, 287, 288, 289, 290] (by decide +kernel) (by decide +kernel)
set_option maxRecDepth 20000 in
theorem gL_areAlike_X7_ticksToRound : GoodIn wsL_areAlike (wsV RL 51 RX7 yX7_ticksToRound wsX7_ticksToRound) := goodIn_app (goodIn_of _ (by decide +kernel)) ggL_areAlike_X7_ticksToRound
set_option maxRecDepth 20000 in
theorem ggL_areAlike_X7_meanVolume : GoodIn wsL_areAlike wsX7_meanVolume := goodIn_r _ [168, 7, 8, 169, 170, 171, 265, 266, 267, 268, 269, 270, 271, 272, 273, 274, 275, 276, 277, 278, 279, 280, 281, 282, 283, 284, 285, 286] (by decide +kernel) (by decide +kernel)
set_option maxRecDepth 20000 in
theorem gL_areAlike_X7_meanVolume : GoodIn wsL_areAlike (wsV RL 54 RX7 yX7_meanVolume wsX7_meanVolume) := goodIn_app (goodIn_of _ (by decide +kernel)) ggL_areAlike_X7_meanVolume
set_option maxRecDepth 20000 in
theorem ggL_areAlike_X7_value : GoodIn wsL_areAlike wsX7_value := goodIn_ca (goodIn_r _ [175, 176, 177, 4, 178, 179, 180, 181, 182, 183, 184, 7, 8, 185, 186, 187, 188, 189, 10, 9, 190, 191, 76, 77, 67, 78, 79, 80, 58, 59, 265, 266, 267, 268, 269, 270, 271, 272, 273, 274, 275, 276, 277, 287, 288, 289, 290] (by decide +kernel) (by decide +kernel)) (goodIn_sub (fun _ h => List.mem_cons_of_mem _ (List.mem_append_left _ (List.mem_append_right _ h))) (by decide +kernel))
set_option maxRecDepth 20000 in
theorem gL_areAlike_X7_value : GoodIn wsL_areAlike (wsV RL 27 RX7 yX7_value wsX7_value) := goodIn_app (goodIn_of _ (by decide +kernel)) ggL_areAlike_X7_value
set_option maxRecDepth 20000 in
theorem ggL_areAlike_X7_channel : GoodIn wsL_areAlike wsX7_channel := goodIn_ca (goodIn_ca (goodIn_r _ [195, 7, 8, 169, 196, 197, 4, 198, 199, 200, 201, 58, 59, 176, 177, 178, 179, 180, 202, 203, 204, 26, 205, 28, 29, 30, 31, 33, 32, 206, 55, 56, 57, 34, 207, 61, 62, 63, 39, 265, 266, 267, 268, 269, 270, 271, 272, 273, 274, 275, 276, 277, 278, 279, 280, 281, 282, 283, 284, 285, 286] (by decide +kernel) (by decide +kernel)) (goodIn_sub (fun _ h => List.mem_cons_of_mem _ (List.mem_append_right _ h)) (by decide +kernel))) (goodIn_sub (fun _ h => List.mem_cons_of_mem _ (List.mem_append_left _ (List.mem_append_right _ h))) (by decide +kernel))
set_option maxRecDepth 20000 in
theorem gL_areAlike_X7_channel : GoodIn wsL_areAlike (wsV RL 58 RX7 yX7_channel wsX7_channel) := goodIn_app (goodIn_of _ (by decide +kernel)) ggL_areAlike_X7_channel
set_option maxRecDepth 20000 in
theorem ggL_areAlike_X7_silent : GoodIn wsL_areAlike wsX7_silent := goodIn_ca (goodIn_ca (goodIn_r _ [211, 6, 7, 8, 9, 169, 212, 196, 197, 4, 198, 199, 200, 201, 58, 59, 176, 177, 178, 179, 180, 11, 12, 13, 14, 15, 16, 17, 18, 19, 20, 21, 22, 23, 24, 25, 26, 27, 28, 29, 30, 31, 32, 33, 34, 35, 36, 37, 38, 39, 40, 41, 42, 43, 44, 45, 46, 47, 48, 49, 50, 51, 52, 53, 54, 55, 56, 57, 60, 61, 62, 63, 64, 65, 66, 67, 68, 69, 70, 71, 72, 73, 74, 75, 76, 77, 78, 79, 80, 81, 82, 83, 84, 85, 86, 87, 88, 89, 90, 91, 92, 93, 94, 95, 96, 97, 98, 99, 100, 101, 102, 103, 104, 105, 106, 107, 108, 109, 110, 111, 112, 113, 114, 115, 116, 117, 118, 119, 120, 121, 122, 123, 124, 125, 126, 127, 128, 129, 130, 131, 132, 133, 134, 135, 136, 137, 138, 139, 140, 141, 142, 143, 144, 145, 146, 147, 148, 149, 150, 151, 152, 153, 154, 155, 156, 157, 158, 159, 160, 161, 162, 163, 164, 265, 266, 267, 268, 269, 270, 271, 272, 273, 274, 275, 276, 277, 278, 279, 280, 281, 282, 283, 284, 285, 286, 287, 288, 289, 290] (by decide +kernel) (by decide +kernel)) (goodIn_sub (fun _ h => List.mem_cons_of_mem _ (List.mem_append_right _ h)) (by decide +kernel))) (goodIn_sub (fun _ h => List.mem_cons_of_mem _ (List.mem_append_left _ (List.mem_append_right _ h))) (by decide +kernel))
set_option maxRecDepth 20000 in
theorem gL_areAlike_X7_silent : GoodIn wsL_areAlike (wsV RL 61 RX7 yX7_silent wsX7_silent) := goodIn_app (goodIn_of _ (by decide +kernel)) ggL_areAlike_X7_silent
set_option maxRecDepth 20000 in
theorem ggL_areAlike_X7_deepest : GoodIn wsL_areAlike wsX7_deepest := goodIn_ca (goodIn_ca (goodIn_r _ [216, 6, 7, 8, 9, 169, 217, 218, 125, 122, 126, 196, 197, 4, 198, 199, 200, 201, 58, 59, 176, 177, 178, 179, 180, 11, 12, 13, 14, 15, 16, 17, 18, 19, 20, 21, 22, 23, 24, 25, 26, 27, 28, 29, 30, 31, 32, 33, 34, 35, 36, 37, 38, 39, 40, 41, 42, 43, 44, 45, 46, 47, 48, 49, 50, 51, 52, 53, 54, 55, 56, 57, 60, 61, 62, 63, 64, 65, 66, 67, 68, 69, 70, 71, 72, 73, 74, 75, 76, 77, 78, 79, 80, 81, 82, 83, 84, 85, 86, 87, 88, 89, 90, 91, 92, 93, 94, 95, 96, 97, 98, 99, 100, 101, 102, 103, 104, 105, 106, 107, 108, 109, 110, 111, 112, 113, 114, 115, 116, 117, 118, 119, 120, 121, 123, 124, 127, 128, 129, 130, 131, 132, 133, 134, 135, 136, 137, 138, 139, 140, 141, 142, 143, 144, 145, 146, 147, 148, 149, 150, 151, 152, 153, 154, 155, 156, 157, 158, 159, 160, 161, 162, 163, 164, 265, 266, 267, 268, 269, 270, 271, 272, 273, 274, 275, 276, 277, 278, 279, 280, 281, 282, 283, 284, 285, 286, 287, 288, 289, 290] (by decide +kernel) (by decide +kernel)) (goodIn_sub (fun _ h => List.mem_cons_of_mem _ (List.mem_append_right _ h)) (by decide +kernel))) (goodIn_sub (fun _ h => List.mem_cons_of_mem _ (List.mem_append_left _ (List.mem_append_right _ h))) (by decide +kernel))
set_option maxRecDepth 20000 in
theorem gL_areAlike_X7_deepest : GoodIn wsL_areAlike (wsV RL 64 RX7 yX7_deepest wsX7_deepest) := goodIn_app (goodIn_of _ (by decide +kernel)) ggL_areAlike_X7_deepest
set_option maxRecDepth 20000 in
theorem ggL_areAlike_X7_unheard : GoodIn wsL_areAlike wsX7_unheard := goodIn_ca (goodIn_ca (goodIn_r _ [222, 6, 7, 8, 169, 9, 212, 196, 197, 4, 198, 199, 200, 201, 58, 59, 176, 177, 178, 179, 180, 11, 12, 13, 14, 15, 16, 17, 18, 19, 20, 21, 22, 23, 24, 25, 26, 27, 28, 29, 30, 31, 32, 33, 34, 35, 36, 37, 38, 39, 40, 223, 224, 225, 226, 41, 42, 43, 44, 45, 46, 47, 48, 49, 50, 51, 52, 53, 54, 55, 56, 57, 60, 61, 62, 63, 64, 65, 66, 67, 68, 69, 70, 71, 72, 73, 74, 75, 76, 77, 78, 79, 80, 81, 82, 83, 84, 85, 86, 87, 88, 89, 90, 91, 92, 93, 94, 95, 96, 97, 98, 99, 100, 101, 102, 103, 104, 105, 106, 107, 108, 109, 110, 111, 112, 113, 114, 115, 116, 117, 118, 119, 120, 121, 122, 123, 124, 125, 126, 127, 128, 129, 130, 131, 132, 133, 134, 135, 136, 137, 138, 139, 140, 141, 142, 143, 144, 145, 146, 147, 148, 149, 150, 151, 152, 153, 154, 155, 156, 157, 158, 159, 160, 161, 162, 163, 164, 227, 265, 266, 267, 268, 269, 270, 271, 272, 273, 274, 275, 276, 277, 278, 279, 280, 281, 282, 283, 284, 285, 286, 287, 288, 289, 290] (by decide +kernel) (by decide +kernel)) (goodIn_sub (fun _ h => List.mem_cons_of_mem _ (List.mem_append_right _ h)) (by decide +kernel))) (goodIn_sub (fun _ h => List.mem_cons_of_mem _ (List.mem_append_left _ (List.mem_append_right _ h))) (by decide +kernel))
set_option maxRecDepth 20000 in
theorem gL_areAlike_X7_unheard : GoodIn wsL_areAlike (wsV RL 67 RX7 yX7_unheard wsX7_unheard) := goodIn_app (goodIn_of _ (by decide +kernel)) ggL_areAlike_X7_unheard
set_option maxRecDepth 20000 in
theorem ggL_areAlike_X7_pattern : GoodIn wsL_areAlike wsX7_pattern := goodIn_ca (goodIn_ca (goodIn_r _ [231, 7, 9, 196, 197, 4, 198, 199, 200, 201, 58, 59, 176, 177, 178, 179, 180, 232, 233, 234, 67, 235, 236, 148, 149, 150, 151, 237, 238, 239, 240, 241, 65, 66, 68, 69, 70, 71, 72, 73, 74, 242, 153, 83, 154, 85, 86, 87, 88, 89, 90, 243, 244, 245, 246, 104, 105, 247, 248, 249, 250, 79, 251, 76, 77, 78, 80, 252, 253, 254, 255, 256, 257, 258, 259, 260, 261, 262, 263, 264, 265, 266, 267, 268, 269, 270, 287, 288, 289, 290] (by decide +kernel) (by decide +kernel)) (goodIn_sub (fun _ h => List.mem_cons_of_mem _ (List.mem_append_right _ h)) (by decide +kernel))) (goodIn_sub (fun _ h => List.mem_cons_of_mem _ (List.mem_append_left _ (List.mem_append_right _ h))) (by decide +kernel))
set_option maxRecDepth 20000 in
theorem gL_areAlike_X7_pattern : GoodIn wsL_areAlike (wsV RL 70 RX7 yX7_pattern wsX7_pattern) := goodIn_app (goodIn_of _ (by decide +kernel)) ggL_areAlike_X7_pattern
theorem dL_areAlike_0 : decode cL_areAlike 0 = .ok (.aload_n 0, 1) := by decide +kernel
theorem dL_areAlike_1 : decode cL_areAlike 1 = .ok (.invokevirtual 51, 3) := by decide +kernel
theorem dL_areAlike_4 : decode cL_areAlike 4 = .ok (.aload_n 1, 1) := by decide +kernel
theorem dL_areAlike_5 : decode cL_areAlike 5 = .ok (.invokevirtual 51, 3) := by decide +kernel
theorem dL_areAlike_8 : decode cL_areAlike 8 = .ok (.if_icmp .ne 19, 3) := by decide +kernel
theorem dL_areAlike_11 : decode cL_areAlike 11 = .ok (.aload_n 0, 1) := by decide +kernel
theorem dL_areAlike_12 : decode cL_areAlike 12 = .ok (.invokevirtual 54, 3) := by decide +kernel
theorem dL_areAlike_15 : decode cL_areAlike 15 = .ok (.aload_n 1, 1) := by decide +kernel
theorem dL_areAlike_16 : decode cL_areAlike 16 = .ok (.invokevirtual 54, 3) := by decide +kernel
theorem dL_areAlike_19 : decode cL_areAlike 19 = .ok (.dcmp .l, 1) := by decide +kernel
theorem dL_areAlike_20 : decode cL_areAlike 20 = .ok (.ifCond .ne 7, 3) := by decide +kernel
theorem dL_areAlike_23 : decode cL_areAlike 23 = .ok (.iconst 1, 1) := by decide +kernel
theorem dL_areAlike_24 : decode cL_areAlike 24 = .ok (.goto 4, 3) := by decide +kernel
theorem dL_areAlike_27 : decode cL_areAlike 27 = .ok (.iconst 0, 1) := by decide +kernel
theorem dL_areAlike_28 : decode cL_areAlike 28 = .ok (.istore_n 2, 1) := by decide +kernel
theorem dL_areAlike_29 : decode cL_areAlike 29 = .ok (.iconst 0, 1) := by decide +kernel
theorem dL_areAlike_30 : decode cL_areAlike 30 = .ok (.istore_n 3, 1) := by decide +kernel
theorem dL_areAlike_31 : decode cL_areAlike 31 = .ok (.iload_n 3, 1) := by decide +kernel
theorem dL_areAlike_32 : decode cL_areAlike 32 = .ok (.bipush 8, 2) := by decide +kernel
theorem dL_areAlike_34 : decode cL_areAlike 34 = .ok (.if_icmp .ge 32, 3) := by decide +kernel
theorem dL_areAlike_37 : decode cL_areAlike 37 = .ok (.iload_n 2, 1) := by decide +kernel
theorem dL_areAlike_38 : decode cL_areAlike 38 = .ok (.ifCond .eq 20, 3) := by decide +kernel
theorem dL_areAlike_41 : decode cL_areAlike 41 = .ok (.aload_n 0, 1) := by decide +kernel
theorem dL_areAlike_42 : decode cL_areAlike 42 = .ok (.iload_n 3, 1) := by decide +kernel
theorem dL_areAlike_43 : decode cL_areAlike 43 = .ok (.invokevirtual 27, 3) := by decide +kernel
theorem dL_areAlike_46 : decode cL_areAlike 46 = .ok (.aload_n 1, 1) := by decide +kernel
theorem dL_areAlike_47 : decode cL_areAlike 47 = .ok (.iload_n 3, 1) := by decide +kernel
theorem dL_areAlike_48 : decode cL_areAlike 48 = .ok (.invokevirtual 27, 3) := by decide +kernel
theorem dL_areAlike_51 : decode cL_areAlike 51 = .ok (.if_icmp .ne 7, 3) := by decide +kernel
theorem dL_areAlike_54 : decode cL_areAlike 54 = .ok (.iconst 1, 1) := by decide +kernel
theorem dL_areAlike_55 : decode cL_areAlike 55 = .ok (.goto 4, 3) := by decide +kernel
theorem dL_areAlike_58 : decode cL_areAlike 58 = .ok (.iconst 0, 1) := by decide +kernel
theorem dL_areAlike_59 : decode cL_areAlike 59 = .ok (.istore_n 2, 1) := by decide +kernel
theorem dL_areAlike_60 : decode cL_areAlike 60 = .ok (.iinc 3 1, 3) := by decide +kernel
theorem dL_areAlike_63 : decode cL_areAlike 63 = .ok (.goto (-32), 3) := by decide +kernel
theorem dL_areAlike_66 : decode cL_areAlike 66 = .ok (.iconst 0, 1) := by decide +kernel
theorem dL_areAlike_67 : decode cL_areAlike 67 = .ok (.istore_n 3, 1) := by decide +kernel
theorem dL_areAlike_68 : decode cL_areAlike 68 = .ok (.iload_n 3, 1) := by decide +kernel
theorem dL_areAlike_69 : decode cL_areAlike 69 = .ok (.iconst 4, 1) := by decide +kernel
theorem dL_areAlike_70 : decode cL_areAlike 70 = .ok (.if_icmp .ge 125, 3) := by decide +kernel
theorem dL_areAlike_73 : decode cL_areAlike 73 = .ok (.iload_n 2, 1) := by decide +kernel
theorem dL_areAlike_74 : decode cL_areAlike 74 = .ok (.ifCond .eq 121, 3) := by decide +kernel
theorem dL_areAlike_77 : decode cL_areAlike 77 = .ok (.iconst 0, 1) := by decide +kernel
theorem dL_areAlike_78 : decode cL_areAlike 78 = .ok (.istore 4, 2) := by decide +kernel
theorem dL_areAlike_80 : decode cL_areAlike 80 = .ok (.iload 4, 2) := by decide +kernel
theorem dL_areAlike_82 : decode cL_areAlike 82 = .ok (.bipush 8, 2) := by decide +kernel
theorem dL_areAlike_84 : decode cL_areAlike 84 = .ok (.if_icmp .ge 38, 3) := by decide +kernel
theorem dL_areAlike_87 : decode cL_areAlike 87 = .ok (.iload_n 2, 1) := by decide +kernel
theorem dL_areAlike_88 : decode cL_areAlike 88 = .ok (.ifCond .eq 26, 3) := by decide +kernel
theorem dL_areAlike_91 : decode cL_areAlike 91 = .ok (.aload_n 0, 1) := by decide +kernel
theorem dL_areAlike_92 : decode cL_areAlike 92 = .ok (.iload_n 3, 1) := by decide +kernel
theorem dL_areAlike_93 : decode cL_areAlike 93 = .ok (.iload 4, 2) := by decide +kernel
theorem dL_areAlike_95 : decode cL_areAlike 95 = .ok (.invokevirtual 58, 3) := by decide +kernel
theorem dL_areAlike_98 : decode cL_areAlike 98 = .ok (.aload_n 1, 1) := by decide +kernel
theorem dL_areAlike_99 : decode cL_areAlike 99 = .ok (.iconst 3, 1) := by decide +kernel
theorem dL_areAlike_100 : decode cL_areAlike 100 = .ok (.iload_n 3, 1) := by decide +kernel
theorem dL_areAlike_101 : decode cL_areAlike 101 = .ok (.isub, 1) := by decide +kernel
theorem dL_areAlike_102 : decode cL_areAlike 102 = .ok (.iload 4, 2) := by decide +kernel
theorem dL_areAlike_104 : decode cL_areAlike 104 = .ok (.invokevirtual 58, 3) := by decide +kernel
theorem dL_areAlike_107 : decode cL_areAlike 107 = .ok (.if_icmp .ne 7, 3) := by decide +kernel
theorem dL_areAlike_110 : decode cL_areAlike 110 = .ok (.iconst 1, 1) := by decide +kernel
theorem dL_areAlike_111 : decode cL_areAlike 111 = .ok (.goto 4, 3) := by decide +kernel
theorem dL_areAlike_114 : decode cL_areAlike 114 = .ok (.iconst 0, 1) := by decide +kernel
theorem dL_areAlike_115 : decode cL_areAlike 115 = .ok (.istore_n 2, 1) := by decide +kernel
theorem dL_areAlike_116 : decode cL_areAlike 116 = .ok (.iinc 4 1, 3) := by decide +kernel
theorem dL_areAlike_119 : decode cL_areAlike 119 = .ok (.goto (-39), 3) := by decide +kernel
theorem dL_areAlike_122 : decode cL_areAlike 122 = .ok (.iload_n 2, 1) := by decide +kernel
theorem dL_areAlike_123 : decode cL_areAlike 123 = .ok (.ifCond .eq 64, 3) := by decide +kernel
theorem dL_areAlike_126 : decode cL_areAlike 126 = .ok (.aload_n 0, 1) := by decide +kernel
theorem dL_areAlike_127 : decode cL_areAlike 127 = .ok (.iload_n 3, 1) := by decide +kernel
theorem dL_areAlike_128 : decode cL_areAlike 128 = .ok (.bipush 30, 2) := by decide +kernel
theorem dL_areAlike_130 : decode cL_areAlike 130 = .ok (.invokevirtual 61, 3) := by decide +kernel
theorem dL_areAlike_133 : decode cL_areAlike 133 = .ok (.aload_n 1, 1) := by decide +kernel
theorem dL_areAlike_134 : decode cL_areAlike 134 = .ok (.iconst 3, 1) := by decide +kernel
theorem dL_areAlike_135 : decode cL_areAlike 135 = .ok (.iload_n 3, 1) := by decide +kernel
theorem dL_areAlike_136 : decode cL_areAlike 136 = .ok (.isub, 1) := by decide +kernel
theorem dL_areAlike_137 : decode cL_areAlike 137 = .ok (.bipush 30, 2) := by decide +kernel
theorem dL_areAlike_139 : decode cL_areAlike 139 = .ok (.invokevirtual 61, 3) := by decide +kernel
theorem dL_areAlike_142 : decode cL_areAlike 142 = .ok (.if_icmp .ne 45, 3) := by decide +kernel
theorem dL_areAlike_145 : decode cL_areAlike 145 = .ok (.aload_n 0, 1) := by decide +kernel
theorem dL_areAlike_146 : decode cL_areAlike 146 = .ok (.iload_n 3, 1) := by decide +kernel
theorem dL_areAlike_147 : decode cL_areAlike 147 = .ok (.bipush 30, 2) := by decide +kernel
theorem dL_areAlike_149 : decode cL_areAlike 149 = .ok (.invokevirtual 64, 3) := by decide +kernel
theorem dL_areAlike_152 : decode cL_areAlike 152 = .ok (.aload_n 1, 1) := by decide +kernel
theorem dL_areAlike_153 : decode cL_areAlike 153 = .ok (.iconst 3, 1) := by decide +kernel
theorem dL_areAlike_154 : decode cL_areAlike 154 = .ok (.iload_n 3, 1) := by decide +kernel
theorem dL_areAlike_155 : decode cL_areAlike 155 = .ok (.isub, 1) := by decide +kernel
theorem dL_areAlike_156 : decode cL_areAlike 156 = .ok (.bipush 30, 2) := by decide +kernel
theorem dL_areAlike_158 : decode cL_areAlike 158 = .ok (.invokevirtual 64, 3) := by decide +kernel
theorem dL_areAlike_161 : decode cL_areAlike 161 = .ok (.if_icmp .ne 26, 3) := by decide +kernel
theorem dL_areAlike_164 : decode cL_areAlike 164 = .ok (.aload_n 0, 1) := by decide +kernel
theorem dL_areAlike_165 : decode cL_areAlike 165 = .ok (.iload_n 3, 1) := by decide +kernel
theorem dL_areAlike_166 : decode cL_areAlike 166 = .ok (.bipush 20, 2) := by decide +kernel
theorem dL_areAlike_168 : decode cL_areAlike 168 = .ok (.invokevirtual 67, 3) := by decide +kernel
theorem dL_areAlike_171 : decode cL_areAlike 171 = .ok (.aload_n 1, 1) := by decide +kernel
theorem dL_areAlike_172 : decode cL_areAlike 172 = .ok (.iconst 3, 1) := by decide +kernel
theorem dL_areAlike_173 : decode cL_areAlike 173 = .ok (.iload_n 3, 1) := by decide +kernel
theorem dL_areAlike_174 : decode cL_areAlike 174 = .ok (.isub, 1) := by decide +kernel
theorem dL_areAlike_175 : decode cL_areAlike 175 = .ok (.bipush 20, 2) := by decide +kernel
theorem dL_areAlike_177 : decode cL_areAlike 177 = .ok (.invokevirtual 67, 3) := by decide +kernel
theorem dL_areAlike_180 : decode cL_areAlike 180 = .ok (.if_icmp .ne 7, 3) := by decide +kernel
theorem dL_areAlike_183 : decode cL_areAlike 183 = .ok (.iconst 1, 1) := by decide +kernel
theorem dL_areAlike_184 : decode cL_areAlike 184 = .ok (.goto 4, 3) := by decide +kernel
theorem dL_areAlike_187 : decode cL_areAlike 187 = .ok (.iconst 0, 1) := by decide +kernel
theorem dL_areAlike_188 : decode cL_areAlike 188 = .ok (.istore_n 2, 1) := by decide +kernel
theorem dL_areAlike_189 : decode cL_areAlike 189 = .ok (.iinc 3 1, 3) := by decide +kernel
theorem dL_areAlike_192 : decode cL_areAlike 192 = .ok (.goto (-124), 3) := by decide +kernel
theorem dL_areAlike_195 : decode cL_areAlike 195 = .ok (.iconst 0, 1) := by decide +kernel
theorem dL_areAlike_196 : decode cL_areAlike 196 = .ok (.istore_n 3, 1) := by decide +kernel
theorem dL_areAlike_197 : decode cL_areAlike 197 = .ok (.iload_n 3, 1) := by decide +kernel
theorem dL_areAlike_198 : decode cL_areAlike 198 = .ok (.bipush 6, 2) := by decide +kernel
theorem dL_areAlike_200 : decode cL_areAlike 200 = .ok (.if_icmp .ge 55, 3) := by decide +kernel
theorem dL_areAlike_203 : decode cL_areAlike 203 = .ok (.iload_n 2, 1) := by decide +kernel
theorem dL_areAlike_204 : decode cL_areAlike 204 = .ok (.ifCond .eq 51, 3) := by decide +kernel
theorem dL_areAlike_207 : decode cL_areAlike 207 = .ok (.iconst 0, 1) := by decide +kernel
theorem dL_areAlike_208 : decode cL_areAlike 208 = .ok (.istore 4, 2) := by decide +kernel
theorem dL_areAlike_210 : decode cL_areAlike 210 = .ok (.iload 4, 2) := by decide +kernel
theorem dL_areAlike_212 : decode cL_areAlike 212 = .ok (.iconst 5, 1) := by decide +kernel
theorem dL_areAlike_213 : decode cL_areAlike 213 = .ok (.if_icmp .ge 36, 3) := by decide +kernel
theorem dL_areAlike_216 : decode cL_areAlike 216 = .ok (.iload_n 2, 1) := by decide +kernel
theorem dL_areAlike_217 : decode cL_areAlike 217 = .ok (.ifCond .eq 24, 3) := by decide +kernel
theorem dL_areAlike_220 : decode cL_areAlike 220 = .ok (.aload_n 0, 1) := by decide +kernel
theorem dL_areAlike_221 : decode cL_areAlike 221 = .ok (.iload_n 3, 1) := by decide +kernel
theorem dL_areAlike_222 : decode cL_areAlike 222 = .ok (.iload 4, 2) := by decide +kernel
theorem dL_areAlike_224 : decode cL_areAlike 224 = .ok (.invokevirtual 70, 3) := by decide +kernel
theorem dL_areAlike_227 : decode cL_areAlike 227 = .ok (.aload_n 1, 1) := by decide +kernel
theorem dL_areAlike_228 : decode cL_areAlike 228 = .ok (.iload_n 3, 1) := by decide +kernel
theorem dL_areAlike_229 : decode cL_areAlike 229 = .ok (.iload 4, 2) := by decide +kernel
theorem dL_areAlike_231 : decode cL_areAlike 231 = .ok (.invokevirtual 70, 3) := by decide +kernel
theorem dL_areAlike_234 : decode cL_areAlike 234 = .ok (.if_icmp .ne 7, 3) := by decide +kernel
theorem dL_areAlike_237 : decode cL_areAlike 237 = .ok (.iconst 1, 1) := by decide +kernel
theorem dL_areAlike_238 : decode cL_areAlike 238 = .ok (.goto 4, 3) := by decide +kernel
theorem dL_areAlike_241 : decode cL_areAlike 241 = .ok (.iconst 0, 1) := by decide +kernel
theorem dL_areAlike_242 : decode cL_areAlike 242 = .ok (.istore_n 2, 1) := by decide +kernel
theorem dL_areAlike_243 : decode cL_areAlike 243 = .ok (.iinc 4 1, 3) := by decide +kernel
theorem dL_areAlike_246 : decode cL_areAlike 246 = .ok (.goto (-36), 3) := by decide +kernel
theorem dL_areAlike_249 : decode cL_areAlike 249 = .ok (.iinc 3 1, 3) := by decide +kernel
theorem dL_areAlike_252 : decode cL_areAlike 252 = .ok (.goto (-55), 3) := by decide +kernel
theorem dL_areAlike_255 : decode cL_areAlike 255 = .ok (.iload_n 2, 1) := by decide +kernel
theorem dL_areAlike_256 : decode cL_areAlike 256 = .ok (.ireturn, 1) := by decide +kernel
set_option maxRecDepth 20000 in
theorem ggL_isSound_X7_value : GoodIn wsL_isSound wsX7_value := goodIn_ca (goodIn_r _ [5, 6, 7, 4, 8, 9, 10, 11, 12, 13, 14, 15, 16, 17, 18, 19, 20, 21, 22, 23, 24, 25, 26, 27, 28, 29, 30, 31, 32, 33, 131, 132, 133, 134, 135, 136, 137, 138, 139, 140, 141, 142, 143, 144, 145, 146, 147] (by decide +kernel) (by decide +kernel)) (goodIn_sub (fun _ h => List.mem_cons_of_mem _ (List.mem_append_left _ (List.mem_append_right _ h))) (by decide +kernel))
set_option maxRecDepth 20000 in
theorem gL_isSound_X7_value : GoodIn wsL_isSound (wsV RL 27 RX7 yX7_value wsX7_value) := goodIn_app (goodIn_of _ (by decide +kernel)) ggL_isSound_X7_value
set_option maxRecDepth 20000 in
theorem ggL_isSound_X7_order : GoodIn wsL_isSound wsX7_order := goodIn_ca (goodIn_r _ [37, 15, 23, 24, 38, 39, 4, 40, 41, 42, 43, 32, 33, 25, 26, 27, 28, 29, 30, 31, 131, 132, 133, 134, 135, 136, 144, 145, 146, 147] (by decide +kernel) (by decide +kernel)) (goodIn_sub (fun _ h => List.mem_cons_of_mem _ (List.mem_append_right _ h)) (by decide +kernel))
set_option maxRecDepth 20000 in
theorem gL_isSound_X7_order : GoodIn wsL_isSound (wsV RL 73 RX7 yX7_order wsX7_order) := goodIn_app (goodIn_of _ (by decide +kernel)) ggL_isSound_X7_order
set_option maxRecDepth 20000 in
theorem ggL_isSound_X7_pattern : GoodIn wsL_isSound wsX7_pattern := goodIn_ca (goodIn_ca (goodIn_r _ [47, 15, 23, 38, 39, 4, 40, 41, 42, 43, 32, 33, 6, 7, 8, 9, 10, 48, 49, 50, 28, 51, 52, 53, 54, 55, 56, 57, 58, 59, 60, 61, 62, 63, 64, 65, 66, 67, 68, 69, 70, 71, 72, 73, 74, 75, 76, 77, 78, 79, 80, 81, 82, 83, 84, 85, 86, 87, 88, 89, 90, 30, 91, 26, 27, 29, 31, 92, 93, 94, 95, 96, 97, 98, 99, 100, 101, 102, 103, 104, 131, 132, 133, 134, 135, 136, 144, 145, 146, 147] (by decide +kernel) (by decide +kernel)) (goodIn_sub (fun _ h => List.mem_cons_of_mem _ (List.mem_append_right _ h)) (by decide +kernel))) (goodIn_sub (fun _ h => List.mem_cons_of_mem _ (List.mem_append_left _ (List.mem_append_right _ h))) (by decide +kernel))
set_option maxRecDepth 20000 in
theorem gL_isSound_X7_pattern : GoodIn wsL_isSound (wsV RL 70 RX7 yX7_pattern wsX7_pattern) := goodIn_app (goodIn_of _ (by decide +kernel)) ggL_isSound_X7_pattern
set_option maxRecDepth 20000 in
theorem ggL_isSound_X7_channel : GoodIn wsL_isSound wsX7_channel := goodIn_ca (goodIn_ca (goodIn_r _ [108, 15, 16, 109, 38, 39, 4, 40, 41, 42, 43, 32, 33, 6, 7, 8, 9, 10, 110, 111, 112, 113, 114, 115, 116, 117, 118, 119, 120, 121, 122, 123, 124, 125, 126, 127, 128, 129, 130, 131, 132, 133, 134, 135, 136, 137, 138, 139, 140, 141, 142, 143, 148, 149, 150, 151, 152, 153, 154, 155, 156] (by decide +kernel) (by decide +kernel)) (goodIn_sub (fun _ h => List.mem_cons_of_mem _ (List.mem_append_right _ h)) (by decide +kernel))) (goodIn_sub (fun _ h => List.mem_cons_of_mem _ (List.mem_append_left _ (List.mem_append_right _ h))) (by decide +kernel))
set_option maxRecDepth 20000 in
theorem gL_isSound_X7_channel : GoodIn wsL_isSound (wsV RL 58 RX7 yX7_channel wsX7_channel) := goodIn_app (goodIn_of _ (by decide +kernel)) ggL_isSound_X7_channel
theorem dL_isSound_0 : decode cL_isSound 0 = .ok (.aload_n 0, 1) := by decide +kernel
theorem dL_isSound_1 : decode cL_isSound 1 = .ok (.iconst 0, 1) := by decide +kernel
theorem dL_isSound_2 : decode cL_isSound 2 = .ok (.invokevirtual 27, 3) := by decide +kernel
theorem dL_isSound_5 : decode cL_isSound 5 = .ok (.aload_n 0, 1) := by decide +kernel
theorem dL_isSound_6 : decode cL_isSound 6 = .ok (.bipush 6, 2) := by decide +kernel
theorem dL_isSound_8 : decode cL_isSound 8 = .ok (.invokevirtual 27, 3) := by decide +kernel
theorem dL_isSound_11 : decode cL_isSound 11 = .ok (.if_icmp .ge 69, 3) := by decide +kernel
theorem dL_isSound_14 : decode cL_isSound 14 = .ok (.aload_n 0, 1) := by decide +kernel
theorem dL_isSound_15 : decode cL_isSound 15 = .ok (.iconst 2, 1) := by decide +kernel
theorem dL_isSound_16 : decode cL_isSound 16 = .ok (.invokevirtual 27, 3) := by decide +kernel
theorem dL_isSound_19 : decode cL_isSound 19 = .ok (.bipush 8, 2) := by decide +kernel
theorem dL_isSound_21 : decode cL_isSound 21 = .ok (.if_icmp .ge 59, 3) := by decide +kernel
theorem dL_isSound_24 : decode cL_isSound 24 = .ok (.aload_n 0, 1) := by decide +kernel
theorem dL_isSound_25 : decode cL_isSound 25 = .ok (.iconst 3, 1) := by decide +kernel
theorem dL_isSound_26 : decode cL_isSound 26 = .ok (.invokevirtual 27, 3) := by decide +kernel
theorem dL_isSound_29 : decode cL_isSound 29 = .ok (.iconst 1, 1) := by decide +kernel
theorem dL_isSound_30 : decode cL_isSound 30 = .ok (.if_icmp .lt 50, 3) := by decide +kernel
theorem dL_isSound_33 : decode cL_isSound 33 = .ok (.aload_n 0, 1) := by decide +kernel
theorem dL_isSound_34 : decode cL_isSound 34 = .ok (.iconst 3, 1) := by decide +kernel
theorem dL_isSound_35 : decode cL_isSound 35 = .ok (.invokevirtual 27, 3) := by decide +kernel
theorem dL_isSound_38 : decode cL_isSound 38 = .ok (.bipush 8, 2) := by decide +kernel
theorem dL_isSound_40 : decode cL_isSound 40 = .ok (.if_icmp .gt 40, 3) := by decide +kernel
theorem dL_isSound_43 : decode cL_isSound 43 = .ok (.aload_n 0, 1) := by decide +kernel
theorem dL_isSound_44 : decode cL_isSound 44 = .ok (.bipush 7, 2) := by decide +kernel
theorem dL_isSound_46 : decode cL_isSound 46 = .ok (.invokevirtual 27, 3) := by decide +kernel
theorem dL_isSound_49 : decode cL_isSound 49 = .ok (.aload_n 0, 1) := by decide +kernel
theorem dL_isSound_50 : decode cL_isSound 50 = .ok (.aload_n 0, 1) := by decide +kernel
theorem dL_isSound_51 : decode cL_isSound 51 = .ok (.iconst 0, 1) := by decide +kernel
theorem dL_isSound_52 : decode cL_isSound 52 = .ok (.invokevirtual 27, 3) := by decide +kernel
theorem dL_isSound_55 : decode cL_isSound 55 = .ok (.invokevirtual 73, 3) := by decide +kernel
theorem dL_isSound_58 : decode cL_isSound 58 = .ok (.if_icmp .ne 22, 3) := by decide +kernel
theorem dL_isSound_61 : decode cL_isSound 61 = .ok (.aload_n 0, 1) := by decide +kernel
theorem dL_isSound_62 : decode cL_isSound 62 = .ok (.aload_n 0, 1) := by decide +kernel
theorem dL_isSound_63 : decode cL_isSound 63 = .ok (.bipush 7, 2) := by decide +kernel
theorem dL_isSound_65 : decode cL_isSound 65 = .ok (.invokevirtual 27, 3) := by decide +kernel
theorem dL_isSound_68 : decode cL_isSound 68 = .ok (.iconst 4, 1) := by decide +kernel
theorem dL_isSound_69 : decode cL_isSound 69 = .ok (.invokevirtual 70, 3) := by decide +kernel
theorem dL_isSound_72 : decode cL_isSound 72 = .ok (.iconst 1, 1) := by decide +kernel
theorem dL_isSound_73 : decode cL_isSound 73 = .ok (.if_icmp .ne 7, 3) := by decide +kernel
theorem dL_isSound_76 : decode cL_isSound 76 = .ok (.iconst 1, 1) := by decide +kernel
theorem dL_isSound_77 : decode cL_isSound 77 = .ok (.goto 4, 3) := by decide +kernel
theorem dL_isSound_80 : decode cL_isSound 80 = .ok (.iconst 0, 1) := by decide +kernel
theorem dL_isSound_81 : decode cL_isSound 81 = .ok (.istore_n 1, 1) := by decide +kernel
theorem dL_isSound_82 : decode cL_isSound 82 = .ok (.iconst 0, 1) := by decide +kernel
theorem dL_isSound_83 : decode cL_isSound 83 = .ok (.istore_n 2, 1) := by decide +kernel
theorem dL_isSound_84 : decode cL_isSound 84 = .ok (.iload_n 2, 1) := by decide +kernel
theorem dL_isSound_85 : decode cL_isSound 85 = .ok (.iconst 4, 1) := by decide +kernel
theorem dL_isSound_86 : decode cL_isSound 86 = .ok (.if_icmp .ge 133, 3) := by decide +kernel
theorem dL_isSound_89 : decode cL_isSound 89 = .ok (.aload_n 0, 1) := by decide +kernel
theorem dL_isSound_90 : decode cL_isSound 90 = .ok (.iload_n 2, 1) := by decide +kernel
theorem dL_isSound_91 : decode cL_isSound 91 = .ok (.iconst 4, 1) := by decide +kernel
theorem dL_isSound_92 : decode cL_isSound 92 = .ok (.invokevirtual 58, 3) := by decide +kernel
theorem dL_isSound_95 : decode cL_isSound 95 = .ok (.istore_n 3, 1) := by decide +kernel
theorem dL_isSound_96 : decode cL_isSound 96 = .ok (.iload_n 1, 1) := by decide +kernel
theorem dL_isSound_97 : decode cL_isSound 97 = .ok (.ifCond .eq 114, 3) := by decide +kernel
theorem dL_isSound_100 : decode cL_isSound 100 = .ok (.aload_n 0, 1) := by decide +kernel
theorem dL_isSound_101 : decode cL_isSound 101 = .ok (.iload_n 2, 1) := by decide +kernel
theorem dL_isSound_102 : decode cL_isSound 102 = .ok (.iconst 0, 1) := by decide +kernel
theorem dL_isSound_103 : decode cL_isSound 103 = .ok (.invokevirtual 58, 3) := by decide +kernel
theorem dL_isSound_106 : decode cL_isSound 106 = .ok (.ifCond .lt 105, 3) := by decide +kernel
theorem dL_isSound_109 : decode cL_isSound 109 = .ok (.aload_n 0, 1) := by decide +kernel
theorem dL_isSound_110 : decode cL_isSound 110 = .ok (.iload_n 2, 1) := by decide +kernel
theorem dL_isSound_111 : decode cL_isSound 111 = .ok (.iconst 0, 1) := by decide +kernel
theorem dL_isSound_112 : decode cL_isSound 112 = .ok (.invokevirtual 58, 3) := by decide +kernel
theorem dL_isSound_115 : decode cL_isSound 115 = .ok (.sipush 999, 3) := by decide +kernel
theorem dL_isSound_118 : decode cL_isSound 118 = .ok (.if_icmp .gt 93, 3) := by decide +kernel
theorem dL_isSound_121 : decode cL_isSound 121 = .ok (.aload_n 0, 1) := by decide +kernel
theorem dL_isSound_122 : decode cL_isSound 122 = .ok (.iload_n 2, 1) := by decide +kernel
theorem dL_isSound_123 : decode cL_isSound 123 = .ok (.iconst 1, 1) := by decide +kernel
theorem dL_isSound_124 : decode cL_isSound 124 = .ok (.invokevirtual 58, 3) := by decide +kernel
theorem dL_isSound_127 : decode cL_isSound 127 = .ok (.ifCond .lt 84, 3) := by decide +kernel
theorem dL_isSound_130 : decode cL_isSound 130 = .ok (.aload_n 0, 1) := by decide +kernel
theorem dL_isSound_131 : decode cL_isSound 131 = .ok (.iload_n 2, 1) := by decide +kernel
theorem dL_isSound_132 : decode cL_isSound 132 = .ok (.iconst 1, 1) := by decide +kernel
theorem dL_isSound_133 : decode cL_isSound 133 = .ok (.invokevirtual 58, 3) := by decide +kernel
theorem dL_isSound_136 : decode cL_isSound 136 = .ok (.bipush 15, 2) := by decide +kernel
theorem dL_isSound_138 : decode cL_isSound 138 = .ok (.if_icmp .gt 73, 3) := by decide +kernel
theorem dL_isSound_141 : decode cL_isSound 141 = .ok (.iload_n 3, 1) := by decide +kernel
theorem dL_isSound_142 : decode cL_isSound 142 = .ok (.ifCond .lt 69, 3) := by decide +kernel
theorem dL_isSound_145 : decode cL_isSound 145 = .ok (.iload_n 3, 1) := by decide +kernel
theorem dL_isSound_146 : decode cL_isSound 146 = .ok (.iconst 3, 1) := by decide +kernel
theorem dL_isSound_147 : decode cL_isSound 147 = .ok (.if_icmp .gt 64, 3) := by decide +kernel
theorem dL_isSound_150 : decode cL_isSound 150 = .ok (.aload_n 0, 1) := by decide +kernel
theorem dL_isSound_151 : decode cL_isSound 151 = .ok (.iload_n 2, 1) := by decide +kernel
theorem dL_isSound_152 : decode cL_isSound 152 = .ok (.iconst 5, 1) := by decide +kernel
theorem dL_isSound_153 : decode cL_isSound 153 = .ok (.invokevirtual 58, 3) := by decide +kernel
theorem dL_isSound_156 : decode cL_isSound 156 = .ok (.ifCond .lt 7, 3) := by decide +kernel
theorem dL_isSound_159 : decode cL_isSound 159 = .ok (.iconst 1, 1) := by decide +kernel
theorem dL_isSound_160 : decode cL_isSound 160 = .ok (.goto 4, 3) := by decide +kernel
theorem dL_isSound_163 : decode cL_isSound 163 = .ok (.iconst 0, 1) := by decide +kernel
theorem dL_isSound_164 : decode cL_isSound 164 = .ok (.iload_n 3, 1) := by decide +kernel
theorem dL_isSound_165 : decode cL_isSound 165 = .ok (.ifCond .le 7, 3) := by decide +kernel
theorem dL_isSound_168 : decode cL_isSound 168 = .ok (.iconst 1, 1) := by decide +kernel
theorem dL_isSound_169 : decode cL_isSound 169 = .ok (.goto 4, 3) := by decide +kernel
theorem dL_isSound_172 : decode cL_isSound 172 = .ok (.iconst 0, 1) := by decide +kernel
theorem dL_isSound_173 : decode cL_isSound 173 = .ok (.if_icmp .ne 38, 3) := by decide +kernel
theorem dL_isSound_176 : decode cL_isSound 176 = .ok (.aload_n 0, 1) := by decide +kernel
theorem dL_isSound_177 : decode cL_isSound 177 = .ok (.iload_n 2, 1) := by decide +kernel
theorem dL_isSound_178 : decode cL_isSound 178 = .ok (.iconst 2, 1) := by decide +kernel
theorem dL_isSound_179 : decode cL_isSound 179 = .ok (.invokevirtual 58, 3) := by decide +kernel
theorem dL_isSound_182 : decode cL_isSound 182 = .ok (.ifCond .le 7, 3) := by decide +kernel
theorem dL_isSound_185 : decode cL_isSound 185 = .ok (.iconst 1, 1) := by decide +kernel
theorem dL_isSound_186 : decode cL_isSound 186 = .ok (.goto 4, 3) := by decide +kernel
theorem dL_isSound_189 : decode cL_isSound 189 = .ok (.iconst 0, 1) := by decide +kernel
theorem dL_isSound_190 : decode cL_isSound 190 = .ok (.aload_n 0, 1) := by decide +kernel
theorem dL_isSound_191 : decode cL_isSound 191 = .ok (.iload_n 2, 1) := by decide +kernel
theorem dL_isSound_192 : decode cL_isSound 192 = .ok (.iconst 3, 1) := by decide +kernel
theorem dL_isSound_193 : decode cL_isSound 193 = .ok (.invokevirtual 58, 3) := by decide +kernel
theorem dL_isSound_196 : decode cL_isSound 196 = .ok (.ifCond .lt 7, 3) := by decide +kernel
theorem dL_isSound_199 : decode cL_isSound 199 = .ok (.iconst 1, 1) := by decide +kernel
theorem dL_isSound_200 : decode cL_isSound 200 = .ok (.goto 4, 3) := by decide +kernel
theorem dL_isSound_203 : decode cL_isSound 203 = .ok (.iconst 0, 1) := by decide +kernel
theorem dL_isSound_204 : decode cL_isSound 204 = .ok (.if_icmp .ne 7, 3) := by decide +kernel
theorem dL_isSound_207 : decode cL_isSound 207 = .ok (.iconst 1, 1) := by decide +kernel
theorem dL_isSound_208 : decode cL_isSound 208 = .ok (.goto 4, 3) := by decide +kernel
theorem dL_isSound_211 : decode cL_isSound 211 = .ok (.iconst 0, 1) := by decide +kernel
theorem dL_isSound_212 : decode cL_isSound 212 = .ok (.istore_n 1, 1) := by decide +kernel
theorem dL_isSound_213 : decode cL_isSound 213 = .ok (.iinc 2 1, 3) := by decide +kernel
theorem dL_isSound_216 : decode cL_isSound 216 = .ok (.goto (-132), 3) := by decide +kernel
theorem dL_isSound_219 : decode cL_isSound 219 = .ok (.iload_n 1, 1) := by decide +kernel
theorem dL_isSound_220 : decode cL_isSound 220 = .ok (.ireturn, 1) := by decide +kernel
