theorem ggL_setNote_X7_setNote : GoodIn wsL_setNote wsX7_setNote := goodIn_ca (goodIn_ca (goodIn_r _ [7, 8, 9, 10, 11, 12, 6, 13, 14, 15, 16, 17, 18, 19, 20, 21, 22, 23, 24, 25, 26, 27, 28, 29, 30, 31, 32, 33, 34, 35, 36, 37, 38, 39, 40, 41, 42, 43, 44, 45, 46, 47, 48, 49, 50, 51, 52, 53, 54, 55, 56, 57, 58, 59, 60, 61, 62, 63, 64, 65, 66, 67, 68, 69, 70, 71, 72, 73, 74, 75, 76, 77, 78, 79, 80, 81, 82, 83, 84, 85, 86, 87, 88, 89, 90, 91, 92, 93, 94, 95, 96, 97, 98, 99, 100, 101, 102, 103, 104, 105, 106, 107, 108, 109, 110, 111, 112, 113, 114, 115, 116, 117, 118, 119, 120, 121, 122, 123, 124, 125, 126, 127, 128, 129, 130, 131, 132, 133, 134, 135] (by decide +kernel) (by decide +kernel)) (goodIn_sub (fun _ h => List.mem_cons_of_mem _ (List.mem_append_left _ (List.mem_append_right _ h))) (by decide +kernel))) (goodIn_sub (fun _ h => List.mem_cons_of_mem _ (List.mem_append_right _ h)) (by decide +kernel))
set_option maxRecDepth 20000 in
theorem gL_setNote_X7_setNote : GoodIn wsL_setNote (wsV RL 7 RX7 yX7_setNote wsX7_setNote) := goodIn_app (goodIn_of _ (by decide +kernel)) ggL_setNote_X7_setNote
theorem dL_setNote_0 : decode cL_setNote 0 = .ok (.aload 6, 2) := by decide +kernel
theorem dL_setNote_2 : decode cL_setNote 2 = .ok (.iconst 0, 1) := by decide +kernel
theorem dL_setNote_3 : decode cL_setNote 3 = .ok (.aload_n 0, 1) := by decide +kernel
theorem dL_setNote_4 : decode cL_setNote 4 = .ok (.iload_n 1, 1) := by decide +kernel
theorem dL_setNote_5 : decode cL_setNote 5 = .ok (.iload_n 2, 1) := by decide +kernel
theorem dL_setNote_6 : decode cL_setNote 6 = .ok (.iload_n 3, 1) := by decide +kernel
theorem dL_setNote_7 : decode cL_setNote 7 = .ok (.iload 4, 2) := by decide +kernel
theorem dL_setNote_9 : decode cL_setNote 9 = .ok (.iload 5, 2) := by decide +kernel
theorem dL_setNote_11 : decode cL_setNote 11 = .ok (.invokevirtual 7, 3) := by decide +kernel
theorem dL_setNote_14 : decode cL_setNote 14 = .ok (.i2l, 1) := by decide +kernel
theorem dL_setNote_15 : decode cL_setNote 15 = .ok (.lastore, 1) := by decide +kernel
theorem dL_setNote_16 : decode cL_setNote 16 = .ok (.goto 11, 3) := by decide +kernel
theorem dL_setNote_19 : decode cL_setNote 19 = .ok (.astore 7, 2) := by decide +kernel
theorem dL_setNote_21 : decode cL_setNote 21 = .ok (.iconst 1, 1) := by decide +kernel
theorem dL_setNote_22 : decode cL_setNote 22 = .ok (.ireturn, 1) := by decide +kernel
theorem dL_setNote_23 : decode cL_setNote 23 = .ok (.astore 7, 2) := by decide +kernel
theorem dL_setNote_25 : decode cL_setNote 25 = .ok (.iconst 2, 1) := by decide +kernel
theorem dL_setNote_26 : decode cL_setNote 26 = .ok (.ireturn, 1) := by decide +kernel
theorem dL_setNote_27 : decode cL_setNote 27 = .ok (.iconst 0, 1) := by decide +kernel
theorem dL_setNote_28 : decode cL_setNote 28 = .ok (.ireturn, 1) := by decide +kernel
set_option maxRecDepth 20000 in
theorem ggL_setEffect_X7_setEffect : GoodIn wsL_setEffect wsX7_setEffect := goodIn_ca (goodIn_ca (goodIn_r _ [7, 8, 9, 10, 11, 12, 6, 13, 14, 15, 16, 17, 18, 19, 20, 21, 22, 23, 24, 25, 26, 27, 28, 29, 30, 31, 32, 33, 34, 35, 36, 37, 38, 39, 40, 41, 42, 43, 44, 45, 46, 47, 48, 49, 50, 51, 52, 53, 54, 55, 56, 57, 58, 59, 60, 61, 62, 63, 64, 65, 66, 67, 68, 69, 70, 71, 72, 73, 74, 75, 76, 77, 78, 79, 80, 81, 82, 83, 84, 85, 86, 87, 88, 89, 90, 91, 92, 93, 94, 95, 96, 97, 98, 99, 100, 101, 102, 103, 104, 105, 106, 107, 108, 109, 110, 111, 112, 113, 114, 115, 116, 117, 118, 119, 120, 121, 122, 123, 124, 125, 126, 127, 128, 129, 130, 131, 132, 133, 134, 135] (by decide +kernel) (by decide +kernel)) (goodIn_sub (fun _ h => List.mem_cons_of_mem _ (List.mem_append_left _ (List.mem_append_right _ h))) (by decide +kernel))) (goodIn_sub (fun _ h => List.mem_cons_of_mem _ (List.mem_append_right _ h)) (by decide +kernel))
set_option maxRecDepth 20000 in
theorem gL_setEffect_X7_setEffect : GoodIn wsL_setEffect (wsV RL 17 RX7 yX7_setEffect wsX7_setEffect) := goodIn_app (goodIn_of _ (by decide +kernel)) ggL_setEffect_X7_setEffect
theorem dL_setEffect_0 : decode cL_setEffect 0 = .ok (.aload 6, 2) := by decide +kernel
theorem dL_setEffect_2 : decode cL_setEffect 2 = .ok (.iconst 0, 1) := by decide +kernel
theorem dL_setEffect_3 : decode cL_setEffect 3 = .ok (.aload_n 0, 1) := by decide +kernel
theorem dL_setEffect_4 : decode cL_setEffect 4 = .ok (.iload_n 1, 1) := by decide +kernel
theorem dL_setEffect_5 : decode cL_setEffect 5 = .ok (.iload_n 2, 1) := by decide +kernel
theorem dL_setEffect_6 : decode cL_setEffect 6 = .ok (.iload_n 3, 1) := by decide +kernel
theorem dL_setEffect_7 : decode cL_setEffect 7 = .ok (.iload 4, 2) := by decide +kernel
theorem dL_setEffect_9 : decode cL_setEffect 9 = .ok (.iload 5, 2) := by decide +kernel
theorem dL_setEffect_11 : decode cL_setEffect 11 = .ok (.invokevirtual 17, 3) := by decide +kernel
theorem dL_setEffect_14 : decode cL_setEffect 14 = .ok (.i2l, 1) := by decide +kernel
theorem dL_setEffect_15 : decode cL_setEffect 15 = .ok (.lastore, 1) := by decide +kernel
theorem dL_setEffect_16 : decode cL_setEffect 16 = .ok (.goto 11, 3) := by decide +kernel
theorem dL_setEffect_19 : decode cL_setEffect 19 = .ok (.astore 7, 2) := by decide +kernel
theorem dL_setEffect_21 : decode cL_setEffect 21 = .ok (.iconst 1, 1) := by decide +kernel
theorem dL_setEffect_22 : decode cL_setEffect 22 = .ok (.ireturn, 1) := by decide +kernel
theorem dL_setEffect_23 : decode cL_setEffect 23 = .ok (.astore 7, 2) := by decide +kernel
theorem dL_setEffect_25 : decode cL_setEffect 25 = .ok (.iconst 2, 1) := by decide +kernel
theorem dL_setEffect_26 : decode cL_setEffect 26 = .ok (.ireturn, 1) := by decide +kernel
theorem dL_setEffect_27 : decode cL_setEffect 27 = .ok (.iconst 0, 1) := by decide +kernel
theorem dL_setEffect_28 : decode cL_setEffect 28 = .ok (.ireturn, 1) := by decide +kernel
set_option maxRecDepth 20000 in
theorem ggL_setRows_X7_setRows : GoodIn wsL_setRows wsX7_setRows := goodIn_ca (goodIn_ca (goodIn_r _ [7, 8, 9, 10, 11, 12, 6, 13, 14, 15, 16, 17, 18, 19, 20, 21, 22, 23, 24, 25, 26, 27, 28, 29, 30, 31, 32, 33, 34, 35, 36, 37, 38, 39, 40, 41, 42, 43, 44, 45, 46, 47, 48, 49, 50, 51, 52, 53, 54, 55, 56, 57, 58, 59, 60, 61, 62, 63, 64, 65, 66, 67, 68, 69, 70, 71, 72, 73, 74, 75, 76, 77, 78, 79, 80, 81, 82, 83, 84, 85, 86, 87, 88, 89, 90, 91, 92, 93, 94, 95, 96, 97, 98, 99, 100, 101, 102, 103, 104, 105, 106, 107, 108, 109, 110, 111, 112, 113, 114, 115, 116, 117, 118, 119] (by decide +kernel) (by decide +kernel)) (goodIn_sub (fun _ h => List.mem_cons_of_mem _ (List.mem_append_left _ (List.mem_append_right _ h))) (by decide +kernel))) (goodIn_sub (fun _ h => List.mem_cons_of_mem _ (List.mem_append_right _ h)) (by decide +kernel))
set_option maxRecDepth 20000 in
theorem gL_setRows_X7_setRows : GoodIn wsL_setRows (wsV RL 20 RX7 yX7_setRows wsX7_setRows) := goodIn_app (goodIn_of _ (by decide +kernel)) ggL_setRows_X7_setRows
theorem dL_setRows_0 : decode cL_setRows 0 = .ok (.aload_n 3, 1) := by decide +kernel
theorem dL_setRows_1 : decode cL_setRows 1 = .ok (.iconst 0, 1) := by decide +kernel
theorem dL_setRows_2 : decode cL_setRows 2 = .ok (.aload_n 0, 1) := by decide +kernel
theorem dL_setRows_3 : decode cL_setRows 3 = .ok (.iload_n 1, 1) := by decide +kernel
theorem dL_setRows_4 : decode cL_setRows 4 = .ok (.iload_n 2, 1) := by decide +kernel
theorem dL_setRows_5 : decode cL_setRows 5 = .ok (.invokevirtual 20, 3) := by decide +kernel
theorem dL_setRows_8 : decode cL_setRows 8 = .ok (.i2l, 1) := by decide +kernel
theorem dL_setRows_9 : decode cL_setRows 9 = .ok (.lastore, 1) := by decide +kernel
theorem dL_setRows_10 : decode cL_setRows 10 = .ok (.goto 11, 3) := by decide +kernel
theorem dL_setRows_13 : decode cL_setRows 13 = .ok (.astore 4, 2) := by decide +kernel
theorem dL_setRows_15 : decode cL_setRows 15 = .ok (.iconst 1, 1) := by decide +kernel
theorem dL_setRows_16 : decode cL_setRows 16 = .ok (.ireturn, 1) := by decide +kernel
theorem dL_setRows_17 : decode cL_setRows 17 = .ok (.astore 4, 2) := by decide +kernel
theorem dL_setRows_19 : decode cL_setRows 19 = .ok (.iconst 2, 1) := by decide +kernel
theorem dL_setRows_20 : decode cL_setRows 20 = .ok (.ireturn, 1) := by decide +kernel
theorem dL_setRows_21 : decode cL_setRows 21 = .ok (.iconst 0, 1) := by decide +kernel
theorem dL_setRows_22 : decode cL_setRows 22 = .ok (.ireturn, 1) := by decide +kernel
set_option maxRecDepth 20000 in
theorem ggL_setOrder_X7_setOrder : GoodIn wsL_setOrder wsX7_setOrder := goodIn_ca (goodIn_ca (goodIn_r _ [7, 8, 9, 10, 11, 12, 13, 14, 15, 16, 17, 6, 18, 19, 20, 21, 22, 23, 24, 25, 26, 27, 28, 29, 30, 31, 32, 33, 34, 35, 36, 37, 38, 39, 40, 41, 42, 43, 44, 45, 46, 47, 48, 49, 50, 51, 52, 53, 54, 55, 56, 57, 58, 59, 60, 61, 62, 63, 64, 65, 66, 67, 68, 69, 70, 71, 72, 73, 74, 75, 76, 77, 78, 79, 80, 81, 82, 83, 84, 85, 86, 87, 88, 89, 90, 91, 92, 93, 94, 95, 96, 97, 98, 99, 100, 101, 102, 103, 104, 105, 106, 107, 108, 109, 110, 111, 112, 113, 114, 115, 116, 117, 118, 119, 120, 121, 122, 123] (by decide +kernel) (by decide +kernel)) (goodIn_sub (fun _ h => List.mem_cons_of_mem _ (List.mem_append_left _ (List.mem_append_right _ h))) (by decide +kernel))) (goodIn_sub (fun _ h => List.mem_cons_of_mem _ (List.mem_append_right _ h)) (by decide +kernel))
set_option maxRecDepth 20000 in
theorem gL_setOrder_X7_setOrder : GoodIn wsL_setOrder (wsV RL 24 RX7 yX7_setOrder wsX7_setOrder) := goodIn_app (goodIn_of _ (by decide +kernel)) ggL_setOrder_X7_setOrder
theorem dL_setOrder_0 : decode cL_setOrder 0 = .ok (.aload_n 3, 1) := by decide +kernel
theorem dL_setOrder_1 : decode cL_setOrder 1 = .ok (.iconst 0, 1) := by decide +kernel
theorem dL_setOrder_2 : decode cL_setOrder 2 = .ok (.aload_n 0, 1) := by decide +kernel
theorem dL_setOrder_3 : decode cL_setOrder 3 = .ok (.iload_n 1, 1) := by decide +kernel
theorem dL_setOrder_4 : decode cL_setOrder 4 = .ok (.iload_n 2, 1) := by decide +kernel
theorem dL_setOrder_5 : decode cL_setOrder 5 = .ok (.invokevirtual 24, 3) := by decide +kernel
theorem dL_setOrder_8 : decode cL_setOrder 8 = .ok (.i2l, 1) := by decide +kernel
theorem dL_setOrder_9 : decode cL_setOrder 9 = .ok (.lastore, 1) := by decide +kernel
theorem dL_setOrder_10 : decode cL_setOrder 10 = .ok (.goto 11, 3) := by decide +kernel
theorem dL_setOrder_13 : decode cL_setOrder 13 = .ok (.astore 4, 2) := by decide +kernel
theorem dL_setOrder_15 : decode cL_setOrder 15 = .ok (.iconst 1, 1) := by decide +kernel
theorem dL_setOrder_16 : decode cL_setOrder 16 = .ok (.ireturn, 1) := by decide +kernel
theorem dL_setOrder_17 : decode cL_setOrder 17 = .ok (.astore 4, 2) := by decide +kernel
theorem dL_setOrder_19 : decode cL_setOrder 19 = .ok (.iconst 2, 1) := by decide +kernel
theorem dL_setOrder_20 : decode cL_setOrder 20 = .ok (.ireturn, 1) := by decide +kernel
theorem dL_setOrder_21 : decode cL_setOrder 21 = .ok (.iconst 0, 1) := by decide +kernel
theorem dL_setOrder_22 : decode cL_setOrder 22 = .ok (.ireturn, 1) := by decide +kernel
set_option maxRecDepth 20000 in
theorem ggL_shorten_X7_shorten : GoodIn wsL_shorten wsX7_shorten := goodIn_ca (goodIn_r _ [6, 7, 8, 9, 10, 11, 12, 13, 14, 15, 16, 17, 18, 19, 20, 21, 22, 23, 24, 25, 26, 27, 28, 29, 30, 31, 32, 33, 34, 35, 36, 37, 38, 39, 40, 41, 42, 43, 44, 45, 46, 47, 48, 49, 50, 51, 52, 53, 54, 55, 56, 57, 58, 59, 60, 61, 62, 63, 64, 65, 66, 67, 68, 69, 70, 71, 72, 73, 74, 75, 76, 77, 78, 79, 80, 81, 82, 83, 84, 85, 86, 87, 88, 89, 90, 91, 92, 93, 94, 95, 96, 97, 98, 99, 100, 101, 102] (by decide +kernel) (by decide +kernel)) (goodIn_sub (fun _ h => List.mem_cons_of_mem _ (List.mem_append_right _ h)) (by decide +kernel))
set_option maxRecDepth 20000 in
theorem gL_shorten_X7_shorten : GoodIn wsL_shorten (wsV RL 27 RX7 yX7_shorten wsX7_shorten) := goodIn_app (goodIn_of _ (by decide +kernel)) ggL_shorten_X7_shorten
theorem dL_shorten_0 : decode cL_shorten 0 = .ok (.aload_n 1, 1) := by decide +kernel
theorem dL_shorten_1 : decode cL_shorten 1 = .ok (.iconst 0, 1) := by decide +kernel
theorem dL_shorten_2 : decode cL_shorten 2 = .ok (.aload_n 0, 1) := by decide +kernel
theorem dL_shorten_3 : decode cL_shorten 3 = .ok (.invokevirtual 27, 3) := by decide +kernel
theorem dL_shorten_6 : decode cL_shorten 6 = .ok (.i2l, 1) := by decide +kernel
theorem dL_shorten_7 : decode cL_shorten 7 = .ok (.lastore, 1) := by decide +kernel
theorem dL_shorten_8 : decode cL_shorten 8 = .ok (.goto 6, 3) := by decide +kernel
theorem dL_shorten_11 : decode cL_shorten 11 = .ok (.astore_n 2, 1) := by decide +kernel
theorem dL_shorten_12 : decode cL_shorten 12 = .ok (.iconst 1, 1) := by decide +kernel
theorem dL_shorten_13 : decode cL_shorten 13 = .ok (.ireturn, 1) := by decide +kernel
theorem dL_shorten_14 : decode cL_shorten 14 = .ok (.iconst 0, 1) := by decide +kernel
theorem dL_shorten_15 : decode cL_shorten 15 = .ok (.ireturn, 1) := by decide +kernel
set_option maxRecDepth 20000 in
theorem ggL_cell_X7_cell : GoodIn wsL_cell wsX7_cell := goodIn_ca (goodIn_ca (goodIn_r _ [7, 8, 9, 10, 11, 6, 12, 13, 14, 15, 16, 17, 18, 19, 20, 21, 22, 23, 24, 25, 26, 27, 28, 29, 30, 31, 32, 33, 34, 35, 36, 37, 38, 39, 40, 41, 42, 43, 44, 45, 46, 47, 48, 49, 50, 51, 52, 53, 54, 55, 56, 57] (by decide +kernel) (by decide +kernel)) (goodIn_sub (fun _ h => List.mem_cons_of_mem _ (List.mem_append_left _ (List.mem_append_right _ h))) (by decide +kernel))) (goodIn_sub (fun _ h => List.mem_cons_of_mem _ (List.mem_append_right _ h)) (by decide +kernel))
set_option maxRecDepth 20000 in
theorem gL_cell_X7_cell : GoodIn wsL_cell (wsV RL 33 RX7 yX7_cell wsX7_cell) := goodIn_app (goodIn_of _ (by decide +kernel)) ggL_cell_X7_cell
theorem dL_cell_0 : decode cL_cell 0 = .ok (.aload 5, 2) := by decide +kernel
theorem dL_cell_2 : decode cL_cell 2 = .ok (.iconst 0, 1) := by decide +kernel
theorem dL_cell_3 : decode cL_cell 3 = .ok (.aload_n 0, 1) := by decide +kernel
theorem dL_cell_4 : decode cL_cell 4 = .ok (.iload_n 1, 1) := by decide +kernel
theorem dL_cell_5 : decode cL_cell 5 = .ok (.iload_n 2, 1) := by decide +kernel
theorem dL_cell_6 : decode cL_cell 6 = .ok (.iload_n 3, 1) := by decide +kernel
theorem dL_cell_7 : decode cL_cell 7 = .ok (.iload 4, 2) := by decide +kernel
theorem dL_cell_9 : decode cL_cell 9 = .ok (.invokevirtual 33, 3) := by decide +kernel
theorem dL_cell_12 : decode cL_cell 12 = .ok (.i2l, 1) := by decide +kernel
theorem dL_cell_13 : decode cL_cell 13 = .ok (.lastore, 1) := by decide +kernel
theorem dL_cell_14 : decode cL_cell 14 = .ok (.goto 11, 3) := by decide +kernel
theorem dL_cell_17 : decode cL_cell 17 = .ok (.astore 6, 2) := by decide +kernel
theorem dL_cell_19 : decode cL_cell 19 = .ok (.iconst 1, 1) := by decide +kernel
theorem dL_cell_20 : decode cL_cell 20 = .ok (.ireturn, 1) := by decide +kernel
theorem dL_cell_21 : decode cL_cell 21 = .ok (.astore 6, 2) := by decide +kernel
theorem dL_cell_23 : decode cL_cell 23 = .ok (.iconst 2, 1) := by decide +kernel
theorem dL_cell_24 : decode cL_cell 24 = .ok (.ireturn, 1) := by decide +kernel
theorem dL_cell_25 : decode cL_cell 25 = .ok (.iconst 0, 1) := by decide +kernel
theorem dL_cell_26 : decode cL_cell 26 = .ok (.ireturn, 1) := by decide +kernel
set_option maxRecDepth 20000 in
theorem ggL_pattern_X7_pattern : GoodIn wsL_pattern wsX7_pattern := goodIn_ca (goodIn_ca (goodIn_r _ [7, 8, 9, 10, 11, 6, 12, 13, 14, 15, 16, 17, 18, 19, 20, 21, 22, 23, 24, 25, 26, 27, 28, 29, 30, 31, 32, 33, 34, 35, 36, 37, 38, 39, 40, 41, 42, 43, 44, 45, 46, 47, 48, 49, 50, 51, 52, 53, 54, 55, 56, 57, 58, 59, 60, 61, 62, 63, 64, 65, 66, 67, 68, 69, 70, 71, 72, 73, 74, 75, 76, 77, 78, 79, 80, 81, 82, 83, 84, 85, 86, 87, 88, 89, 90, 91, 92, 93, 94, 95] (by decide +kernel) (by decide +kernel)) (goodIn_sub (fun _ h => List.mem_cons_of_mem _ (List.mem_append_left _ (List.mem_append_right _ h))) (by decide +kernel))) (goodIn_sub (fun _ h => List.mem_cons_of_mem _ (List.mem_append_right _ h)) (by decide +kernel))
set_option maxRecDepth 20000 in
theorem gL_pattern_X7_pattern : GoodIn wsL_pattern (wsV RL 37 RX7 yX7_pattern wsX7_pattern) := goodIn_app (goodIn_of _ (by decide +kernel)) ggL_pattern_X7_pattern
theorem dL_pattern_0 : decode cL_pattern 0 = .ok (.aload_n 3, 1) := by decide +kernel
theorem dL_pattern_1 : decode cL_pattern 1 = .ok (.iconst 0, 1) := by decide +kernel
theorem dL_pattern_2 : decode cL_pattern 2 = .ok (.aload_n 0, 1) := by decide +kernel
theorem dL_pattern_3 : decode cL_pattern 3 = .ok (.iload_n 1, 1) := by decide +kernel
theorem dL_pattern_4 : decode cL_pattern 4 = .ok (.iload_n 2, 1) := by decide +kernel
theorem dL_pattern_5 : decode cL_pattern 5 = .ok (.invokevirtual 37, 3) := by decide +kernel
theorem dL_pattern_8 : decode cL_pattern 8 = .ok (.i2l, 1) := by decide +kernel
theorem dL_pattern_9 : decode cL_pattern 9 = .ok (.lastore, 1) := by decide +kernel
theorem dL_pattern_10 : decode cL_pattern 10 = .ok (.goto 11, 3) := by decide +kernel
theorem dL_pattern_13 : decode cL_pattern 13 = .ok (.astore 4, 2) := by decide +kernel
theorem dL_pattern_15 : decode cL_pattern 15 = .ok (.iconst 1, 1) := by decide +kernel
theorem dL_pattern_16 : decode cL_pattern 16 = .ok (.ireturn, 1) := by decide +kernel
theorem dL_pattern_17 : decode cL_pattern 17 = .ok (.astore 4, 2) := by decide +kernel
theorem dL_pattern_19 : decode cL_pattern 19 = .ok (.iconst 2, 1) := by decide +kernel
theorem dL_pattern_20 : decode cL_pattern 20 = .ok (.ireturn, 1) := by decide +kernel
theorem dL_pattern_21 : decode cL_pattern 21 = .ok (.iconst 0, 1) := by decide +kernel
theorem dL_pattern_22 : decode cL_pattern 22 = .ok (.ireturn, 1) := by decide +kernel
set_option maxRecDepth 20000 in
theorem ggL_order_X7_order : GoodIn wsL_order wsX7_order := goodIn_ca (goodIn_r _ [6, 7, 8, 9, 10, 11, 5, 12, 13, 14, 15, 16, 17, 18, 19, 20, 21, 22, 23, 24, 25, 26, 27, 28, 29, 30, 31, 32, 33, 34] (by decide +kernel) (by decide +kernel)) (goodIn_sub (fun _ h => List.mem_cons_of_mem _ (List.mem_append_right _ h)) (by decide +kernel))
set_option maxRecDepth 20000 in
theorem gL_order_X7_order : GoodIn wsL_order (wsV RL 40 RX7 yX7_order wsX7_order) := goodIn_app (goodIn_of _ (by decide +kernel)) ggL_order_X7_order
theorem dL_order_0 : decode cL_order 0 = .ok (.aload_n 2, 1) := by decide +kernel
theorem dL_order_1 : decode cL_order 1 = .ok (.iconst 0, 1) := by decide +kernel
theorem dL_order_2 : decode cL_order 2 = .ok (.aload_n 0, 1) := by decide +kernel
theorem dL_order_3 : decode cL_order 3 = .ok (.iload_n 1, 1) := by decide +kernel
theorem dL_order_4 : decode cL_order 4 = .ok (.invokevirtual 40, 3) := by decide +kernel
theorem dL_order_7 : decode cL_order 7 = .ok (.i2l, 1) := by decide +kernel
theorem dL_order_8 : decode cL_order 8 = .ok (.lastore, 1) := by decide +kernel
theorem dL_order_9 : decode cL_order 9 = .ok (.goto 6, 3) := by decide +kernel
theorem dL_order_12 : decode cL_order 12 = .ok (.astore_n 3, 1) := by decide +kernel
theorem dL_order_13 : decode cL_order 13 = .ok (.iconst 1, 1) := by decide +kernel
theorem dL_order_14 : decode cL_order 14 = .ok (.ireturn, 1) := by decide +kernel
theorem dL_order_15 : decode cL_order 15 = .ok (.iconst 0, 1) := by decide +kernel
theorem dL_order_16 : decode cL_order 16 = .ok (.ireturn, 1) := by decide +kernel
set_option maxRecDepth 20000 in
theorem ggL_play_X7_play : GoodIn wsL_play wsX7_play := goodIn_ca (goodIn_ca (goodIn_r _ [7, 8, 9, 10, 11, 12, 13, 14, 15, 16, 17, 6, 18, 19, 20, 21, 22, 23, 24, 25, 26, 27, 28, 29, 30, 31, 32, 33, 34, 35, 36, 37, 38, 39, 40, 41, 42, 43, 44, 45, 46, 47, 48, 49, 50, 51, 52, 53, 54, 55, 56, 57, 58, 59, 60, 61, 62, 63, 64, 65, 66, 67, 68, 69, 70, 71, 72, 73, 74, 75, 76, 77, 78, 79, 80, 81, 82, 83, 84, 85, 86, 87, 88, 89, 90, 91, 92, 93, 94, 95, 96, 97, 98, 99, 100, 101, 102, 103, 104, 105, 106, 107, 108, 109, 110, 111, 112, 113, 114, 115, 116, 117, 118, 119, 120, 121, 122, 123, 124, 125, 126, 127, 128, 129, 130, 131, 132, 133, 134, 135, 136, 137, 138, 139, 140, 141, 142, 143, 144, 145, 146, 147, 148, 149, 150, 151, 152, 153, 154, 155, 156, 157, 158, 159, 160, 161, 162, 163, 164, 165, 166, 167, 168, 169, 170, 171, 172, 173, 174, 175, 176, 177, 178, 179, 180, 181, 182, 183, 184, 185, 186, 187, 188, 189, 190, 191, 192, 193, 194, 195, 196, 197, 198, 199, 200, 201, 202, 203, 204, 205, 206, 207, 208, 209, 210, 211, 212, 213, 214, 215, 216, 217, 218, 219, 220, 221, 222, 223, 224, 225, 226, 227, 228, 229, 230, 231, 232] (by decide +kernel) (by decide +kernel)) (goodIn_sub (fun _ h => List.mem_cons_of_mem _ (List.mem_append_left _ (List.mem_append_right _ h))) (by decide +kernel))) (goodIn_sub (fun _ h => List.mem_cons_of_mem _ (List.mem_append_right _ h)) (by decide +kernel))
set_option maxRecDepth 20000 in
theorem gL_play_X7_play : GoodIn wsL_play (wsV RL 44 RX7 yX7_play wsX7_play) := goodIn_app (goodIn_of _ (by decide +kernel)) ggL_play_X7_play
theorem dL_play_0 : decode cL_play 0 = .ok (.aload_n 2, 1) := by decide +kernel
theorem dL_play_1 : decode cL_play 1 = .ok (.iconst 0, 1) := by decide +kernel
theorem dL_play_2 : decode cL_play 2 = .ok (.aload_n 0, 1) := by decide +kernel
theorem dL_play_3 : decode cL_play 3 = .ok (.iload_n 1, 1) := by decide +kernel
theorem dL_play_4 : decode cL_play 4 = .ok (.invokevirtual 44, 3) := by decide +kernel
theorem dL_play_7 : decode cL_play 7 = .ok (.i2l, 1) := by decide +kernel
theorem dL_play_8 : decode cL_play 8 = .ok (.lastore, 1) := by decide +kernel
theorem dL_play_9 : decode cL_play 9 = .ok (.goto 9, 3) := by decide +kernel
theorem dL_play_12 : decode cL_play 12 = .ok (.astore_n 3, 1) := by decide +kernel
theorem dL_play_13 : decode cL_play 13 = .ok (.iconst 1, 1) := by decide +kernel
theorem dL_play_14 : decode cL_play 14 = .ok (.ireturn, 1) := by decide +kernel
theorem dL_play_15 : decode cL_play 15 = .ok (.astore_n 3, 1) := by decide +kernel
theorem dL_play_16 : decode cL_play 16 = .ok (.iconst 2, 1) := by decide +kernel
theorem dL_play_17 : decode cL_play 17 = .ok (.ireturn, 1) := by decide +kernel
theorem dL_play_18 : decode cL_play 18 = .ok (.iconst 0, 1) := by decide +kernel
theorem dL_play_19 : decode cL_play 19 = .ok (.ireturn, 1) := by decide +kernel
set_option maxRecDepth 20000 in
theorem ggL_steal_X7_steal : GoodIn wsL_steal wsX7_steal := goodIn_ca (goodIn_ca (goodIn_r _ [7, 8, 9, 10, 11, 12, 13, 6, 14, 15, 16, 17, 18, 19, 20, 21, 22, 23, 24, 25, 26, 27, 28, 29, 30, 31, 32, 33, 34, 35, 36, 37, 38, 39, 40, 41, 42, 43, 44, 45, 46, 47, 48, 49, 50, 51, 52, 53, 54, 55, 56, 57, 58, 59, 60, 61, 62, 63, 64, 65, 66, 67, 68, 69, 70, 71, 72, 73, 74, 75, 76, 77, 78, 79, 80, 81, 82, 83, 84, 85, 86, 87, 88, 89, 90, 91, 92, 93, 94, 95, 96, 97, 98, 99, 100, 101, 102, 103, 104, 105, 106, 107, 108, 109, 110, 111, 112, 113, 114, 115, 116] (by decide +kernel) (by decide +kernel)) (goodIn_sub (fun _ h => List.mem_cons_of_mem _ (List.mem_append_left _ (List.mem_append_right _ h))) (by decide +kernel))) (goodIn_sub (fun _ h => List.mem_cons_of_mem _ (List.mem_append_right _ h)) (by decide +kernel))
set_option maxRecDepth 20000 in
theorem gL_steal_X7_steal : GoodIn wsL_steal (wsV RL 47 RX7 yX7_steal wsX7_steal) := goodIn_app (goodIn_of _ (by decide +kernel)) ggL_steal_X7_steal
theorem dL_steal_0 : decode cL_steal 0 = .ok (.aload 4, 2) := by decide +kernel
theorem dL_steal_2 : decode cL_steal 2 = .ok (.iconst 0, 1) := by decide +kernel
theorem dL_steal_3 : decode cL_steal 3 = .ok (.aload_n 0, 1) := by decide +kernel
theorem dL_steal_4 : decode cL_steal 4 = .ok (.iload_n 1, 1) := by decide +kernel
theorem dL_steal_5 : decode cL_steal 5 = .ok (.iload_n 2, 1) := by decide +kernel
theorem dL_steal_6 : decode cL_steal 6 = .ok (.iload_n 3, 1) := by decide +kernel
theorem dL_steal_7 : decode cL_steal 7 = .ok (.invokevirtual 47, 3) := by decide +kernel
theorem dL_steal_10 : decode cL_steal 10 = .ok (.i2l, 1) := by decide +kernel
theorem dL_steal_11 : decode cL_steal 11 = .ok (.lastore, 1) := by decide +kernel
theorem dL_steal_12 : decode cL_steal 12 = .ok (.goto 11, 3) := by decide +kernel
theorem dL_steal_15 : decode cL_steal 15 = .ok (.astore 5, 2) := by decide +kernel
theorem dL_steal_17 : decode cL_steal 17 = .ok (.iconst 1, 1) := by decide +kernel
theorem dL_steal_18 : decode cL_steal 18 = .ok (.ireturn, 1) := by decide +kernel
theorem dL_steal_19 : decode cL_steal 19 = .ok (.astore 5, 2) := by decide +kernel
theorem dL_steal_21 : decode cL_steal 21 = .ok (.iconst 2, 1) := by decide +kernel
theorem dL_steal_22 : decode cL_steal 22 = .ok (.ireturn, 1) := by decide +kernel
theorem dL_steal_23 : decode cL_steal 23 = .ok (.iconst 0, 1) := by decide +kernel
theorem dL_steal_24 : decode cL_steal 24 = .ok (.ireturn, 1) := by decide +kernel
set_option maxRecDepth 20000 in
theorem ggL_giveBack_X7_giveBack : GoodIn wsL_giveBack wsX7_giveBack := goodIn_ca (goodIn_r _ [6, 7, 8, 9, 10, 11, 12, 5, 13, 14, 15, 16, 17, 18, 19, 20, 21, 22, 23, 24, 25, 26, 27, 28, 29, 30, 31, 32, 33, 34, 35, 36, 37, 38, 39, 40, 41, 42, 43, 44, 45, 46, 47, 48, 49, 50, 51, 52, 53, 54, 55, 56, 57, 58, 59, 60, 61, 62, 63, 64, 65, 66, 67, 68, 69, 70, 71, 72, 73, 74, 75, 76, 77, 78, 79, 80, 81, 82, 83, 84, 85, 86, 87, 88, 89, 90, 91, 92, 93, 94, 95, 96, 97, 98, 99, 100, 101, 102, 103, 104, 105, 106, 107, 108, 109, 110] (by decide +kernel) (by decide +kernel)) (goodIn_sub (fun _ h => List.mem_cons_of_mem _ (List.mem_append_right _ h)) (by decide +kernel))
set_option maxRecDepth 20000 in
theorem gL_giveBack_X7_giveBack : GoodIn wsL_giveBack (wsV RL 51 RX7 yX7_giveBack wsX7_giveBack) := goodIn_app (goodIn_of _ (by decide +kernel)) ggL_giveBack_X7_giveBack
theorem dL_giveBack_0 : decode cL_giveBack 0 = .ok (.aload_n 2, 1) := by decide +kernel
theorem dL_giveBack_1 : decode cL_giveBack 1 = .ok (.iconst 0, 1) := by decide +kernel
theorem dL_giveBack_2 : decode cL_giveBack 2 = .ok (.aload_n 0, 1) := by decide +kernel
theorem dL_giveBack_3 : decode cL_giveBack 3 = .ok (.iload_n 1, 1) := by decide +kernel
theorem dL_giveBack_4 : decode cL_giveBack 4 = .ok (.invokevirtual 51, 3) := by decide +kernel
theorem dL_giveBack_7 : decode cL_giveBack 7 = .ok (.i2l, 1) := by decide +kernel
theorem dL_giveBack_8 : decode cL_giveBack 8 = .ok (.lastore, 1) := by decide +kernel
theorem dL_giveBack_9 : decode cL_giveBack 9 = .ok (.goto 6, 3) := by decide +kernel
theorem dL_giveBack_12 : decode cL_giveBack 12 = .ok (.astore_n 3, 1) := by decide +kernel
theorem dL_giveBack_13 : decode cL_giveBack 13 = .ok (.iconst 1, 1) := by decide +kernel
theorem dL_giveBack_14 : decode cL_giveBack 14 = .ok (.ireturn, 1) := by decide +kernel
theorem dL_giveBack_15 : decode cL_giveBack 15 = .ok (.iconst 0, 1) := by decide +kernel
theorem dL_giveBack_16 : decode cL_giveBack 16 = .ok (.ireturn, 1) := by decide +kernel
set_option maxRecDepth 20000 in
theorem ggL_channel_X7_channel : GoodIn wsL_channel wsX7_channel := goodIn_ca (goodIn_ca (goodIn_r _ [7, 8, 9, 10, 11, 12, 6, 13, 14, 15, 16, 17, 18, 19, 20, 21, 22, 23, 24, 25, 26, 27, 28, 29, 30, 31, 32, 33, 34, 35, 36, 37, 38, 39, 40, 41, 42, 43, 44, 45, 46, 47, 48, 49, 50, 51, 52, 53, 54, 55, 56, 57, 58, 59, 60, 61, 62, 63, 64, 65, 66] (by decide +kernel) (by decide +kernel)) (goodIn_sub (fun _ h => List.mem_cons_of_mem _ (List.mem_append_left _ (List.mem_append_right _ h))) (by decide +kernel))) (goodIn_sub (fun _ h => List.mem_cons_of_mem _ (List.mem_append_right _ h)) (by decide +kernel))
set_option maxRecDepth 20000 in
theorem gL_channel_X7_channel : GoodIn wsL_channel (wsV RL 54 RX7 yX7_channel wsX7_channel) := goodIn_app (goodIn_of _ (by decide +kernel)) ggL_channel_X7_channel
theorem dL_channel_0 : decode cL_channel 0 = .ok (.aload_n 3, 1) := by decide +kernel
theorem dL_channel_1 : decode cL_channel 1 = .ok (.iconst 0, 1) := by decide +kernel
theorem dL_channel_2 : decode cL_channel 2 = .ok (.aload_n 0, 1) := by decide +kernel
theorem dL_channel_3 : decode cL_channel 3 = .ok (.iload_n 1, 1) := by decide +kernel
theorem dL_channel_4 : decode cL_channel 4 = .ok (.iload_n 2, 1) := by decide +kernel
theorem dL_channel_5 : decode cL_channel 5 = .ok (.invokevirtual 54, 3) := by decide +kernel
theorem dL_channel_8 : decode cL_channel 8 = .ok (.i2l, 1) := by decide +kernel
theorem dL_channel_9 : decode cL_channel 9 = .ok (.lastore, 1) := by decide +kernel
theorem dL_channel_10 : decode cL_channel 10 = .ok (.goto 11, 3) := by decide +kernel
theorem dL_channel_13 : decode cL_channel 13 = .ok (.astore 4, 2) := by decide +kernel
theorem dL_channel_15 : decode cL_channel 15 = .ok (.iconst 1, 1) := by decide +kernel
theorem dL_channel_16 : decode cL_channel 16 = .ok (.ireturn, 1) := by decide +kernel
theorem dL_channel_17 : decode cL_channel 17 = .ok (.astore 4, 2) := by decide +kernel
theorem dL_channel_19 : decode cL_channel 19 = .ok (.iconst 2, 1) := by decide +kernel
theorem dL_channel_20 : decode cL_channel 20 = .ok (.ireturn, 1) := by decide +kernel
theorem dL_channel_21 : decode cL_channel 21 = .ok (.iconst 0, 1) := by decide +kernel
theorem dL_channel_22 : decode cL_channel 22 = .ok (.ireturn, 1) := by decide +kernel
set_option maxRecDepth 20000 in
theorem ggL_value_X7_value : GoodIn wsL_value wsX7_value := goodIn_ca (goodIn_r _ [6, 7, 8, 5, 9, 10, 11, 12, 13, 14, 15, 16, 17, 18, 19, 20, 21, 22, 23, 24, 25, 26, 27, 28, 29, 30, 31, 32, 33, 34, 35, 36, 37, 38, 39, 40, 41, 42, 43, 44, 45, 46, 47, 48, 49, 50, 51] (by decide +kernel) (by decide +kernel)) (goodIn_sub (fun _ h => List.mem_cons_of_mem _ (List.mem_append_right _ h)) (by decide +kernel))
set_option maxRecDepth 20000 in
theorem gL_value_X7_value : GoodIn wsL_value (wsV RL 57 RX7 yX7_value wsX7_value) := goodIn_app (goodIn_of _ (by decide +kernel)) ggL_value_X7_value
theorem dL_value_0 : decode cL_value 0 = .ok (.aload_n 2, 1) := by decide +kernel
theorem dL_value_1 : decode cL_value 1 = .ok (.iconst 0, 1) := by decide +kernel
theorem dL_value_2 : decode cL_value 2 = .ok (.aload_n 0, 1) := by decide +kernel
theorem dL_value_3 : decode cL_value 3 = .ok (.iload_n 1, 1) := by decide +kernel
theorem dL_value_4 : decode cL_value 4 = .ok (.invokevirtual 57, 3) := by decide +kernel
theorem dL_value_7 : decode cL_value 7 = .ok (.i2l, 1) := by decide +kernel
theorem dL_value_8 : decode cL_value 8 = .ok (.lastore, 1) := by decide +kernel
theorem dL_value_9 : decode cL_value 9 = .ok (.goto 6, 3) := by decide +kernel
theorem dL_value_12 : decode cL_value 12 = .ok (.astore_n 3, 1) := by decide +kernel
theorem dL_value_13 : decode cL_value 13 = .ok (.iconst 1, 1) := by decide +kernel
theorem dL_value_14 : decode cL_value 14 = .ok (.ireturn, 1) := by decide +kernel
theorem dL_value_15 : decode cL_value 15 = .ok (.iconst 0, 1) := by decide +kernel
theorem dL_value_16 : decode cL_value 16 = .ok (.ireturn, 1) := by decide +kernel
set_option maxRecDepth 20000 in
theorem ggL_hashOf_X7_hashOf : GoodIn wsL_hashOf wsX7_hashOf := goodIn_ca (goodIn_r _ [6, 7, 8, 9, 10, 11, 12, 5, 13, 14, 15, 16, 17, 18, 19, 20, 21, 22, 23, 24, 25, 26, 27, 28, 29, 30, 31, 32, 33, 34, 35, 36, 37, 38, 39, 40, 41, 42, 43, 44, 45, 46, 47, 48, 49, 50, 51, 52, 53, 54, 55, 56, 57, 58, 59, 60, 61, 62, 63, 64, 65, 66, 67, 68, 69, 70, 71, 72, 73, 74, 75, 76, 77, 78, 79, 80, 81, 82, 83, 84, 85, 86, 87, 88, 89, 90, 91, 92, 93, 94, 95, 96, 97, 98, 99, 100, 101, 102, 103, 104, 105, 106, 107, 108, 109, 110, 111, 112, 113, 114, 115, 116, 117, 118, 119, 120, 121, 122, 123, 124, 125, 126, 127, 128, 129, 130, 131, 132, 133, 134, 135, 136, 137, 138, 139, 140, 141, 142, 143, 144, 145, 146, 147, 148, 149, 150, 151, 152, 153, 154, 155, 156, 157, 158, 159, 160, 161, 162, 163, 164, 165, 166, 167, 168, 169, 170, 171, 172, 173, 174, 175, 176, 177, 178, 179, 180, 181, 182, 183, 184, 185, 186, 187, 188, 189, 190, 191, 192, 193, 194, 195, 196, 197, 198, 199, 200] (by decide +kernel) (by decide +kernel)) (goodIn_sub (fun _ h => List.mem_cons_of_mem _ (List.mem_append_right _ h)) (by decide +kernel))
set_option maxRecDepth 20000 in
theorem gL_hashOf_X7_hashOf : GoodIn wsL_hashOf (wsV RL 60 RX7 yX7_hashOf wsX7_hashOf) := goodIn_app (goodIn_of _ (by decide +kernel)) ggL_hashOf_X7_hashOf
theorem dL_hashOf_0 : decode cL_hashOf 0 = .ok (.aload_n 2, 1) := by decide +kernel
theorem dL_hashOf_1 : decode cL_hashOf 1 = .ok (.iconst 0, 1) := by decide +kernel
theorem dL_hashOf_2 : decode cL_hashOf 2 = .ok (.aload_n 0, 1) := by decide +kernel
theorem dL_hashOf_3 : decode cL_hashOf 3 = .ok (.iload_n 1, 1) := by decide +kernel
theorem dL_hashOf_4 : decode cL_hashOf 4 = .ok (.invokevirtual 60, 3) := by decide +kernel
theorem dL_hashOf_7 : decode cL_hashOf 7 = .ok (.i2l, 1) := by decide +kernel
theorem dL_hashOf_8 : decode cL_hashOf 8 = .ok (.lastore, 1) := by decide +kernel
theorem dL_hashOf_9 : decode cL_hashOf 9 = .ok (.goto 6, 3) := by decide +kernel
theorem dL_hashOf_12 : decode cL_hashOf 12 = .ok (.astore_n 3, 1) := by decide +kernel
theorem dL_hashOf_13 : decode cL_hashOf 13 = .ok (.iconst 1, 1) := by decide +kernel
theorem dL_hashOf_14 : decode cL_hashOf 14 = .ok (.ireturn, 1) := by decide +kernel
theorem dL_hashOf_15 : decode cL_hashOf 15 = .ok (.iconst 0, 1) := by decide +kernel
theorem dL_hashOf_16 : decode cL_hashOf 16 = .ok (.ireturn, 1) := by decide +kernel
set_option maxRecDepth 20000 in
theorem ggL_silent_X7_silent : GoodIn wsL_silent wsX7_silent := goodIn_ca (goodIn_ca (goodIn_r _ [7, 8, 9, 10, 11, 12, 13, 14, 15, 6, 16, 17, 18, 19, 20, 21, 22, 23, 24, 25, 26, 27, 28, 29, 30, 31, 32, 33, 34, 35, 36, 37, 38, 39, 40, 41, 42, 43, 44, 45, 46, 47, 48, 49, 50, 51, 52, 53, 54, 55, 56, 57, 58, 59, 60, 61, 62, 63, 64, 65, 66, 67, 68, 69, 70, 71, 72, 73, 74, 75, 76, 77, 78, 79, 80, 81, 82, 83, 84, 85, 86, 87, 88, 89, 90, 91, 92, 93, 94, 95, 96, 97, 98, 99, 100, 101, 102, 103, 104, 105, 106, 107, 108, 109, 110, 111, 112, 113, 114, 115, 116, 117, 118, 119, 120, 121, 122, 123, 124, 125, 126, 127, 128, 129, 130, 131, 132, 133, 134, 135, 136, 137, 138, 139, 140, 141, 142, 143, 144, 145, 146, 147, 148, 149, 150, 151, 152, 153, 154, 155, 156, 157, 158, 159, 160, 161, 162, 163, 164, 165, 166, 167, 168, 169, 170, 171, 172, 173, 174, 175, 176, 177, 178, 179, 180, 181, 182, 183, 184, 185, 186, 187, 188, 189, 190, 191, 192, 193, 194, 195, 196, 197, 198, 199, 200, 201, 202, 203, 204] (by decide +kernel) (by decide +kernel)) (goodIn_sub (fun _ h => List.mem_cons_of_mem _ (List.mem_append_left _ (List.mem_append_right _ h))) (by decide +kernel))) (goodIn_sub (fun _ h => List.mem_cons_of_mem _ (List.mem_append_right _ h)) (by decide +kernel))
set_option maxRecDepth 20000 in
theorem gL_silent_X7_silent : GoodIn wsL_silent (wsV RL 63 RX7 yX7_silent wsX7_silent) := goodIn_app (goodIn_of _ (by decide +kernel)) ggL_silent_X7_silent
theorem dL_silent_0 : decode cL_silent 0 = .ok (.aload_n 3, 1) := by decide +kernel
theorem dL_silent_1 : decode cL_silent 1 = .ok (.iconst 0, 1) := by decide +kernel
theorem dL_silent_2 : decode cL_silent 2 = .ok (.aload_n 0, 1) := by decide +kernel
theorem dL_silent_3 : decode cL_silent 3 = .ok (.iload_n 1, 1) := by decide +kernel
theorem dL_silent_4 : decode cL_silent 4 = .ok (.iload_n 2, 1) := by decide +kernel
theorem dL_silent_5 : decode cL_silent 5 = .ok (.invokevirtual 63, 3) := by decide +kernel
theorem dL_silent_8 : decode cL_silent 8 = .ok (.i2l, 1) := by decide +kernel
theorem dL_silent_9 : decode cL_silent 9 = .ok (.lastore, 1) := by decide +kernel
theorem dL_silent_10 : decode cL_silent 10 = .ok (.goto 11, 3) := by decide +kernel
theorem dL_silent_13 : decode cL_silent 13 = .ok (.astore 4, 2) := by decide +kernel
theorem dL_silent_15 : decode cL_silent 15 = .ok (.iconst 1, 1) := by decide +kernel
theorem dL_silent_16 : decode cL_silent 16 = .ok (.ireturn, 1) := by decide +kernel
theorem dL_silent_17 : decode cL_silent 17 = .ok (.astore 4, 2) := by decide +kernel
theorem dL_silent_19 : decode cL_silent 19 = .ok (.iconst 2, 1) := by decide +kernel
theorem dL_silent_20 : decode cL_silent 20 = .ok (.ireturn, 1) := by decide +kernel
theorem dL_silent_21 : decode cL_silent 21 = .ok (.iconst 0, 1) := by decide +kernel
theorem dL_silent_22 : decode cL_silent 22 = .ok (.ireturn, 1) := by decide +kernel
set_option maxRecDepth 20000 in
theorem ggL_deepest_X7_deepest : GoodIn wsL_deepest wsX7_deepest := goodIn_ca (goodIn_ca (goodIn_r _ [7, 8, 9, 10, 11, 12, 13, 14, 15, 16, 17, 18, 19, 6, 20, 21, 22, 23, 24, 25, 26, 27, 28, 29, 30, 31, 32, 33, 34, 35, 36, 37, 38, 39, 40, 41, 42, 43, 44, 45, 46, 47, 48, 49, 50, 51, 52, 53, 54, 55, 56, 57, 58, 59, 60, 61, 62, 63, 64, 65, 66, 67, 68, 69, 70, 71, 72, 73, 74, 75, 76, 77, 78, 79, 80, 81, 82, 83, 84, 85, 86, 87, 88, 89, 90, 91, 92, 93, 94, 95, 96, 97, 98, 99, 100, 101, 102, 103, 104, 105, 106, 107, 108, 109, 110, 111, 112, 113, 114, 115, 116, 117, 118, 119, 120, 121, 122, 123, 124, 125, 126, 127, 128, 129, 130, 131, 132, 133, 134, 135, 136, 137, 138, 139, 140, 141, 142, 143, 144, 145, 146, 147, 148, 149, 150, 151, 152, 153, 154, 155, 156, 157, 158, 159, 160, 161, 162, 163, 164, 165, 166, 167, 168, 169, 170, 171, 172, 173, 174, 175, 176, 177, 178, 179, 180, 181, 182, 183, 184, 185, 186, 187, 188, 189, 190, 191, 192, 193, 194, 195, 196, 197, 198, 199, 200, 201, 202, 203, 204, 205] (by decide +kernel) (by decide +kernel)) (goodIn_sub (fun _ h => List.mem_cons_of_mem _ (List.mem_append_left _ (List.mem_append_right _ h))) (by decide +kernel))) (goodIn_sub (fun _ h => List.mem_cons_of_mem _ (List.mem_append_right _ h)) (by decide +kernel))
set_option maxRecDepth 20000 in
theorem gL_deepest_X7_deepest : GoodIn wsL_deepest (wsV RL 66 RX7 yX7_deepest wsX7_deepest) := goodIn_app (goodIn_of _ (by decide +kernel)) ggL_deepest_X7_deepest
theorem dL_deepest_0 : decode cL_deepest 0 = .ok (.aload_n 3, 1) := by decide +kernel
theorem dL_deepest_1 : decode cL_deepest 1 = .ok (.iconst 0, 1) := by decide +kernel
theorem dL_deepest_2 : decode cL_deepest 2 = .ok (.aload_n 0, 1) := by decide +kernel
theorem dL_deepest_3 : decode cL_deepest 3 = .ok (.iload_n 1, 1) := by decide +kernel
theorem dL_deepest_4 : decode cL_deepest 4 = .ok (.iload_n 2, 1) := by decide +kernel
theorem dL_deepest_5 : decode cL_deepest 5 = .ok (.invokevirtual 66, 3) := by decide +kernel
theorem dL_deepest_8 : decode cL_deepest 8 = .ok (.i2l, 1) := by decide +kernel
theorem dL_deepest_9 : decode cL_deepest 9 = .ok (.lastore, 1) := by decide +kernel
theorem dL_deepest_10 : decode cL_deepest 10 = .ok (.goto 11, 3) := by decide +kernel
theorem dL_deepest_13 : decode cL_deepest 13 = .ok (.astore 4, 2) := by decide +kernel
theorem dL_deepest_15 : decode cL_deepest 15 = .ok (.iconst 1, 1) := by decide +kernel
theorem dL_deepest_16 : decode cL_deepest 16 = .ok (.ireturn, 1) := by decide +kernel
theorem dL_deepest_17 : decode cL_deepest 17 = .ok (.astore 4, 2) := by decide +kernel
theorem dL_deepest_19 : decode cL_deepest 19 = .ok (.iconst 2, 1) := by decide +kernel
theorem dL_deepest_20 : decode cL_deepest 20 = .ok (.ireturn, 1) := by decide +kernel
theorem dL_deepest_21 : decode cL_deepest 21 = .ok (.iconst 0, 1) := by decide +kernel
theorem dL_deepest_22 : decode cL_deepest 22 = .ok (.ireturn, 1) := by decide +kernel
set_option maxRecDepth 20000 in
theorem ggL_unheard_X7_unheard : GoodIn wsL_unheard wsX7_unheard := goodIn_ca (goodIn_ca (goodIn_r _ [7, 8, 9, 10, 11, 12, 13, 14, 15, 6, 16, 17, 18, 19, 20, 21, 22, 23, 24, 25, 26, 27, 28, 29, 30, 31, 32, 33, 34, 35, 36, 37, 38, 39, 40, 41, 42, 43, 44, 45, 46, 47, 48, 49, 50, 51, 52, 53, 54, 55, 56, 57, 58, 59, 60, 61, 62, 63, 64, 65, 66, 67, 68, 69, 70, 71, 72, 73, 74, 75, 76, 77, 78, 79, 80, 81, 82, 83, 84, 85, 86, 87, 88, 89, 90, 91, 92, 93, 94, 95, 96, 97, 98, 99, 100, 101, 102, 103, 104, 105, 106, 107, 108, 109, 110, 111, 112, 113, 114, 115, 116, 117, 118, 119, 120, 121, 122, 123, 124, 125, 126, 127, 128, 129, 130, 131, 132, 133, 134, 135, 136, 137, 138, 139, 140, 141, 142, 143, 144, 145, 146, 147, 148, 149, 150, 151, 152, 153, 154, 155, 156, 157, 158, 159, 160, 161, 162, 163, 164, 165, 166, 167, 168, 169, 170, 171, 172, 173, 174, 175, 176, 177, 178, 179, 180, 181, 182, 183, 184, 185, 186, 187, 188, 189, 190, 191, 192, 193, 194, 195, 196, 197, 198, 199, 200, 201, 202, 203, 204, 205, 206, 207, 208, 209] (by decide +kernel) (by decide +kernel)) (goodIn_sub (fun _ h => List.mem_cons_of_mem _ (List.mem_append_left _ (List.mem_append_right _ h))) (by decide +kernel))) (goodIn_sub (fun _ h => List.mem_cons_of_mem _ (List.mem_append_right _ h)) (by decide +kernel))
set_option maxRecDepth 20000 in
theorem gL_unheard_X7_unheard : GoodIn wsL_unheard (wsV RL 69 RX7 yX7_unheard wsX7_unheard) := goodIn_app (goodIn_of _ (by decide +kernel)) ggL_unheard_X7_unheard
theorem dL_unheard_0 : decode cL_unheard 0 = .ok (.aload_n 3, 1) := by decide +kernel
theorem dL_unheard_1 : decode cL_unheard 1 = .ok (.iconst 0, 1) := by decide +kernel
theorem dL_unheard_2 : decode cL_unheard 2 = .ok (.aload_n 0, 1) := by decide +kernel
theorem dL_unheard_3 : decode cL_unheard 3 = .ok (.iload_n 1, 1) := by decide +kernel
theorem dL_unheard_4 : decode cL_unheard 4 = .ok (.iload_n 2, 1) := by decide +kernel
theorem dL_unheard_5 : decode cL_unheard 5 = .ok (.invokevirtual 69, 3) := by decide +kernel
theorem dL_unheard_8 : decode cL_unheard 8 = .ok (.i2l, 1) := by decide +kernel
theorem dL_unheard_9 : decode cL_unheard 9 = .ok (.lastore, 1) := by decide +kernel
theorem dL_unheard_10 : decode cL_unheard 10 = .ok (.goto 11, 3) := by decide +kernel
theorem dL_unheard_13 : decode cL_unheard 13 = .ok (.astore 4, 2) := by decide +kernel
theorem dL_unheard_15 : decode cL_unheard 15 = .ok (.iconst 1, 1) := by decide +kernel
theorem dL_unheard_16 : decode cL_unheard 16 = .ok (.ireturn, 1) := by decide +kernel
theorem dL_unheard_17 : decode cL_unheard 17 = .ok (.astore 4, 2) := by decide +kernel
theorem dL_unheard_19 : decode cL_unheard 19 = .ok (.iconst 2, 1) := by decide +kernel
theorem dL_unheard_20 : decode cL_unheard 20 = .ok (.ireturn, 1) := by decide +kernel
theorem dL_unheard_21 : decode cL_unheard 21 = .ok (.iconst 0, 1) := by decide +kernel
theorem dL_unheard_22 : decode cL_unheard 22 = .ok (.ireturn, 1) := by decide +kernel
set_option maxRecDepth 20000 in
theorem ggL_append_X7_append : GoodIn wsL_append wsX7_append := goodIn_ca (goodIn_ca (goodIn_r _ [7, 8, 9, 10, 11, 12, 13, 6, 14, 15, 16, 17, 18, 19, 20, 21, 22, 23, 24, 25, 26, 27, 28, 29, 30, 31, 32, 33, 34, 35, 36, 37, 38, 39] (by decide +kernel) (by decide +kernel)) (goodIn_sub (fun _ h => List.mem_cons_of_mem _ (List.mem_append_left _ (List.mem_append_right _ h))) (by decide +kernel))) (goodIn_sub (fun _ h => List.mem_cons_of_mem _ (List.mem_append_right _ h)) (by decide +kernel))
set_option maxRecDepth 20000 in
theorem gL_append_X7_append : GoodIn wsL_append (wsV RL 72 RX7 yX7_append wsX7_append) := goodIn_app (goodIn_of _ (by decide +kernel)) ggL_append_X7_append
theorem dL_append_0 : decode cL_append 0 = .ok (.aload_n 2, 1) := by decide +kernel
theorem dL_append_1 : decode cL_append 1 = .ok (.iconst 0, 1) := by decide +kernel
theorem dL_append_2 : decode cL_append 2 = .ok (.aload_n 0, 1) := by decide +kernel
theorem dL_append_3 : decode cL_append 3 = .ok (.iload_n 1, 1) := by decide +kernel
theorem dL_append_4 : decode cL_append 4 = .ok (.invokevirtual 72, 3) := by decide +kernel
theorem dL_append_7 : decode cL_append 7 = .ok (.i2l, 1) := by decide +kernel
theorem dL_append_8 : decode cL_append 8 = .ok (.lastore, 1) := by decide +kernel
theorem dL_append_9 : decode cL_append 9 = .ok (.goto 9, 3) := by decide +kernel
theorem dL_append_12 : decode cL_append 12 = .ok (.astore_n 3, 1) := by decide +kernel
theorem dL_append_13 : decode cL_append 13 = .ok (.iconst 1, 1) := by decide +kernel
theorem dL_append_14 : decode cL_append 14 = .ok (.ireturn, 1) := by decide +kernel
theorem dL_append_15 : decode cL_append 15 = .ok (.astore_n 3, 1) := by decide +kernel
theorem dL_append_16 : decode cL_append 16 = .ok (.iconst 2, 1) := by decide +kernel
theorem dL_append_17 : decode cL_append 17 = .ok (.ireturn, 1) := by decide +kernel
theorem dL_append_18 : decode cL_append 18 = .ok (.iconst 0, 1) := by decide +kernel
theorem dL_append_19 : decode cL_append 19 = .ok (.ireturn, 1) := by decide +kernel
set_option maxRecDepth 20000 in
theorem ggL_undo_X7_undo : GoodIn wsL_undo wsX7_undo := goodIn_ca (goodIn_r _ [6, 7, 8, 9, 10, 11, 12, 13, 14, 15, 16, 17, 18, 19, 20, 21, 22, 23, 24, 25, 26, 27, 28, 29, 30, 31, 32, 33, 34, 35, 36, 37, 38, 39, 40, 41, 42, 43, 44, 45, 46, 47, 48, 49, 50, 51, 52, 53, 54, 55, 56, 57, 58, 59, 60, 61, 62, 63, 64, 65, 66, 67, 68, 69, 70, 71, 72, 73, 74, 75, 76, 77, 78, 79, 80, 81, 82, 83, 84, 85, 86, 87, 88, 89, 90, 91, 92, 93, 94, 95, 96, 97, 98, 99] (by decide +kernel) (by decide +kernel)) (goodIn_sub (fun _ h => List.mem_cons_of_mem _ (List.mem_append_right _ h)) (by decide +kernel))
set_option maxRecDepth 20000 in
theorem gL_undo_X7_undo : GoodIn wsL_undo (wsV RL 75 RX7 yX7_undo wsX7_undo) := goodIn_app (goodIn_of _ (by decide +kernel)) ggL_undo_X7_undo
theorem dL_undo_0 : decode cL_undo 0 = .ok (.aload_n 1, 1) := by decide +kernel
theorem dL_undo_1 : decode cL_undo 1 = .ok (.iconst 0, 1) := by decide +kernel
theorem dL_undo_2 : decode cL_undo 2 = .ok (.aload_n 0, 1) := by decide +kernel
theorem dL_undo_3 : decode cL_undo 3 = .ok (.invokevirtual 75, 3) := by decide +kernel
theorem dL_undo_6 : decode cL_undo 6 = .ok (.i2l, 1) := by decide +kernel
theorem dL_undo_7 : decode cL_undo 7 = .ok (.lastore, 1) := by decide +kernel
theorem dL_undo_8 : decode cL_undo 8 = .ok (.goto 6, 3) := by decide +kernel
theorem dL_undo_11 : decode cL_undo 11 = .ok (.astore_n 2, 1) := by decide +kernel
theorem dL_undo_12 : decode cL_undo 12 = .ok (.iconst 1, 1) := by decide +kernel
theorem dL_undo_13 : decode cL_undo 13 = .ok (.ireturn, 1) := by decide +kernel
theorem dL_undo_14 : decode cL_undo 14 = .ok (.iconst 0, 1) := by decide +kernel
theorem dL_undo_15 : decode cL_undo 15 = .ok (.ireturn, 1) := by decide +kernel
