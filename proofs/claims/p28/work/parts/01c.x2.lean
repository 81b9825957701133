set_option maxRecDepth 20000 in
theorem ggX7_init_X5_init : GoodIn wsX7_init wsX5_init := goodIn_r _ [21, 22, 2, 3, 23, 24, 25, 26, 27, 17, 18, 28, 29, 30, 31, 32, 33, 34, 35, 36, 37, 38, 39, 40, 41, 42, 43, 44, 45, 46, 47, 48, 49, 50, 51, 52, 88, 89, 90, 91, 66, 67, 81, 82, 83, 84, 85, 86, 87, 92, 93, 94, 95, 96, 97, 98, 99, 100] (by decide +kernel) (by decide +kernel)
set_option maxRecDepth 20000 in
theorem gX7_init_X5_init_n11 : GoodIn wsX7_init (wsX5_init) := ggX7_init_X5_init
set_option maxRecDepth 20000 in
theorem ggX7_init_X1_init : GoodIn wsX7_init wsX1_init := goodIn_r _ [55, 56, 2, 3, 57, 58, 5, 6, 20, 21, 22, 23, 24, 25, 26, 27, 17, 18, 28, 29, 30, 31, 32, 33, 34, 35, 36, 37, 38, 39, 40, 41, 42, 43, 44, 45, 46, 47, 48, 49, 50, 51, 52, 72, 73, 74, 66, 67, 88, 89, 90, 91, 81, 82, 83, 84, 85, 86, 87, 92, 93, 94, 95, 96, 97, 98, 99, 100] (by decide +kernel) (by decide +kernel)
set_option maxRecDepth 20000 in
theorem gX7_init_X1_init : GoodIn wsX7_init (wsX1_init) := ggX7_init_X1_init
set_option maxRecDepth 20000 in
theorem ggX7_init_X2_init : GoodIn wsX7_init wsX2_init := goodIn_r _ [60, 61, 2, 3, 62, 63, 33, 64, 75, 76, 77, 78, 79, 80] (by decide +kernel) (by decide +kernel)
set_option maxRecDepth 20000 in
theorem gX7_init_X2_init_n25 : GoodIn wsX7_init (wsX2_init) := ggX7_init_X2_init
set_option maxRecDepth 20000 in
theorem ggX7_init_X3_init : GoodIn wsX7_init wsX3_init := goodIn_r _ [40, 41, 2, 3, 42, 43, 44, 45, 46, 47, 48, 49, 33, 50, 51, 52, 81, 82, 83, 84, 85, 86, 87, 92, 93, 94, 95, 96, 97, 98, 99, 100] (by decide +kernel) (by decide +kernel)
set_option maxRecDepth 20000 in
theorem gX7_init_X3_init : GoodIn wsX7_init (wsX3_init) := ggX7_init_X3_init
theorem dX7_init_0 : decode cX7_init 0 = .ok (.aload_n 0, 1) := by decide +kernel
theorem dX7_init_1 : decode cX7_init 1 = .ok (.invokespecial 3, 3) := by decide +kernel
theorem dX7_init_4 : decode cX7_init 4 = .ok (.aload_n 0, 1) := by decide +kernel
theorem dX7_init_5 : decode cX7_init 5 = .ok (.new 9, 3) := by decide +kernel
theorem dX7_init_8 : decode cX7_init 8 = .ok (.dup, 1) := by decide +kernel
theorem dX7_init_9 : decode cX7_init 9 = .ok (.invokespecial 11, 3) := by decide +kernel
theorem dX7_init_12 : decode cX7_init 12 = .ok (.putfield 12, 3) := by decide +kernel
theorem dX7_init_15 : decode cX7_init 15 = .ok (.aload_n 0, 1) := by decide +kernel
theorem dX7_init_16 : decode cX7_init 16 = .ok (.new 16, 3) := by decide +kernel
theorem dX7_init_19 : decode cX7_init 19 = .ok (.dup, 1) := by decide +kernel
theorem dX7_init_20 : decode cX7_init 20 = .ok (.invokespecial 18, 3) := by decide +kernel
theorem dX7_init_23 : decode cX7_init 23 = .ok (.putfield 19, 3) := by decide +kernel
theorem dX7_init_26 : decode cX7_init 26 = .ok (.aload_n 0, 1) := by decide +kernel
theorem dX7_init_27 : decode cX7_init 27 = .ok (.new 23, 3) := by decide +kernel
theorem dX7_init_30 : decode cX7_init 30 = .ok (.dup, 1) := by decide +kernel
theorem dX7_init_31 : decode cX7_init 31 = .ok (.invokespecial 25, 3) := by decide +kernel
theorem dX7_init_34 : decode cX7_init 34 = .ok (.putfield 26, 3) := by decide +kernel
theorem dX7_init_37 : decode cX7_init 37 = .ok (.aload_n 0, 1) := by decide +kernel
theorem dX7_init_38 : decode cX7_init 38 = .ok (.new 30, 3) := by decide +kernel
theorem dX7_init_41 : decode cX7_init 41 = .ok (.dup, 1) := by decide +kernel
theorem dX7_init_42 : decode cX7_init 42 = .ok (.invokespecial 32, 3) := by decide +kernel
theorem dX7_init_45 : decode cX7_init 45 = .ok (.putfield 33, 3) := by decide +kernel
theorem dX7_init_48 : decode cX7_init 48 = .ok (.return_, 1) := by decide +kernel
set_option maxRecDepth 20000 in
theorem ggX7_setNote_X7_requireCell : GoodIn wsX7_setNote wsX7_requireCell := goodIn_ca (goodIn_r _ [7, 8, 9, 10, 11, 6, 12] (by decide +kernel) (by decide +kernel)) (goodIn_sub (fun _ h => List.mem_cons_of_mem _ (List.mem_append_left _ (List.mem_append_right _ h))) (by decide +kernel))
set_option maxRecDepth 20000 in
theorem gX7_setNote_X7_requireCell : GoodIn wsX7_setNote (va_wsS RX7 37 yX7_requireCell wsX7_requireCell) := goodIn_app (goodIn_of _ (by decide +kernel)) ggX7_setNote_X7_requireCell
set_option maxRecDepth 20000 in
theorem ggX7_setNote_X7_requireRange : GoodIn wsX7_setNote wsX7_requireRange := goodIn_ca (goodIn_r _ [15, 16, 17] (by decide +kernel) (by decide +kernel)) (goodIn_sub (fun _ h => List.mem_cons_of_mem _ (List.mem_append_right _ h)) (by decide +kernel))
set_option maxRecDepth 20000 in
theorem gX7_setNote_X7_requireRange : GoodIn wsX7_setNote (va_wsS RX7 41 yX7_requireRange wsX7_requireRange) := goodIn_app (goodIn_of _ (by decide +kernel)) ggX7_setNote_X7_requireRange
set_option maxRecDepth 20000 in
theorem ggX7_setNote_X1_save : GoodIn wsX7_setNote wsX1_save := goodIn_r _ [22, 23, 24, 25, 26, 27, 28, 21, 29, 30, 31, 32, 33, 34, 35, 36, 37, 38, 39, 40, 41, 42, 43, 44, 45, 46, 47, 48, 49, 50, 51, 52, 53, 54, 55, 56, 57, 58, 59, 60, 61, 62, 63, 64, 65, 66, 67, 68, 69, 70, 71, 72, 73, 74, 75, 76, 107, 108, 109, 105, 106, 110, 111, 112, 113, 114, 115, 116, 117, 118, 119, 120, 121, 122, 123, 124, 125, 126, 127, 128, 129] (by decide +kernel) (by decide +kernel)
set_option maxRecDepth 20000 in
theorem gX7_setNote_X1_save : GoodIn wsX7_setNote (wsV RX7 44 RX1 yX1_save wsX1_save) := goodIn_app (goodIn_of _ (by decide +kernel)) ggX7_setNote_X1_save
set_option maxRecDepth 20000 in
theorem ggX7_setNote_X4_cellAt : GoodIn wsX7_setNote wsX4_cellAt := goodIn_r _ [80, 42, 11, 6, 12, 81, 82, 40, 83, 110, 111, 112, 113] (by decide +kernel) (by decide +kernel)
set_option maxRecDepth 20000 in
theorem gX7_setNote_X4_cellAt : GoodIn wsX7_setNote (wsV RX7 52 RX4 yX4_cellAt wsX4_cellAt) := goodIn_app (goodIn_of _ (by decide +kernel)) ggX7_setNote_X4_cellAt
set_option maxRecDepth 20000 in
theorem ggX7_setNote_X0_effectOf : GoodIn wsX7_setNote wsX0_effectOf := goodIn_r _ [87] (by decide +kernel) (by decide +kernel)
set_option maxRecDepth 20000 in
theorem gX7_setNote_X0_effectOf : GoodIn wsX7_setNote (va_wsS RX7 58 yX0_effectOf wsX0_effectOf) := goodIn_app (goodIn_of _ (by decide +kernel)) ggX7_setNote_X0_effectOf
set_option maxRecDepth 20000 in
theorem ggX7_setNote_X0_numberOf : GoodIn wsX7_setNote wsX0_numberOf := goodIn_r _ [90] (by decide +kernel) (by decide +kernel)
set_option maxRecDepth 20000 in
theorem gX7_setNote_X0_numberOf : GoodIn wsX7_setNote (va_wsS RX7 64 yX0_numberOf wsX0_numberOf) := goodIn_app (goodIn_of _ (by decide +kernel)) ggX7_setNote_X0_numberOf
set_option maxRecDepth 20000 in
theorem ggX7_setNote_X0_packed : GoodIn wsX7_setNote wsX0_packed := goodIn_r _ [93] (by decide +kernel) (by decide +kernel)
set_option maxRecDepth 20000 in
theorem gX7_setNote_X0_packed : GoodIn wsX7_setNote (va_wsS RX7 67 yX0_packed wsX0_packed) := goodIn_app (goodIn_of _ (by decide +kernel)) ggX7_setNote_X0_packed
set_option maxRecDepth 20000 in
theorem ggX7_setNote_X4_putCell : GoodIn wsX7_setNote wsX4_putCell := goodIn_r _ [97, 42, 11, 6, 12, 81, 82, 40, 83, 110, 111, 112, 113] (by decide +kernel) (by decide +kernel)
set_option maxRecDepth 20000 in
theorem gX7_setNote_X4_putCell : GoodIn wsX7_setNote (wsV RX7 71 RX4 yX4_putCell wsX4_putCell) := goodIn_app (goodIn_of _ (by decide +kernel)) ggX7_setNote_X4_putCell
set_option maxRecDepth 20000 in
theorem ggX7_setNote_X0_noteOf : GoodIn wsX7_setNote wsX0_noteOf := goodIn_r _ [100] (by decide +kernel) (by decide +kernel)
set_option maxRecDepth 20000 in
theorem gX7_setNote_X0_noteOf : GoodIn wsX7_setNote (va_wsS RX7 75 yX0_noteOf wsX0_noteOf) := goodIn_app (goodIn_of _ (by decide +kernel)) ggX7_setNote_X0_noteOf
theorem dX7_setNote_0 : decode cX7_setNote 0 = .ok (.iload_n 1, 1) := by decide +kernel
theorem dX7_setNote_1 : decode cX7_setNote 1 = .ok (.iload_n 2, 1) := by decide +kernel
theorem dX7_setNote_2 : decode cX7_setNote 2 = .ok (.iload_n 3, 1) := by decide +kernel
theorem dX7_setNote_3 : decode cX7_setNote 3 = .ok (.invokestatic 37, 3) := by decide +kernel
theorem dX7_setNote_6 : decode cX7_setNote 6 = .ok (.iload 4, 2) := by decide +kernel
theorem dX7_setNote_8 : decode cX7_setNote 8 = .ok (.iconst 0, 1) := by decide +kernel
theorem dX7_setNote_9 : decode cX7_setNote 9 = .ok (.bipush 61, 2) := by decide +kernel
theorem dX7_setNote_11 : decode cX7_setNote 11 = .ok (.invokestatic 41, 3) := by decide +kernel
theorem dX7_setNote_14 : decode cX7_setNote 14 = .ok (.iload 5, 2) := by decide +kernel
theorem dX7_setNote_16 : decode cX7_setNote 16 = .ok (.iconst 0, 1) := by decide +kernel
theorem dX7_setNote_17 : decode cX7_setNote 17 = .ok (.bipush 15, 2) := by decide +kernel
theorem dX7_setNote_19 : decode cX7_setNote 19 = .ok (.invokestatic 41, 3) := by decide +kernel
theorem dX7_setNote_22 : decode cX7_setNote 22 = .ok (.aload_n 0, 1) := by decide +kernel
theorem dX7_setNote_23 : decode cX7_setNote 23 = .ok (.getfield 19, 3) := by decide +kernel
theorem dX7_setNote_26 : decode cX7_setNote 26 = .ok (.aload_n 0, 1) := by decide +kernel
theorem dX7_setNote_27 : decode cX7_setNote 27 = .ok (.getfield 12, 3) := by decide +kernel
theorem dX7_setNote_30 : decode cX7_setNote 30 = .ok (.invokevirtual 44, 3) := by decide +kernel
theorem dX7_setNote_33 : decode cX7_setNote 33 = .ok (.aload_n 0, 1) := by decide +kernel
theorem dX7_setNote_34 : decode cX7_setNote 34 = .ok (.getfield 12, 3) := by decide +kernel
theorem dX7_setNote_37 : decode cX7_setNote 37 = .ok (.getfield 48, 3) := by decide +kernel
theorem dX7_setNote_40 : decode cX7_setNote 40 = .ok (.iload_n 1, 1) := by decide +kernel
theorem dX7_setNote_41 : decode cX7_setNote 41 = .ok (.iload_n 2, 1) := by decide +kernel
theorem dX7_setNote_42 : decode cX7_setNote 42 = .ok (.iload_n 3, 1) := by decide +kernel
theorem dX7_setNote_43 : decode cX7_setNote 43 = .ok (.invokevirtual 52, 3) := by decide +kernel
theorem dX7_setNote_46 : decode cX7_setNote 46 = .ok (.istore 6, 2) := by decide +kernel
theorem dX7_setNote_48 : decode cX7_setNote 48 = .ok (.iload 4, 2) := by decide +kernel
theorem dX7_setNote_50 : decode cX7_setNote 50 = .ok (.iload 5, 2) := by decide +kernel
theorem dX7_setNote_52 : decode cX7_setNote 52 = .ok (.iload 6, 2) := by decide +kernel
theorem dX7_setNote_54 : decode cX7_setNote 54 = .ok (.invokestatic 58, 3) := by decide +kernel
theorem dX7_setNote_57 : decode cX7_setNote 57 = .ok (.iload 6, 2) := by decide +kernel
theorem dX7_setNote_59 : decode cX7_setNote 59 = .ok (.invokestatic 64, 3) := by decide +kernel
theorem dX7_setNote_62 : decode cX7_setNote 62 = .ok (.invokestatic 67, 3) := by decide +kernel
theorem dX7_setNote_65 : decode cX7_setNote 65 = .ok (.istore 7, 2) := by decide +kernel
theorem dX7_setNote_67 : decode cX7_setNote 67 = .ok (.aload_n 0, 1) := by decide +kernel
theorem dX7_setNote_68 : decode cX7_setNote 68 = .ok (.getfield 12, 3) := by decide +kernel
theorem dX7_setNote_71 : decode cX7_setNote 71 = .ok (.getfield 48, 3) := by decide +kernel
theorem dX7_setNote_74 : decode cX7_setNote 74 = .ok (.iload_n 1, 1) := by decide +kernel
theorem dX7_setNote_75 : decode cX7_setNote 75 = .ok (.iload_n 2, 1) := by decide +kernel
theorem dX7_setNote_76 : decode cX7_setNote 76 = .ok (.iload_n 3, 1) := by decide +kernel
theorem dX7_setNote_77 : decode cX7_setNote 77 = .ok (.iload 7, 2) := by decide +kernel
theorem dX7_setNote_79 : decode cX7_setNote 79 = .ok (.invokevirtual 71, 3) := by decide +kernel
theorem dX7_setNote_82 : decode cX7_setNote 82 = .ok (.iload 6, 2) := by decide +kernel
theorem dX7_setNote_84 : decode cX7_setNote 84 = .ok (.invokestatic 75, 3) := by decide +kernel
theorem dX7_setNote_87 : decode cX7_setNote 87 = .ok (.ireturn, 1) := by decide +kernel
set_option maxRecDepth 20000 in
theorem ggX7_setEffect_X7_requireCell : GoodIn wsX7_setEffect wsX7_requireCell := goodIn_ca (goodIn_r _ [7, 8, 9, 10, 11, 6, 12] (by decide +kernel) (by decide +kernel)) (goodIn_sub (fun _ h => List.mem_cons_of_mem _ (List.mem_append_left _ (List.mem_append_right _ h))) (by decide +kernel))
set_option maxRecDepth 20000 in
theorem gX7_setEffect_X7_requireCell : GoodIn wsX7_setEffect (va_wsS RX7 37 yX7_requireCell wsX7_requireCell) := goodIn_app (goodIn_of _ (by decide +kernel)) ggX7_setEffect_X7_requireCell
set_option maxRecDepth 20000 in
theorem ggX7_setEffect_X7_requireRange : GoodIn wsX7_setEffect wsX7_requireRange := goodIn_ca (goodIn_r _ [15, 16, 17] (by decide +kernel) (by decide +kernel)) (goodIn_sub (fun _ h => List.mem_cons_of_mem _ (List.mem_append_right _ h)) (by decide +kernel))
set_option maxRecDepth 20000 in
theorem gX7_setEffect_X7_requireRange : GoodIn wsX7_setEffect (va_wsS RX7 41 yX7_requireRange wsX7_requireRange) := goodIn_app (goodIn_of _ (by decide +kernel)) ggX7_setEffect_X7_requireRange
set_option maxRecDepth 20000 in
theorem ggX7_setEffect_X1_save : GoodIn wsX7_setEffect wsX1_save := goodIn_r _ [22, 23, 24, 25, 26, 27, 28, 21, 29, 30, 31, 32, 33, 34, 35, 36, 37, 38, 39, 40, 41, 42, 43, 44, 45, 46, 47, 48, 49, 50, 51, 52, 53, 54, 55, 56, 57, 58, 59, 60, 61, 62, 63, 64, 65, 66, 67, 68, 69, 70, 71, 72, 73, 74, 75, 76, 107, 108, 109, 105, 106, 110, 111, 112, 113, 114, 115, 116, 117, 118, 119, 120, 121, 122, 123, 124, 125, 126, 127, 128, 129] (by decide +kernel) (by decide +kernel)
set_option maxRecDepth 20000 in
theorem gX7_setEffect_X1_save : GoodIn wsX7_setEffect (wsV RX7 44 RX1 yX1_save wsX1_save) := goodIn_app (goodIn_of _ (by decide +kernel)) ggX7_setEffect_X1_save
set_option maxRecDepth 20000 in
theorem ggX7_setEffect_X4_cellAt : GoodIn wsX7_setEffect wsX4_cellAt := goodIn_r _ [80, 42, 11, 6, 12, 81, 82, 40, 83, 110, 111, 112, 113] (by decide +kernel) (by decide +kernel)
set_option maxRecDepth 20000 in
theorem gX7_setEffect_X4_cellAt : GoodIn wsX7_setEffect (wsV RX7 52 RX4 yX4_cellAt wsX4_cellAt) := goodIn_app (goodIn_of _ (by decide +kernel)) ggX7_setEffect_X4_cellAt
set_option maxRecDepth 20000 in
theorem ggX7_setEffect_X0_noteOf : GoodIn wsX7_setEffect wsX0_noteOf := goodIn_r _ [87] (by decide +kernel) (by decide +kernel)
set_option maxRecDepth 20000 in
theorem gX7_setEffect_X0_noteOf : GoodIn wsX7_setEffect (va_wsS RX7 75 yX0_noteOf wsX0_noteOf) := goodIn_app (goodIn_of _ (by decide +kernel)) ggX7_setEffect_X0_noteOf
set_option maxRecDepth 20000 in
theorem ggX7_setEffect_X0_volumeOf : GoodIn wsX7_setEffect wsX0_volumeOf := goodIn_r _ [90] (by decide +kernel) (by decide +kernel)
set_option maxRecDepth 20000 in
theorem gX7_setEffect_X0_volumeOf : GoodIn wsX7_setEffect (va_wsS RX7 78 yX0_volumeOf wsX0_volumeOf) := goodIn_app (goodIn_of _ (by decide +kernel)) ggX7_setEffect_X0_volumeOf
set_option maxRecDepth 20000 in
theorem ggX7_setEffect_X0_packed : GoodIn wsX7_setEffect wsX0_packed := goodIn_r _ [93] (by decide +kernel) (by decide +kernel)
set_option maxRecDepth 20000 in
theorem gX7_setEffect_X0_packed : GoodIn wsX7_setEffect (va_wsS RX7 67 yX0_packed wsX0_packed) := goodIn_app (goodIn_of _ (by decide +kernel)) ggX7_setEffect_X0_packed
set_option maxRecDepth 20000 in
theorem ggX7_setEffect_X4_putCell : GoodIn wsX7_setEffect wsX4_putCell := goodIn_r _ [97, 42, 11, 6, 12, 81, 82, 40, 83, 110, 111, 112, 113] (by decide +kernel) (by decide +kernel)
set_option maxRecDepth 20000 in
theorem gX7_setEffect_X4_putCell : GoodIn wsX7_setEffect (wsV RX7 71 RX4 yX4_putCell wsX4_putCell) := goodIn_app (goodIn_of _ (by decide +kernel)) ggX7_setEffect_X4_putCell
set_option maxRecDepth 20000 in
theorem ggX7_setEffect_X0_effectOf : GoodIn wsX7_setEffect wsX0_effectOf := goodIn_r _ [100] (by decide +kernel) (by decide +kernel)
set_option maxRecDepth 20000 in
theorem gX7_setEffect_X0_effectOf : GoodIn wsX7_setEffect (va_wsS RX7 58 yX0_effectOf wsX0_effectOf) := goodIn_app (goodIn_of _ (by decide +kernel)) ggX7_setEffect_X0_effectOf
theorem dX7_setEffect_0 : decode cX7_setEffect 0 = .ok (.iload_n 1, 1) := by decide +kernel
theorem dX7_setEffect_1 : decode cX7_setEffect 1 = .ok (.iload_n 2, 1) := by decide +kernel
theorem dX7_setEffect_2 : decode cX7_setEffect 2 = .ok (.iload_n 3, 1) := by decide +kernel
theorem dX7_setEffect_3 : decode cX7_setEffect 3 = .ok (.invokestatic 37, 3) := by decide +kernel
theorem dX7_setEffect_6 : decode cX7_setEffect 6 = .ok (.iload 4, 2) := by decide +kernel
theorem dX7_setEffect_8 : decode cX7_setEffect 8 = .ok (.iconst 0, 1) := by decide +kernel
theorem dX7_setEffect_9 : decode cX7_setEffect 9 = .ok (.bipush 7, 2) := by decide +kernel
theorem dX7_setEffect_11 : decode cX7_setEffect 11 = .ok (.invokestatic 41, 3) := by decide +kernel
theorem dX7_setEffect_14 : decode cX7_setEffect 14 = .ok (.iload 5, 2) := by decide +kernel
theorem dX7_setEffect_16 : decode cX7_setEffect 16 = .ok (.iconst 0, 1) := by decide +kernel
theorem dX7_setEffect_17 : decode cX7_setEffect 17 = .ok (.bipush 9, 2) := by decide +kernel
theorem dX7_setEffect_19 : decode cX7_setEffect 19 = .ok (.invokestatic 41, 3) := by decide +kernel
theorem dX7_setEffect_22 : decode cX7_setEffect 22 = .ok (.aload_n 0, 1) := by decide +kernel
theorem dX7_setEffect_23 : decode cX7_setEffect 23 = .ok (.getfield 19, 3) := by decide +kernel
theorem dX7_setEffect_26 : decode cX7_setEffect 26 = .ok (.aload_n 0, 1) := by decide +kernel
theorem dX7_setEffect_27 : decode cX7_setEffect 27 = .ok (.getfield 12, 3) := by decide +kernel
theorem dX7_setEffect_30 : decode cX7_setEffect 30 = .ok (.invokevirtual 44, 3) := by decide +kernel
theorem dX7_setEffect_33 : decode cX7_setEffect 33 = .ok (.aload_n 0, 1) := by decide +kernel
theorem dX7_setEffect_34 : decode cX7_setEffect 34 = .ok (.getfield 12, 3) := by decide +kernel
theorem dX7_setEffect_37 : decode cX7_setEffect 37 = .ok (.getfield 48, 3) := by decide +kernel
theorem dX7_setEffect_40 : decode cX7_setEffect 40 = .ok (.iload_n 1, 1) := by decide +kernel
theorem dX7_setEffect_41 : decode cX7_setEffect 41 = .ok (.iload_n 2, 1) := by decide +kernel
theorem dX7_setEffect_42 : decode cX7_setEffect 42 = .ok (.iload_n 3, 1) := by decide +kernel
theorem dX7_setEffect_43 : decode cX7_setEffect 43 = .ok (.invokevirtual 52, 3) := by decide +kernel
theorem dX7_setEffect_46 : decode cX7_setEffect 46 = .ok (.istore 6, 2) := by decide +kernel
theorem dX7_setEffect_48 : decode cX7_setEffect 48 = .ok (.iload 6, 2) := by decide +kernel
theorem dX7_setEffect_50 : decode cX7_setEffect 50 = .ok (.invokestatic 75, 3) := by decide +kernel
theorem dX7_setEffect_53 : decode cX7_setEffect 53 = .ok (.iload 6, 2) := by decide +kernel
theorem dX7_setEffect_55 : decode cX7_setEffect 55 = .ok (.invokestatic 78, 3) := by decide +kernel
theorem dX7_setEffect_58 : decode cX7_setEffect 58 = .ok (.iload 4, 2) := by decide +kernel
theorem dX7_setEffect_60 : decode cX7_setEffect 60 = .ok (.iload 5, 2) := by decide +kernel
theorem dX7_setEffect_62 : decode cX7_setEffect 62 = .ok (.invokestatic 67, 3) := by decide +kernel
theorem dX7_setEffect_65 : decode cX7_setEffect 65 = .ok (.istore 7, 2) := by decide +kernel
theorem dX7_setEffect_67 : decode cX7_setEffect 67 = .ok (.aload_n 0, 1) := by decide +kernel
theorem dX7_setEffect_68 : decode cX7_setEffect 68 = .ok (.getfield 12, 3) := by decide +kernel
theorem dX7_setEffect_71 : decode cX7_setEffect 71 = .ok (.getfield 48, 3) := by decide +kernel
theorem dX7_setEffect_74 : decode cX7_setEffect 74 = .ok (.iload_n 1, 1) := by decide +kernel
theorem dX7_setEffect_75 : decode cX7_setEffect 75 = .ok (.iload_n 2, 1) := by decide +kernel
theorem dX7_setEffect_76 : decode cX7_setEffect 76 = .ok (.iload_n 3, 1) := by decide +kernel
theorem dX7_setEffect_77 : decode cX7_setEffect 77 = .ok (.iload 7, 2) := by decide +kernel
theorem dX7_setEffect_79 : decode cX7_setEffect 79 = .ok (.invokevirtual 71, 3) := by decide +kernel
theorem dX7_setEffect_82 : decode cX7_setEffect 82 = .ok (.iload 6, 2) := by decide +kernel
theorem dX7_setEffect_84 : decode cX7_setEffect 84 = .ok (.invokestatic 58, 3) := by decide +kernel
theorem dX7_setEffect_87 : decode cX7_setEffect 87 = .ok (.ireturn, 1) := by decide +kernel
set_option maxRecDepth 20000 in
theorem ggX7_setRows_X7_requireIndex : GoodIn wsX7_setRows wsX7_requireIndex := goodIn_ca (goodIn_r _ [7, 8, 9, 10, 11, 6, 12] (by decide +kernel) (by decide +kernel)) (goodIn_sub (fun _ h => List.mem_cons_of_mem _ (List.mem_append_left _ (List.mem_append_right _ h))) (by decide +kernel))
set_option maxRecDepth 20000 in
theorem gX7_setRows_X7_requireIndex : GoodIn wsX7_setRows (va_wsS RX7 81 yX7_requireIndex wsX7_requireIndex) := goodIn_app (goodIn_of _ (by decide +kernel)) ggX7_setRows_X7_requireIndex
set_option maxRecDepth 20000 in
theorem ggX7_setRows_X7_requireRange : GoodIn wsX7_setRows wsX7_requireRange := goodIn_ca (goodIn_r _ [15, 16, 17] (by decide +kernel) (by decide +kernel)) (goodIn_sub (fun _ h => List.mem_cons_of_mem _ (List.mem_append_right _ h)) (by decide +kernel))
set_option maxRecDepth 20000 in
theorem gX7_setRows_X7_requireRange : GoodIn wsX7_setRows (va_wsS RX7 41 yX7_requireRange wsX7_requireRange) := goodIn_app (goodIn_of _ (by decide +kernel)) ggX7_setRows_X7_requireRange
set_option maxRecDepth 20000 in
theorem ggX7_setRows_X1_save : GoodIn wsX7_setRows wsX1_save := goodIn_r _ [22, 23, 24, 25, 26, 27, 28, 21, 29, 30, 31, 32, 33, 34, 35, 36, 37, 38, 39, 40, 41, 42, 43, 44, 45, 46, 47, 48, 49, 50, 51, 52, 53, 54, 55, 56, 57, 58, 59, 60, 61, 62, 63, 64, 65, 66, 67, 68, 69, 70, 71, 72, 73, 74, 75, 76, 91, 92, 93, 89, 90, 94, 95, 96, 97, 98, 99, 100, 101, 102, 103, 104, 105, 106, 107, 108, 109, 110, 111, 112, 113] (by decide +kernel) (by decide +kernel)
set_option maxRecDepth 20000 in
theorem gX7_setRows_X1_save : GoodIn wsX7_setRows (wsV RX7 44 RX1 yX1_save wsX1_save) := goodIn_app (goodIn_of _ (by decide +kernel)) ggX7_setRows_X1_save
set_option maxRecDepth 20000 in
theorem ggX7_setRows_X4_rowsOf : GoodIn wsX7_setRows wsX4_rowsOf := goodIn_r _ [80, 47, 11, 6, 12, 94, 95, 96, 97] (by decide +kernel) (by decide +kernel)
set_option maxRecDepth 20000 in
theorem gX7_setRows_X4_rowsOf : GoodIn wsX7_setRows (wsV RX7 85 RX4 yX4_rowsOf wsX4_rowsOf) := goodIn_app (goodIn_of _ (by decide +kernel)) ggX7_setRows_X4_rowsOf
set_option maxRecDepth 20000 in
theorem ggX7_setRows_X4_putRows : GoodIn wsX7_setRows wsX4_putRows := goodIn_r _ [84, 47, 11, 6, 12, 94, 95, 96, 97] (by decide +kernel) (by decide +kernel)
set_option maxRecDepth 20000 in
theorem gX7_setRows_X4_putRows : GoodIn wsX7_setRows (wsV RX7 88 RX4 yX4_putRows wsX4_putRows) := goodIn_app (goodIn_of _ (by decide +kernel)) ggX7_setRows_X4_putRows
theorem dX7_setRows_0 : decode cX7_setRows 0 = .ok (.iload_n 1, 1) := by decide +kernel
theorem dX7_setRows_1 : decode cX7_setRows 1 = .ok (.bipush 6, 2) := by decide +kernel
theorem dX7_setRows_3 : decode cX7_setRows 3 = .ok (.invokestatic 81, 3) := by decide +kernel
theorem dX7_setRows_6 : decode cX7_setRows 6 = .ok (.iload_n 2, 1) := by decide +kernel
theorem dX7_setRows_7 : decode cX7_setRows 7 = .ok (.iconst 1, 1) := by decide +kernel
theorem dX7_setRows_8 : decode cX7_setRows 8 = .ok (.bipush 8, 2) := by decide +kernel
theorem dX7_setRows_10 : decode cX7_setRows 10 = .ok (.invokestatic 41, 3) := by decide +kernel
theorem dX7_setRows_13 : decode cX7_setRows 13 = .ok (.aload_n 0, 1) := by decide +kernel
theorem dX7_setRows_14 : decode cX7_setRows 14 = .ok (.getfield 19, 3) := by decide +kernel
theorem dX7_setRows_17 : decode cX7_setRows 17 = .ok (.aload_n 0, 1) := by decide +kernel
theorem dX7_setRows_18 : decode cX7_setRows 18 = .ok (.getfield 12, 3) := by decide +kernel
theorem dX7_setRows_21 : decode cX7_setRows 21 = .ok (.invokevirtual 44, 3) := by decide +kernel
theorem dX7_setRows_24 : decode cX7_setRows 24 = .ok (.aload_n 0, 1) := by decide +kernel
theorem dX7_setRows_25 : decode cX7_setRows 25 = .ok (.getfield 12, 3) := by decide +kernel
theorem dX7_setRows_28 : decode cX7_setRows 28 = .ok (.getfield 48, 3) := by decide +kernel
theorem dX7_setRows_31 : decode cX7_setRows 31 = .ok (.iload_n 1, 1) := by decide +kernel
theorem dX7_setRows_32 : decode cX7_setRows 32 = .ok (.invokevirtual 85, 3) := by decide +kernel
theorem dX7_setRows_35 : decode cX7_setRows 35 = .ok (.istore_n 3, 1) := by decide +kernel
theorem dX7_setRows_36 : decode cX7_setRows 36 = .ok (.aload_n 0, 1) := by decide +kernel
theorem dX7_setRows_37 : decode cX7_setRows 37 = .ok (.getfield 12, 3) := by decide +kernel
theorem dX7_setRows_40 : decode cX7_setRows 40 = .ok (.getfield 48, 3) := by decide +kernel
theorem dX7_setRows_43 : decode cX7_setRows 43 = .ok (.iload_n 1, 1) := by decide +kernel
theorem dX7_setRows_44 : decode cX7_setRows 44 = .ok (.iload_n 2, 1) := by decide +kernel
theorem dX7_setRows_45 : decode cX7_setRows 45 = .ok (.invokevirtual 88, 3) := by decide +kernel
theorem dX7_setRows_48 : decode cX7_setRows 48 = .ok (.iload_n 3, 1) := by decide +kernel
theorem dX7_setRows_49 : decode cX7_setRows 49 = .ok (.ireturn, 1) := by decide +kernel
set_option maxRecDepth 20000 in
theorem ggX7_setOrder_X7_requireIndex : GoodIn wsX7_setOrder wsX7_requireIndex := goodIn_ca (goodIn_r _ [12, 13, 14, 15, 16, 11, 17] (by decide +kernel) (by decide +kernel)) (goodIn_sub (fun _ h => List.mem_cons_of_mem _ (List.mem_append_left _ (List.mem_append_right _ h))) (by decide +kernel))
set_option maxRecDepth 20000 in
theorem gX7_setOrder_X7_requireIndex : GoodIn wsX7_setOrder (va_wsS RX7 81 yX7_requireIndex wsX7_requireIndex) := goodIn_app (goodIn_of _ (by decide +kernel)) ggX7_setOrder_X7_requireIndex
set_option maxRecDepth 20000 in
theorem ggX7_setOrder_X7_requireRange : GoodIn wsX7_setOrder wsX7_requireRange := goodIn_ca (goodIn_r _ [20, 21, 22] (by decide +kernel) (by decide +kernel)) (goodIn_sub (fun _ h => List.mem_cons_of_mem _ (List.mem_append_right _ h)) (by decide +kernel))
set_option maxRecDepth 20000 in
theorem gX7_setOrder_X7_requireRange : GoodIn wsX7_setOrder (va_wsS RX7 41 yX7_requireRange wsX7_requireRange) := goodIn_app (goodIn_of _ (by decide +kernel)) ggX7_setOrder_X7_requireRange
set_option maxRecDepth 20000 in
theorem ggX7_setOrder_X1_save : GoodIn wsX7_setOrder wsX1_save := goodIn_r _ [27, 28, 29, 30, 31, 32, 33, 26, 34, 35, 36, 37, 38, 39, 40, 41, 42, 43, 44, 45, 46, 47, 48, 49, 50, 51, 52, 53, 54, 55, 56, 57, 58, 59, 60, 61, 62, 63, 64, 65, 66, 67, 68, 69, 70, 71, 72, 73, 74, 75, 76, 77, 78, 79, 80, 81, 99, 100, 101, 93, 94, 95, 96, 97, 98, 102, 103, 104, 105, 106, 107, 108, 109, 110, 111, 112, 113, 114, 115, 116, 117] (by decide +kernel) (by decide +kernel)
set_option maxRecDepth 20000 in
theorem gX7_setOrder_X1_save : GoodIn wsX7_setOrder (wsV RX7 44 RX1 yX1_save wsX1_save) := goodIn_app (goodIn_of _ (by decide +kernel)) ggX7_setOrder_X1_save
set_option maxRecDepth 20000 in
theorem ggX7_setOrder_X4_putPlace : GoodIn wsX7_setOrder wsX4_putPlace := goodIn_r _ [85, 53, 54, 86, 87, 6, 88, 16, 11, 17, 95, 96, 97, 98] (by decide +kernel) (by decide +kernel)
set_option maxRecDepth 20000 in
theorem gX7_setOrder_X4_putPlace : GoodIn wsX7_setOrder (wsV RX7 101 RX4 yX4_putPlace wsX4_putPlace) := goodIn_app (goodIn_of _ (by decide +kernel)) ggX7_setOrder_X4_putPlace
theorem dX7_setOrder_0 : decode cX7_setOrder 0 = .ok (.iload_n 1, 1) := by decide +kernel
theorem dX7_setOrder_1 : decode cX7_setOrder 1 = .ok (.aload_n 0, 1) := by decide +kernel
theorem dX7_setOrder_2 : decode cX7_setOrder 2 = .ok (.getfield 12, 3) := by decide +kernel
theorem dX7_setOrder_5 : decode cX7_setOrder 5 = .ok (.getfield 48, 3) := by decide +kernel
theorem dX7_setOrder_8 : decode cX7_setOrder 8 = .ok (.getfield 91, 3) := by decide +kernel
theorem dX7_setOrder_11 : decode cX7_setOrder 11 = .ok (.iconst 1, 1) := by decide +kernel
theorem dX7_setOrder_12 : decode cX7_setOrder 12 = .ok (.iadd, 1) := by decide +kernel
theorem dX7_setOrder_13 : decode cX7_setOrder 13 = .ok (.bipush 8, 2) := by decide +kernel
theorem dX7_setOrder_15 : decode cX7_setOrder 15 = .ok (.invokestatic 95, 3) := by decide +kernel
theorem dX7_setOrder_18 : decode cX7_setOrder 18 = .ok (.invokestatic 81, 3) := by decide +kernel
theorem dX7_setOrder_21 : decode cX7_setOrder 21 = .ok (.iload_n 2, 1) := by decide +kernel
theorem dX7_setOrder_22 : decode cX7_setOrder 22 = .ok (.iconst 0, 1) := by decide +kernel
theorem dX7_setOrder_23 : decode cX7_setOrder 23 = .ok (.iconst 5, 1) := by decide +kernel
theorem dX7_setOrder_24 : decode cX7_setOrder 24 = .ok (.invokestatic 41, 3) := by decide +kernel
theorem dX7_setOrder_27 : decode cX7_setOrder 27 = .ok (.aload_n 0, 1) := by decide +kernel
theorem dX7_setOrder_28 : decode cX7_setOrder 28 = .ok (.getfield 19, 3) := by decide +kernel
theorem dX7_setOrder_31 : decode cX7_setOrder 31 = .ok (.aload_n 0, 1) := by decide +kernel
theorem dX7_setOrder_32 : decode cX7_setOrder 32 = .ok (.getfield 12, 3) := by decide +kernel
theorem dX7_setOrder_35 : decode cX7_setOrder 35 = .ok (.invokevirtual 44, 3) := by decide +kernel
theorem dX7_setOrder_38 : decode cX7_setOrder 38 = .ok (.aload_n 0, 1) := by decide +kernel
theorem dX7_setOrder_39 : decode cX7_setOrder 39 = .ok (.getfield 12, 3) := by decide +kernel
theorem dX7_setOrder_42 : decode cX7_setOrder 42 = .ok (.getfield 48, 3) := by decide +kernel
theorem dX7_setOrder_45 : decode cX7_setOrder 45 = .ok (.iload_n 1, 1) := by decide +kernel
theorem dX7_setOrder_46 : decode cX7_setOrder 46 = .ok (.iload_n 2, 1) := by decide +kernel
theorem dX7_setOrder_47 : decode cX7_setOrder 47 = .ok (.invokevirtual 101, 3) := by decide +kernel
theorem dX7_setOrder_50 : decode cX7_setOrder 50 = .ok (.aload_n 0, 1) := by decide +kernel
theorem dX7_setOrder_51 : decode cX7_setOrder 51 = .ok (.getfield 12, 3) := by decide +kernel
theorem dX7_setOrder_54 : decode cX7_setOrder 54 = .ok (.getfield 48, 3) := by decide +kernel
theorem dX7_setOrder_57 : decode cX7_setOrder 57 = .ok (.getfield 91, 3) := by decide +kernel
theorem dX7_setOrder_60 : decode cX7_setOrder 60 = .ok (.ireturn, 1) := by decide +kernel
set_option maxRecDepth 20000 in
theorem ggX7_shorten_X1_save : GoodIn wsX7_shorten wsX1_save := goodIn_r _ [13, 14, 15, 16, 17, 18, 19, 12, 20, 21, 22, 23, 24, 25, 26, 27, 28, 29, 30, 31, 32, 33, 34, 35, 36, 37, 38, 39, 40, 41, 42, 43, 44, 45, 46, 47, 48, 49, 50, 51, 52, 53, 54, 55, 56, 57, 58, 59, 60, 61, 62, 63, 64, 65, 66, 67, 85, 86, 87, 72, 73, 74, 75, 76, 77, 78, 79, 80, 81, 82, 83, 84, 88, 89, 90, 91, 92, 93, 94, 95, 96] (by decide +kernel) (by decide +kernel)
set_option maxRecDepth 20000 in
theorem gX7_shorten_X1_save : GoodIn wsX7_shorten (wsV RX7 44 RX1 yX1_save wsX1_save) := goodIn_app (goodIn_of _ (by decide +kernel)) ggX7_shorten_X1_save
theorem dX7_shorten_0 : decode cX7_shorten 0 = .ok (.aload_n 0, 1) := by decide +kernel
theorem dX7_shorten_1 : decode cX7_shorten 1 = .ok (.getfield 12, 3) := by decide +kernel
theorem dX7_shorten_4 : decode cX7_shorten 4 = .ok (.getfield 48, 3) := by decide +kernel
theorem dX7_shorten_7 : decode cX7_shorten 7 = .ok (.getfield 91, 3) := by decide +kernel
theorem dX7_shorten_10 : decode cX7_shorten 10 = .ok (.iconst 1, 1) := by decide +kernel
theorem dX7_shorten_11 : decode cX7_shorten 11 = .ok (.isub, 1) := by decide +kernel
theorem dX7_shorten_12 : decode cX7_shorten 12 = .ok (.istore_n 1, 1) := by decide +kernel
theorem dX7_shorten_13 : decode cX7_shorten 13 = .ok (.iload_n 1, 1) := by decide +kernel
theorem dX7_shorten_14 : decode cX7_shorten 14 = .ok (.ifCond .eq 17, 3) := by decide +kernel
theorem dX7_shorten_17 : decode cX7_shorten 17 = .ok (.aload_n 0, 1) := by decide +kernel
theorem dX7_shorten_18 : decode cX7_shorten 18 = .ok (.getfield 12, 3) := by decide +kernel
theorem dX7_shorten_21 : decode cX7_shorten 21 = .ok (.getfield 104, 3) := by decide +kernel
theorem dX7_shorten_24 : decode cX7_shorten 24 = .ok (.getfield 107, 3) := by decide +kernel
theorem dX7_shorten_27 : decode cX7_shorten 27 = .ok (.iload_n 1, 1) := by decide +kernel
theorem dX7_shorten_28 : decode cX7_shorten 28 = .ok (.if_icmp .ne 13, 3) := by decide +kernel
theorem dX7_shorten_31 : decode cX7_shorten 31 = .ok (.new 110, 3) := by decide +kernel
theorem dX7_shorten_34 : decode cX7_shorten 34 = .ok (.dup, 1) := by decide +kernel
theorem dX7_shorten_35 : decode cX7_shorten 35 = .ok (.ldc 112, 2) := by decide +kernel
theorem dX7_shorten_37 : decode cX7_shorten 37 = .ok (.invokespecial 114, 3) := by decide +kernel
theorem dX7_shorten_40 : decode cX7_shorten 40 = .ok (.athrow, 1) := by decide +kernel
theorem dX7_shorten_41 : decode cX7_shorten 41 = .ok (.aload_n 0, 1) := by decide +kernel
theorem dX7_shorten_42 : decode cX7_shorten 42 = .ok (.getfield 19, 3) := by decide +kernel
theorem dX7_shorten_45 : decode cX7_shorten 45 = .ok (.aload_n 0, 1) := by decide +kernel
theorem dX7_shorten_46 : decode cX7_shorten 46 = .ok (.getfield 12, 3) := by decide +kernel
theorem dX7_shorten_49 : decode cX7_shorten 49 = .ok (.invokevirtual 44, 3) := by decide +kernel
theorem dX7_shorten_52 : decode cX7_shorten 52 = .ok (.aload_n 0, 1) := by decide +kernel
theorem dX7_shorten_53 : decode cX7_shorten 53 = .ok (.getfield 12, 3) := by decide +kernel
theorem dX7_shorten_56 : decode cX7_shorten 56 = .ok (.getfield 48, 3) := by decide +kernel
theorem dX7_shorten_59 : decode cX7_shorten 59 = .ok (.iload_n 1, 1) := by decide +kernel
theorem dX7_shorten_60 : decode cX7_shorten 60 = .ok (.putfield 91, 3) := by decide +kernel
theorem dX7_shorten_63 : decode cX7_shorten 63 = .ok (.iload_n 1, 1) := by decide +kernel
theorem dX7_shorten_64 : decode cX7_shorten 64 = .ok (.ireturn, 1) := by decide +kernel
set_option maxRecDepth 20000 in
theorem ggX7_pattern_X7_requireIndex : GoodIn wsX7_pattern wsX7_requireIndex := goodIn_ca (goodIn_r _ [6, 7, 8, 9, 10, 5, 11] (by decide +kernel) (by decide +kernel)) (goodIn_sub (fun _ h => List.mem_cons_of_mem _ (List.mem_append_left _ (List.mem_append_right _ h))) (by decide +kernel))
set_option maxRecDepth 20000 in
theorem gX7_pattern_X7_requireIndex : GoodIn wsX7_pattern (va_wsS RX7 81 yX7_requireIndex wsX7_requireIndex) := goodIn_app (goodIn_of _ (by decide +kernel)) ggX7_pattern_X7_requireIndex
set_option maxRecDepth 20000 in
theorem ggX7_pattern_X7_requireRange : GoodIn wsX7_pattern wsX7_requireRange := goodIn_ca (goodIn_r _ [14, 15, 16] (by decide +kernel) (by decide +kernel)) (goodIn_sub (fun _ h => List.mem_cons_of_mem _ (List.mem_append_right _ h)) (by decide +kernel))
set_option maxRecDepth 20000 in
theorem gX7_pattern_X7_requireRange : GoodIn wsX7_pattern (va_wsS RX7 41 yX7_requireRange wsX7_requireRange) := goodIn_app (goodIn_of _ (by decide +kernel)) ggX7_pattern_X7_requireRange
set_option maxRecDepth 20000 in
theorem ggX7_pattern_X4_patternFact : GoodIn wsX7_pattern wsX4_patternFact := goodIn_r _ [21, 22, 23, 24, 20, 25, 26, 10, 5, 11, 27, 28, 29, 30, 31, 32, 33, 34, 35, 36, 37, 38, 39, 40, 41, 42, 43, 44, 45, 46, 47, 48, 49, 50, 51, 52, 53, 54, 55, 56, 57, 58, 59, 60, 61, 62, 63, 64, 65, 66, 67, 68, 69, 70, 71, 72, 73, 74, 75, 76, 77, 78, 79, 86, 87, 88, 89] (by decide +kernel) (by decide +kernel)
set_option maxRecDepth 20000 in
theorem gX7_pattern_X4_patternFact : GoodIn wsX7_pattern (wsV RX7 120 RX4 yX4_patternFact wsX4_patternFact) := goodIn_app (goodIn_of _ (by decide +kernel)) ggX7_pattern_X4_patternFact
theorem dX7_pattern_0 : decode cX7_pattern 0 = .ok (.iload_n 1, 1) := by decide +kernel
theorem dX7_pattern_1 : decode cX7_pattern 1 = .ok (.bipush 6, 2) := by decide +kernel
theorem dX7_pattern_3 : decode cX7_pattern 3 = .ok (.invokestatic 81, 3) := by decide +kernel
theorem dX7_pattern_6 : decode cX7_pattern 6 = .ok (.iload_n 2, 1) := by decide +kernel
theorem dX7_pattern_7 : decode cX7_pattern 7 = .ok (.iconst 0, 1) := by decide +kernel
theorem dX7_pattern_8 : decode cX7_pattern 8 = .ok (.iconst 4, 1) := by decide +kernel
theorem dX7_pattern_9 : decode cX7_pattern 9 = .ok (.invokestatic 41, 3) := by decide +kernel
theorem dX7_pattern_12 : decode cX7_pattern 12 = .ok (.aload_n 0, 1) := by decide +kernel
theorem dX7_pattern_13 : decode cX7_pattern 13 = .ok (.getfield 12, 3) := by decide +kernel
theorem dX7_pattern_16 : decode cX7_pattern 16 = .ok (.getfield 48, 3) := by decide +kernel
theorem dX7_pattern_19 : decode cX7_pattern 19 = .ok (.iload_n 1, 1) := by decide +kernel
theorem dX7_pattern_20 : decode cX7_pattern 20 = .ok (.iload_n 2, 1) := by decide +kernel
theorem dX7_pattern_21 : decode cX7_pattern 21 = .ok (.invokevirtual 120, 3) := by decide +kernel
theorem dX7_pattern_24 : decode cX7_pattern 24 = .ok (.ireturn, 1) := by decide +kernel
set_option maxRecDepth 20000 in
theorem ggX7_order_X7_requireIndex : GoodIn wsX7_order wsX7_requireIndex := goodIn_ca (goodIn_r _ [7, 8, 9, 10, 11, 6, 12] (by decide +kernel) (by decide +kernel)) (goodIn_sub (fun _ h => List.mem_cons_of_mem _ (List.mem_append_right _ h)) (by decide +kernel))
set_option maxRecDepth 20000 in
theorem gX7_order_X7_requireIndex : GoodIn wsX7_order (va_wsS RX7 81 yX7_requireIndex wsX7_requireIndex) := goodIn_app (goodIn_of _ (by decide +kernel)) ggX7_order_X7_requireIndex
set_option maxRecDepth 20000 in
theorem ggX7_order_X4_patternAt : GoodIn wsX7_order wsX4_patternAt := goodIn_r _ [17, 18, 19, 11, 6, 12, 26, 27, 28, 29] (by decide +kernel) (by decide +kernel)
set_option maxRecDepth 20000 in
theorem gX7_order_X4_patternAt : GoodIn wsX7_order (wsV RX7 123 RX4 yX4_patternAt wsX4_patternAt) := goodIn_app (goodIn_of _ (by decide +kernel)) ggX7_order_X4_patternAt
theorem dX7_order_0 : decode cX7_order 0 = .ok (.iload_n 1, 1) := by decide +kernel
theorem dX7_order_1 : decode cX7_order 1 = .ok (.aload_n 0, 1) := by decide +kernel
theorem dX7_order_2 : decode cX7_order 2 = .ok (.getfield 12, 3) := by decide +kernel
theorem dX7_order_5 : decode cX7_order 5 = .ok (.getfield 48, 3) := by decide +kernel
theorem dX7_order_8 : decode cX7_order 8 = .ok (.getfield 91, 3) := by decide +kernel
theorem dX7_order_11 : decode cX7_order 11 = .ok (.invokestatic 81, 3) := by decide +kernel
theorem dX7_order_14 : decode cX7_order 14 = .ok (.aload_n 0, 1) := by decide +kernel
theorem dX7_order_15 : decode cX7_order 15 = .ok (.getfield 12, 3) := by decide +kernel
theorem dX7_order_18 : decode cX7_order 18 = .ok (.getfield 48, 3) := by decide +kernel
theorem dX7_order_21 : decode cX7_order 21 = .ok (.iload_n 1, 1) := by decide +kernel
theorem dX7_order_22 : decode cX7_order 22 = .ok (.invokevirtual 123, 3) := by decide +kernel
theorem dX7_order_25 : decode cX7_order 25 = .ok (.ireturn, 1) := by decide +kernel
set_option maxRecDepth 20000 in
theorem ggX7_play_X7_requireRange : GoodIn wsX7_play wsX7_requireRange := goodIn_ca (goodIn_r _ [12, 13, 14] (by decide +kernel) (by decide +kernel)) (goodIn_sub (fun _ h => List.mem_cons_of_mem _ (List.mem_append_right _ h)) (by decide +kernel))
set_option maxRecDepth 20000 in
theorem gX7_play_X7_requireRange : GoodIn wsX7_play (va_wsS RX7 41 yX7_requireRange wsX7_requireRange) := goodIn_app (goodIn_of _ (by decide +kernel)) ggX7_play_X7_requireRange
set_option maxRecDepth 20000 in
theorem ggX7_play_X1_save : GoodIn wsX7_play wsX1_save := goodIn_r _ [19, 20, 21, 22, 23, 24, 25, 18, 26, 27, 28, 29, 30, 31, 32, 33, 34, 35, 36, 37, 38, 39, 40, 41, 42, 43, 44, 45, 46, 47, 48, 49, 50, 51, 52, 53, 54, 55, 56, 57, 58, 59, 60, 61, 62, 63, 64, 65, 66, 67, 68, 69, 70, 71, 72, 73, 211, 212, 213, 202, 203, 214, 215, 216, 217, 204, 205, 206, 207, 208, 209, 210, 218, 219, 220, 221, 222, 223, 224, 225, 226] (by decide +kernel) (by decide +kernel)
set_option maxRecDepth 20000 in
theorem gX7_play_X1_save : GoodIn wsX7_play (wsV RX7 44 RX1 yX1_save wsX1_save) := goodIn_app (goodIn_of _ (by decide +kernel)) ggX7_play_X1_save
set_option maxRecDepth 20000 in
theorem ggX7_play_X3_passTicks : GoodIn wsX7_play wsX3_passTicks := goodIn_r _ [77, 58, 78, 79, 80, 81, 50, 82, 54, 56, 55, 83, 84, 85, 86, 87, 88, 89, 90, 91, 52, 53, 92, 93, 94, 62, 95, 69, 70, 96, 11, 97, 98, 99, 100, 101, 72, 102, 103, 104, 37, 105, 39, 106, 107, 108, 109, 110, 111, 112, 113, 114, 46, 45, 115, 116, 117, 118, 119, 120, 121, 122, 123, 124, 125, 126, 127, 128, 129, 73, 130, 131, 132, 133, 134, 135, 136, 65, 64, 137, 138, 139, 140, 141, 142, 143, 144, 145, 146, 147, 148, 149, 150, 151, 152, 153, 154, 155, 156, 157, 158, 159, 160, 161, 162, 163, 164, 165, 166, 66, 67, 68, 167, 168, 169, 170, 171, 172, 173, 174, 175, 176, 177, 178, 179, 180, 181, 182, 183, 184, 44, 185, 186, 187, 188, 189, 190, 191, 192, 193, 194, 195, 196, 197, 57, 204, 205, 206, 207, 208, 209, 210, 218, 219, 220, 221, 222, 223, 224, 225, 226, 214, 215, 216, 217] (by decide +kernel) (by decide +kernel)
set_option maxRecDepth 20000 in
theorem gX7_play_X3_passTicks : GoodIn wsX7_play (wsV RX7 132 RX3 yX3_passTicks wsX3_passTicks) := goodIn_app (goodIn_of _ (by decide +kernel)) ggX7_play_X3_passTicks
theorem dX7_play_0 : decode cX7_play 0 = .ok (.iload_n 1, 1) := by decide +kernel
theorem dX7_play_1 : decode cX7_play 1 = .ok (.iconst 1, 1) := by decide +kernel
theorem dX7_play_2 : decode cX7_play 2 = .ok (.sipush 500, 3) := by decide +kernel
theorem dX7_play_5 : decode cX7_play 5 = .ok (.invokestatic 41, 3) := by decide +kernel
theorem dX7_play_8 : decode cX7_play 8 = .ok (.aload_n 0, 1) := by decide +kernel
theorem dX7_play_9 : decode cX7_play 9 = .ok (.getfield 12, 3) := by decide +kernel
theorem dX7_play_12 : decode cX7_play 12 = .ok (.getfield 104, 3) := by decide +kernel
theorem dX7_play_15 : decode cX7_play 15 = .ok (.getfield 126, 3) := by decide +kernel
theorem dX7_play_18 : decode cX7_play 18 = .ok (.iload_n 1, 1) := by decide +kernel
theorem dX7_play_19 : decode cX7_play 19 = .ok (.iadd, 1) := by decide +kernel
theorem dX7_play_20 : decode cX7_play 20 = .ok (.ldc 129, 2) := by decide +kernel
theorem dX7_play_22 : decode cX7_play 22 = .ok (.if_icmp .le 13, 3) := by decide +kernel
theorem dX7_play_25 : decode cX7_play 25 = .ok (.new 110, 3) := by decide +kernel
theorem dX7_play_28 : decode cX7_play 28 = .ok (.dup, 1) := by decide +kernel
theorem dX7_play_29 : decode cX7_play 29 = .ok (.ldc 130, 2) := by decide +kernel
theorem dX7_play_31 : decode cX7_play 31 = .ok (.invokespecial 114, 3) := by decide +kernel
theorem dX7_play_34 : decode cX7_play 34 = .ok (.athrow, 1) := by decide +kernel
theorem dX7_play_35 : decode cX7_play 35 = .ok (.aload_n 0, 1) := by decide +kernel
theorem dX7_play_36 : decode cX7_play 36 = .ok (.getfield 19, 3) := by decide +kernel
theorem dX7_play_39 : decode cX7_play 39 = .ok (.aload_n 0, 1) := by decide +kernel
theorem dX7_play_40 : decode cX7_play 40 = .ok (.getfield 12, 3) := by decide +kernel
theorem dX7_play_43 : decode cX7_play 43 = .ok (.invokevirtual 44, 3) := by decide +kernel
theorem dX7_play_46 : decode cX7_play 46 = .ok (.aload_n 0, 1) := by decide +kernel
theorem dX7_play_47 : decode cX7_play 47 = .ok (.getfield 12, 3) := by decide +kernel
theorem dX7_play_50 : decode cX7_play 50 = .ok (.getfield 104, 3) := by decide +kernel
theorem dX7_play_53 : decode cX7_play 53 = .ok (.aload_n 0, 1) := by decide +kernel
theorem dX7_play_54 : decode cX7_play 54 = .ok (.getfield 12, 3) := by decide +kernel
theorem dX7_play_57 : decode cX7_play 57 = .ok (.getfield 48, 3) := by decide +kernel
theorem dX7_play_60 : decode cX7_play 60 = .ok (.iload_n 1, 1) := by decide +kernel
theorem dX7_play_61 : decode cX7_play 61 = .ok (.invokevirtual 132, 3) := by decide +kernel
theorem dX7_play_64 : decode cX7_play 64 = .ok (.ireturn, 1) := by decide +kernel
set_option maxRecDepth 20000 in
theorem ggX7_restart_X1_save : GoodIn wsX7_restart wsX1_save := goodIn_r _ [9, 10, 11, 12, 13, 14, 15, 8, 16, 17, 18, 19, 20, 21, 22, 23, 24, 25, 26, 27, 28, 29, 30, 31, 32, 33, 34, 35, 36, 37, 38, 39, 40, 41, 42, 43, 44, 45, 46, 47, 48, 49, 50, 51, 52, 53, 54, 55, 56, 57, 58, 59, 60, 61, 62, 63, 89, 90, 91, 80, 81, 92, 93, 94, 95, 82, 83, 84, 85, 86, 87, 88, 96, 97, 98, 99, 100, 101, 102, 103, 104] (by decide +kernel) (by decide +kernel)
set_option maxRecDepth 20000 in
theorem gX7_restart_X1_save : GoodIn wsX7_restart (wsV RX7 44 RX1 yX1_save wsX1_save) := goodIn_app (goodIn_of _ (by decide +kernel)) ggX7_restart_X1_save
set_option maxRecDepth 20000 in
theorem ggX7_restart_X3_goToBeginning : GoodIn wsX7_restart wsX3_goToBeginning := goodIn_r _ [67, 42, 43, 44, 45, 46, 47, 48, 68, 69, 70, 52, 71, 54, 55, 58, 59, 63, 72, 73, 74, 75, 56, 57, 82, 83, 84, 85, 86, 87, 88, 96, 97, 98, 99, 100, 101, 102, 103, 104] (by decide +kernel) (by decide +kernel)
set_option maxRecDepth 20000 in
theorem gX7_restart_X3_goToBeginning : GoodIn wsX7_restart (wsV RX7 136 RX3 yX3_goToBeginning wsX3_goToBeginning) := goodIn_app (goodIn_of _ (by decide +kernel)) ggX7_restart_X3_goToBeginning
theorem dX7_restart_0 : decode cX7_restart 0 = .ok (.aload_n 0, 1) := by decide +kernel
theorem dX7_restart_1 : decode cX7_restart 1 = .ok (.getfield 19, 3) := by decide +kernel
theorem dX7_restart_4 : decode cX7_restart 4 = .ok (.aload_n 0, 1) := by decide +kernel
theorem dX7_restart_5 : decode cX7_restart 5 = .ok (.getfield 12, 3) := by decide +kernel
theorem dX7_restart_8 : decode cX7_restart 8 = .ok (.invokevirtual 44, 3) := by decide +kernel
theorem dX7_restart_11 : decode cX7_restart 11 = .ok (.aload_n 0, 1) := by decide +kernel
theorem dX7_restart_12 : decode cX7_restart 12 = .ok (.getfield 12, 3) := by decide +kernel
theorem dX7_restart_15 : decode cX7_restart 15 = .ok (.getfield 104, 3) := by decide +kernel
theorem dX7_restart_18 : decode cX7_restart 18 = .ok (.getfield 126, 3) := by decide +kernel
theorem dX7_restart_21 : decode cX7_restart 21 = .ok (.istore_n 1, 1) := by decide +kernel
theorem dX7_restart_22 : decode cX7_restart 22 = .ok (.aload_n 0, 1) := by decide +kernel
theorem dX7_restart_23 : decode cX7_restart 23 = .ok (.getfield 12, 3) := by decide +kernel
theorem dX7_restart_26 : decode cX7_restart 26 = .ok (.getfield 104, 3) := by decide +kernel
theorem dX7_restart_29 : decode cX7_restart 29 = .ok (.invokevirtual 136, 3) := by decide +kernel
theorem dX7_restart_32 : decode cX7_restart 32 = .ok (.iload_n 1, 1) := by decide +kernel
theorem dX7_restart_33 : decode cX7_restart 33 = .ok (.ireturn, 1) := by decide +kernel
set_option maxRecDepth 20000 in
theorem ggX7_steal_X7_requireIndex : GoodIn wsX7_steal wsX7_requireIndex := goodIn_ca (goodIn_r _ [8, 9, 10, 11, 12, 7, 13] (by decide +kernel) (by decide +kernel)) (goodIn_sub (fun _ h => List.mem_cons_of_mem _ (List.mem_append_left _ (List.mem_append_right _ h))) (by decide +kernel))
set_option maxRecDepth 20000 in
theorem gX7_steal_X7_requireIndex : GoodIn wsX7_steal (va_wsS RX7 81 yX7_requireIndex wsX7_requireIndex) := goodIn_app (goodIn_of _ (by decide +kernel)) ggX7_steal_X7_requireIndex
set_option maxRecDepth 20000 in
theorem ggX7_steal_X7_requireRange : GoodIn wsX7_steal wsX7_requireRange := goodIn_ca (goodIn_r _ [16, 17, 18] (by decide +kernel) (by decide +kernel)) (goodIn_sub (fun _ h => List.mem_cons_of_mem _ (List.mem_append_right _ h)) (by decide +kernel))
set_option maxRecDepth 20000 in
theorem gX7_steal_X7_requireRange : GoodIn wsX7_steal (va_wsS RX7 41 yX7_requireRange wsX7_requireRange) := goodIn_app (goodIn_of _ (by decide +kernel)) ggX7_steal_X7_requireRange
set_option maxRecDepth 20000 in
theorem ggX7_steal_X1_save : GoodIn wsX7_steal wsX1_save := goodIn_r _ [23, 24, 25, 26, 27, 28, 29, 22, 30, 31, 32, 33, 34, 35, 36, 37, 38, 39, 40, 41, 42, 43, 44, 45, 46, 47, 48, 49, 50, 51, 52, 53, 54, 55, 56, 57, 58, 59, 60, 61, 62, 63, 64, 65, 66, 67, 68, 69, 70, 71, 72, 73, 74, 75, 76, 77, 95, 96, 97, 86, 87, 98, 99, 100, 101, 88, 89, 90, 91, 92, 93, 94, 102, 103, 104, 105, 106, 107, 108, 109, 110] (by decide +kernel) (by decide +kernel)
set_option maxRecDepth 20000 in
theorem gX7_steal_X1_save : GoodIn wsX7_steal (wsV RX7 44 RX1 yX1_save wsX1_save) := goodIn_app (goodIn_of _ (by decide +kernel)) ggX7_steal_X1_save
set_option maxRecDepth 20000 in
theorem ggX7_steal_X6_stealBy : GoodIn wsX7_steal wsX6_stealBy := goodIn_r _ [81, 70, 71, 102, 103, 104, 105, 106, 107, 108, 109, 110] (by decide +kernel) (by decide +kernel)
set_option maxRecDepth 20000 in
theorem gX7_steal_X6_stealBy : GoodIn wsX7_steal (wsV RX7 143 RX6 yX6_stealBy wsX6_stealBy) := goodIn_app (goodIn_of _ (by decide +kernel)) ggX7_steal_X6_stealBy
theorem dX7_steal_0 : decode cX7_steal 0 = .ok (.iload_n 1, 1) := by decide +kernel
theorem dX7_steal_1 : decode cX7_steal 1 = .ok (.iconst 4, 1) := by decide +kernel
theorem dX7_steal_2 : decode cX7_steal 2 = .ok (.invokestatic 81, 3) := by decide +kernel
theorem dX7_steal_5 : decode cX7_steal 5 = .ok (.iload_n 2, 1) := by decide +kernel
theorem dX7_steal_6 : decode cX7_steal 6 = .ok (.iconst 1, 1) := by decide +kernel
theorem dX7_steal_7 : decode cX7_steal 7 = .ok (.bipush 60, 2) := by decide +kernel
theorem dX7_steal_9 : decode cX7_steal 9 = .ok (.invokestatic 41, 3) := by decide +kernel
theorem dX7_steal_12 : decode cX7_steal 12 = .ok (.iload_n 3, 1) := by decide +kernel
theorem dX7_steal_13 : decode cX7_steal 13 = .ok (.iconst 1, 1) := by decide +kernel
theorem dX7_steal_14 : decode cX7_steal 14 = .ok (.bipush 99, 2) := by decide +kernel
theorem dX7_steal_16 : decode cX7_steal 16 = .ok (.invokestatic 41, 3) := by decide +kernel
theorem dX7_steal_19 : decode cX7_steal 19 = .ok (.aload_n 0, 1) := by decide +kernel
theorem dX7_steal_20 : decode cX7_steal 20 = .ok (.getfield 19, 3) := by decide +kernel
theorem dX7_steal_23 : decode cX7_steal 23 = .ok (.aload_n 0, 1) := by decide +kernel
theorem dX7_steal_24 : decode cX7_steal 24 = .ok (.getfield 12, 3) := by decide +kernel
theorem dX7_steal_27 : decode cX7_steal 27 = .ok (.invokevirtual 44, 3) := by decide +kernel
theorem dX7_steal_30 : decode cX7_steal 30 = .ok (.aload_n 0, 1) := by decide +kernel
theorem dX7_steal_31 : decode cX7_steal 31 = .ok (.getfield 12, 3) := by decide +kernel
theorem dX7_steal_34 : decode cX7_steal 34 = .ok (.getfield 104, 3) := by decide +kernel
theorem dX7_steal_37 : decode cX7_steal 37 = .ok (.getfield 139, 3) := by decide +kernel
theorem dX7_steal_40 : decode cX7_steal 40 = .ok (.iload_n 1, 1) := by decide +kernel
theorem dX7_steal_41 : decode cX7_steal 41 = .ok (.aaload, 1) := by decide +kernel
theorem dX7_steal_42 : decode cX7_steal 42 = .ok (.iload_n 2, 1) := by decide +kernel
theorem dX7_steal_43 : decode cX7_steal 43 = .ok (.iload_n 3, 1) := by decide +kernel
theorem dX7_steal_44 : decode cX7_steal 44 = .ok (.invokevirtual 143, 3) := by decide +kernel
theorem dX7_steal_47 : decode cX7_steal 47 = .ok (.ireturn, 1) := by decide +kernel
set_option maxRecDepth 20000 in
theorem ggX7_giveBack_X7_requireIndex : GoodIn wsX7_giveBack wsX7_requireIndex := goodIn_ca (goodIn_r _ [8, 9, 10, 11, 12, 7, 13] (by decide +kernel) (by decide +kernel)) (goodIn_sub (fun _ h => List.mem_cons_of_mem _ (List.mem_append_right _ h)) (by decide +kernel))
set_option maxRecDepth 20000 in
theorem gX7_giveBack_X7_requireIndex : GoodIn wsX7_giveBack (va_wsS RX7 81 yX7_requireIndex wsX7_requireIndex) := goodIn_app (goodIn_of _ (by decide +kernel)) ggX7_giveBack_X7_requireIndex
set_option maxRecDepth 20000 in
theorem ggX7_giveBack_X1_save : GoodIn wsX7_giveBack wsX1_save := goodIn_r _ [18, 19, 20, 21, 22, 23, 24, 17, 25, 26, 27, 28, 29, 30, 31, 32, 33, 34, 35, 36, 37, 38, 39, 40, 41, 42, 43, 44, 45, 46, 47, 48, 49, 50, 51, 52, 53, 54, 55, 56, 57, 58, 59, 60, 61, 62, 63, 64, 65, 66, 67, 68, 69, 70, 71, 72, 90, 91, 92, 81, 82, 93, 94, 95, 96, 83, 84, 85, 86, 87, 88, 89, 97, 98, 99, 100, 101, 102, 103, 104, 105] (by decide +kernel) (by decide +kernel)
set_option maxRecDepth 20000 in
theorem gX7_giveBack_X1_save : GoodIn wsX7_giveBack (wsV RX7 44 RX1 yX1_save wsX1_save) := goodIn_app (goodIn_of _ (by decide +kernel)) ggX7_giveBack_X1_save
set_option maxRecDepth 20000 in
theorem ggX7_giveBack_X6_stealBy : GoodIn wsX7_giveBack wsX6_stealBy := goodIn_r _ [76, 65, 66, 97, 98, 99, 100, 101, 102, 103, 104, 105] (by decide +kernel) (by decide +kernel)
set_option maxRecDepth 20000 in
theorem gX7_giveBack_X6_stealBy : GoodIn wsX7_giveBack (wsV RX7 143 RX6 yX6_stealBy wsX6_stealBy) := goodIn_app (goodIn_of _ (by decide +kernel)) ggX7_giveBack_X6_stealBy
theorem dX7_giveBack_0 : decode cX7_giveBack 0 = .ok (.iload_n 1, 1) := by decide +kernel
theorem dX7_giveBack_1 : decode cX7_giveBack 1 = .ok (.iconst 4, 1) := by decide +kernel
theorem dX7_giveBack_2 : decode cX7_giveBack 2 = .ok (.invokestatic 81, 3) := by decide +kernel
theorem dX7_giveBack_5 : decode cX7_giveBack 5 = .ok (.aload_n 0, 1) := by decide +kernel
theorem dX7_giveBack_6 : decode cX7_giveBack 6 = .ok (.getfield 19, 3) := by decide +kernel
theorem dX7_giveBack_9 : decode cX7_giveBack 9 = .ok (.aload_n 0, 1) := by decide +kernel
theorem dX7_giveBack_10 : decode cX7_giveBack 10 = .ok (.getfield 12, 3) := by decide +kernel
theorem dX7_giveBack_13 : decode cX7_giveBack 13 = .ok (.invokevirtual 44, 3) := by decide +kernel
theorem dX7_giveBack_16 : decode cX7_giveBack 16 = .ok (.aload_n 0, 1) := by decide +kernel
theorem dX7_giveBack_17 : decode cX7_giveBack 17 = .ok (.getfield 12, 3) := by decide +kernel
theorem dX7_giveBack_20 : decode cX7_giveBack 20 = .ok (.getfield 104, 3) := by decide +kernel
theorem dX7_giveBack_23 : decode cX7_giveBack 23 = .ok (.getfield 139, 3) := by decide +kernel
theorem dX7_giveBack_26 : decode cX7_giveBack 26 = .ok (.iload_n 1, 1) := by decide +kernel
theorem dX7_giveBack_27 : decode cX7_giveBack 27 = .ok (.aaload, 1) := by decide +kernel
theorem dX7_giveBack_28 : decode cX7_giveBack 28 = .ok (.iconst 0, 1) := by decide +kernel
theorem dX7_giveBack_29 : decode cX7_giveBack 29 = .ok (.iconst 0, 1) := by decide +kernel
theorem dX7_giveBack_30 : decode cX7_giveBack 30 = .ok (.invokevirtual 143, 3) := by decide +kernel
theorem dX7_giveBack_33 : decode cX7_giveBack 33 = .ok (.ireturn, 1) := by decide +kernel
set_option maxRecDepth 20000 in
theorem ggX7_channel_X7_requireIndex : GoodIn wsX7_channel wsX7_requireIndex := goodIn_ca (goodIn_r _ [7, 8, 9, 10, 11, 6, 12] (by decide +kernel) (by decide +kernel)) (goodIn_sub (fun _ h => List.mem_cons_of_mem _ (List.mem_append_left _ (List.mem_append_right _ h))) (by decide +kernel))
set_option maxRecDepth 20000 in
theorem gX7_channel_X7_requireIndex : GoodIn wsX7_channel (va_wsS RX7 81 yX7_requireIndex wsX7_requireIndex) := goodIn_app (goodIn_of _ (by decide +kernel)) ggX7_channel_X7_requireIndex
set_option maxRecDepth 20000 in
theorem ggX7_channel_X7_requireRange : GoodIn wsX7_channel wsX7_requireRange := goodIn_ca (goodIn_r _ [15, 16, 17] (by decide +kernel) (by decide +kernel)) (goodIn_sub (fun _ h => List.mem_cons_of_mem _ (List.mem_append_right _ h)) (by decide +kernel))
set_option maxRecDepth 20000 in
theorem gX7_channel_X7_requireRange : GoodIn wsX7_channel (va_wsS RX7 41 yX7_requireRange wsX7_requireRange) := goodIn_app (goodIn_of _ (by decide +kernel)) ggX7_channel_X7_requireRange
set_option maxRecDepth 20000 in
theorem ggX7_channel_X6_fact : GoodIn wsX7_channel wsX6_fact := goodIn_r _ [22, 23, 24, 25, 26, 27, 28, 29, 30, 31, 21, 32, 33, 11, 6, 12, 34, 35, 36, 37, 38, 52, 53, 54, 55, 56, 57, 58, 59, 60] (by decide +kernel) (by decide +kernel)
set_option maxRecDepth 20000 in
theorem gX7_channel_X6_fact : GoodIn wsX7_channel (wsV RX7 148 RX6 yX6_fact wsX6_fact) := goodIn_app (goodIn_of _ (by decide +kernel)) ggX7_channel_X6_fact
theorem dX7_channel_0 : decode cX7_channel 0 = .ok (.iload_n 1, 1) := by decide +kernel
theorem dX7_channel_1 : decode cX7_channel 1 = .ok (.iconst 4, 1) := by decide +kernel
theorem dX7_channel_2 : decode cX7_channel 2 = .ok (.invokestatic 81, 3) := by decide +kernel
theorem dX7_channel_5 : decode cX7_channel 5 = .ok (.iload_n 2, 1) := by decide +kernel
theorem dX7_channel_6 : decode cX7_channel 6 = .ok (.iconst 0, 1) := by decide +kernel
theorem dX7_channel_7 : decode cX7_channel 7 = .ok (.bipush 7, 2) := by decide +kernel
theorem dX7_channel_9 : decode cX7_channel 9 = .ok (.invokestatic 41, 3) := by decide +kernel
theorem dX7_channel_12 : decode cX7_channel 12 = .ok (.aload_n 0, 1) := by decide +kernel
theorem dX7_channel_13 : decode cX7_channel 13 = .ok (.getfield 12, 3) := by decide +kernel
theorem dX7_channel_16 : decode cX7_channel 16 = .ok (.getfield 104, 3) := by decide +kernel
theorem dX7_channel_19 : decode cX7_channel 19 = .ok (.getfield 139, 3) := by decide +kernel
theorem dX7_channel_22 : decode cX7_channel 22 = .ok (.iload_n 1, 1) := by decide +kernel
theorem dX7_channel_23 : decode cX7_channel 23 = .ok (.aaload, 1) := by decide +kernel
theorem dX7_channel_24 : decode cX7_channel 24 = .ok (.iload_n 2, 1) := by decide +kernel
theorem dX7_channel_25 : decode cX7_channel 25 = .ok (.invokevirtual 148, 3) := by decide +kernel
theorem dX7_channel_28 : decode cX7_channel 28 = .ok (.ireturn, 1) := by decide +kernel
set_option maxRecDepth 20000 in
theorem ggX7_value_X7_requireRange : GoodIn wsX7_value wsX7_requireRange := goodIn_ca (goodIn_r _ [4, 5, 6] (by decide +kernel) (by decide +kernel)) (goodIn_sub (fun _ h => List.mem_cons_of_mem _ (List.mem_append_right _ h)) (by decide +kernel))
set_option maxRecDepth 20000 in
theorem gX7_value_X7_requireRange : GoodIn wsX7_value (va_wsS RX7 41 yX7_requireRange wsX7_requireRange) := goodIn_app (goodIn_of _ (by decide +kernel)) ggX7_value_X7_requireRange
set_option maxRecDepth 20000 in
theorem ggX7_value_X7_playingFact : GoodIn wsX7_value wsX7_playingFact := goodIn_r _ [10, 11, 12, 13, 14, 15, 16, 17, 18, 19, 20, 21, 22, 23, 24, 25, 26, 27, 28, 3, 29, 30, 31, 32, 33, 34, 35, 36, 37, 38, 39, 40, 41, 42, 43, 44, 45, 46] (by decide +kernel) (by decide +kernel)
set_option maxRecDepth 20000 in
theorem gX7_value_X7_playingFact : GoodIn wsX7_value (wsV RX7 151 RX7 yX7_playingFact wsX7_playingFact) := goodIn_app (goodIn_of _ (by decide +kernel)) ggX7_value_X7_playingFact
theorem dX7_value_0 : decode cX7_value 0 = .ok (.iload_n 1, 1) := by decide +kernel
theorem dX7_value_1 : decode cX7_value 1 = .ok (.iconst 0, 1) := by decide +kernel
theorem dX7_value_2 : decode cX7_value 2 = .ok (.bipush 7, 2) := by decide +kernel
theorem dX7_value_4 : decode cX7_value 4 = .ok (.invokestatic 41, 3) := by decide +kernel
theorem dX7_value_7 : decode cX7_value 7 = .ok (.aload_n 0, 1) := by decide +kernel
theorem dX7_value_8 : decode cX7_value 8 = .ok (.iload_n 1, 1) := by decide +kernel
theorem dX7_value_9 : decode cX7_value 9 = .ok (.invokevirtual 151, 3) := by decide +kernel
theorem dX7_value_12 : decode cX7_value 12 = .ok (.ireturn, 1) := by decide +kernel
set_option maxRecDepth 20000 in
theorem ggX7_hashOf_X7_requireRange : GoodIn wsX7_hashOf wsX7_requireRange := goodIn_ca (goodIn_r _ [8, 9, 10] (by decide +kernel) (by decide +kernel)) (goodIn_sub (fun _ h => List.mem_cons_of_mem _ (List.mem_append_right _ h)) (by decide +kernel))
set_option maxRecDepth 20000 in
theorem gX7_hashOf_X7_requireRange : GoodIn wsX7_hashOf (va_wsS RX7 41 yX7_requireRange wsX7_requireRange) := goodIn_app (goodIn_of _ (by decide +kernel)) ggX7_hashOf_X7_requireRange
set_option maxRecDepth 20000 in
theorem ggX7_hashOf_X3_copyFrom : GoodIn wsX7_hashOf wsX3_copyFrom := goodIn_r _ [15, 16, 17, 18, 19, 20, 21, 22, 23, 24, 25, 26, 27, 28, 29, 30, 31, 32, 33, 34, 35, 36, 37, 38, 39, 40, 176, 177, 178, 179, 180, 181, 182, 183, 184, 185, 186, 187, 188, 189, 190, 191] (by decide +kernel) (by decide +kernel)
set_option maxRecDepth 20000 in
theorem gX7_hashOf_X3_copyFrom : GoodIn wsX7_hashOf (wsV RX7 154 RX3 yX3_copyFrom wsX3_copyFrom) := goodIn_app (goodIn_of _ (by decide +kernel)) ggX7_hashOf_X3_copyFrom
set_option maxRecDepth 20000 in
theorem ggX7_hashOf_X3_passTicks : GoodIn wsX7_hashOf wsX3_passTicks := goodIn_r _ [44, 22, 45, 46, 47, 48, 14, 49, 18, 20, 19, 50, 51, 52, 53, 54, 55, 56, 57, 58, 16, 17, 59, 60, 61, 26, 62, 33, 34, 63, 7, 64, 65, 66, 67, 68, 39, 69, 70, 71, 72, 73, 74, 75, 76, 77, 78, 79, 80, 81, 82, 83, 84, 85, 86, 87, 88, 89, 90, 91, 92, 93, 94, 95, 96, 97, 98, 99, 100, 40, 101, 102, 103, 104, 105, 106, 107, 29, 28, 108, 109, 110, 111, 112, 113, 114, 115, 116, 117, 118, 119, 120, 121, 122, 123, 124, 125, 126, 127, 128, 129, 130, 131, 132, 133, 134, 135, 136, 137, 30, 31, 32, 138, 139, 140, 141, 142, 143, 144, 145, 146, 147, 148, 149, 150, 151, 152, 153, 154, 155, 156, 157, 158, 159, 160, 161, 162, 163, 164, 165, 166, 167, 168, 169, 21, 176, 177, 178, 179, 180, 181, 182, 183, 184, 185, 186, 187, 188, 189, 190, 191, 192, 193, 194, 195] (by decide +kernel) (by decide +kernel)
set_option maxRecDepth 20000 in
theorem gX7_hashOf_X3_passTicks : GoodIn wsX7_hashOf (wsV RX7 132 RX3 yX3_passTicks wsX3_passTicks) := goodIn_app (goodIn_of _ (by decide +kernel)) ggX7_hashOf_X3_passTicks
theorem dX7_hashOf_0 : decode cX7_hashOf 0 = .ok (.iload_n 1, 1) := by decide +kernel
theorem dX7_hashOf_1 : decode cX7_hashOf 1 = .ok (.iconst 0, 1) := by decide +kernel
theorem dX7_hashOf_2 : decode cX7_hashOf 2 = .ok (.sipush 500, 3) := by decide +kernel
theorem dX7_hashOf_5 : decode cX7_hashOf 5 = .ok (.invokestatic 41, 3) := by decide +kernel
theorem dX7_hashOf_8 : decode cX7_hashOf 8 = .ok (.aload_n 0, 1) := by decide +kernel
theorem dX7_hashOf_9 : decode cX7_hashOf 9 = .ok (.getfield 33, 3) := by decide +kernel
theorem dX7_hashOf_12 : decode cX7_hashOf 12 = .ok (.aload_n 0, 1) := by decide +kernel
theorem dX7_hashOf_13 : decode cX7_hashOf 13 = .ok (.getfield 12, 3) := by decide +kernel
theorem dX7_hashOf_16 : decode cX7_hashOf 16 = .ok (.getfield 104, 3) := by decide +kernel
theorem dX7_hashOf_19 : decode cX7_hashOf 19 = .ok (.invokevirtual 154, 3) := by decide +kernel
theorem dX7_hashOf_22 : decode cX7_hashOf 22 = .ok (.aload_n 0, 1) := by decide +kernel
theorem dX7_hashOf_23 : decode cX7_hashOf 23 = .ok (.getfield 33, 3) := by decide +kernel
theorem dX7_hashOf_26 : decode cX7_hashOf 26 = .ok (.aload_n 0, 1) := by decide +kernel
theorem dX7_hashOf_27 : decode cX7_hashOf 27 = .ok (.getfield 12, 3) := by decide +kernel
theorem dX7_hashOf_30 : decode cX7_hashOf 30 = .ok (.getfield 48, 3) := by decide +kernel
theorem dX7_hashOf_33 : decode cX7_hashOf 33 = .ok (.iload_n 1, 1) := by decide +kernel
theorem dX7_hashOf_34 : decode cX7_hashOf 34 = .ok (.invokevirtual 132, 3) := by decide +kernel
theorem dX7_hashOf_37 : decode cX7_hashOf 37 = .ok (.ireturn, 1) := by decide +kernel
set_option maxRecDepth 20000 in
theorem ggX7_ticksToRound_X3_copyFrom : GoodIn wsX7_ticksToRound wsX3_copyFrom := goodIn_r _ [10, 11, 12, 13, 14, 15, 16, 17, 18, 19, 20, 21, 22, 23, 24, 25, 26, 27, 28, 29, 30, 31, 32, 33, 34, 35, 167, 168, 169, 170, 171, 172, 173, 174, 175, 176, 177, 178, 179, 180, 181, 182] (by decide +kernel) (by decide +kernel)
set_option maxRecDepth 20000 in
theorem gX7_ticksToRound_X3_copyFrom : GoodIn wsX7_ticksToRound (wsV RX7 154 RX3 yX3_copyFrom wsX3_copyFrom) := goodIn_app (goodIn_of _ (by decide +kernel)) ggX7_ticksToRound_X3_copyFrom
set_option maxRecDepth 20000 in
theorem ggX7_ticksToRound_X3_passTick : GoodIn wsX7_ticksToRound wsX3_passTick := goodIn_r _ [39, 13, 17, 15, 14, 40, 41, 42, 9, 43, 44, 45, 46, 47, 48, 11, 12, 49, 50, 51, 21, 52, 28, 29, 53, 54, 55, 56, 57, 58, 59, 34, 60, 61, 62, 63, 64, 65, 66, 67, 68, 69, 70, 71, 72, 73, 74, 75, 76, 77, 78, 79, 80, 81, 82, 83, 84, 85, 86, 87, 88, 89, 90, 91, 35, 92, 93, 94, 95, 96, 97, 98, 24, 23, 99, 100, 101, 102, 103, 104, 105, 106, 107, 108, 109, 110, 111, 112, 113, 114, 115, 116, 117, 118, 119, 120, 121, 122, 123, 124, 125, 126, 127, 128, 25, 26, 27, 129, 130, 131, 132, 133, 134, 135, 136, 137, 138, 139, 140, 141, 142, 143, 144, 145, 146, 147, 148, 149, 150, 151, 152, 153, 154, 155, 156, 157, 158, 159, 160, 16, 167, 168, 169, 170, 171, 172, 173, 174, 175, 176, 177, 178, 179, 180, 181, 182, 183, 184, 185, 186] (by decide +kernel) (by decide +kernel)
set_option maxRecDepth 20000 in
theorem gX7_ticksToRound_X3_passTick : GoodIn wsX7_ticksToRound (wsV RX7 158 RX3 yX3_passTick wsX3_passTick) := goodIn_app (goodIn_of _ (by decide +kernel)) ggX7_ticksToRound_X3_passTick
theorem dX7_ticksToRound_0 : decode cX7_ticksToRound 0 = .ok (.aload_n 0, 1) := by decide +kernel
theorem dX7_ticksToRound_1 : decode cX7_ticksToRound 1 = .ok (.getfield 33, 3) := by decide +kernel
theorem dX7_ticksToRound_4 : decode cX7_ticksToRound 4 = .ok (.aload_n 0, 1) := by decide +kernel
theorem dX7_ticksToRound_5 : decode cX7_ticksToRound 5 = .ok (.getfield 12, 3) := by decide +kernel
theorem dX7_ticksToRound_8 : decode cX7_ticksToRound 8 = .ok (.getfield 104, 3) := by decide +kernel
theorem dX7_ticksToRound_11 : decode cX7_ticksToRound 11 = .ok (.invokevirtual 154, 3) := by decide +kernel
theorem dX7_ticksToRound_14 : decode cX7_ticksToRound 14 = .ok (.iconst 1, 1) := by decide +kernel
theorem dX7_ticksToRound_15 : decode cX7_ticksToRound 15 = .ok (.istore_n 1, 1) := by decide +kernel
theorem dX7_ticksToRound_16 : decode cX7_ticksToRound 16 = .ok (.iload_n 1, 1) := by decide +kernel
theorem dX7_ticksToRound_17 : decode cX7_ticksToRound 17 = .ok (.sipush 1000, 3) := by decide +kernel
theorem dX7_ticksToRound_20 : decode cX7_ticksToRound 20 = .ok (.if_icmp .gt 45, 3) := by decide +kernel
theorem dX7_ticksToRound_23 : decode cX7_ticksToRound 23 = .ok (.aload_n 0, 1) := by decide +kernel
theorem dX7_ticksToRound_24 : decode cX7_ticksToRound 24 = .ok (.getfield 33, 3) := by decide +kernel
theorem dX7_ticksToRound_27 : decode cX7_ticksToRound 27 = .ok (.aload_n 0, 1) := by decide +kernel
theorem dX7_ticksToRound_28 : decode cX7_ticksToRound 28 = .ok (.getfield 12, 3) := by decide +kernel
theorem dX7_ticksToRound_31 : decode cX7_ticksToRound 31 = .ok (.getfield 48, 3) := by decide +kernel
theorem dX7_ticksToRound_34 : decode cX7_ticksToRound 34 = .ok (.invokevirtual 158, 3) := by decide +kernel
theorem dX7_ticksToRound_37 : decode cX7_ticksToRound 37 = .ok (.aload_n 0, 1) := by decide +kernel
theorem dX7_ticksToRound_38 : decode cX7_ticksToRound 38 = .ok (.getfield 33, 3) := by decide +kernel
theorem dX7_ticksToRound_41 : decode cX7_ticksToRound 41 = .ok (.getfield 162, 3) := by decide +kernel
theorem dX7_ticksToRound_44 : decode cX7_ticksToRound 44 = .ok (.aload_n 0, 1) := by decide +kernel
theorem dX7_ticksToRound_45 : decode cX7_ticksToRound 45 = .ok (.getfield 12, 3) := by decide +kernel
theorem dX7_ticksToRound_48 : decode cX7_ticksToRound 48 = .ok (.getfield 104, 3) := by decide +kernel
theorem dX7_ticksToRound_51 : decode cX7_ticksToRound 51 = .ok (.getfield 162, 3) := by decide +kernel
theorem dX7_ticksToRound_54 : decode cX7_ticksToRound 54 = .ok (.if_icmp .eq 5, 3) := by decide +kernel
theorem dX7_ticksToRound_57 : decode cX7_ticksToRound 57 = .ok (.iload_n 1, 1) := by decide +kernel
theorem dX7_ticksToRound_58 : decode cX7_ticksToRound 58 = .ok (.ireturn, 1) := by decide +kernel
theorem dX7_ticksToRound_59 : decode cX7_ticksToRound 59 = .ok (.iinc 1 1, 3) := by decide +kernel
theorem dX7_ticksToRound_62 : decode cX7_ticksToRound 62 = .ok (.goto (-46), 3) := by decide +kernel
theorem dX7_ticksToRound_65 : decode cX7_ticksToRound 65 = .ok (.iconst (-1), 1) := by decide +kernel
theorem dX7_ticksToRound_66 : decode cX7_ticksToRound 66 = .ok (.ireturn, 1) := by decide +kernel
set_option maxRecDepth 20000 in
theorem ggX7_silent_X7_requireIndex : GoodIn wsX7_silent wsX7_requireIndex := goodIn_ca (goodIn_r _ [10, 11, 12, 13, 14, 9, 15] (by decide +kernel) (by decide +kernel)) (goodIn_sub (fun _ h => List.mem_cons_of_mem _ (List.mem_append_left _ (List.mem_append_right _ h))) (by decide +kernel))
set_option maxRecDepth 20000 in
theorem gX7_silent_X7_requireIndex : GoodIn wsX7_silent (va_wsS RX7 81 yX7_requireIndex wsX7_requireIndex) := goodIn_app (goodIn_of _ (by decide +kernel)) ggX7_silent_X7_requireIndex
set_option maxRecDepth 20000 in
theorem ggX7_silent_X7_requireRange : GoodIn wsX7_silent wsX7_requireRange := goodIn_ca (goodIn_r _ [18, 19, 20] (by decide +kernel) (by decide +kernel)) (goodIn_sub (fun _ h => List.mem_cons_of_mem _ (List.mem_append_right _ h)) (by decide +kernel))
set_option maxRecDepth 20000 in
theorem gX7_silent_X7_requireRange : GoodIn wsX7_silent (va_wsS RX7 41 yX7_requireRange wsX7_requireRange) := goodIn_app (goodIn_of _ (by decide +kernel)) ggX7_silent_X7_requireRange
set_option maxRecDepth 20000 in
theorem ggX7_silent_X3_copyFrom : GoodIn wsX7_silent wsX3_copyFrom := goodIn_r _ [25, 26, 27, 28, 29, 30, 31, 32, 33, 34, 35, 36, 37, 38, 39, 40, 41, 42, 43, 44, 45, 46, 47, 48, 49, 50, 179, 180, 181, 182, 183, 184, 185, 186, 187, 188, 189, 190, 191, 192, 193, 194] (by decide +kernel) (by decide +kernel)
set_option maxRecDepth 20000 in
theorem gX7_silent_X3_copyFrom : GoodIn wsX7_silent (wsV RX7 154 RX3 yX3_copyFrom wsX3_copyFrom) := goodIn_app (goodIn_of _ (by decide +kernel)) ggX7_silent_X3_copyFrom
set_option maxRecDepth 20000 in
theorem ggX7_silent_X3_passTick : GoodIn wsX7_silent wsX3_passTick := goodIn_r _ [54, 28, 32, 30, 29, 55, 56, 57, 24, 58, 59, 60, 61, 62, 63, 26, 27, 64, 65, 66, 36, 67, 43, 44, 14, 9, 15, 68, 69, 70, 71, 49, 72, 73, 74, 75, 76, 77, 78, 79, 80, 81, 82, 83, 84, 85, 86, 87, 88, 89, 90, 91, 92, 93, 94, 95, 96, 97, 98, 99, 100, 101, 102, 103, 50, 104, 105, 106, 107, 108, 109, 110, 39, 38, 111, 112, 113, 114, 115, 116, 117, 118, 119, 120, 121, 122, 123, 124, 125, 126, 127, 128, 129, 130, 131, 132, 133, 134, 135, 136, 137, 138, 139, 140, 40, 41, 42, 141, 142, 143, 144, 145, 146, 147, 148, 149, 150, 151, 152, 153, 154, 155, 156, 157, 158, 159, 160, 161, 162, 163, 164, 165, 166, 167, 168, 169, 170, 171, 172, 31, 179, 180, 181, 182, 183, 184, 185, 186, 187, 188, 189, 190, 191, 192, 193, 194, 195, 196, 197, 198] (by decide +kernel) (by decide +kernel)
set_option maxRecDepth 20000 in
theorem gX7_silent_X3_passTick : GoodIn wsX7_silent (wsV RX7 158 RX3 yX3_passTick wsX3_passTick) := goodIn_app (goodIn_of _ (by decide +kernel)) ggX7_silent_X3_passTick
theorem dX7_silent_0 : decode cX7_silent 0 = .ok (.iload_n 1, 1) := by decide +kernel
theorem dX7_silent_1 : decode cX7_silent 1 = .ok (.iconst 4, 1) := by decide +kernel
theorem dX7_silent_2 : decode cX7_silent 2 = .ok (.invokestatic 81, 3) := by decide +kernel
theorem dX7_silent_5 : decode cX7_silent 5 = .ok (.iload_n 2, 1) := by decide +kernel
theorem dX7_silent_6 : decode cX7_silent 6 = .ok (.iconst 1, 1) := by decide +kernel
theorem dX7_silent_7 : decode cX7_silent 7 = .ok (.sipush 500, 3) := by decide +kernel
theorem dX7_silent_10 : decode cX7_silent 10 = .ok (.invokestatic 41, 3) := by decide +kernel
theorem dX7_silent_13 : decode cX7_silent 13 = .ok (.aload_n 0, 1) := by decide +kernel
theorem dX7_silent_14 : decode cX7_silent 14 = .ok (.getfield 33, 3) := by decide +kernel
theorem dX7_silent_17 : decode cX7_silent 17 = .ok (.aload_n 0, 1) := by decide +kernel
theorem dX7_silent_18 : decode cX7_silent 18 = .ok (.getfield 12, 3) := by decide +kernel
theorem dX7_silent_21 : decode cX7_silent 21 = .ok (.getfield 104, 3) := by decide +kernel
theorem dX7_silent_24 : decode cX7_silent 24 = .ok (.invokevirtual 154, 3) := by decide +kernel
theorem dX7_silent_27 : decode cX7_silent 27 = .ok (.iconst 0, 1) := by decide +kernel
theorem dX7_silent_28 : decode cX7_silent 28 = .ok (.istore_n 3, 1) := by decide +kernel
theorem dX7_silent_29 : decode cX7_silent 29 = .ok (.iconst 1, 1) := by decide +kernel
theorem dX7_silent_30 : decode cX7_silent 30 = .ok (.istore 4, 2) := by decide +kernel
theorem dX7_silent_32 : decode cX7_silent 32 = .ok (.iload 4, 2) := by decide +kernel
theorem dX7_silent_34 : decode cX7_silent 34 = .ok (.iload_n 2, 1) := by decide +kernel
theorem dX7_silent_35 : decode cX7_silent 35 = .ok (.if_icmp .gt 41, 3) := by decide +kernel
theorem dX7_silent_38 : decode cX7_silent 38 = .ok (.aload_n 0, 1) := by decide +kernel
theorem dX7_silent_39 : decode cX7_silent 39 = .ok (.getfield 33, 3) := by decide +kernel
theorem dX7_silent_42 : decode cX7_silent 42 = .ok (.aload_n 0, 1) := by decide +kernel
theorem dX7_silent_43 : decode cX7_silent 43 = .ok (.getfield 12, 3) := by decide +kernel
theorem dX7_silent_46 : decode cX7_silent 46 = .ok (.getfield 48, 3) := by decide +kernel
theorem dX7_silent_49 : decode cX7_silent 49 = .ok (.invokevirtual 158, 3) := by decide +kernel
theorem dX7_silent_52 : decode cX7_silent 52 = .ok (.aload_n 0, 1) := by decide +kernel
theorem dX7_silent_53 : decode cX7_silent 53 = .ok (.getfield 33, 3) := by decide +kernel
theorem dX7_silent_56 : decode cX7_silent 56 = .ok (.getfield 139, 3) := by decide +kernel
theorem dX7_silent_59 : decode cX7_silent 59 = .ok (.iload_n 1, 1) := by decide +kernel
theorem dX7_silent_60 : decode cX7_silent 60 = .ok (.aaload, 1) := by decide +kernel
theorem dX7_silent_61 : decode cX7_silent 61 = .ok (.getfield 165, 3) := by decide +kernel
theorem dX7_silent_64 : decode cX7_silent 64 = .ok (.ifCond .ne 6, 3) := by decide +kernel
theorem dX7_silent_67 : decode cX7_silent 67 = .ok (.iinc 3 1, 3) := by decide +kernel
theorem dX7_silent_70 : decode cX7_silent 70 = .ok (.iinc 4 1, 3) := by decide +kernel
theorem dX7_silent_73 : decode cX7_silent 73 = .ok (.goto (-41), 3) := by decide +kernel
theorem dX7_silent_76 : decode cX7_silent 76 = .ok (.iload_n 3, 1) := by decide +kernel
theorem dX7_silent_77 : decode cX7_silent 77 = .ok (.ireturn, 1) := by decide +kernel
set_option maxRecDepth 20000 in
theorem ggX7_deepest_X7_requireIndex : GoodIn wsX7_deepest wsX7_requireIndex := goodIn_ca (goodIn_r _ [14, 15, 16, 17, 18, 13, 19] (by decide +kernel) (by decide +kernel)) (goodIn_sub (fun _ h => List.mem_cons_of_mem _ (List.mem_append_left _ (List.mem_append_right _ h))) (by decide +kernel))
set_option maxRecDepth 20000 in
theorem gX7_deepest_X7_requireIndex : GoodIn wsX7_deepest (va_wsS RX7 81 yX7_requireIndex wsX7_requireIndex) := goodIn_app (goodIn_of _ (by decide +kernel)) ggX7_deepest_X7_requireIndex
set_option maxRecDepth 20000 in
theorem ggX7_deepest_X7_requireRange : GoodIn wsX7_deepest wsX7_requireRange := goodIn_ca (goodIn_r _ [22, 23, 24] (by decide +kernel) (by decide +kernel)) (goodIn_sub (fun _ h => List.mem_cons_of_mem _ (List.mem_append_right _ h)) (by decide +kernel))
set_option maxRecDepth 20000 in
theorem gX7_deepest_X7_requireRange : GoodIn wsX7_deepest (va_wsS RX7 41 yX7_requireRange wsX7_requireRange) := goodIn_app (goodIn_of _ (by decide +kernel)) ggX7_deepest_X7_requireRange
set_option maxRecDepth 20000 in
theorem ggX7_deepest_X3_copyFrom : GoodIn wsX7_deepest wsX3_copyFrom := goodIn_r _ [29, 30, 31, 32, 33, 34, 35, 36, 37, 38, 39, 40, 41, 42, 43, 44, 45, 46, 47, 48, 49, 50, 51, 52, 53, 54, 180, 181, 182, 183, 184, 185, 186, 187, 188, 189, 190, 191, 192, 193, 194, 195] (by decide +kernel) (by decide +kernel)
set_option maxRecDepth 20000 in
theorem gX7_deepest_X3_copyFrom : GoodIn wsX7_deepest (wsV RX7 154 RX3 yX3_copyFrom wsX3_copyFrom) := goodIn_app (goodIn_of _ (by decide +kernel)) ggX7_deepest_X3_copyFrom
set_option maxRecDepth 20000 in
theorem ggX7_deepest_X3_passTick : GoodIn wsX7_deepest wsX3_passTick := goodIn_r _ [58, 32, 36, 34, 33, 59, 60, 61, 28, 62, 63, 64, 65, 66, 67, 30, 31, 68, 69, 70, 40, 71, 47, 48, 18, 13, 19, 72, 73, 74, 75, 53, 76, 77, 78, 79, 80, 81, 82, 83, 84, 85, 86, 87, 88, 89, 90, 91, 92, 93, 94, 95, 96, 97, 98, 99, 100, 101, 102, 103, 104, 105, 106, 107, 54, 108, 109, 110, 111, 112, 113, 114, 43, 42, 115, 116, 117, 118, 119, 120, 121, 122, 123, 124, 125, 126, 127, 128, 129, 130, 131, 132, 133, 9, 134, 135, 8, 10, 136, 137, 138, 139, 140, 141, 44, 45, 46, 142, 143, 144, 145, 146, 147, 148, 149, 150, 151, 152, 153, 154, 155, 156, 157, 158, 159, 160, 161, 162, 163, 164, 165, 166, 167, 168, 169, 170, 171, 172, 173, 35, 180, 181, 182, 183, 184, 185, 186, 187, 188, 189, 190, 191, 192, 193, 194, 195, 196, 197, 198, 199] (by decide +kernel) (by decide +kernel)
set_option maxRecDepth 20000 in
theorem gX7_deepest_X3_passTick : GoodIn wsX7_deepest (wsV RX7 158 RX3 yX3_passTick wsX3_passTick) := goodIn_app (goodIn_of _ (by decide +kernel)) ggX7_deepest_X3_passTick
theorem dX7_deepest_0 : decode cX7_deepest 0 = .ok (.iload_n 1, 1) := by decide +kernel
theorem dX7_deepest_1 : decode cX7_deepest 1 = .ok (.iconst 4, 1) := by decide +kernel
theorem dX7_deepest_2 : decode cX7_deepest 2 = .ok (.invokestatic 81, 3) := by decide +kernel
theorem dX7_deepest_5 : decode cX7_deepest 5 = .ok (.iload_n 2, 1) := by decide +kernel
theorem dX7_deepest_6 : decode cX7_deepest 6 = .ok (.iconst 1, 1) := by decide +kernel
theorem dX7_deepest_7 : decode cX7_deepest 7 = .ok (.sipush 500, 3) := by decide +kernel
theorem dX7_deepest_10 : decode cX7_deepest 10 = .ok (.invokestatic 41, 3) := by decide +kernel
theorem dX7_deepest_13 : decode cX7_deepest 13 = .ok (.aload_n 0, 1) := by decide +kernel
theorem dX7_deepest_14 : decode cX7_deepest 14 = .ok (.getfield 33, 3) := by decide +kernel
theorem dX7_deepest_17 : decode cX7_deepest 17 = .ok (.aload_n 0, 1) := by decide +kernel
theorem dX7_deepest_18 : decode cX7_deepest 18 = .ok (.getfield 12, 3) := by decide +kernel
theorem dX7_deepest_21 : decode cX7_deepest 21 = .ok (.getfield 104, 3) := by decide +kernel
theorem dX7_deepest_24 : decode cX7_deepest 24 = .ok (.invokevirtual 154, 3) := by decide +kernel
theorem dX7_deepest_27 : decode cX7_deepest 27 = .ok (.iconst 0, 1) := by decide +kernel
theorem dX7_deepest_28 : decode cX7_deepest 28 = .ok (.istore_n 3, 1) := by decide +kernel
theorem dX7_deepest_29 : decode cX7_deepest 29 = .ok (.iconst 1, 1) := by decide +kernel
theorem dX7_deepest_30 : decode cX7_deepest 30 = .ok (.istore 4, 2) := by decide +kernel
theorem dX7_deepest_32 : decode cX7_deepest 32 = .ok (.iload 4, 2) := by decide +kernel
theorem dX7_deepest_34 : decode cX7_deepest 34 = .ok (.iload_n 2, 1) := by decide +kernel
theorem dX7_deepest_35 : decode cX7_deepest 35 = .ok (.if_icmp .gt 40, 3) := by decide +kernel
theorem dX7_deepest_38 : decode cX7_deepest 38 = .ok (.aload_n 0, 1) := by decide +kernel
theorem dX7_deepest_39 : decode cX7_deepest 39 = .ok (.getfield 33, 3) := by decide +kernel
theorem dX7_deepest_42 : decode cX7_deepest 42 = .ok (.aload_n 0, 1) := by decide +kernel
theorem dX7_deepest_43 : decode cX7_deepest 43 = .ok (.getfield 12, 3) := by decide +kernel
theorem dX7_deepest_46 : decode cX7_deepest 46 = .ok (.getfield 48, 3) := by decide +kernel
theorem dX7_deepest_49 : decode cX7_deepest 49 = .ok (.invokevirtual 158, 3) := by decide +kernel
theorem dX7_deepest_52 : decode cX7_deepest 52 = .ok (.iload_n 3, 1) := by decide +kernel
theorem dX7_deepest_53 : decode cX7_deepest 53 = .ok (.aload_n 0, 1) := by decide +kernel
theorem dX7_deepest_54 : decode cX7_deepest 54 = .ok (.getfield 33, 3) := by decide +kernel
theorem dX7_deepest_57 : decode cX7_deepest 57 = .ok (.getfield 139, 3) := by decide +kernel
theorem dX7_deepest_60 : decode cX7_deepest 60 = .ok (.iload_n 1, 1) := by decide +kernel
theorem dX7_deepest_61 : decode cX7_deepest 61 = .ok (.aaload, 1) := by decide +kernel
theorem dX7_deepest_62 : decode cX7_deepest 62 = .ok (.getfield 168, 3) := by decide +kernel
theorem dX7_deepest_65 : decode cX7_deepest 65 = .ok (.invokestatic 171, 3) := by decide +kernel
theorem dX7_deepest_68 : decode cX7_deepest 68 = .ok (.istore_n 3, 1) := by decide +kernel
theorem dX7_deepest_69 : decode cX7_deepest 69 = .ok (.iinc 4 1, 3) := by decide +kernel
theorem dX7_deepest_72 : decode cX7_deepest 72 = .ok (.goto (-40), 3) := by decide +kernel
theorem dX7_deepest_75 : decode cX7_deepest 75 = .ok (.iload_n 3, 1) := by decide +kernel
theorem dX7_deepest_76 : decode cX7_deepest 76 = .ok (.ireturn, 1) := by decide +kernel
set_option maxRecDepth 20000 in
theorem ggX7_unheard_X7_requireIndex : GoodIn wsX7_unheard wsX7_requireIndex := goodIn_ca (goodIn_r _ [10, 11, 12, 13, 14, 9, 15] (by decide +kernel) (by decide +kernel)) (goodIn_sub (fun _ h => List.mem_cons_of_mem _ (List.mem_append_left _ (List.mem_append_right _ h))) (by decide +kernel))
set_option maxRecDepth 20000 in
theorem gX7_unheard_X7_requireIndex : GoodIn wsX7_unheard (va_wsS RX7 81 yX7_requireIndex wsX7_requireIndex) := goodIn_app (goodIn_of _ (by decide +kernel)) ggX7_unheard_X7_requireIndex
set_option maxRecDepth 20000 in
theorem ggX7_unheard_X7_requireRange : GoodIn wsX7_unheard wsX7_requireRange := goodIn_ca (goodIn_r _ [18, 19, 20] (by decide +kernel) (by decide +kernel)) (goodIn_sub (fun _ h => List.mem_cons_of_mem _ (List.mem_append_right _ h)) (by decide +kernel))
set_option maxRecDepth 20000 in
theorem gX7_unheard_X7_requireRange : GoodIn wsX7_unheard (va_wsS RX7 41 yX7_requireRange wsX7_requireRange) := goodIn_app (goodIn_of _ (by decide +kernel)) ggX7_unheard_X7_requireRange
set_option maxRecDepth 20000 in
theorem ggX7_unheard_X3_copyFrom : GoodIn wsX7_unheard wsX3_copyFrom := goodIn_r _ [25, 26, 27, 28, 29, 30, 31, 32, 33, 34, 35, 36, 37, 38, 39, 40, 41, 42, 43, 44, 45, 46, 47, 48, 49, 50, 184, 185, 186, 187, 188, 189, 190, 191, 192, 193, 194, 195, 196, 197, 198, 199] (by decide +kernel) (by decide +kernel)
set_option maxRecDepth 20000 in
theorem gX7_unheard_X3_copyFrom : GoodIn wsX7_unheard (wsV RX7 154 RX3 yX3_copyFrom wsX3_copyFrom) := goodIn_app (goodIn_of _ (by decide +kernel)) ggX7_unheard_X3_copyFrom
set_option maxRecDepth 20000 in
theorem ggX7_unheard_X6_stealBy : GoodIn wsX7_unheard wsX6_stealBy := goodIn_r _ [54, 40, 41, 191, 192, 193, 194, 195, 196, 197, 198, 199] (by decide +kernel) (by decide +kernel)
set_option maxRecDepth 20000 in
theorem gX7_unheard_X6_stealBy : GoodIn wsX7_unheard (wsV RX7 143 RX6 yX6_stealBy wsX6_stealBy) := goodIn_app (goodIn_of _ (by decide +kernel)) ggX7_unheard_X6_stealBy
set_option maxRecDepth 20000 in
theorem ggX7_unheard_X3_passTick : GoodIn wsX7_unheard wsX3_passTick := goodIn_r _ [58, 28, 32, 30, 29, 59, 60, 61, 24, 62, 63, 64, 65, 66, 67, 26, 27, 68, 69, 70, 36, 71, 43, 44, 14, 9, 15, 72, 73, 74, 75, 49, 76, 77, 78, 79, 80, 81, 82, 83, 84, 85, 86, 87, 88, 89, 90, 91, 92, 93, 94, 95, 96, 97, 98, 99, 100, 101, 102, 103, 104, 105, 106, 107, 50, 108, 109, 110, 111, 112, 113, 114, 39, 38, 115, 116, 117, 118, 119, 120, 121, 122, 123, 124, 125, 126, 127, 128, 129, 130, 131, 132, 133, 134, 135, 136, 137, 138, 139, 140, 141, 142, 143, 144, 40, 41, 42, 145, 146, 147, 148, 149, 150, 151, 152, 153, 154, 155, 156, 157, 158, 159, 160, 161, 162, 163, 164, 165, 166, 167, 168, 169, 170, 171, 172, 173, 174, 175, 176, 31, 184, 185, 186, 187, 188, 189, 190, 191, 192, 193, 194, 195, 196, 197, 198, 199, 200, 201, 202, 203] (by decide +kernel) (by decide +kernel)
set_option maxRecDepth 20000 in
theorem gX7_unheard_X3_passTick : GoodIn wsX7_unheard (wsV RX7 158 RX3 yX3_passTick wsX3_passTick) := goodIn_app (goodIn_of _ (by decide +kernel)) ggX7_unheard_X3_passTick
set_option maxRecDepth 20000 in
theorem ggX7_unheard_X7_stolenSound : GoodIn wsX7_unheard wsX7_stolenSound := goodIn_r _ [146, 147, 119, 36, 120, 148, 149, 9, 150] (by decide +kernel) (by decide +kernel)
set_option maxRecDepth 20000 in
theorem gX7_unheard_X7_stolenSound : GoodIn wsX7_unheard (va_wsS RX7 174 yX7_stolenSound wsX7_stolenSound) := goodIn_app (goodIn_of _ (by decide +kernel)) ggX7_unheard_X7_stolenSound
theorem dX7_unheard_0 : decode cX7_unheard 0 = .ok (.iload_n 1, 1) := by decide +kernel
theorem dX7_unheard_1 : decode cX7_unheard 1 = .ok (.iconst 4, 1) := by decide +kernel
theorem dX7_unheard_2 : decode cX7_unheard 2 = .ok (.invokestatic 81, 3) := by decide +kernel
theorem dX7_unheard_5 : decode cX7_unheard 5 = .ok (.iload_n 2, 1) := by decide +kernel
theorem dX7_unheard_6 : decode cX7_unheard 6 = .ok (.iconst 1, 1) := by decide +kernel
theorem dX7_unheard_7 : decode cX7_unheard 7 = .ok (.bipush 60, 2) := by decide +kernel
theorem dX7_unheard_9 : decode cX7_unheard 9 = .ok (.invokestatic 41, 3) := by decide +kernel
theorem dX7_unheard_12 : decode cX7_unheard 12 = .ok (.aload_n 0, 1) := by decide +kernel
theorem dX7_unheard_13 : decode cX7_unheard 13 = .ok (.getfield 33, 3) := by decide +kernel
theorem dX7_unheard_16 : decode cX7_unheard 16 = .ok (.aload_n 0, 1) := by decide +kernel
theorem dX7_unheard_17 : decode cX7_unheard 17 = .ok (.getfield 12, 3) := by decide +kernel
theorem dX7_unheard_20 : decode cX7_unheard 20 = .ok (.getfield 104, 3) := by decide +kernel
theorem dX7_unheard_23 : decode cX7_unheard 23 = .ok (.invokevirtual 154, 3) := by decide +kernel
theorem dX7_unheard_26 : decode cX7_unheard 26 = .ok (.aload_n 0, 1) := by decide +kernel
theorem dX7_unheard_27 : decode cX7_unheard 27 = .ok (.getfield 33, 3) := by decide +kernel
theorem dX7_unheard_30 : decode cX7_unheard 30 = .ok (.getfield 139, 3) := by decide +kernel
theorem dX7_unheard_33 : decode cX7_unheard 33 = .ok (.iload_n 1, 1) := by decide +kernel
theorem dX7_unheard_34 : decode cX7_unheard 34 = .ok (.aaload, 1) := by decide +kernel
theorem dX7_unheard_35 : decode cX7_unheard 35 = .ok (.iconst 0, 1) := by decide +kernel
theorem dX7_unheard_36 : decode cX7_unheard 36 = .ok (.iconst 0, 1) := by decide +kernel
theorem dX7_unheard_37 : decode cX7_unheard 37 = .ok (.invokevirtual 143, 3) := by decide +kernel
theorem dX7_unheard_40 : decode cX7_unheard 40 = .ok (.pop, 1) := by decide +kernel
theorem dX7_unheard_41 : decode cX7_unheard 41 = .ok (.iconst 0, 1) := by decide +kernel
theorem dX7_unheard_42 : decode cX7_unheard 42 = .ok (.istore_n 3, 1) := by decide +kernel
theorem dX7_unheard_43 : decode cX7_unheard 43 = .ok (.iload_n 3, 1) := by decide +kernel
theorem dX7_unheard_44 : decode cX7_unheard 44 = .ok (.bipush 99, 2) := by decide +kernel
theorem dX7_unheard_46 : decode cX7_unheard 46 = .ok (.if_icmp .ge 44, 3) := by decide +kernel
theorem dX7_unheard_49 : decode cX7_unheard 49 = .ok (.aload_n 0, 1) := by decide +kernel
theorem dX7_unheard_50 : decode cX7_unheard 50 = .ok (.getfield 33, 3) := by decide +kernel
theorem dX7_unheard_53 : decode cX7_unheard 53 = .ok (.aload_n 0, 1) := by decide +kernel
theorem dX7_unheard_54 : decode cX7_unheard 54 = .ok (.getfield 12, 3) := by decide +kernel
theorem dX7_unheard_57 : decode cX7_unheard 57 = .ok (.getfield 48, 3) := by decide +kernel
theorem dX7_unheard_60 : decode cX7_unheard 60 = .ok (.invokevirtual 158, 3) := by decide +kernel
theorem dX7_unheard_63 : decode cX7_unheard 63 = .ok (.aload_n 0, 1) := by decide +kernel
theorem dX7_unheard_64 : decode cX7_unheard 64 = .ok (.getfield 33, 3) := by decide +kernel
theorem dX7_unheard_67 : decode cX7_unheard 67 = .ok (.getfield 139, 3) := by decide +kernel
theorem dX7_unheard_70 : decode cX7_unheard 70 = .ok (.iload_n 1, 1) := by decide +kernel
theorem dX7_unheard_71 : decode cX7_unheard 71 = .ok (.aaload, 1) := by decide +kernel
theorem dX7_unheard_72 : decode cX7_unheard 72 = .ok (.getfield 165, 3) := by decide +kernel
theorem dX7_unheard_75 : decode cX7_unheard 75 = .ok (.iload_n 2, 1) := by decide +kernel
theorem dX7_unheard_76 : decode cX7_unheard 76 = .ok (.invokestatic 174, 3) := by decide +kernel
theorem dX7_unheard_79 : decode cX7_unheard 79 = .ok (.if_icmp .eq 5, 3) := by decide +kernel
theorem dX7_unheard_82 : decode cX7_unheard 82 = .ok (.iload_n 3, 1) := by decide +kernel
theorem dX7_unheard_83 : decode cX7_unheard 83 = .ok (.ireturn, 1) := by decide +kernel
theorem dX7_unheard_84 : decode cX7_unheard 84 = .ok (.iinc 3 1, 3) := by decide +kernel
theorem dX7_unheard_87 : decode cX7_unheard 87 = .ok (.goto (-44), 3) := by decide +kernel
theorem dX7_unheard_90 : decode cX7_unheard 90 = .ok (.bipush 99, 2) := by decide +kernel
theorem dX7_unheard_92 : decode cX7_unheard 92 = .ok (.ireturn, 1) := by decide +kernel
theorem dX7_meanVolume_0 : decode cX7_meanVolume 0 = .ok (.iconst 0, 1) := by decide +kernel
theorem dX7_meanVolume_1 : decode cX7_meanVolume 1 = .ok (.istore_n 1, 1) := by decide +kernel
theorem dX7_meanVolume_2 : decode cX7_meanVolume 2 = .ok (.aload_n 0, 1) := by decide +kernel
theorem dX7_meanVolume_3 : decode cX7_meanVolume 3 = .ok (.getfield 12, 3) := by decide +kernel
theorem dX7_meanVolume_6 : decode cX7_meanVolume 6 = .ok (.getfield 104, 3) := by decide +kernel
theorem dX7_meanVolume_9 : decode cX7_meanVolume 9 = .ok (.getfield 139, 3) := by decide +kernel
theorem dX7_meanVolume_12 : decode cX7_meanVolume 12 = .ok (.astore_n 2, 1) := by decide +kernel
theorem dX7_meanVolume_13 : decode cX7_meanVolume 13 = .ok (.aload_n 2, 1) := by decide +kernel
theorem dX7_meanVolume_14 : decode cX7_meanVolume 14 = .ok (.arraylength, 1) := by decide +kernel
theorem dX7_meanVolume_15 : decode cX7_meanVolume 15 = .ok (.istore_n 3, 1) := by decide +kernel
theorem dX7_meanVolume_16 : decode cX7_meanVolume 16 = .ok (.iconst 0, 1) := by decide +kernel
theorem dX7_meanVolume_17 : decode cX7_meanVolume 17 = .ok (.istore 4, 2) := by decide +kernel
theorem dX7_meanVolume_19 : decode cX7_meanVolume 19 = .ok (.iload 4, 2) := by decide +kernel
theorem dX7_meanVolume_21 : decode cX7_meanVolume 21 = .ok (.iload_n 3, 1) := by decide +kernel
theorem dX7_meanVolume_22 : decode cX7_meanVolume 22 = .ok (.if_icmp .ge 23, 3) := by decide +kernel
theorem dX7_meanVolume_25 : decode cX7_meanVolume 25 = .ok (.aload_n 2, 1) := by decide +kernel
theorem dX7_meanVolume_26 : decode cX7_meanVolume 26 = .ok (.iload 4, 2) := by decide +kernel
theorem dX7_meanVolume_28 : decode cX7_meanVolume 28 = .ok (.aaload, 1) := by decide +kernel
theorem dX7_meanVolume_29 : decode cX7_meanVolume 29 = .ok (.astore 5, 2) := by decide +kernel
theorem dX7_meanVolume_31 : decode cX7_meanVolume 31 = .ok (.iload_n 1, 1) := by decide +kernel
theorem dX7_meanVolume_32 : decode cX7_meanVolume 32 = .ok (.aload 5, 2) := by decide +kernel
theorem dX7_meanVolume_34 : decode cX7_meanVolume 34 = .ok (.getfield 177, 3) := by decide +kernel
theorem dX7_meanVolume_37 : decode cX7_meanVolume 37 = .ok (.iadd, 1) := by decide +kernel
theorem dX7_meanVolume_38 : decode cX7_meanVolume 38 = .ok (.istore_n 1, 1) := by decide +kernel
theorem dX7_meanVolume_39 : decode cX7_meanVolume 39 = .ok (.iinc 4 1, 3) := by decide +kernel
theorem dX7_meanVolume_42 : decode cX7_meanVolume 42 = .ok (.goto (-23), 3) := by decide +kernel
theorem dX7_meanVolume_45 : decode cX7_meanVolume 45 = .ok (.iload_n 1, 1) := by decide +kernel
theorem dX7_meanVolume_46 : decode cX7_meanVolume 46 = .ok (.i2d, 1) := by decide +kernel
theorem dX7_meanVolume_47 : decode cX7_meanVolume 47 = .ok (.ldc2_w 180, 3) := by decide +kernel
theorem dX7_meanVolume_50 : decode cX7_meanVolume 50 = .ok (.ddiv, 1) := by decide +kernel
theorem dX7_meanVolume_51 : decode cX7_meanVolume 51 = .ok (.dreturn, 1) := by decide +kernel
set_option maxRecDepth 20000 in
theorem ggX7_undo_X1_restore : GoodIn wsX7_undo wsX1_restore := goodIn_r _ [10, 11, 12, 13, 14, 15, 9, 16, 17, 18, 19, 20, 21, 22, 23, 24, 25, 26, 27, 28, 29, 30, 31, 32, 33, 34, 35, 36, 37, 38, 39, 40, 41, 42, 43, 44, 45, 46, 47, 48, 49, 50, 51, 52, 53, 54, 55, 56, 57, 58, 59, 60, 61, 62, 63, 64, 69, 70, 71, 72, 73, 74, 75, 76, 77, 78, 79, 80, 81, 82, 83, 84, 85, 86, 87, 88, 89, 90, 91, 92, 93] (by decide +kernel) (by decide +kernel)
set_option maxRecDepth 20000 in
theorem gX7_undo_X1_restore : GoodIn wsX7_undo (wsV RX7 220 RX1 yX1_restore wsX1_restore) := goodIn_app (goodIn_of _ (by decide +kernel)) ggX7_undo_X1_restore
theorem dX7_undo_0 : decode cX7_undo 0 = .ok (.aload_n 0, 1) := by decide +kernel
theorem dX7_undo_1 : decode cX7_undo 1 = .ok (.getfield 19, 3) := by decide +kernel
theorem dX7_undo_4 : decode cX7_undo 4 = .ok (.getfield 215, 3) := by decide +kernel
theorem dX7_undo_7 : decode cX7_undo 7 = .ok (.ifCond .ne 13, 3) := by decide +kernel
theorem dX7_undo_10 : decode cX7_undo 10 = .ok (.new 110, 3) := by decide +kernel
theorem dX7_undo_13 : decode cX7_undo 13 = .ok (.dup, 1) := by decide +kernel
theorem dX7_undo_14 : decode cX7_undo 14 = .ok (.ldc 218, 2) := by decide +kernel
theorem dX7_undo_16 : decode cX7_undo 16 = .ok (.invokespecial 114, 3) := by decide +kernel
theorem dX7_undo_19 : decode cX7_undo 19 = .ok (.athrow, 1) := by decide +kernel
theorem dX7_undo_20 : decode cX7_undo 20 = .ok (.aload_n 0, 1) := by decide +kernel
theorem dX7_undo_21 : decode cX7_undo 21 = .ok (.getfield 19, 3) := by decide +kernel
theorem dX7_undo_24 : decode cX7_undo 24 = .ok (.aload_n 0, 1) := by decide +kernel
theorem dX7_undo_25 : decode cX7_undo 25 = .ok (.getfield 12, 3) := by decide +kernel
theorem dX7_undo_28 : decode cX7_undo 28 = .ok (.invokevirtual 220, 3) := by decide +kernel
theorem dX7_undo_31 : decode cX7_undo 31 = .ok (.aload_n 0, 1) := by decide +kernel
theorem dX7_undo_32 : decode cX7_undo 32 = .ok (.getfield 19, 3) := by decide +kernel
theorem dX7_undo_35 : decode cX7_undo 35 = .ok (.getfield 215, 3) := by decide +kernel
theorem dX7_undo_38 : decode cX7_undo 38 = .ok (.ireturn, 1) := by decide +kernel
set_option maxRecDepth 20000 in
theorem ggX7_playingFact_X4_patternAt : GoodIn wsX7_playingFact wsX4_patternAt := goodIn_r _ [15, 16, 17, 18, 19, 20, 34, 35, 36, 37] (by decide +kernel) (by decide +kernel)
set_option maxRecDepth 20000 in
theorem gX7_playingFact_X4_patternAt : GoodIn wsX7_playingFact (wsV RX7 123 RX4 yX4_patternAt wsX4_patternAt) := goodIn_app (goodIn_of _ (by decide +kernel)) ggX7_playingFact_X4_patternAt
theorem dX7_playingFact_0 : decode cX7_playingFact 0 = .ok (.aload_n 0, 1) := by decide +kernel
theorem dX7_playingFact_1 : decode cX7_playingFact 1 = .ok (.getfield 12, 3) := by decide +kernel
theorem dX7_playingFact_4 : decode cX7_playingFact 4 = .ok (.getfield 104, 3) := by decide +kernel
theorem dX7_playingFact_7 : decode cX7_playingFact 7 = .ok (.astore_n 2, 1) := by decide +kernel
theorem dX7_playingFact_8 : decode cX7_playingFact 8 = .ok (.iload_n 1, 1) := by decide +kernel
theorem dX7_playingFact_9 : decode cX7_playingFact 9 = .ok (.tableswitch 84 0 6 #[43, 48, 53, 58, 63, 68, 73], 43) := by decide +kernel
theorem dX7_playingFact_52 : decode cX7_playingFact 52 = .ok (.aload_n 2, 1) := by decide +kernel
theorem dX7_playingFact_53 : decode cX7_playingFact 53 = .ok (.getfield 107, 3) := by decide +kernel
theorem dX7_playingFact_56 : decode cX7_playingFact 56 = .ok (.ireturn, 1) := by decide +kernel
theorem dX7_playingFact_57 : decode cX7_playingFact 57 = .ok (.aload_n 2, 1) := by decide +kernel
theorem dX7_playingFact_58 : decode cX7_playingFact 58 = .ok (.getfield 231, 3) := by decide +kernel
theorem dX7_playingFact_61 : decode cX7_playingFact 61 = .ok (.ireturn, 1) := by decide +kernel
theorem dX7_playingFact_62 : decode cX7_playingFact 62 = .ok (.aload_n 2, 1) := by decide +kernel
theorem dX7_playingFact_63 : decode cX7_playingFact 63 = .ok (.getfield 234, 3) := by decide +kernel
theorem dX7_playingFact_66 : decode cX7_playingFact 66 = .ok (.ireturn, 1) := by decide +kernel
theorem dX7_playingFact_67 : decode cX7_playingFact 67 = .ok (.aload_n 2, 1) := by decide +kernel
theorem dX7_playingFact_68 : decode cX7_playingFact 68 = .ok (.getfield 237, 3) := by decide +kernel
theorem dX7_playingFact_71 : decode cX7_playingFact 71 = .ok (.ireturn, 1) := by decide +kernel
theorem dX7_playingFact_72 : decode cX7_playingFact 72 = .ok (.aload_n 2, 1) := by decide +kernel
theorem dX7_playingFact_73 : decode cX7_playingFact 73 = .ok (.getfield 126, 3) := by decide +kernel
theorem dX7_playingFact_76 : decode cX7_playingFact 76 = .ok (.ireturn, 1) := by decide +kernel
theorem dX7_playingFact_77 : decode cX7_playingFact 77 = .ok (.aload_n 2, 1) := by decide +kernel
theorem dX7_playingFact_78 : decode cX7_playingFact 78 = .ok (.getfield 162, 3) := by decide +kernel
theorem dX7_playingFact_81 : decode cX7_playingFact 81 = .ok (.ireturn, 1) := by decide +kernel
theorem dX7_playingFact_82 : decode cX7_playingFact 82 = .ok (.aload_n 0, 1) := by decide +kernel
theorem dX7_playingFact_83 : decode cX7_playingFact 83 = .ok (.getfield 12, 3) := by decide +kernel
theorem dX7_playingFact_86 : decode cX7_playingFact 86 = .ok (.getfield 48, 3) := by decide +kernel
theorem dX7_playingFact_89 : decode cX7_playingFact 89 = .ok (.getfield 91, 3) := by decide +kernel
theorem dX7_playingFact_92 : decode cX7_playingFact 92 = .ok (.ireturn, 1) := by decide +kernel
theorem dX7_playingFact_93 : decode cX7_playingFact 93 = .ok (.aload_n 0, 1) := by decide +kernel
theorem dX7_playingFact_94 : decode cX7_playingFact 94 = .ok (.getfield 12, 3) := by decide +kernel
theorem dX7_playingFact_97 : decode cX7_playingFact 97 = .ok (.getfield 48, 3) := by decide +kernel
theorem dX7_playingFact_100 : decode cX7_playingFact 100 = .ok (.aload_n 2, 1) := by decide +kernel
theorem dX7_playingFact_101 : decode cX7_playingFact 101 = .ok (.getfield 107, 3) := by decide +kernel
theorem dX7_playingFact_104 : decode cX7_playingFact 104 = .ok (.invokevirtual 123, 3) := by decide +kernel
theorem dX7_playingFact_107 : decode cX7_playingFact 107 = .ok (.ireturn, 1) := by decide +kernel
set_option maxRecDepth 20000 in
theorem ggX7_stolenSound_X6_pitchOf : GoodIn wsX7_stolenSound wsX6_pitchOf := goodIn_r _ [4] (by decide +kernel) (by decide +kernel)
set_option maxRecDepth 20000 in
theorem gX7_stolenSound_X6_pitchOf : GoodIn wsX7_stolenSound (va_wsS RX7 240 yX6_pitchOf wsX6_pitchOf) := goodIn_app (goodIn_of _ (by decide +kernel)) ggX7_stolenSound_X6_pitchOf
set_option maxRecDepth 20000 in
theorem ggX7_stolenSound_X7_sound : GoodIn wsX7_stolenSound wsX7_sound := goodIn_r _ [8] (by decide +kernel) (by decide +kernel)
set_option maxRecDepth 20000 in
theorem gX7_stolenSound_X7_sound : GoodIn wsX7_stolenSound (va_wsS RX7 243 yX7_sound wsX7_sound) := goodIn_app (goodIn_of _ (by decide +kernel)) ggX7_stolenSound_X7_sound
theorem dX7_stolenSound_0 : decode cX7_stolenSound 0 = .ok (.iload_n 0, 1) := by decide +kernel
theorem dX7_stolenSound_1 : decode cX7_stolenSound 1 = .ok (.invokestatic 240, 3) := by decide +kernel
theorem dX7_stolenSound_4 : decode cX7_stolenSound 4 = .ok (.bipush 15, 2) := by decide +kernel
theorem dX7_stolenSound_6 : decode cX7_stolenSound 6 = .ok (.invokestatic 243, 3) := by decide +kernel
theorem dX7_stolenSound_9 : decode cX7_stolenSound 9 = .ok (.ireturn, 1) := by decide +kernel
theorem dX7_sound_0 : decode cX7_sound 0 = .ok (.bipush 16, 2) := by decide +kernel
theorem dX7_sound_2 : decode cX7_sound 2 = .ok (.iload_n 0, 1) := by decide +kernel
theorem dX7_sound_3 : decode cX7_sound 3 = .ok (.imul, 1) := by decide +kernel
theorem dX7_sound_4 : decode cX7_sound 4 = .ok (.iload_n 1, 1) := by decide +kernel
theorem dX7_sound_5 : decode cX7_sound 5 = .ok (.iadd, 1) := by decide +kernel
theorem dX7_sound_6 : decode cX7_sound 6 = .ok (.ireturn, 1) := by decide +kernel
theorem dX7_isIndex_0 : decode cX7_isIndex 0 = .ok (.iload_n 0, 1) := by decide +kernel
theorem dX7_isIndex_1 : decode cX7_isIndex 1 = .ok (.ifCond .lt 12, 3) := by decide +kernel
theorem dX7_isIndex_4 : decode cX7_isIndex 4 = .ok (.iload_n 0, 1) := by decide +kernel
theorem dX7_isIndex_5 : decode cX7_isIndex 5 = .ok (.iload_n 1, 1) := by decide +kernel
theorem dX7_isIndex_6 : decode cX7_isIndex 6 = .ok (.if_icmp .ge 7, 3) := by decide +kernel
theorem dX7_isIndex_9 : decode cX7_isIndex 9 = .ok (.iconst 1, 1) := by decide +kernel
theorem dX7_isIndex_10 : decode cX7_isIndex 10 = .ok (.goto 4, 3) := by decide +kernel
theorem dX7_isIndex_13 : decode cX7_isIndex 13 = .ok (.iconst 0, 1) := by decide +kernel
theorem dX7_isIndex_14 : decode cX7_isIndex 14 = .ok (.ireturn, 1) := by decide +kernel
theorem dX7_isCell_0 : decode cX7_isCell 0 = .ok (.iload_n 0, 1) := by decide +kernel
theorem dX7_isCell_1 : decode cX7_isCell 1 = .ok (.ifCond .lt 32, 3) := by decide +kernel
theorem dX7_isCell_4 : decode cX7_isCell 4 = .ok (.iload_n 0, 1) := by decide +kernel
theorem dX7_isCell_5 : decode cX7_isCell 5 = .ok (.bipush 6, 2) := by decide +kernel
theorem dX7_isCell_7 : decode cX7_isCell 7 = .ok (.if_icmp .ge 26, 3) := by decide +kernel
theorem dX7_isCell_10 : decode cX7_isCell 10 = .ok (.iload_n 1, 1) := by decide +kernel
theorem dX7_isCell_11 : decode cX7_isCell 11 = .ok (.ifCond .lt 22, 3) := by decide +kernel
theorem dX7_isCell_14 : decode cX7_isCell 14 = .ok (.iload_n 1, 1) := by decide +kernel
theorem dX7_isCell_15 : decode cX7_isCell 15 = .ok (.bipush 8, 2) := by decide +kernel
theorem dX7_isCell_17 : decode cX7_isCell 17 = .ok (.if_icmp .ge 16, 3) := by decide +kernel
theorem dX7_isCell_20 : decode cX7_isCell 20 = .ok (.iload_n 2, 1) := by decide +kernel
theorem dX7_isCell_21 : decode cX7_isCell 21 = .ok (.ifCond .lt 12, 3) := by decide +kernel
theorem dX7_isCell_24 : decode cX7_isCell 24 = .ok (.iload_n 2, 1) := by decide +kernel
theorem dX7_isCell_25 : decode cX7_isCell 25 = .ok (.iconst 4, 1) := by decide +kernel
theorem dX7_isCell_26 : decode cX7_isCell 26 = .ok (.if_icmp .ge 7, 3) := by decide +kernel
theorem dX7_isCell_29 : decode cX7_isCell 29 = .ok (.iconst 1, 1) := by decide +kernel
theorem dX7_isCell_30 : decode cX7_isCell 30 = .ok (.goto 4, 3) := by decide +kernel
theorem dX7_isCell_33 : decode cX7_isCell 33 = .ok (.iconst 0, 1) := by decide +kernel
theorem dX7_isCell_34 : decode cX7_isCell 34 = .ok (.ireturn, 1) := by decide +kernel
set_option maxRecDepth 20000 in
theorem ggX7_requireCell_X7_isCell : GoodIn wsX7_requireCell wsX7_isCell := goodIn_r _ [6] (by decide +kernel) (by decide +kernel)
set_option maxRecDepth 20000 in
theorem gX7_requireCell_X7_isCell : GoodIn wsX7_requireCell (va_wsS RX7 246 yX7_isCell wsX7_isCell) := goodIn_app (goodIn_of _ (by decide +kernel)) ggX7_requireCell_X7_isCell
theorem dX7_requireCell_0 : decode cX7_requireCell 0 = .ok (.iload_n 0, 1) := by decide +kernel
theorem dX7_requireCell_1 : decode cX7_requireCell 1 = .ok (.iload_n 1, 1) := by decide +kernel
theorem dX7_requireCell_2 : decode cX7_requireCell 2 = .ok (.iload_n 2, 1) := by decide +kernel
theorem dX7_requireCell_3 : decode cX7_requireCell 3 = .ok (.invokestatic 246, 3) := by decide +kernel
theorem dX7_requireCell_6 : decode cX7_requireCell 6 = .ok (.ifCond .ne 13, 3) := by decide +kernel
theorem dX7_requireCell_9 : decode cX7_requireCell 9 = .ok (.new 250, 3) := by decide +kernel
theorem dX7_requireCell_12 : decode cX7_requireCell 12 = .ok (.dup, 1) := by decide +kernel
theorem dX7_requireCell_13 : decode cX7_requireCell 13 = .ok (.ldc 252, 2) := by decide +kernel
theorem dX7_requireCell_15 : decode cX7_requireCell 15 = .ok (.invokespecial 254, 3) := by decide +kernel
theorem dX7_requireCell_18 : decode cX7_requireCell 18 = .ok (.athrow, 1) := by decide +kernel
theorem dX7_requireCell_19 : decode cX7_requireCell 19 = .ok (.return_, 1) := by decide +kernel
set_option maxRecDepth 20000 in
theorem ggX7_requireIndex_X7_isIndex : GoodIn wsX7_requireIndex wsX7_isIndex := goodIn_r _ [6] (by decide +kernel) (by decide +kernel)
set_option maxRecDepth 20000 in
theorem gX7_requireIndex_X7_isIndex : GoodIn wsX7_requireIndex (va_wsS RX7 255 yX7_isIndex wsX7_isIndex) := goodIn_app (goodIn_of _ (by decide +kernel)) ggX7_requireIndex_X7_isIndex
theorem dX7_requireIndex_0 : decode cX7_requireIndex 0 = .ok (.iload_n 0, 1) := by decide +kernel
theorem dX7_requireIndex_1 : decode cX7_requireIndex 1 = .ok (.iload_n 1, 1) := by decide +kernel
theorem dX7_requireIndex_2 : decode cX7_requireIndex 2 = .ok (.invokestatic 255, 3) := by decide +kernel
theorem dX7_requireIndex_5 : decode cX7_requireIndex 5 = .ok (.ifCond .ne 14, 3) := by decide +kernel
theorem dX7_requireIndex_8 : decode cX7_requireIndex 8 = .ok (.new 250, 3) := by decide +kernel
theorem dX7_requireIndex_11 : decode cX7_requireIndex 11 = .ok (.dup, 1) := by decide +kernel
theorem dX7_requireIndex_12 : decode cX7_requireIndex 12 = .ok (.ldc_w 259, 3) := by decide +kernel
theorem dX7_requireIndex_15 : decode cX7_requireIndex 15 = .ok (.invokespecial 254, 3) := by decide +kernel
theorem dX7_requireIndex_18 : decode cX7_requireIndex 18 = .ok (.athrow, 1) := by decide +kernel
theorem dX7_requireIndex_19 : decode cX7_requireIndex 19 = .ok (.return_, 1) := by decide +kernel
theorem dX7_requireRange_0 : decode cX7_requireRange 0 = .ok (.iload_n 0, 1) := by decide +kernel
theorem dX7_requireRange_1 : decode cX7_requireRange 1 = .ok (.iload_n 1, 1) := by decide +kernel
theorem dX7_requireRange_2 : decode cX7_requireRange 2 = .ok (.if_icmp .lt 8, 3) := by decide +kernel
theorem dX7_requireRange_5 : decode cX7_requireRange 5 = .ok (.iload_n 0, 1) := by decide +kernel
theorem dX7_requireRange_6 : decode cX7_requireRange 6 = .ok (.iload_n 2, 1) := by decide +kernel
theorem dX7_requireRange_7 : decode cX7_requireRange 7 = .ok (.if_icmp .le 14, 3) := by decide +kernel
theorem dX7_requireRange_10 : decode cX7_requireRange 10 = .ok (.new 261, 3) := by decide +kernel
theorem dX7_requireRange_13 : decode cX7_requireRange 13 = .ok (.dup, 1) := by decide +kernel
theorem dX7_requireRange_14 : decode cX7_requireRange 14 = .ok (.ldc_w 263, 3) := by decide +kernel
theorem dX7_requireRange_17 : decode cX7_requireRange 17 = .ok (.invokespecial 265, 3) := by decide +kernel
theorem dX7_requireRange_20 : decode cX7_requireRange 20 = .ok (.athrow, 1) := by decide +kernel
theorem dX7_requireRange_21 : decode cX7_requireRange 21 = .ok (.return_, 1) := by decide +kernel
