theorem dX0_packed_0 : decode cX0_packed 0 = .ok (.iload_n 0, 1) := by decide +kernel
theorem dX0_packed_1 : decode cX0_packed 1 = .ok (.iload_n 1, 1) := by decide +kernel
theorem dX0_packed_2 : decode cX0_packed 2 = .ok (.bipush 6, 2) := by decide +kernel
theorem dX0_packed_4 : decode cX0_packed 4 = .ok (.ishl, 1) := by decide +kernel
theorem dX0_packed_5 : decode cX0_packed 5 = .ok (.ior, 1) := by decide +kernel
theorem dX0_packed_6 : decode cX0_packed 6 = .ok (.iload_n 2, 1) := by decide +kernel
theorem dX0_packed_7 : decode cX0_packed 7 = .ok (.bipush 10, 2) := by decide +kernel
theorem dX0_packed_9 : decode cX0_packed 9 = .ok (.ishl, 1) := by decide +kernel
theorem dX0_packed_10 : decode cX0_packed 10 = .ok (.ior, 1) := by decide +kernel
theorem dX0_packed_11 : decode cX0_packed 11 = .ok (.iload_n 3, 1) := by decide +kernel
theorem dX0_packed_12 : decode cX0_packed 12 = .ok (.bipush 13, 2) := by decide +kernel
theorem dX0_packed_14 : decode cX0_packed 14 = .ok (.ishl, 1) := by decide +kernel
theorem dX0_packed_15 : decode cX0_packed 15 = .ok (.ior, 1) := by decide +kernel
theorem dX0_packed_16 : decode cX0_packed 16 = .ok (.ireturn, 1) := by decide +kernel
theorem dX0_noteOf_0 : decode cX0_noteOf 0 = .ok (.iload_n 0, 1) := by decide +kernel
theorem dX0_noteOf_1 : decode cX0_noteOf 1 = .ok (.bipush 63, 2) := by decide +kernel
theorem dX0_noteOf_3 : decode cX0_noteOf 3 = .ok (.iand, 1) := by decide +kernel
theorem dX0_noteOf_4 : decode cX0_noteOf 4 = .ok (.ireturn, 1) := by decide +kernel
theorem dX0_volumeOf_0 : decode cX0_volumeOf 0 = .ok (.iload_n 0, 1) := by decide +kernel
theorem dX0_volumeOf_1 : decode cX0_volumeOf 1 = .ok (.bipush 6, 2) := by decide +kernel
theorem dX0_volumeOf_3 : decode cX0_volumeOf 3 = .ok (.ishr, 1) := by decide +kernel
theorem dX0_volumeOf_4 : decode cX0_volumeOf 4 = .ok (.bipush 15, 2) := by decide +kernel
theorem dX0_volumeOf_6 : decode cX0_volumeOf 6 = .ok (.iand, 1) := by decide +kernel
theorem dX0_volumeOf_7 : decode cX0_volumeOf 7 = .ok (.ireturn, 1) := by decide +kernel
theorem dX0_effectOf_0 : decode cX0_effectOf 0 = .ok (.iload_n 0, 1) := by decide +kernel
theorem dX0_effectOf_1 : decode cX0_effectOf 1 = .ok (.bipush 10, 2) := by decide +kernel
theorem dX0_effectOf_3 : decode cX0_effectOf 3 = .ok (.ishr, 1) := by decide +kernel
theorem dX0_effectOf_4 : decode cX0_effectOf 4 = .ok (.bipush 7, 2) := by decide +kernel
theorem dX0_effectOf_6 : decode cX0_effectOf 6 = .ok (.iand, 1) := by decide +kernel
theorem dX0_effectOf_7 : decode cX0_effectOf 7 = .ok (.ireturn, 1) := by decide +kernel
theorem dX0_numberOf_0 : decode cX0_numberOf 0 = .ok (.iload_n 0, 1) := by decide +kernel
theorem dX0_numberOf_1 : decode cX0_numberOf 1 = .ok (.bipush 13, 2) := by decide +kernel
theorem dX0_numberOf_3 : decode cX0_numberOf 3 = .ok (.ishr, 1) := by decide +kernel
theorem dX0_numberOf_4 : decode cX0_numberOf 4 = .ok (.bipush 15, 2) := by decide +kernel
theorem dX0_numberOf_6 : decode cX0_numberOf 6 = .ok (.iand, 1) := by decide +kernel
theorem dX0_numberOf_7 : decode cX0_numberOf 7 = .ok (.ireturn, 1) := by decide +kernel
set_option maxRecDepth 20000 in
theorem ggX0_isTone_X0_noteOf : GoodIn wsX0_isTone wsX0_noteOf := goodIn_r _ [4] (by decide +kernel) (by decide +kernel)
set_option maxRecDepth 20000 in
theorem gX0_isTone_X0_noteOf : GoodIn wsX0_isTone (va_wsS RX0 11 yX0_noteOf wsX0_noteOf) := goodIn_app (goodIn_of _ (by decide +kernel)) ggX0_isTone_X0_noteOf
theorem dX0_isTone_0 : decode cX0_isTone 0 = .ok (.iload_n 0, 1) := by decide +kernel
theorem dX0_isTone_1 : decode cX0_isTone 1 = .ok (.invokestatic 11, 3) := by decide +kernel
theorem dX0_isTone_4 : decode cX0_isTone 4 = .ok (.iconst 1, 1) := by decide +kernel
theorem dX0_isTone_5 : decode cX0_isTone 5 = .ok (.if_icmp .lt 16, 3) := by decide +kernel
theorem dX0_isTone_8 : decode cX0_isTone 8 = .ok (.iload_n 0, 1) := by decide +kernel
theorem dX0_isTone_9 : decode cX0_isTone 9 = .ok (.invokestatic 11, 3) := by decide +kernel
theorem dX0_isTone_12 : decode cX0_isTone 12 = .ok (.bipush 60, 2) := by decide +kernel
theorem dX0_isTone_14 : decode cX0_isTone 14 = .ok (.if_icmp .gt 7, 3) := by decide +kernel
theorem dX0_isTone_17 : decode cX0_isTone 17 = .ok (.iconst 1, 1) := by decide +kernel
theorem dX0_isTone_18 : decode cX0_isTone 18 = .ok (.goto 4, 3) := by decide +kernel
theorem dX0_isTone_21 : decode cX0_isTone 21 = .ok (.iconst 0, 1) := by decide +kernel
theorem dX0_isTone_22 : decode cX0_isTone 22 = .ok (.ireturn, 1) := by decide +kernel
set_option maxRecDepth 20000 in
theorem ggX0_isCall_X0_effectOf : GoodIn wsX0_isCall wsX0_effectOf := goodIn_r _ [4] (by decide +kernel) (by decide +kernel)
set_option maxRecDepth 20000 in
theorem gX0_isCall_X0_effectOf : GoodIn wsX0_isCall (va_wsS RX0 18 yX0_effectOf wsX0_effectOf) := goodIn_app (goodIn_of _ (by decide +kernel)) ggX0_isCall_X0_effectOf
set_option maxRecDepth 20000 in
theorem ggX0_isCall_X0_numberOf : GoodIn wsX0_isCall wsX0_numberOf := goodIn_r _ [7] (by decide +kernel) (by decide +kernel)
set_option maxRecDepth 20000 in
theorem gX0_isCall_X0_numberOf : GoodIn wsX0_isCall (va_wsS RX0 21 yX0_numberOf wsX0_numberOf) := goodIn_app (goodIn_of _ (by decide +kernel)) ggX0_isCall_X0_numberOf
theorem dX0_isCall_0 : decode cX0_isCall 0 = .ok (.iload_n 0, 1) := by decide +kernel
theorem dX0_isCall_1 : decode cX0_isCall 1 = .ok (.invokestatic 18, 3) := by decide +kernel
theorem dX0_isCall_4 : decode cX0_isCall 4 = .ok (.iconst 5, 1) := by decide +kernel
theorem dX0_isCall_5 : decode cX0_isCall 5 = .ok (.if_icmp .ne 16, 3) := by decide +kernel
theorem dX0_isCall_8 : decode cX0_isCall 8 = .ok (.iload_n 0, 1) := by decide +kernel
theorem dX0_isCall_9 : decode cX0_isCall 9 = .ok (.invokestatic 21, 3) := by decide +kernel
theorem dX0_isCall_12 : decode cX0_isCall 12 = .ok (.bipush 6, 2) := by decide +kernel
theorem dX0_isCall_14 : decode cX0_isCall 14 = .ok (.if_icmp .ge 7, 3) := by decide +kernel
theorem dX0_isCall_17 : decode cX0_isCall 17 = .ok (.iconst 1, 1) := by decide +kernel
theorem dX0_isCall_18 : decode cX0_isCall 18 = .ok (.goto 4, 3) := by decide +kernel
theorem dX0_isCall_21 : decode cX0_isCall 21 = .ok (.iconst 0, 1) := by decide +kernel
theorem dX0_isCall_22 : decode cX0_isCall 22 = .ok (.ireturn, 1) := by decide +kernel
set_option maxRecDepth 20000 in
theorem ggX0_isDelay_X0_effectOf : GoodIn wsX0_isDelay wsX0_effectOf := goodIn_r _ [4] (by decide +kernel) (by decide +kernel)
set_option maxRecDepth 20000 in
theorem gX0_isDelay_X0_effectOf : GoodIn wsX0_isDelay (va_wsS RX0 18 yX0_effectOf wsX0_effectOf) := goodIn_app (goodIn_of _ (by decide +kernel)) ggX0_isDelay_X0_effectOf
set_option maxRecDepth 20000 in
theorem ggX0_isDelay_X0_numberOf : GoodIn wsX0_isDelay wsX0_numberOf := goodIn_r _ [7] (by decide +kernel) (by decide +kernel)
set_option maxRecDepth 20000 in
theorem gX0_isDelay_X0_numberOf : GoodIn wsX0_isDelay (va_wsS RX0 21 yX0_numberOf wsX0_numberOf) := goodIn_app (goodIn_of _ (by decide +kernel)) ggX0_isDelay_X0_numberOf
theorem dX0_isDelay_0 : decode cX0_isDelay 0 = .ok (.iload_n 0, 1) := by decide +kernel
theorem dX0_isDelay_1 : decode cX0_isDelay 1 = .ok (.invokestatic 18, 3) := by decide +kernel
theorem dX0_isDelay_4 : decode cX0_isDelay 4 = .ok (.bipush 6, 2) := by decide +kernel
theorem dX0_isDelay_6 : decode cX0_isDelay 6 = .ok (.if_icmp .ne 14, 3) := by decide +kernel
theorem dX0_isDelay_9 : decode cX0_isDelay 9 = .ok (.iload_n 0, 1) := by decide +kernel
theorem dX0_isDelay_10 : decode cX0_isDelay 10 = .ok (.invokestatic 21, 3) := by decide +kernel
theorem dX0_isDelay_13 : decode cX0_isDelay 13 = .ok (.ifCond .le 7, 3) := by decide +kernel
theorem dX0_isDelay_16 : decode cX0_isDelay 16 = .ok (.iconst 1, 1) := by decide +kernel
theorem dX0_isDelay_17 : decode cX0_isDelay 17 = .ok (.goto 4, 3) := by decide +kernel
theorem dX0_isDelay_20 : decode cX0_isDelay 20 = .ok (.iconst 0, 1) := by decide +kernel
theorem dX0_isDelay_21 : decode cX0_isDelay 21 = .ok (.ireturn, 1) := by decide +kernel
set_option maxRecDepth 20000 in
theorem ggX0_isSpeed_X0_effectOf : GoodIn wsX0_isSpeed wsX0_effectOf := goodIn_r _ [4] (by decide +kernel) (by decide +kernel)
set_option maxRecDepth 20000 in
theorem gX0_isSpeed_X0_effectOf : GoodIn wsX0_isSpeed (va_wsS RX0 18 yX0_effectOf wsX0_effectOf) := goodIn_app (goodIn_of _ (by decide +kernel)) ggX0_isSpeed_X0_effectOf
set_option maxRecDepth 20000 in
theorem ggX0_isSpeed_X0_numberOf : GoodIn wsX0_isSpeed wsX0_numberOf := goodIn_r _ [7] (by decide +kernel) (by decide +kernel)
set_option maxRecDepth 20000 in
theorem gX0_isSpeed_X0_numberOf : GoodIn wsX0_isSpeed (va_wsS RX0 21 yX0_numberOf wsX0_numberOf) := goodIn_app (goodIn_of _ (by decide +kernel)) ggX0_isSpeed_X0_numberOf
theorem dX0_isSpeed_0 : decode cX0_isSpeed 0 = .ok (.iload_n 0, 1) := by decide +kernel
theorem dX0_isSpeed_1 : decode cX0_isSpeed 1 = .ok (.invokestatic 18, 3) := by decide +kernel
theorem dX0_isSpeed_4 : decode cX0_isSpeed 4 = .ok (.bipush 7, 2) := by decide +kernel
theorem dX0_isSpeed_6 : decode cX0_isSpeed 6 = .ok (.if_icmp .ne 24, 3) := by decide +kernel
theorem dX0_isSpeed_9 : decode cX0_isSpeed 9 = .ok (.iload_n 0, 1) := by decide +kernel
theorem dX0_isSpeed_10 : decode cX0_isSpeed 10 = .ok (.invokestatic 21, 3) := by decide +kernel
theorem dX0_isSpeed_13 : decode cX0_isSpeed 13 = .ok (.iconst 1, 1) := by decide +kernel
theorem dX0_isSpeed_14 : decode cX0_isSpeed 14 = .ok (.if_icmp .lt 16, 3) := by decide +kernel
theorem dX0_isSpeed_17 : decode cX0_isSpeed 17 = .ok (.iload_n 0, 1) := by decide +kernel
theorem dX0_isSpeed_18 : decode cX0_isSpeed 18 = .ok (.invokestatic 21, 3) := by decide +kernel
theorem dX0_isSpeed_21 : decode cX0_isSpeed 21 = .ok (.bipush 8, 2) := by decide +kernel
theorem dX0_isSpeed_23 : decode cX0_isSpeed 23 = .ok (.if_icmp .gt 7, 3) := by decide +kernel
theorem dX0_isSpeed_26 : decode cX0_isSpeed 26 = .ok (.iconst 1, 1) := by decide +kernel
theorem dX0_isSpeed_27 : decode cX0_isSpeed 27 = .ok (.goto 4, 3) := by decide +kernel
theorem dX0_isSpeed_30 : decode cX0_isSpeed 30 = .ok (.iconst 0, 1) := by decide +kernel
theorem dX0_isSpeed_31 : decode cX0_isSpeed 31 = .ok (.ireturn, 1) := by decide +kernel
set_option maxRecDepth 20000 in
theorem ggX1_init_X5_init : GoodIn wsX1_init wsX5_init := goodIn_r _ [9, 10, 2, 3, 11, 12, 13, 14, 15, 16, 17, 18, 19, 20, 21, 22, 23, 24, 25, 26, 27, 28, 29, 30, 31, 32, 33, 34, 35, 36, 37, 38, 39, 40, 41, 42, 48, 49, 50, 51, 46, 47, 52, 53, 54, 55, 56, 57, 58, 59, 60, 61, 62, 63, 64, 65, 66, 67] (by decide +kernel) (by decide +kernel)
set_option maxRecDepth 20000 in
theorem gX1_init_X5_init_n17 : GoodIn wsX1_init (wsX5_init) := ggX1_init_X5_init
theorem dX1_init_0 : decode cX1_init 0 = .ok (.aload_n 0, 1) := by decide +kernel
theorem dX1_init_1 : decode cX1_init 1 = .ok (.invokespecial 3, 3) := by decide +kernel
theorem dX1_init_4 : decode cX1_init 4 = .ok (.aload_n 0, 1) := by decide +kernel
theorem dX1_init_5 : decode cX1_init 5 = .ok (.iconst 4, 1) := by decide +kernel
theorem dX1_init_6 : decode cX1_init 6 = .ok (.anewarray 9, 3) := by decide +kernel
theorem dX1_init_9 : decode cX1_init 9 = .ok (.putfield 11, 3) := by decide +kernel
theorem dX1_init_12 : decode cX1_init 12 = .ok (.iconst 0, 1) := by decide +kernel
theorem dX1_init_13 : decode cX1_init 13 = .ok (.istore_n 1, 1) := by decide +kernel
theorem dX1_init_14 : decode cX1_init 14 = .ok (.iload_n 1, 1) := by decide +kernel
theorem dX1_init_15 : decode cX1_init 15 = .ok (.aload_n 0, 1) := by decide +kernel
theorem dX1_init_16 : decode cX1_init 16 = .ok (.getfield 11, 3) := by decide +kernel
theorem dX1_init_19 : decode cX1_init 19 = .ok (.arraylength, 1) := by decide +kernel
theorem dX1_init_20 : decode cX1_init 20 = .ok (.if_icmp .ge 22, 3) := by decide +kernel
theorem dX1_init_23 : decode cX1_init 23 = .ok (.aload_n 0, 1) := by decide +kernel
theorem dX1_init_24 : decode cX1_init 24 = .ok (.getfield 11, 3) := by decide +kernel
theorem dX1_init_27 : decode cX1_init 27 = .ok (.iload_n 1, 1) := by decide +kernel
theorem dX1_init_28 : decode cX1_init 28 = .ok (.new 9, 3) := by decide +kernel
theorem dX1_init_31 : decode cX1_init 31 = .ok (.dup, 1) := by decide +kernel
theorem dX1_init_32 : decode cX1_init 32 = .ok (.invokespecial 17, 3) := by decide +kernel
theorem dX1_init_35 : decode cX1_init 35 = .ok (.aastore, 1) := by decide +kernel
theorem dX1_init_36 : decode cX1_init 36 = .ok (.iinc 1 1, 3) := by decide +kernel
theorem dX1_init_39 : decode cX1_init 39 = .ok (.goto (-25), 3) := by decide +kernel
theorem dX1_init_42 : decode cX1_init 42 = .ok (.return_, 1) := by decide +kernel
set_option maxRecDepth 20000 in
theorem ggX1_save_X1_ringIndex : GoodIn wsX1_save wsX1_ringIndex := goodIn_r _ [8, 2, 56, 57, 58] (by decide +kernel) (by decide +kernel)
set_option maxRecDepth 20000 in
theorem gX1_save_X1_ringIndex : GoodIn wsX1_save (wsV RX1 22 RX1 yX1_ringIndex wsX1_ringIndex) := goodIn_app (goodIn_of _ (by decide +kernel)) ggX1_save_X1_ringIndex
set_option maxRecDepth 20000 in
theorem ggX1_save_X5_copyFrom : GoodIn wsX1_save wsX5_copyFrom := goodIn_r _ [13, 14, 15, 16, 17, 18, 19, 20, 21, 22, 23, 24, 25, 26, 27, 28, 29, 30, 31, 32, 33, 34, 35, 36, 37, 38, 39, 40, 41, 42, 43, 44, 45, 46, 47, 48, 49, 50, 51, 52, 53, 54, 55, 59, 60, 61, 62, 63, 64, 65, 66, 67, 68, 69, 70, 71, 72, 73, 74, 75, 76, 77, 78, 79, 80] (by decide +kernel) (by decide +kernel)
set_option maxRecDepth 20000 in
theorem gX1_save_X5_copyFrom : GoodIn wsX1_save (wsV RX1 29 RX5 yX5_copyFrom wsX5_copyFrom) := goodIn_app (goodIn_of _ (by decide +kernel)) ggX1_save_X5_copyFrom
theorem dX1_save_0 : decode cX1_save 0 = .ok (.aload_n 0, 1) := by decide +kernel
theorem dX1_save_1 : decode cX1_save 1 = .ok (.getfield 18, 3) := by decide +kernel
theorem dX1_save_4 : decode cX1_save 4 = .ok (.iconst 4, 1) := by decide +kernel
theorem dX1_save_5 : decode cX1_save 5 = .ok (.if_icmp .ne 22, 3) := by decide +kernel
theorem dX1_save_8 : decode cX1_save 8 = .ok (.aload_n 0, 1) := by decide +kernel
theorem dX1_save_9 : decode cX1_save 9 = .ok (.aload_n 0, 1) := by decide +kernel
theorem dX1_save_10 : decode cX1_save 10 = .ok (.iconst 1, 1) := by decide +kernel
theorem dX1_save_11 : decode cX1_save 11 = .ok (.invokevirtual 22, 3) := by decide +kernel
theorem dX1_save_14 : decode cX1_save 14 = .ok (.putfield 26, 3) := by decide +kernel
theorem dX1_save_17 : decode cX1_save 17 = .ok (.aload_n 0, 1) := by decide +kernel
theorem dX1_save_18 : decode cX1_save 18 = .ok (.dup, 1) := by decide +kernel
theorem dX1_save_19 : decode cX1_save 19 = .ok (.getfield 18, 3) := by decide +kernel
theorem dX1_save_22 : decode cX1_save 22 = .ok (.iconst 1, 1) := by decide +kernel
theorem dX1_save_23 : decode cX1_save 23 = .ok (.isub, 1) := by decide +kernel
theorem dX1_save_24 : decode cX1_save 24 = .ok (.putfield 18, 3) := by decide +kernel
theorem dX1_save_27 : decode cX1_save 27 = .ok (.aload_n 0, 1) := by decide +kernel
theorem dX1_save_28 : decode cX1_save 28 = .ok (.getfield 11, 3) := by decide +kernel
theorem dX1_save_31 : decode cX1_save 31 = .ok (.aload_n 0, 1) := by decide +kernel
theorem dX1_save_32 : decode cX1_save 32 = .ok (.aload_n 0, 1) := by decide +kernel
theorem dX1_save_33 : decode cX1_save 33 = .ok (.getfield 18, 3) := by decide +kernel
theorem dX1_save_36 : decode cX1_save 36 = .ok (.invokevirtual 22, 3) := by decide +kernel
theorem dX1_save_39 : decode cX1_save 39 = .ok (.aaload, 1) := by decide +kernel
theorem dX1_save_40 : decode cX1_save 40 = .ok (.aload_n 1, 1) := by decide +kernel
theorem dX1_save_41 : decode cX1_save 41 = .ok (.invokevirtual 29, 3) := by decide +kernel
theorem dX1_save_44 : decode cX1_save 44 = .ok (.aload_n 0, 1) := by decide +kernel
theorem dX1_save_45 : decode cX1_save 45 = .ok (.dup, 1) := by decide +kernel
theorem dX1_save_46 : decode cX1_save 46 = .ok (.getfield 18, 3) := by decide +kernel
theorem dX1_save_49 : decode cX1_save 49 = .ok (.iconst 1, 1) := by decide +kernel
theorem dX1_save_50 : decode cX1_save 50 = .ok (.iadd, 1) := by decide +kernel
theorem dX1_save_51 : decode cX1_save 51 = .ok (.putfield 18, 3) := by decide +kernel
theorem dX1_save_54 : decode cX1_save 54 = .ok (.return_, 1) := by decide +kernel
set_option maxRecDepth 20000 in
theorem ggX1_restore_X1_ringIndex : GoodIn wsX1_restore wsX1_ringIndex := goodIn_r _ [7, 8, 56, 57, 58] (by decide +kernel) (by decide +kernel)
set_option maxRecDepth 20000 in
theorem gX1_restore_X1_ringIndex : GoodIn wsX1_restore (wsV RX1 22 RX1 yX1_ringIndex wsX1_ringIndex) := goodIn_app (goodIn_of _ (by decide +kernel)) ggX1_restore_X1_ringIndex
set_option maxRecDepth 20000 in
theorem ggX1_restore_X5_copyFrom : GoodIn wsX1_restore wsX5_copyFrom := goodIn_r _ [13, 14, 15, 16, 17, 18, 19, 20, 21, 22, 23, 24, 25, 26, 27, 28, 29, 30, 31, 32, 33, 34, 35, 36, 37, 38, 39, 40, 41, 42, 43, 44, 45, 46, 47, 48, 49, 50, 51, 52, 53, 54, 55, 59, 60, 61, 62, 63, 64, 65, 66, 67, 68, 69, 70, 71, 72, 73, 74, 75, 76, 77, 78, 79, 80] (by decide +kernel) (by decide +kernel)
set_option maxRecDepth 20000 in
theorem gX1_restore_X5_copyFrom : GoodIn wsX1_restore (wsV RX1 29 RX5 yX5_copyFrom wsX5_copyFrom) := goodIn_app (goodIn_of _ (by decide +kernel)) ggX1_restore_X5_copyFrom
theorem dX1_restore_0 : decode cX1_restore 0 = .ok (.aload_n 0, 1) := by decide +kernel
theorem dX1_restore_1 : decode cX1_restore 1 = .ok (.getfield 18, 3) := by decide +kernel
theorem dX1_restore_4 : decode cX1_restore 4 = .ok (.ifCond .le 30, 3) := by decide +kernel
theorem dX1_restore_7 : decode cX1_restore 7 = .ok (.aload_n 0, 1) := by decide +kernel
theorem dX1_restore_8 : decode cX1_restore 8 = .ok (.dup, 1) := by decide +kernel
theorem dX1_restore_9 : decode cX1_restore 9 = .ok (.getfield 18, 3) := by decide +kernel
theorem dX1_restore_12 : decode cX1_restore 12 = .ok (.iconst 1, 1) := by decide +kernel
theorem dX1_restore_13 : decode cX1_restore 13 = .ok (.isub, 1) := by decide +kernel
theorem dX1_restore_14 : decode cX1_restore 14 = .ok (.putfield 18, 3) := by decide +kernel
theorem dX1_restore_17 : decode cX1_restore 17 = .ok (.aload_n 1, 1) := by decide +kernel
theorem dX1_restore_18 : decode cX1_restore 18 = .ok (.aload_n 0, 1) := by decide +kernel
theorem dX1_restore_19 : decode cX1_restore 19 = .ok (.getfield 11, 3) := by decide +kernel
theorem dX1_restore_22 : decode cX1_restore 22 = .ok (.aload_n 0, 1) := by decide +kernel
theorem dX1_restore_23 : decode cX1_restore 23 = .ok (.aload_n 0, 1) := by decide +kernel
theorem dX1_restore_24 : decode cX1_restore 24 = .ok (.getfield 18, 3) := by decide +kernel
theorem dX1_restore_27 : decode cX1_restore 27 = .ok (.invokevirtual 22, 3) := by decide +kernel
theorem dX1_restore_30 : decode cX1_restore 30 = .ok (.aaload, 1) := by decide +kernel
theorem dX1_restore_31 : decode cX1_restore 31 = .ok (.invokevirtual 29, 3) := by decide +kernel
theorem dX1_restore_34 : decode cX1_restore 34 = .ok (.return_, 1) := by decide +kernel
theorem dX1_ringIndex_0 : decode cX1_ringIndex 0 = .ok (.aload_n 0, 1) := by decide +kernel
theorem dX1_ringIndex_1 : decode cX1_ringIndex 1 = .ok (.getfield 26, 3) := by decide +kernel
theorem dX1_ringIndex_4 : decode cX1_ringIndex 4 = .ok (.iload_n 1, 1) := by decide +kernel
theorem dX1_ringIndex_5 : decode cX1_ringIndex 5 = .ok (.iadd, 1) := by decide +kernel
theorem dX1_ringIndex_6 : decode cX1_ringIndex 6 = .ok (.iconst 4, 1) := by decide +kernel
theorem dX1_ringIndex_7 : decode cX1_ringIndex 7 = .ok (.irem, 1) := by decide +kernel
theorem dX1_ringIndex_8 : decode cX1_ringIndex 8 = .ok (.ireturn, 1) := by decide +kernel
theorem dX2_init_0 : decode cX2_init 0 = .ok (.aload_n 0, 1) := by decide +kernel
theorem dX2_init_1 : decode cX2_init 1 = .ok (.invokespecial 3, 3) := by decide +kernel
theorem dX2_init_4 : decode cX2_init 4 = .ok (.aload_n 0, 1) := by decide +kernel
theorem dX2_init_5 : decode cX2_init 5 = .ok (.bipush 100, 2) := by decide +kernel
theorem dX2_init_7 : decode cX2_init 7 = .ok (.newarray .byte, 2) := by decide +kernel
theorem dX2_init_9 : decode cX2_init 9 = .ok (.putfield 9, 3) := by decide +kernel
theorem dX2_init_12 : decode cX2_init 12 = .ok (.aload_n 0, 1) := by decide +kernel
theorem dX2_init_13 : decode cX2_init 13 = .ok (.bipush 32, 2) := by decide +kernel
theorem dX2_init_15 : decode cX2_init 15 = .ok (.newarray .int, 2) := by decide +kernel
theorem dX2_init_17 : decode cX2_init 17 = .ok (.putfield 15, 3) := by decide +kernel
theorem dX2_init_20 : decode cX2_init 20 = .ok (.return_, 1) := by decide +kernel
set_option maxRecDepth 20000 in
theorem ggX3_init_X6_init : GoodIn wsX3_init wsX6_init := goodIn_r _ [10, 11, 2, 3, 12, 13, 14, 15, 23, 24, 25, 26, 27, 28, 29, 30, 31] (by decide +kernel) (by decide +kernel)
set_option maxRecDepth 20000 in
theorem gX3_init_X6_init_n21 : GoodIn wsX3_init (wsX6_init) := ggX3_init_X6_init
theorem dX3_init_0 : decode cX3_init 0 = .ok (.aload_n 0, 1) := by decide +kernel
theorem dX3_init_1 : decode cX3_init 1 = .ok (.invokespecial 3, 3) := by decide +kernel
theorem dX3_init_4 : decode cX3_init 4 = .ok (.aload_n 0, 1) := by decide +kernel
theorem dX3_init_5 : decode cX3_init 5 = .ok (.iconst 3, 1) := by decide +kernel
theorem dX3_init_6 : decode cX3_init 6 = .ok (.putfield 9, 3) := by decide +kernel
theorem dX3_init_9 : decode cX3_init 9 = .ok (.aload_n 0, 1) := by decide +kernel
theorem dX3_init_10 : decode cX3_init 10 = .ok (.iconst 4, 1) := by decide +kernel
theorem dX3_init_11 : decode cX3_init 11 = .ok (.anewarray 15, 3) := by decide +kernel
theorem dX3_init_14 : decode cX3_init 14 = .ok (.putfield 17, 3) := by decide +kernel
theorem dX3_init_17 : decode cX3_init 17 = .ok (.iconst 0, 1) := by decide +kernel
theorem dX3_init_18 : decode cX3_init 18 = .ok (.istore_n 1, 1) := by decide +kernel
theorem dX3_init_19 : decode cX3_init 19 = .ok (.iload_n 1, 1) := by decide +kernel
theorem dX3_init_20 : decode cX3_init 20 = .ok (.aload_n 0, 1) := by decide +kernel
theorem dX3_init_21 : decode cX3_init 21 = .ok (.getfield 17, 3) := by decide +kernel
theorem dX3_init_24 : decode cX3_init 24 = .ok (.arraylength, 1) := by decide +kernel
theorem dX3_init_25 : decode cX3_init 25 = .ok (.if_icmp .ge 22, 3) := by decide +kernel
theorem dX3_init_28 : decode cX3_init 28 = .ok (.aload_n 0, 1) := by decide +kernel
theorem dX3_init_29 : decode cX3_init 29 = .ok (.getfield 17, 3) := by decide +kernel
theorem dX3_init_32 : decode cX3_init 32 = .ok (.iload_n 1, 1) := by decide +kernel
theorem dX3_init_33 : decode cX3_init 33 = .ok (.new 15, 3) := by decide +kernel
theorem dX3_init_36 : decode cX3_init 36 = .ok (.dup, 1) := by decide +kernel
theorem dX3_init_37 : decode cX3_init 37 = .ok (.invokespecial 21, 3) := by decide +kernel
theorem dX3_init_40 : decode cX3_init 40 = .ok (.aastore, 1) := by decide +kernel
theorem dX3_init_41 : decode cX3_init 41 = .ok (.iinc 1 1, 3) := by decide +kernel
theorem dX3_init_44 : decode cX3_init 44 = .ok (.goto (-25), 3) := by decide +kernel
theorem dX3_init_47 : decode cX3_init 47 = .ok (.return_, 1) := by decide +kernel
set_option maxRecDepth 20000 in
theorem ggX3_copyFrom_X6_copyFrom : GoodIn wsX3_copyFrom wsX6_copyFrom := goodIn_r _ [12, 13, 14, 15, 16, 17, 18, 19, 20, 21, 22, 23, 24, 25, 33, 34, 35, 36, 37, 38, 39, 40, 41] (by decide +kernel) (by decide +kernel)
set_option maxRecDepth 20000 in
theorem gX3_copyFrom_X6_copyFrom : GoodIn wsX3_copyFrom (wsV RX3 37 RX6 yX6_copyFrom wsX6_copyFrom) := goodIn_app (goodIn_of _ (by decide +kernel)) ggX3_copyFrom_X6_copyFrom
theorem dX3_copyFrom_0 : decode cX3_copyFrom 0 = .ok (.aload_n 0, 1) := by decide +kernel
theorem dX3_copyFrom_1 : decode cX3_copyFrom 1 = .ok (.aload_n 1, 1) := by decide +kernel
theorem dX3_copyFrom_2 : decode cX3_copyFrom 2 = .ok (.getfield 22, 3) := by decide +kernel
theorem dX3_copyFrom_5 : decode cX3_copyFrom 5 = .ok (.putfield 22, 3) := by decide +kernel
theorem dX3_copyFrom_8 : decode cX3_copyFrom 8 = .ok (.aload_n 0, 1) := by decide +kernel
theorem dX3_copyFrom_9 : decode cX3_copyFrom 9 = .ok (.aload_n 1, 1) := by decide +kernel
theorem dX3_copyFrom_10 : decode cX3_copyFrom 10 = .ok (.getfield 25, 3) := by decide +kernel
theorem dX3_copyFrom_13 : decode cX3_copyFrom 13 = .ok (.putfield 25, 3) := by decide +kernel
theorem dX3_copyFrom_16 : decode cX3_copyFrom 16 = .ok (.aload_n 0, 1) := by decide +kernel
theorem dX3_copyFrom_17 : decode cX3_copyFrom 17 = .ok (.aload_n 1, 1) := by decide +kernel
theorem dX3_copyFrom_18 : decode cX3_copyFrom 18 = .ok (.getfield 28, 3) := by decide +kernel
theorem dX3_copyFrom_21 : decode cX3_copyFrom 21 = .ok (.putfield 28, 3) := by decide +kernel
theorem dX3_copyFrom_24 : decode cX3_copyFrom 24 = .ok (.aload_n 0, 1) := by decide +kernel
theorem dX3_copyFrom_25 : decode cX3_copyFrom 25 = .ok (.aload_n 1, 1) := by decide +kernel
theorem dX3_copyFrom_26 : decode cX3_copyFrom 26 = .ok (.getfield 9, 3) := by decide +kernel
theorem dX3_copyFrom_29 : decode cX3_copyFrom 29 = .ok (.putfield 9, 3) := by decide +kernel
theorem dX3_copyFrom_32 : decode cX3_copyFrom 32 = .ok (.aload_n 0, 1) := by decide +kernel
theorem dX3_copyFrom_33 : decode cX3_copyFrom 33 = .ok (.aload_n 1, 1) := by decide +kernel
theorem dX3_copyFrom_34 : decode cX3_copyFrom 34 = .ok (.getfield 31, 3) := by decide +kernel
theorem dX3_copyFrom_37 : decode cX3_copyFrom 37 = .ok (.putfield 31, 3) := by decide +kernel
theorem dX3_copyFrom_40 : decode cX3_copyFrom 40 = .ok (.aload_n 0, 1) := by decide +kernel
theorem dX3_copyFrom_41 : decode cX3_copyFrom 41 = .ok (.aload_n 1, 1) := by decide +kernel
theorem dX3_copyFrom_42 : decode cX3_copyFrom 42 = .ok (.getfield 34, 3) := by decide +kernel
theorem dX3_copyFrom_45 : decode cX3_copyFrom 45 = .ok (.putfield 34, 3) := by decide +kernel
theorem dX3_copyFrom_48 : decode cX3_copyFrom 48 = .ok (.iconst 0, 1) := by decide +kernel
theorem dX3_copyFrom_49 : decode cX3_copyFrom 49 = .ok (.istore_n 2, 1) := by decide +kernel
theorem dX3_copyFrom_50 : decode cX3_copyFrom 50 = .ok (.iload_n 2, 1) := by decide +kernel
theorem dX3_copyFrom_51 : decode cX3_copyFrom 51 = .ok (.iconst 4, 1) := by decide +kernel
theorem dX3_copyFrom_52 : decode cX3_copyFrom 52 = .ok (.if_icmp .ge 24, 3) := by decide +kernel
theorem dX3_copyFrom_55 : decode cX3_copyFrom 55 = .ok (.aload_n 0, 1) := by decide +kernel
theorem dX3_copyFrom_56 : decode cX3_copyFrom 56 = .ok (.getfield 17, 3) := by decide +kernel
theorem dX3_copyFrom_59 : decode cX3_copyFrom 59 = .ok (.iload_n 2, 1) := by decide +kernel
theorem dX3_copyFrom_60 : decode cX3_copyFrom 60 = .ok (.aaload, 1) := by decide +kernel
theorem dX3_copyFrom_61 : decode cX3_copyFrom 61 = .ok (.aload_n 1, 1) := by decide +kernel
theorem dX3_copyFrom_62 : decode cX3_copyFrom 62 = .ok (.getfield 17, 3) := by decide +kernel
theorem dX3_copyFrom_65 : decode cX3_copyFrom 65 = .ok (.iload_n 2, 1) := by decide +kernel
theorem dX3_copyFrom_66 : decode cX3_copyFrom 66 = .ok (.aaload, 1) := by decide +kernel
theorem dX3_copyFrom_67 : decode cX3_copyFrom 67 = .ok (.invokevirtual 37, 3) := by decide +kernel
theorem dX3_copyFrom_70 : decode cX3_copyFrom 70 = .ok (.iinc 2 1, 3) := by decide +kernel
theorem dX3_copyFrom_73 : decode cX3_copyFrom 73 = .ok (.goto (-23), 3) := by decide +kernel
theorem dX3_copyFrom_76 : decode cX3_copyFrom 76 = .ok (.return_, 1) := by decide +kernel
set_option maxRecDepth 20000 in
theorem ggX3_goToBeginning_X6_goToBeginning : GoodIn wsX3_goToBeginning wsX6_goToBeginning := goodIn_r _ [12, 13, 14, 15, 16, 17, 18, 19, 20, 11, 21, 22, 23, 31, 32, 33, 34, 35, 36, 37, 38, 39] (by decide +kernel) (by decide +kernel)
set_option maxRecDepth 20000 in
theorem gX3_goToBeginning_X6_goToBeginning : GoodIn wsX3_goToBeginning (wsV RX3 41 RX6 yX6_goToBeginning wsX6_goToBeginning) := goodIn_app (goodIn_of _ (by decide +kernel)) ggX3_goToBeginning_X6_goToBeginning
theorem dX3_goToBeginning_0 : decode cX3_goToBeginning 0 = .ok (.aload_n 0, 1) := by decide +kernel
theorem dX3_goToBeginning_1 : decode cX3_goToBeginning 1 = .ok (.iconst 0, 1) := by decide +kernel
theorem dX3_goToBeginning_2 : decode cX3_goToBeginning 2 = .ok (.putfield 22, 3) := by decide +kernel
theorem dX3_goToBeginning_5 : decode cX3_goToBeginning 5 = .ok (.aload_n 0, 1) := by decide +kernel
theorem dX3_goToBeginning_6 : decode cX3_goToBeginning 6 = .ok (.iconst 0, 1) := by decide +kernel
theorem dX3_goToBeginning_7 : decode cX3_goToBeginning 7 = .ok (.putfield 25, 3) := by decide +kernel
theorem dX3_goToBeginning_10 : decode cX3_goToBeginning 10 = .ok (.aload_n 0, 1) := by decide +kernel
theorem dX3_goToBeginning_11 : decode cX3_goToBeginning 11 = .ok (.iconst 0, 1) := by decide +kernel
theorem dX3_goToBeginning_12 : decode cX3_goToBeginning 12 = .ok (.putfield 28, 3) := by decide +kernel
theorem dX3_goToBeginning_15 : decode cX3_goToBeginning 15 = .ok (.aload_n 0, 1) := by decide +kernel
theorem dX3_goToBeginning_16 : decode cX3_goToBeginning 16 = .ok (.iconst 3, 1) := by decide +kernel
theorem dX3_goToBeginning_17 : decode cX3_goToBeginning 17 = .ok (.putfield 9, 3) := by decide +kernel
theorem dX3_goToBeginning_20 : decode cX3_goToBeginning 20 = .ok (.aload_n 0, 1) := by decide +kernel
theorem dX3_goToBeginning_21 : decode cX3_goToBeginning 21 = .ok (.iconst 0, 1) := by decide +kernel
theorem dX3_goToBeginning_22 : decode cX3_goToBeginning 22 = .ok (.putfield 31, 3) := by decide +kernel
theorem dX3_goToBeginning_25 : decode cX3_goToBeginning 25 = .ok (.aload_n 0, 1) := by decide +kernel
theorem dX3_goToBeginning_26 : decode cX3_goToBeginning 26 = .ok (.iconst 0, 1) := by decide +kernel
theorem dX3_goToBeginning_27 : decode cX3_goToBeginning 27 = .ok (.putfield 34, 3) := by decide +kernel
theorem dX3_goToBeginning_30 : decode cX3_goToBeginning 30 = .ok (.aload_n 0, 1) := by decide +kernel
theorem dX3_goToBeginning_31 : decode cX3_goToBeginning 31 = .ok (.getfield 17, 3) := by decide +kernel
theorem dX3_goToBeginning_34 : decode cX3_goToBeginning 34 = .ok (.astore_n 1, 1) := by decide +kernel
theorem dX3_goToBeginning_35 : decode cX3_goToBeginning 35 = .ok (.aload_n 1, 1) := by decide +kernel
theorem dX3_goToBeginning_36 : decode cX3_goToBeginning 36 = .ok (.arraylength, 1) := by decide +kernel
theorem dX3_goToBeginning_37 : decode cX3_goToBeginning 37 = .ok (.istore_n 2, 1) := by decide +kernel
theorem dX3_goToBeginning_38 : decode cX3_goToBeginning 38 = .ok (.iconst 0, 1) := by decide +kernel
theorem dX3_goToBeginning_39 : decode cX3_goToBeginning 39 = .ok (.istore_n 3, 1) := by decide +kernel
theorem dX3_goToBeginning_40 : decode cX3_goToBeginning 40 = .ok (.iload_n 3, 1) := by decide +kernel
theorem dX3_goToBeginning_41 : decode cX3_goToBeginning 41 = .ok (.iload_n 2, 1) := by decide +kernel
theorem dX3_goToBeginning_42 : decode cX3_goToBeginning 42 = .ok (.if_icmp .ge 19, 3) := by decide +kernel
theorem dX3_goToBeginning_45 : decode cX3_goToBeginning 45 = .ok (.aload_n 1, 1) := by decide +kernel
theorem dX3_goToBeginning_46 : decode cX3_goToBeginning 46 = .ok (.iload_n 3, 1) := by decide +kernel
theorem dX3_goToBeginning_47 : decode cX3_goToBeginning 47 = .ok (.aaload, 1) := by decide +kernel
theorem dX3_goToBeginning_48 : decode cX3_goToBeginning 48 = .ok (.astore 4, 2) := by decide +kernel
theorem dX3_goToBeginning_50 : decode cX3_goToBeginning 50 = .ok (.aload 4, 2) := by decide +kernel
theorem dX3_goToBeginning_52 : decode cX3_goToBeginning 52 = .ok (.invokevirtual 41, 3) := by decide +kernel
theorem dX3_goToBeginning_55 : decode cX3_goToBeginning 55 = .ok (.iinc 3 1, 3) := by decide +kernel
theorem dX3_goToBeginning_58 : decode cX3_goToBeginning 58 = .ok (.goto (-18), 3) := by decide +kernel
theorem dX3_goToBeginning_61 : decode cX3_goToBeginning 61 = .ok (.return_, 1) := by decide +kernel
set_option maxRecDepth 20000 in
theorem ggX3_passTicks_X3_passTick : GoodIn wsX3_passTicks wsX3_passTick := goodIn_r _ [7, 8, 1, 9, 10, 11, 12, 13, 6, 14, 15, 16, 17, 18, 19, 20, 21, 22, 23, 24, 25, 26, 27, 28, 29, 30, 31, 32, 33, 34, 35, 36, 37, 38, 39, 40, 41, 42, 43, 44, 45, 46, 47, 48, 49, 50, 51, 52, 53, 54, 55, 56, 57, 58, 59, 60, 61, 62, 63, 64, 65, 66, 67, 68, 69, 70, 71, 72, 73, 74, 75, 76, 77, 78, 79, 80, 81, 82, 83, 84, 85, 86, 87, 88, 89, 90, 91, 92, 93, 94, 95, 96, 97, 98, 99, 100, 101, 102, 103, 104, 105, 106, 107, 108, 109, 110, 111, 112, 113, 114, 115, 116, 117, 118, 119, 120, 121, 122, 123, 124, 125, 126, 127, 128, 129, 130, 131, 132, 133, 134, 135, 136, 137, 138, 139, 140, 141, 142, 143, 144, 145, 146, 147, 148, 149, 150, 151, 152, 153, 154, 155, 156, 157, 158, 159, 160, 161, 162, 163, 164] (by decide +kernel) (by decide +kernel)
set_option maxRecDepth 20000 in
theorem gX3_passTicks_X3_passTick : GoodIn wsX3_passTicks (wsV RX3 44 RX3 yX3_passTick wsX3_passTick) := goodIn_app (goodIn_of _ (by decide +kernel)) ggX3_passTicks_X3_passTick
theorem dX3_passTicks_0 : decode cX3_passTicks 0 = .ok (.bipush 17, 2) := by decide +kernel
theorem dX3_passTicks_2 : decode cX3_passTicks 2 = .ok (.istore_n 3, 1) := by decide +kernel
theorem dX3_passTicks_3 : decode cX3_passTicks 3 = .ok (.iconst 0, 1) := by decide +kernel
theorem dX3_passTicks_4 : decode cX3_passTicks 4 = .ok (.istore 4, 2) := by decide +kernel
theorem dX3_passTicks_6 : decode cX3_passTicks 6 = .ok (.iload 4, 2) := by decide +kernel
theorem dX3_passTicks_8 : decode cX3_passTicks 8 = .ok (.iload_n 2, 1) := by decide +kernel
theorem dX3_passTicks_9 : decode cX3_passTicks 9 = .ok (.if_icmp .ge 59, 3) := by decide +kernel
theorem dX3_passTicks_12 : decode cX3_passTicks 12 = .ok (.aload_n 0, 1) := by decide +kernel
theorem dX3_passTicks_13 : decode cX3_passTicks 13 = .ok (.aload_n 1, 1) := by decide +kernel
theorem dX3_passTicks_14 : decode cX3_passTicks 14 = .ok (.invokevirtual 44, 3) := by decide +kernel
theorem dX3_passTicks_17 : decode cX3_passTicks 17 = .ok (.aload_n 0, 1) := by decide +kernel
theorem dX3_passTicks_18 : decode cX3_passTicks 18 = .ok (.getfield 17, 3) := by decide +kernel
theorem dX3_passTicks_21 : decode cX3_passTicks 21 = .ok (.astore 5, 2) := by decide +kernel
theorem dX3_passTicks_23 : decode cX3_passTicks 23 = .ok (.aload 5, 2) := by decide +kernel
theorem dX3_passTicks_25 : decode cX3_passTicks 25 = .ok (.arraylength, 1) := by decide +kernel
theorem dX3_passTicks_26 : decode cX3_passTicks 26 = .ok (.istore 6, 2) := by decide +kernel
theorem dX3_passTicks_28 : decode cX3_passTicks 28 = .ok (.iconst 0, 1) := by decide +kernel
theorem dX3_passTicks_29 : decode cX3_passTicks 29 = .ok (.istore 7, 2) := by decide +kernel
theorem dX3_passTicks_31 : decode cX3_passTicks 31 = .ok (.iload 7, 2) := by decide +kernel
theorem dX3_passTicks_33 : decode cX3_passTicks 33 = .ok (.iload 6, 2) := by decide +kernel
theorem dX3_passTicks_35 : decode cX3_passTicks 35 = .ok (.if_icmp .ge 27, 3) := by decide +kernel
theorem dX3_passTicks_38 : decode cX3_passTicks 38 = .ok (.aload 5, 2) := by decide +kernel
theorem dX3_passTicks_40 : decode cX3_passTicks 40 = .ok (.iload 7, 2) := by decide +kernel
theorem dX3_passTicks_42 : decode cX3_passTicks 42 = .ok (.aaload, 1) := by decide +kernel
theorem dX3_passTicks_43 : decode cX3_passTicks 43 = .ok (.astore 8, 2) := by decide +kernel
theorem dX3_passTicks_45 : decode cX3_passTicks 45 = .ok (.bipush 31, 2) := by decide +kernel
theorem dX3_passTicks_47 : decode cX3_passTicks 47 = .ok (.iload_n 3, 1) := by decide +kernel
theorem dX3_passTicks_48 : decode cX3_passTicks 48 = .ok (.imul, 1) := by decide +kernel
theorem dX3_passTicks_49 : decode cX3_passTicks 49 = .ok (.aload 8, 2) := by decide +kernel
theorem dX3_passTicks_51 : decode cX3_passTicks 51 = .ok (.getfield 48, 3) := by decide +kernel
theorem dX3_passTicks_54 : decode cX3_passTicks 54 = .ok (.iadd, 1) := by decide +kernel
theorem dX3_passTicks_55 : decode cX3_passTicks 55 = .ok (.istore_n 3, 1) := by decide +kernel
theorem dX3_passTicks_56 : decode cX3_passTicks 56 = .ok (.iinc 7 1, 3) := by decide +kernel
theorem dX3_passTicks_59 : decode cX3_passTicks 59 = .ok (.goto (-28), 3) := by decide +kernel
theorem dX3_passTicks_62 : decode cX3_passTicks 62 = .ok (.iinc 4 1, 3) := by decide +kernel
theorem dX3_passTicks_65 : decode cX3_passTicks 65 = .ok (.goto (-59), 3) := by decide +kernel
theorem dX3_passTicks_68 : decode cX3_passTicks 68 = .ok (.iload_n 3, 1) := by decide +kernel
theorem dX3_passTicks_69 : decode cX3_passTicks 69 = .ok (.ireturn, 1) := by decide +kernel
set_option maxRecDepth 20000 in
theorem ggX3_passTick_X3_beginRow : GoodIn wsX3_passTick wsX3_beginRow := goodIn_r _ [9, 2, 4, 10, 11, 12, 8, 13, 14, 15, 16, 17, 18, 19, 20, 21, 22, 23, 24, 25, 26, 27, 28, 29, 30, 31, 32, 33, 34, 35, 36, 37, 38, 39, 40, 41, 42, 43, 44, 45, 46, 47, 48, 49, 50, 51, 52, 53, 54, 55, 56, 57, 58, 59, 60, 61, 62, 63, 64, 65, 66, 67, 68, 69, 70, 71, 72, 73, 74, 75, 76, 77, 78, 79, 80, 81, 82, 140, 141, 142, 143, 144, 145, 146, 147, 148, 149, 150, 151, 152, 153, 154, 155, 156, 157, 158, 159] (by decide +kernel) (by decide +kernel)
set_option maxRecDepth 20000 in
theorem gX3_passTick_X3_beginRow : GoodIn wsX3_passTick (wsV RX3 51 RX3 yX3_beginRow wsX3_beginRow) := goodIn_app (goodIn_of _ (by decide +kernel)) ggX3_passTick_X3_beginRow
set_option maxRecDepth 20000 in
theorem ggX3_passTick_X3_goOn : GoodIn wsX3_passTick wsX3_goOn := goodIn_r _ [86, 2, 1, 87, 88, 89, 20, 90, 64, 73, 91, 92, 93, 94, 95, 96, 97, 72, 98, 57, 51, 58, 99, 54, 55, 68, 69, 70, 71, 74, 75, 76, 77, 78, 79, 80, 81, 82, 140, 141, 142, 143, 144, 145, 146, 147, 148, 149, 150, 151, 152, 153, 154, 155] (by decide +kernel) (by decide +kernel)
set_option maxRecDepth 20000 in
theorem gX3_passTick_X3_goOn : GoodIn wsX3_passTick (wsV RX3 54 RX3 yX3_goOn wsX3_goOn) := goodIn_app (goodIn_of _ (by decide +kernel)) ggX3_passTick_X3_goOn
set_option maxRecDepth 20000 in
theorem ggX3_passTick_X6_hear : GoodIn wsX3_passTick wsX6_hear := goodIn_r _ [103, 104, 105, 106, 72, 73, 107, 25, 108, 109, 78, 20, 79, 110, 111, 112, 147, 148, 149, 150, 151, 152, 153, 154, 155] (by decide +kernel) (by decide +kernel)
set_option maxRecDepth 20000 in
theorem gX3_passTick_X6_hear : GoodIn wsX3_passTick (wsV RX3 57 RX6 yX6_hear wsX6_hear) := goodIn_app (goodIn_of _ (by decide +kernel)) ggX3_passTick_X6_hear
set_option maxRecDepth 20000 in
theorem ggX3_passTick_X3_endRow : GoodIn wsX3_passTick wsX3_endRow := goodIn_r _ [116, 2, 1, 16, 15, 117, 118, 119, 20, 120, 22, 31, 23, 64, 24, 25, 26, 121, 122, 123, 35, 124, 125, 126, 127, 51, 128, 53, 54, 55, 56, 57, 58, 98, 129, 130, 131, 132, 43, 44, 45, 46, 47, 48, 133, 134, 135, 136, 8, 137, 138, 139, 140, 141, 142, 143, 144, 145, 146, 147, 148, 149, 150, 151, 152, 153, 154, 155, 156, 157, 158, 159] (by decide +kernel) (by decide +kernel)
set_option maxRecDepth 20000 in
theorem gX3_passTick_X3_endRow : GoodIn wsX3_passTick (wsV RX3 60 RX3 yX3_endRow wsX3_endRow) := goodIn_app (goodIn_of _ (by decide +kernel)) ggX3_passTick_X3_endRow
theorem dX3_passTick_0 : decode cX3_passTick 0 = .ok (.aload_n 0, 1) := by decide +kernel
theorem dX3_passTick_1 : decode cX3_passTick 1 = .ok (.getfield 28, 3) := by decide +kernel
theorem dX3_passTick_4 : decode cX3_passTick 4 = .ok (.ifCond .ne 11, 3) := by decide +kernel
theorem dX3_passTick_7 : decode cX3_passTick 7 = .ok (.aload_n 0, 1) := by decide +kernel
theorem dX3_passTick_8 : decode cX3_passTick 8 = .ok (.aload_n 1, 1) := by decide +kernel
theorem dX3_passTick_9 : decode cX3_passTick 9 = .ok (.invokevirtual 51, 3) := by decide +kernel
theorem dX3_passTick_12 : decode cX3_passTick 12 = .ok (.goto 7, 3) := by decide +kernel
theorem dX3_passTick_15 : decode cX3_passTick 15 = .ok (.aload_n 0, 1) := by decide +kernel
theorem dX3_passTick_16 : decode cX3_passTick 16 = .ok (.invokevirtual 54, 3) := by decide +kernel
theorem dX3_passTick_19 : decode cX3_passTick 19 = .ok (.aload_n 0, 1) := by decide +kernel
theorem dX3_passTick_20 : decode cX3_passTick 20 = .ok (.getfield 17, 3) := by decide +kernel
theorem dX3_passTick_23 : decode cX3_passTick 23 = .ok (.astore_n 2, 1) := by decide +kernel
theorem dX3_passTick_24 : decode cX3_passTick 24 = .ok (.aload_n 2, 1) := by decide +kernel
theorem dX3_passTick_25 : decode cX3_passTick 25 = .ok (.arraylength, 1) := by decide +kernel
theorem dX3_passTick_26 : decode cX3_passTick 26 = .ok (.istore_n 3, 1) := by decide +kernel
theorem dX3_passTick_27 : decode cX3_passTick 27 = .ok (.iconst 0, 1) := by decide +kernel
theorem dX3_passTick_28 : decode cX3_passTick 28 = .ok (.istore 4, 2) := by decide +kernel
theorem dX3_passTick_30 : decode cX3_passTick 30 = .ok (.iload 4, 2) := by decide +kernel
theorem dX3_passTick_32 : decode cX3_passTick 32 = .ok (.iload_n 3, 1) := by decide +kernel
theorem dX3_passTick_33 : decode cX3_passTick 33 = .ok (.if_icmp .ge 20, 3) := by decide +kernel
theorem dX3_passTick_36 : decode cX3_passTick 36 = .ok (.aload_n 2, 1) := by decide +kernel
theorem dX3_passTick_37 : decode cX3_passTick 37 = .ok (.iload 4, 2) := by decide +kernel
theorem dX3_passTick_39 : decode cX3_passTick 39 = .ok (.aaload, 1) := by decide +kernel
theorem dX3_passTick_40 : decode cX3_passTick 40 = .ok (.astore 5, 2) := by decide +kernel
theorem dX3_passTick_42 : decode cX3_passTick 42 = .ok (.aload 5, 2) := by decide +kernel
theorem dX3_passTick_44 : decode cX3_passTick 44 = .ok (.invokevirtual 57, 3) := by decide +kernel
theorem dX3_passTick_47 : decode cX3_passTick 47 = .ok (.iinc 4 1, 3) := by decide +kernel
theorem dX3_passTick_50 : decode cX3_passTick 50 = .ok (.goto (-20), 3) := by decide +kernel
theorem dX3_passTick_53 : decode cX3_passTick 53 = .ok (.aload_n 0, 1) := by decide +kernel
theorem dX3_passTick_54 : decode cX3_passTick 54 = .ok (.dup, 1) := by decide +kernel
theorem dX3_passTick_55 : decode cX3_passTick 55 = .ok (.getfield 31, 3) := by decide +kernel
theorem dX3_passTick_58 : decode cX3_passTick 58 = .ok (.iconst 1, 1) := by decide +kernel
theorem dX3_passTick_59 : decode cX3_passTick 59 = .ok (.iadd, 1) := by decide +kernel
theorem dX3_passTick_60 : decode cX3_passTick 60 = .ok (.putfield 31, 3) := by decide +kernel
theorem dX3_passTick_63 : decode cX3_passTick 63 = .ok (.aload_n 0, 1) := by decide +kernel
theorem dX3_passTick_64 : decode cX3_passTick 64 = .ok (.dup, 1) := by decide +kernel
theorem dX3_passTick_65 : decode cX3_passTick 65 = .ok (.getfield 28, 3) := by decide +kernel
theorem dX3_passTick_68 : decode cX3_passTick 68 = .ok (.iconst 1, 1) := by decide +kernel
theorem dX3_passTick_69 : decode cX3_passTick 69 = .ok (.iadd, 1) := by decide +kernel
theorem dX3_passTick_70 : decode cX3_passTick 70 = .ok (.putfield 28, 3) := by decide +kernel
theorem dX3_passTick_73 : decode cX3_passTick 73 = .ok (.aload_n 0, 1) := by decide +kernel
theorem dX3_passTick_74 : decode cX3_passTick 74 = .ok (.getfield 28, 3) := by decide +kernel
theorem dX3_passTick_77 : decode cX3_passTick 77 = .ok (.aload_n 0, 1) := by decide +kernel
theorem dX3_passTick_78 : decode cX3_passTick 78 = .ok (.getfield 9, 3) := by decide +kernel
theorem dX3_passTick_81 : decode cX3_passTick 81 = .ok (.if_icmp .lt 8, 3) := by decide +kernel
theorem dX3_passTick_84 : decode cX3_passTick 84 = .ok (.aload_n 0, 1) := by decide +kernel
theorem dX3_passTick_85 : decode cX3_passTick 85 = .ok (.aload_n 1, 1) := by decide +kernel
theorem dX3_passTick_86 : decode cX3_passTick 86 = .ok (.invokevirtual 60, 3) := by decide +kernel
theorem dX3_passTick_89 : decode cX3_passTick 89 = .ok (.return_, 1) := by decide +kernel
set_option maxRecDepth 20000 in
theorem ggX3_beginRow_X3_cellFor : GoodIn wsX3_beginRow wsX3_cellFor := goodIn_r _ [7, 8, 9, 10, 11, 12, 13, 14, 15, 16, 17, 18, 19, 20, 21, 22, 23, 24, 25, 26, 27, 28, 29, 30, 31, 32, 33, 34, 35, 36, 37, 38, 39, 40, 41, 42, 84, 85, 86, 87, 88, 89, 90, 91, 92, 77, 78, 79, 80, 81, 82, 83, 93, 94, 95, 96] (by decide +kernel) (by decide +kernel)
set_option maxRecDepth 20000 in
theorem gX3_beginRow_X3_cellFor : GoodIn wsX3_beginRow (wsV RX3 63 RX3 yX3_cellFor wsX3_cellFor) := goodIn_app (goodIn_of _ (by decide +kernel)) ggX3_beginRow_X3_cellFor
set_option maxRecDepth 20000 in
theorem ggX3_beginRow_X0_isSpeed : GoodIn wsX3_beginRow wsX0_isSpeed := goodIn_r _ [46, 47, 48, 45, 49, 50, 51, 52] (by decide +kernel) (by decide +kernel)
set_option maxRecDepth 20000 in
theorem gX3_beginRow_X0_isSpeed : GoodIn wsX3_beginRow (va_wsS RX3 67 yX0_isSpeed wsX0_isSpeed) := goodIn_app (goodIn_of _ (by decide +kernel)) ggX3_beginRow_X0_isSpeed
set_option maxRecDepth 20000 in
theorem ggX3_beginRow_X0_numberOf : GoodIn wsX3_beginRow wsX0_numberOf := goodIn_r _ [52] (by decide +kernel) (by decide +kernel)
set_option maxRecDepth 20000 in
theorem gX3_beginRow_X0_numberOf : GoodIn wsX3_beginRow (va_wsS RX3 73 yX0_numberOf wsX0_numberOf) := goodIn_app (goodIn_of _ (by decide +kernel)) ggX3_beginRow_X0_numberOf
set_option maxRecDepth 20000 in
theorem ggX3_beginRow_X6_beginRow : GoodIn wsX3_beginRow wsX6_beginRow := goodIn_r _ [57, 58, 59, 60, 45, 61, 47, 48, 49, 50, 51, 52, 62, 63, 64, 14, 65, 66, 67, 68, 69, 70, 71, 72, 73, 74, 75, 76, 84, 85, 86, 87, 88, 89, 90, 91, 92] (by decide +kernel) (by decide +kernel)
set_option maxRecDepth 20000 in
theorem gX3_beginRow_X6_beginRow : GoodIn wsX3_beginRow (wsV RX3 77 RX6 yX6_beginRow wsX6_beginRow) := goodIn_app (goodIn_of _ (by decide +kernel)) ggX3_beginRow_X6_beginRow
theorem dX3_beginRow_0 : decode cX3_beginRow 0 = .ok (.iconst 0, 1) := by decide +kernel
theorem dX3_beginRow_1 : decode cX3_beginRow 1 = .ok (.istore_n 2, 1) := by decide +kernel
theorem dX3_beginRow_2 : decode cX3_beginRow 2 = .ok (.iload_n 2, 1) := by decide +kernel
theorem dX3_beginRow_3 : decode cX3_beginRow 3 = .ok (.aload_n 0, 1) := by decide +kernel
theorem dX3_beginRow_4 : decode cX3_beginRow 4 = .ok (.getfield 17, 3) := by decide +kernel
theorem dX3_beginRow_7 : decode cX3_beginRow 7 = .ok (.arraylength, 1) := by decide +kernel
theorem dX3_beginRow_8 : decode cX3_beginRow 8 = .ok (.if_icmp .ge 48, 3) := by decide +kernel
theorem dX3_beginRow_11 : decode cX3_beginRow 11 = .ok (.aload_n 0, 1) := by decide +kernel
theorem dX3_beginRow_12 : decode cX3_beginRow 12 = .ok (.getfield 17, 3) := by decide +kernel
theorem dX3_beginRow_15 : decode cX3_beginRow 15 = .ok (.iload_n 2, 1) := by decide +kernel
theorem dX3_beginRow_16 : decode cX3_beginRow 16 = .ok (.aaload, 1) := by decide +kernel
theorem dX3_beginRow_17 : decode cX3_beginRow 17 = .ok (.astore_n 3, 1) := by decide +kernel
theorem dX3_beginRow_18 : decode cX3_beginRow 18 = .ok (.aload_n 0, 1) := by decide +kernel
theorem dX3_beginRow_19 : decode cX3_beginRow 19 = .ok (.aload_n 1, 1) := by decide +kernel
theorem dX3_beginRow_20 : decode cX3_beginRow 20 = .ok (.aload_n 3, 1) := by decide +kernel
theorem dX3_beginRow_21 : decode cX3_beginRow 21 = .ok (.iload_n 2, 1) := by decide +kernel
theorem dX3_beginRow_22 : decode cX3_beginRow 22 = .ok (.invokevirtual 63, 3) := by decide +kernel
theorem dX3_beginRow_25 : decode cX3_beginRow 25 = .ok (.istore 4, 2) := by decide +kernel
theorem dX3_beginRow_27 : decode cX3_beginRow 27 = .ok (.iload 4, 2) := by decide +kernel
theorem dX3_beginRow_29 : decode cX3_beginRow 29 = .ok (.invokestatic 67, 3) := by decide +kernel
theorem dX3_beginRow_32 : decode cX3_beginRow 32 = .ok (.ifCond .eq 12, 3) := by decide +kernel
theorem dX3_beginRow_35 : decode cX3_beginRow 35 = .ok (.aload_n 0, 1) := by decide +kernel
theorem dX3_beginRow_36 : decode cX3_beginRow 36 = .ok (.iload 4, 2) := by decide +kernel
theorem dX3_beginRow_38 : decode cX3_beginRow 38 = .ok (.invokestatic 73, 3) := by decide +kernel
theorem dX3_beginRow_41 : decode cX3_beginRow 41 = .ok (.putfield 9, 3) := by decide +kernel
theorem dX3_beginRow_44 : decode cX3_beginRow 44 = .ok (.aload_n 3, 1) := by decide +kernel
theorem dX3_beginRow_45 : decode cX3_beginRow 45 = .ok (.iload 4, 2) := by decide +kernel
theorem dX3_beginRow_47 : decode cX3_beginRow 47 = .ok (.invokevirtual 77, 3) := by decide +kernel
theorem dX3_beginRow_50 : decode cX3_beginRow 50 = .ok (.iinc 2 1, 3) := by decide +kernel
theorem dX3_beginRow_53 : decode cX3_beginRow 53 = .ok (.goto (-51), 3) := by decide +kernel
theorem dX3_beginRow_56 : decode cX3_beginRow 56 = .ok (.return_, 1) := by decide +kernel
set_option maxRecDepth 20000 in
theorem ggX3_cellFor_X6_latestPattern : GoodIn wsX3_cellFor wsX6_latestPattern := goodIn_r _ [8, 9, 10, 11, 12, 13, 36, 37, 38, 39, 40, 41, 42, 43, 44] (by decide +kernel) (by decide +kernel)
set_option maxRecDepth 20000 in
theorem gX3_cellFor_X6_latestPattern : GoodIn wsX3_cellFor (wsV RX3 83 RX6 yX6_latestPattern wsX6_latestPattern) := goodIn_app (goodIn_of _ (by decide +kernel)) ggX3_cellFor_X6_latestPattern
set_option maxRecDepth 20000 in
theorem ggX3_cellFor_X6_latestRow : GoodIn wsX3_cellFor wsX6_latestRow := goodIn_r _ [17, 9, 18, 11, 12, 13, 36, 37, 38, 39, 40, 41, 42, 43, 44] (by decide +kernel) (by decide +kernel)
set_option maxRecDepth 20000 in
theorem gX3_cellFor_X6_latestRow : GoodIn wsX3_cellFor (wsV RX3 87 RX6 yX6_latestRow wsX6_latestRow) := goodIn_app (goodIn_of _ (by decide +kernel)) ggX3_cellFor_X6_latestRow
set_option maxRecDepth 20000 in
theorem ggX3_cellFor_X4_cellAt : GoodIn wsX3_cellFor wsX4_cellAt := goodIn_r _ [23, 24, 25, 12, 26, 27, 28, 22, 29, 52, 53, 54, 55] (by decide +kernel) (by decide +kernel)
set_option maxRecDepth 20000 in
theorem gX3_cellFor_X4_cellAt : GoodIn wsX3_cellFor (wsV RX3 90 RX4 yX4_cellAt wsX4_cellAt) := goodIn_app (goodIn_of _ (by decide +kernel)) ggX3_cellFor_X4_cellAt
set_option maxRecDepth 20000 in
theorem ggX3_cellFor_X4_patternAt : GoodIn wsX3_cellFor wsX4_patternAt := goodIn_r _ [33, 34, 35, 11, 12, 13, 52, 53, 54, 55] (by decide +kernel) (by decide +kernel)
set_option maxRecDepth 20000 in
theorem gX3_cellFor_X4_patternAt : GoodIn wsX3_cellFor (wsV RX3 96 RX4 yX4_patternAt wsX4_patternAt) := goodIn_app (goodIn_of _ (by decide +kernel)) ggX3_cellFor_X4_patternAt
theorem dX3_cellFor_0 : decode cX3_cellFor 0 = .ok (.aload_n 2, 1) := by decide +kernel
theorem dX3_cellFor_1 : decode cX3_cellFor 1 = .ok (.getfield 80, 3) := by decide +kernel
theorem dX3_cellFor_4 : decode cX3_cellFor 4 = .ok (.ifCond .le 17, 3) := by decide +kernel
theorem dX3_cellFor_7 : decode cX3_cellFor 7 = .ok (.aload_n 1, 1) := by decide +kernel
theorem dX3_cellFor_8 : decode cX3_cellFor 8 = .ok (.aload_n 2, 1) := by decide +kernel
theorem dX3_cellFor_9 : decode cX3_cellFor 9 = .ok (.invokevirtual 83, 3) := by decide +kernel
theorem dX3_cellFor_12 : decode cX3_cellFor 12 = .ok (.aload_n 2, 1) := by decide +kernel
theorem dX3_cellFor_13 : decode cX3_cellFor 13 = .ok (.invokevirtual 87, 3) := by decide +kernel
theorem dX3_cellFor_16 : decode cX3_cellFor 16 = .ok (.iload_n 3, 1) := by decide +kernel
theorem dX3_cellFor_17 : decode cX3_cellFor 17 = .ok (.invokevirtual 90, 3) := by decide +kernel
theorem dX3_cellFor_20 : decode cX3_cellFor 20 = .ok (.ireturn, 1) := by decide +kernel
theorem dX3_cellFor_21 : decode cX3_cellFor 21 = .ok (.aload_n 1, 1) := by decide +kernel
theorem dX3_cellFor_22 : decode cX3_cellFor 22 = .ok (.aload_n 1, 1) := by decide +kernel
theorem dX3_cellFor_23 : decode cX3_cellFor 23 = .ok (.aload_n 0, 1) := by decide +kernel
theorem dX3_cellFor_24 : decode cX3_cellFor 24 = .ok (.getfield 22, 3) := by decide +kernel
theorem dX3_cellFor_27 : decode cX3_cellFor 27 = .ok (.invokevirtual 96, 3) := by decide +kernel
theorem dX3_cellFor_30 : decode cX3_cellFor 30 = .ok (.aload_n 0, 1) := by decide +kernel
theorem dX3_cellFor_31 : decode cX3_cellFor 31 = .ok (.getfield 25, 3) := by decide +kernel
theorem dX3_cellFor_34 : decode cX3_cellFor 34 = .ok (.iload_n 3, 1) := by decide +kernel
theorem dX3_cellFor_35 : decode cX3_cellFor 35 = .ok (.invokevirtual 90, 3) := by decide +kernel
theorem dX3_cellFor_38 : decode cX3_cellFor 38 = .ok (.ireturn, 1) := by decide +kernel
set_option maxRecDepth 20000 in
theorem ggX3_goOn_X6_goOn : GoodIn wsX3_goOn wsX6_goOn := goodIn_r _ [7, 8, 9, 10, 11, 12, 13, 14, 15, 16, 17, 18, 19, 20, 21, 22, 23, 24, 25, 26, 27, 6, 28, 29, 30, 31, 32, 33, 34, 35, 36, 37, 45, 46, 47, 48, 49, 50, 51, 52, 53] (by decide +kernel) (by decide +kernel)
set_option maxRecDepth 20000 in
theorem gX3_goOn_X6_goOn : GoodIn wsX3_goOn (wsV RX3 99 RX6 yX6_goOn wsX6_goOn) := goodIn_app (goodIn_of _ (by decide +kernel)) ggX3_goOn_X6_goOn
theorem dX3_goOn_0 : decode cX3_goOn 0 = .ok (.aload_n 0, 1) := by decide +kernel
theorem dX3_goOn_1 : decode cX3_goOn 1 = .ok (.getfield 17, 3) := by decide +kernel
theorem dX3_goOn_4 : decode cX3_goOn 4 = .ok (.astore_n 1, 1) := by decide +kernel
theorem dX3_goOn_5 : decode cX3_goOn 5 = .ok (.aload_n 1, 1) := by decide +kernel
theorem dX3_goOn_6 : decode cX3_goOn 6 = .ok (.arraylength, 1) := by decide +kernel
theorem dX3_goOn_7 : decode cX3_goOn 7 = .ok (.istore_n 2, 1) := by decide +kernel
theorem dX3_goOn_8 : decode cX3_goOn 8 = .ok (.iconst 0, 1) := by decide +kernel
theorem dX3_goOn_9 : decode cX3_goOn 9 = .ok (.istore_n 3, 1) := by decide +kernel
theorem dX3_goOn_10 : decode cX3_goOn 10 = .ok (.iload_n 3, 1) := by decide +kernel
theorem dX3_goOn_11 : decode cX3_goOn 11 = .ok (.iload_n 2, 1) := by decide +kernel
theorem dX3_goOn_12 : decode cX3_goOn 12 = .ok (.if_icmp .ge 23, 3) := by decide +kernel
theorem dX3_goOn_15 : decode cX3_goOn 15 = .ok (.aload_n 1, 1) := by decide +kernel
theorem dX3_goOn_16 : decode cX3_goOn 16 = .ok (.iload_n 3, 1) := by decide +kernel
theorem dX3_goOn_17 : decode cX3_goOn 17 = .ok (.aaload, 1) := by decide +kernel
theorem dX3_goOn_18 : decode cX3_goOn 18 = .ok (.astore 4, 2) := by decide +kernel
theorem dX3_goOn_20 : decode cX3_goOn 20 = .ok (.aload 4, 2) := by decide +kernel
theorem dX3_goOn_22 : decode cX3_goOn 22 = .ok (.aload_n 0, 1) := by decide +kernel
theorem dX3_goOn_23 : decode cX3_goOn 23 = .ok (.getfield 28, 3) := by decide +kernel
theorem dX3_goOn_26 : decode cX3_goOn 26 = .ok (.invokevirtual 99, 3) := by decide +kernel
theorem dX3_goOn_29 : decode cX3_goOn 29 = .ok (.iinc 3 1, 3) := by decide +kernel
theorem dX3_goOn_32 : decode cX3_goOn 32 = .ok (.goto (-22), 3) := by decide +kernel
theorem dX3_goOn_35 : decode cX3_goOn 35 = .ok (.return_, 1) := by decide +kernel
set_option maxRecDepth 20000 in
theorem ggX3_endRow_X6_endRow : GoodIn wsX3_endRow wsX6_endRow := goodIn_r _ [9, 10, 11, 12, 13, 14, 15, 16, 17, 18, 19, 20, 21, 22, 23, 24, 25, 26, 27, 28, 29, 30, 31, 32, 33, 34, 35, 36, 8, 37, 59, 60, 61, 62, 63, 64, 65, 66, 67, 68, 69, 70, 71] (by decide +kernel) (by decide +kernel)
set_option maxRecDepth 20000 in
theorem gX3_endRow_X6_endRow : GoodIn wsX3_endRow (wsV RX3 101 RX6 yX6_endRow wsX6_endRow) := goodIn_app (goodIn_of _ (by decide +kernel)) ggX3_endRow_X6_endRow
set_option maxRecDepth 20000 in
theorem ggX3_endRow_X4_patternAt : GoodIn wsX3_endRow wsX4_patternAt := goodIn_r _ [41, 42, 43, 14, 15, 16, 68, 69, 70, 71] (by decide +kernel) (by decide +kernel)
set_option maxRecDepth 20000 in
theorem gX3_endRow_X4_patternAt : GoodIn wsX3_endRow (wsV RX3 96 RX4 yX4_patternAt wsX4_patternAt) := goodIn_app (goodIn_of _ (by decide +kernel)) ggX3_endRow_X4_patternAt
set_option maxRecDepth 20000 in
theorem ggX3_endRow_X4_rowsOf : GoodIn wsX3_endRow wsX4_rowsOf := goodIn_r _ [21, 22, 14, 15, 16, 68, 69, 70, 71] (by decide +kernel) (by decide +kernel)
set_option maxRecDepth 20000 in
theorem gX3_endRow_X4_rowsOf : GoodIn wsX3_endRow (wsV RX3 102 RX4 yX4_rowsOf wsX4_rowsOf) := goodIn_app (goodIn_of _ (by decide +kernel)) ggX3_endRow_X4_rowsOf
set_option maxRecDepth 20000 in
theorem ggX3_endRow_X3_nextPlace : GoodIn wsX3_endRow wsX3_nextPlace := goodIn_r _ [49, 4, 50, 51, 52, 53, 54, 55, 56, 57, 58, 68, 69, 70, 71] (by decide +kernel) (by decide +kernel)
set_option maxRecDepth 20000 in
theorem gX3_endRow_X3_nextPlace : GoodIn wsX3_endRow (wsV RX3 105 RX3 yX3_nextPlace wsX3_nextPlace) := goodIn_app (goodIn_of _ (by decide +kernel)) ggX3_endRow_X3_nextPlace
theorem dX3_endRow_0 : decode cX3_endRow 0 = .ok (.aload_n 0, 1) := by decide +kernel
theorem dX3_endRow_1 : decode cX3_endRow 1 = .ok (.getfield 17, 3) := by decide +kernel
theorem dX3_endRow_4 : decode cX3_endRow 4 = .ok (.astore_n 2, 1) := by decide +kernel
theorem dX3_endRow_5 : decode cX3_endRow 5 = .ok (.aload_n 2, 1) := by decide +kernel
theorem dX3_endRow_6 : decode cX3_endRow 6 = .ok (.arraylength, 1) := by decide +kernel
theorem dX3_endRow_7 : decode cX3_endRow 7 = .ok (.istore_n 3, 1) := by decide +kernel
theorem dX3_endRow_8 : decode cX3_endRow 8 = .ok (.iconst 0, 1) := by decide +kernel
theorem dX3_endRow_9 : decode cX3_endRow 9 = .ok (.istore 4, 2) := by decide +kernel
theorem dX3_endRow_11 : decode cX3_endRow 11 = .ok (.iload 4, 2) := by decide +kernel
theorem dX3_endRow_13 : decode cX3_endRow 13 = .ok (.iload_n 3, 1) := by decide +kernel
theorem dX3_endRow_14 : decode cX3_endRow 14 = .ok (.if_icmp .ge 21, 3) := by decide +kernel
theorem dX3_endRow_17 : decode cX3_endRow 17 = .ok (.aload_n 2, 1) := by decide +kernel
theorem dX3_endRow_18 : decode cX3_endRow 18 = .ok (.iload 4, 2) := by decide +kernel
theorem dX3_endRow_20 : decode cX3_endRow 20 = .ok (.aaload, 1) := by decide +kernel
theorem dX3_endRow_21 : decode cX3_endRow 21 = .ok (.astore 5, 2) := by decide +kernel
theorem dX3_endRow_23 : decode cX3_endRow 23 = .ok (.aload 5, 2) := by decide +kernel
theorem dX3_endRow_25 : decode cX3_endRow 25 = .ok (.aload_n 1, 1) := by decide +kernel
theorem dX3_endRow_26 : decode cX3_endRow 26 = .ok (.invokevirtual 101, 3) := by decide +kernel
theorem dX3_endRow_29 : decode cX3_endRow 29 = .ok (.iinc 4 1, 3) := by decide +kernel
theorem dX3_endRow_32 : decode cX3_endRow 32 = .ok (.goto (-21), 3) := by decide +kernel
theorem dX3_endRow_35 : decode cX3_endRow 35 = .ok (.aload_n 0, 1) := by decide +kernel
theorem dX3_endRow_36 : decode cX3_endRow 36 = .ok (.iconst 0, 1) := by decide +kernel
theorem dX3_endRow_37 : decode cX3_endRow 37 = .ok (.putfield 28, 3) := by decide +kernel
theorem dX3_endRow_40 : decode cX3_endRow 40 = .ok (.aload_n 0, 1) := by decide +kernel
theorem dX3_endRow_41 : decode cX3_endRow 41 = .ok (.dup, 1) := by decide +kernel
theorem dX3_endRow_42 : decode cX3_endRow 42 = .ok (.getfield 25, 3) := by decide +kernel
theorem dX3_endRow_45 : decode cX3_endRow 45 = .ok (.iconst 1, 1) := by decide +kernel
theorem dX3_endRow_46 : decode cX3_endRow 46 = .ok (.iadd, 1) := by decide +kernel
theorem dX3_endRow_47 : decode cX3_endRow 47 = .ok (.putfield 25, 3) := by decide +kernel
theorem dX3_endRow_50 : decode cX3_endRow 50 = .ok (.aload_n 0, 1) := by decide +kernel
theorem dX3_endRow_51 : decode cX3_endRow 51 = .ok (.getfield 25, 3) := by decide +kernel
theorem dX3_endRow_54 : decode cX3_endRow 54 = .ok (.aload_n 1, 1) := by decide +kernel
theorem dX3_endRow_55 : decode cX3_endRow 55 = .ok (.aload_n 1, 1) := by decide +kernel
theorem dX3_endRow_56 : decode cX3_endRow 56 = .ok (.aload_n 0, 1) := by decide +kernel
theorem dX3_endRow_57 : decode cX3_endRow 57 = .ok (.getfield 22, 3) := by decide +kernel
theorem dX3_endRow_60 : decode cX3_endRow 60 = .ok (.invokevirtual 96, 3) := by decide +kernel
theorem dX3_endRow_63 : decode cX3_endRow 63 = .ok (.invokevirtual 102, 3) := by decide +kernel
theorem dX3_endRow_66 : decode cX3_endRow 66 = .ok (.if_icmp .lt 13, 3) := by decide +kernel
theorem dX3_endRow_69 : decode cX3_endRow 69 = .ok (.aload_n 0, 1) := by decide +kernel
theorem dX3_endRow_70 : decode cX3_endRow 70 = .ok (.iconst 0, 1) := by decide +kernel
theorem dX3_endRow_71 : decode cX3_endRow 71 = .ok (.putfield 25, 3) := by decide +kernel
theorem dX3_endRow_74 : decode cX3_endRow 74 = .ok (.aload_n 0, 1) := by decide +kernel
theorem dX3_endRow_75 : decode cX3_endRow 75 = .ok (.aload_n 1, 1) := by decide +kernel
theorem dX3_endRow_76 : decode cX3_endRow 76 = .ok (.invokevirtual 105, 3) := by decide +kernel
theorem dX3_endRow_79 : decode cX3_endRow 79 = .ok (.return_, 1) := by decide +kernel
theorem dX3_nextPlace_0 : decode cX3_nextPlace 0 = .ok (.aload_n 0, 1) := by decide +kernel
theorem dX3_nextPlace_1 : decode cX3_nextPlace 1 = .ok (.dup, 1) := by decide +kernel
theorem dX3_nextPlace_2 : decode cX3_nextPlace 2 = .ok (.getfield 22, 3) := by decide +kernel
theorem dX3_nextPlace_5 : decode cX3_nextPlace 5 = .ok (.iconst 1, 1) := by decide +kernel
theorem dX3_nextPlace_6 : decode cX3_nextPlace 6 = .ok (.iadd, 1) := by decide +kernel
theorem dX3_nextPlace_7 : decode cX3_nextPlace 7 = .ok (.putfield 22, 3) := by decide +kernel
theorem dX3_nextPlace_10 : decode cX3_nextPlace 10 = .ok (.aload_n 0, 1) := by decide +kernel
theorem dX3_nextPlace_11 : decode cX3_nextPlace 11 = .ok (.getfield 22, 3) := by decide +kernel
theorem dX3_nextPlace_14 : decode cX3_nextPlace 14 = .ok (.aload_n 1, 1) := by decide +kernel
theorem dX3_nextPlace_15 : decode cX3_nextPlace 15 = .ok (.getfield 108, 3) := by decide +kernel
theorem dX3_nextPlace_18 : decode cX3_nextPlace 18 = .ok (.if_icmp .lt 18, 3) := by decide +kernel
theorem dX3_nextPlace_21 : decode cX3_nextPlace 21 = .ok (.aload_n 0, 1) := by decide +kernel
theorem dX3_nextPlace_22 : decode cX3_nextPlace 22 = .ok (.iconst 0, 1) := by decide +kernel
theorem dX3_nextPlace_23 : decode cX3_nextPlace 23 = .ok (.putfield 22, 3) := by decide +kernel
theorem dX3_nextPlace_26 : decode cX3_nextPlace 26 = .ok (.aload_n 0, 1) := by decide +kernel
theorem dX3_nextPlace_27 : decode cX3_nextPlace 27 = .ok (.dup, 1) := by decide +kernel
theorem dX3_nextPlace_28 : decode cX3_nextPlace 28 = .ok (.getfield 34, 3) := by decide +kernel
theorem dX3_nextPlace_31 : decode cX3_nextPlace 31 = .ok (.iconst 1, 1) := by decide +kernel
theorem dX3_nextPlace_32 : decode cX3_nextPlace 32 = .ok (.iadd, 1) := by decide +kernel
theorem dX3_nextPlace_33 : decode cX3_nextPlace 33 = .ok (.putfield 34, 3) := by decide +kernel
theorem dX3_nextPlace_36 : decode cX3_nextPlace 36 = .ok (.return_, 1) := by decide +kernel
theorem dX4_init_0 : decode cX4_init 0 = .ok (.aload_n 0, 1) := by decide +kernel
theorem dX4_init_1 : decode cX4_init 1 = .ok (.invokespecial 3, 3) := by decide +kernel
theorem dX4_init_4 : decode cX4_init 4 = .ok (.aload_n 0, 1) := by decide +kernel
theorem dX4_init_5 : decode cX4_init 5 = .ok (.sipush 192, 3) := by decide +kernel
theorem dX4_init_8 : decode cX4_init 8 = .ok (.newarray .int, 2) := by decide +kernel
theorem dX4_init_10 : decode cX4_init 10 = .ok (.putfield 9, 3) := by decide +kernel
theorem dX4_init_13 : decode cX4_init 13 = .ok (.aload_n 0, 1) := by decide +kernel
theorem dX4_init_14 : decode cX4_init 14 = .ok (.bipush 6, 2) := by decide +kernel
theorem dX4_init_16 : decode cX4_init 16 = .ok (.newarray .int, 2) := by decide +kernel
theorem dX4_init_18 : decode cX4_init 18 = .ok (.putfield 15, 3) := by decide +kernel
theorem dX4_init_21 : decode cX4_init 21 = .ok (.aload_n 0, 1) := by decide +kernel
theorem dX4_init_22 : decode cX4_init 22 = .ok (.bipush 8, 2) := by decide +kernel
theorem dX4_init_24 : decode cX4_init 24 = .ok (.newarray .int, 2) := by decide +kernel
theorem dX4_init_26 : decode cX4_init 26 = .ok (.putfield 18, 3) := by decide +kernel
theorem dX4_init_29 : decode cX4_init 29 = .ok (.aload_n 0, 1) := by decide +kernel
theorem dX4_init_30 : decode cX4_init 30 = .ok (.iconst 1, 1) := by decide +kernel
theorem dX4_init_31 : decode cX4_init 31 = .ok (.putfield 21, 3) := by decide +kernel
theorem dX4_init_34 : decode cX4_init 34 = .ok (.iconst 0, 1) := by decide +kernel
theorem dX4_init_35 : decode cX4_init 35 = .ok (.istore_n 1, 1) := by decide +kernel
theorem dX4_init_36 : decode cX4_init 36 = .ok (.iload_n 1, 1) := by decide +kernel
theorem dX4_init_37 : decode cX4_init 37 = .ok (.aload_n 0, 1) := by decide +kernel
theorem dX4_init_38 : decode cX4_init 38 = .ok (.getfield 9, 3) := by decide +kernel
theorem dX4_init_41 : decode cX4_init 41 = .ok (.arraylength, 1) := by decide +kernel
theorem dX4_init_42 : decode cX4_init 42 = .ok (.if_icmp .ge 18, 3) := by decide +kernel
theorem dX4_init_45 : decode cX4_init 45 = .ok (.aload_n 0, 1) := by decide +kernel
theorem dX4_init_46 : decode cX4_init 46 = .ok (.getfield 9, 3) := by decide +kernel
theorem dX4_init_49 : decode cX4_init 49 = .ok (.iload_n 1, 1) := by decide +kernel
theorem dX4_init_50 : decode cX4_init 50 = .ok (.sipush 960, 3) := by decide +kernel
theorem dX4_init_53 : decode cX4_init 53 = .ok (.iastore, 1) := by decide +kernel
theorem dX4_init_54 : decode cX4_init 54 = .ok (.iinc 1 1, 3) := by decide +kernel
theorem dX4_init_57 : decode cX4_init 57 = .ok (.goto (-21), 3) := by decide +kernel
theorem dX4_init_60 : decode cX4_init 60 = .ok (.iconst 0, 1) := by decide +kernel
theorem dX4_init_61 : decode cX4_init 61 = .ok (.istore_n 1, 1) := by decide +kernel
theorem dX4_init_62 : decode cX4_init 62 = .ok (.iload_n 1, 1) := by decide +kernel
theorem dX4_init_63 : decode cX4_init 63 = .ok (.aload_n 0, 1) := by decide +kernel
theorem dX4_init_64 : decode cX4_init 64 = .ok (.getfield 15, 3) := by decide +kernel
theorem dX4_init_67 : decode cX4_init 67 = .ok (.arraylength, 1) := by decide +kernel
theorem dX4_init_68 : decode cX4_init 68 = .ok (.if_icmp .ge 16, 3) := by decide +kernel
theorem dX4_init_71 : decode cX4_init 71 = .ok (.aload_n 0, 1) := by decide +kernel
theorem dX4_init_72 : decode cX4_init 72 = .ok (.getfield 15, 3) := by decide +kernel
theorem dX4_init_75 : decode cX4_init 75 = .ok (.iload_n 1, 1) := by decide +kernel
theorem dX4_init_76 : decode cX4_init 76 = .ok (.iconst 4, 1) := by decide +kernel
theorem dX4_init_77 : decode cX4_init 77 = .ok (.iastore, 1) := by decide +kernel
theorem dX4_init_78 : decode cX4_init 78 = .ok (.iinc 1 1, 3) := by decide +kernel
theorem dX4_init_81 : decode cX4_init 81 = .ok (.goto (-19), 3) := by decide +kernel
theorem dX4_init_84 : decode cX4_init 84 = .ok (.return_, 1) := by decide +kernel
theorem dX4_copyFrom_0 : decode cX4_copyFrom 0 = .ok (.aload_n 1, 1) := by decide +kernel
theorem dX4_copyFrom_1 : decode cX4_copyFrom 1 = .ok (.getfield 9, 3) := by decide +kernel
theorem dX4_copyFrom_4 : decode cX4_copyFrom 4 = .ok (.iconst 0, 1) := by decide +kernel
theorem dX4_copyFrom_5 : decode cX4_copyFrom 5 = .ok (.aload_n 0, 1) := by decide +kernel
theorem dX4_copyFrom_6 : decode cX4_copyFrom 6 = .ok (.getfield 9, 3) := by decide +kernel
theorem dX4_copyFrom_9 : decode cX4_copyFrom 9 = .ok (.iconst 0, 1) := by decide +kernel
theorem dX4_copyFrom_10 : decode cX4_copyFrom 10 = .ok (.sipush 192, 3) := by decide +kernel
theorem dX4_copyFrom_13 : decode cX4_copyFrom 13 = .ok (.invokestatic 27, 3) := by decide +kernel
theorem dX4_copyFrom_16 : decode cX4_copyFrom 16 = .ok (.aload_n 1, 1) := by decide +kernel
theorem dX4_copyFrom_17 : decode cX4_copyFrom 17 = .ok (.getfield 15, 3) := by decide +kernel
theorem dX4_copyFrom_20 : decode cX4_copyFrom 20 = .ok (.iconst 0, 1) := by decide +kernel
theorem dX4_copyFrom_21 : decode cX4_copyFrom 21 = .ok (.aload_n 0, 1) := by decide +kernel
theorem dX4_copyFrom_22 : decode cX4_copyFrom 22 = .ok (.getfield 15, 3) := by decide +kernel
theorem dX4_copyFrom_25 : decode cX4_copyFrom 25 = .ok (.iconst 0, 1) := by decide +kernel
theorem dX4_copyFrom_26 : decode cX4_copyFrom 26 = .ok (.bipush 6, 2) := by decide +kernel
theorem dX4_copyFrom_28 : decode cX4_copyFrom 28 = .ok (.invokestatic 27, 3) := by decide +kernel
theorem dX4_copyFrom_31 : decode cX4_copyFrom 31 = .ok (.aload_n 1, 1) := by decide +kernel
theorem dX4_copyFrom_32 : decode cX4_copyFrom 32 = .ok (.getfield 18, 3) := by decide +kernel
theorem dX4_copyFrom_35 : decode cX4_copyFrom 35 = .ok (.iconst 0, 1) := by decide +kernel
theorem dX4_copyFrom_36 : decode cX4_copyFrom 36 = .ok (.aload_n 0, 1) := by decide +kernel
theorem dX4_copyFrom_37 : decode cX4_copyFrom 37 = .ok (.getfield 18, 3) := by decide +kernel
theorem dX4_copyFrom_40 : decode cX4_copyFrom 40 = .ok (.iconst 0, 1) := by decide +kernel
theorem dX4_copyFrom_41 : decode cX4_copyFrom 41 = .ok (.bipush 8, 2) := by decide +kernel
theorem dX4_copyFrom_43 : decode cX4_copyFrom 43 = .ok (.invokestatic 27, 3) := by decide +kernel
theorem dX4_copyFrom_46 : decode cX4_copyFrom 46 = .ok (.aload_n 0, 1) := by decide +kernel
theorem dX4_copyFrom_47 : decode cX4_copyFrom 47 = .ok (.aload_n 1, 1) := by decide +kernel
theorem dX4_copyFrom_48 : decode cX4_copyFrom 48 = .ok (.getfield 21, 3) := by decide +kernel
theorem dX4_copyFrom_51 : decode cX4_copyFrom 51 = .ok (.putfield 21, 3) := by decide +kernel
theorem dX4_copyFrom_54 : decode cX4_copyFrom 54 = .ok (.return_, 1) := by decide +kernel
set_option maxRecDepth 20000 in
theorem ggX4_cellAt_X7_isCell : GoodIn wsX4_cellAt wsX7_isCell := goodIn_r _ [4] (by decide +kernel) (by decide +kernel)
set_option maxRecDepth 20000 in
theorem gX4_cellAt_X7_isCell_n33 : GoodIn wsX4_cellAt (wsX7_isCell) := ggX4_cellAt_X7_isCell
set_option maxRecDepth 20000 in
theorem ggX4_cellAt_X4_cellIndex : GoodIn wsX4_cellAt wsX4_cellIndex := goodIn_r _ [8] (by decide +kernel) (by decide +kernel)
set_option maxRecDepth 20000 in
theorem gX4_cellAt_X4_cellIndex : GoodIn wsX4_cellAt (va_wsS RX4 37 yX4_cellIndex wsX4_cellIndex) := goodIn_app (goodIn_of _ (by decide +kernel)) ggX4_cellAt_X4_cellIndex
theorem dX4_cellAt_0 : decode cX4_cellAt 0 = .ok (.iload_n 1, 1) := by decide +kernel
theorem dX4_cellAt_1 : decode cX4_cellAt 1 = .ok (.iload_n 2, 1) := by decide +kernel
theorem dX4_cellAt_2 : decode cX4_cellAt 2 = .ok (.iload_n 3, 1) := by decide +kernel
theorem dX4_cellAt_3 : decode cX4_cellAt 3 = .ok (.invokestatic 33, 3) := by decide +kernel
theorem dX4_cellAt_6 : decode cX4_cellAt 6 = .ok (.ifCond .eq 17, 3) := by decide +kernel
theorem dX4_cellAt_9 : decode cX4_cellAt 9 = .ok (.aload_n 0, 1) := by decide +kernel
theorem dX4_cellAt_10 : decode cX4_cellAt 10 = .ok (.getfield 9, 3) := by decide +kernel
theorem dX4_cellAt_13 : decode cX4_cellAt 13 = .ok (.iload_n 1, 1) := by decide +kernel
theorem dX4_cellAt_14 : decode cX4_cellAt 14 = .ok (.iload_n 2, 1) := by decide +kernel
theorem dX4_cellAt_15 : decode cX4_cellAt 15 = .ok (.iload_n 3, 1) := by decide +kernel
theorem dX4_cellAt_16 : decode cX4_cellAt 16 = .ok (.invokestatic 37, 3) := by decide +kernel
theorem dX4_cellAt_19 : decode cX4_cellAt 19 = .ok (.iaload, 1) := by decide +kernel
theorem dX4_cellAt_20 : decode cX4_cellAt 20 = .ok (.goto 6, 3) := by decide +kernel
theorem dX4_cellAt_23 : decode cX4_cellAt 23 = .ok (.sipush 960, 3) := by decide +kernel
theorem dX4_cellAt_26 : decode cX4_cellAt 26 = .ok (.ireturn, 1) := by decide +kernel
set_option maxRecDepth 20000 in
theorem ggX4_putCell_X7_isCell : GoodIn wsX4_putCell wsX7_isCell := goodIn_r _ [4] (by decide +kernel) (by decide +kernel)
set_option maxRecDepth 20000 in
theorem gX4_putCell_X7_isCell_n33 : GoodIn wsX4_putCell (wsX7_isCell) := ggX4_putCell_X7_isCell
set_option maxRecDepth 20000 in
theorem ggX4_putCell_X4_cellIndex : GoodIn wsX4_putCell wsX4_cellIndex := goodIn_r _ [8] (by decide +kernel) (by decide +kernel)
set_option maxRecDepth 20000 in
theorem gX4_putCell_X4_cellIndex : GoodIn wsX4_putCell (va_wsS RX4 37 yX4_cellIndex wsX4_cellIndex) := goodIn_app (goodIn_of _ (by decide +kernel)) ggX4_putCell_X4_cellIndex
theorem dX4_putCell_0 : decode cX4_putCell 0 = .ok (.iload_n 1, 1) := by decide +kernel
theorem dX4_putCell_1 : decode cX4_putCell 1 = .ok (.iload_n 2, 1) := by decide +kernel
theorem dX4_putCell_2 : decode cX4_putCell 2 = .ok (.iload_n 3, 1) := by decide +kernel
theorem dX4_putCell_3 : decode cX4_putCell 3 = .ok (.invokestatic 33, 3) := by decide +kernel
theorem dX4_putCell_6 : decode cX4_putCell 6 = .ok (.ifCond .eq 16, 3) := by decide +kernel
theorem dX4_putCell_9 : decode cX4_putCell 9 = .ok (.aload_n 0, 1) := by decide +kernel
theorem dX4_putCell_10 : decode cX4_putCell 10 = .ok (.getfield 9, 3) := by decide +kernel
theorem dX4_putCell_13 : decode cX4_putCell 13 = .ok (.iload_n 1, 1) := by decide +kernel
theorem dX4_putCell_14 : decode cX4_putCell 14 = .ok (.iload_n 2, 1) := by decide +kernel
theorem dX4_putCell_15 : decode cX4_putCell 15 = .ok (.iload_n 3, 1) := by decide +kernel
theorem dX4_putCell_16 : decode cX4_putCell 16 = .ok (.invokestatic 37, 3) := by decide +kernel
theorem dX4_putCell_19 : decode cX4_putCell 19 = .ok (.iload 4, 2) := by decide +kernel
theorem dX4_putCell_21 : decode cX4_putCell 21 = .ok (.iastore, 1) := by decide +kernel
theorem dX4_putCell_22 : decode cX4_putCell 22 = .ok (.return_, 1) := by decide +kernel
theorem dX4_cellIndex_0 : decode cX4_cellIndex 0 = .ok (.iload_n 0, 1) := by decide +kernel
theorem dX4_cellIndex_1 : decode cX4_cellIndex 1 = .ok (.bipush 8, 2) := by decide +kernel
theorem dX4_cellIndex_3 : decode cX4_cellIndex 3 = .ok (.imul, 1) := by decide +kernel
theorem dX4_cellIndex_4 : decode cX4_cellIndex 4 = .ok (.iload_n 1, 1) := by decide +kernel
theorem dX4_cellIndex_5 : decode cX4_cellIndex 5 = .ok (.iadd, 1) := by decide +kernel
theorem dX4_cellIndex_6 : decode cX4_cellIndex 6 = .ok (.iconst 4, 1) := by decide +kernel
theorem dX4_cellIndex_7 : decode cX4_cellIndex 7 = .ok (.imul, 1) := by decide +kernel
theorem dX4_cellIndex_8 : decode cX4_cellIndex 8 = .ok (.iload_n 2, 1) := by decide +kernel
theorem dX4_cellIndex_9 : decode cX4_cellIndex 9 = .ok (.iadd, 1) := by decide +kernel
theorem dX4_cellIndex_10 : decode cX4_cellIndex 10 = .ok (.ireturn, 1) := by decide +kernel
set_option maxRecDepth 20000 in
theorem ggX4_rowsOf_X7_isIndex : GoodIn wsX4_rowsOf wsX7_isIndex := goodIn_r _ [4] (by decide +kernel) (by decide +kernel)
set_option maxRecDepth 20000 in
theorem gX4_rowsOf_X7_isIndex_n41 : GoodIn wsX4_rowsOf (wsX7_isIndex) := ggX4_rowsOf_X7_isIndex
theorem dX4_rowsOf_0 : decode cX4_rowsOf 0 = .ok (.iload_n 1, 1) := by decide +kernel
theorem dX4_rowsOf_1 : decode cX4_rowsOf 1 = .ok (.bipush 6, 2) := by decide +kernel
theorem dX4_rowsOf_3 : decode cX4_rowsOf 3 = .ok (.invokestatic 41, 3) := by decide +kernel
theorem dX4_rowsOf_6 : decode cX4_rowsOf 6 = .ok (.ifCond .eq 12, 3) := by decide +kernel
theorem dX4_rowsOf_9 : decode cX4_rowsOf 9 = .ok (.aload_n 0, 1) := by decide +kernel
theorem dX4_rowsOf_10 : decode cX4_rowsOf 10 = .ok (.getfield 15, 3) := by decide +kernel
theorem dX4_rowsOf_13 : decode cX4_rowsOf 13 = .ok (.iload_n 1, 1) := by decide +kernel
theorem dX4_rowsOf_14 : decode cX4_rowsOf 14 = .ok (.iaload, 1) := by decide +kernel
theorem dX4_rowsOf_15 : decode cX4_rowsOf 15 = .ok (.goto 4, 3) := by decide +kernel
theorem dX4_rowsOf_18 : decode cX4_rowsOf 18 = .ok (.iconst 0, 1) := by decide +kernel
theorem dX4_rowsOf_19 : decode cX4_rowsOf 19 = .ok (.ireturn, 1) := by decide +kernel
set_option maxRecDepth 20000 in
theorem ggX4_putRows_X7_isIndex : GoodIn wsX4_putRows wsX7_isIndex := goodIn_r _ [4] (by decide +kernel) (by decide +kernel)
set_option maxRecDepth 20000 in
theorem gX4_putRows_X7_isIndex_n41 : GoodIn wsX4_putRows (wsX7_isIndex) := ggX4_putRows_X7_isIndex
theorem dX4_putRows_0 : decode cX4_putRows 0 = .ok (.iload_n 1, 1) := by decide +kernel
theorem dX4_putRows_1 : decode cX4_putRows 1 = .ok (.bipush 6, 2) := by decide +kernel
theorem dX4_putRows_3 : decode cX4_putRows 3 = .ok (.invokestatic 41, 3) := by decide +kernel
theorem dX4_putRows_6 : decode cX4_putRows 6 = .ok (.ifCond .eq 10, 3) := by decide +kernel
theorem dX4_putRows_9 : decode cX4_putRows 9 = .ok (.aload_n 0, 1) := by decide +kernel
theorem dX4_putRows_10 : decode cX4_putRows 10 = .ok (.getfield 15, 3) := by decide +kernel
theorem dX4_putRows_13 : decode cX4_putRows 13 = .ok (.iload_n 1, 1) := by decide +kernel
theorem dX4_putRows_14 : decode cX4_putRows 14 = .ok (.iload_n 2, 1) := by decide +kernel
theorem dX4_putRows_15 : decode cX4_putRows 15 = .ok (.iastore, 1) := by decide +kernel
theorem dX4_putRows_16 : decode cX4_putRows 16 = .ok (.return_, 1) := by decide +kernel
set_option maxRecDepth 20000 in
theorem ggX4_patternAt_X7_isIndex : GoodIn wsX4_patternAt wsX7_isIndex := goodIn_r _ [5] (by decide +kernel) (by decide +kernel)
set_option maxRecDepth 20000 in
theorem gX4_patternAt_X7_isIndex_n41 : GoodIn wsX4_patternAt (wsX7_isIndex) := ggX4_patternAt_X7_isIndex
theorem dX4_patternAt_0 : decode cX4_patternAt 0 = .ok (.iload_n 1, 1) := by decide +kernel
theorem dX4_patternAt_1 : decode cX4_patternAt 1 = .ok (.aload_n 0, 1) := by decide +kernel
theorem dX4_patternAt_2 : decode cX4_patternAt 2 = .ok (.getfield 21, 3) := by decide +kernel
theorem dX4_patternAt_5 : decode cX4_patternAt 5 = .ok (.invokestatic 41, 3) := by decide +kernel
theorem dX4_patternAt_8 : decode cX4_patternAt 8 = .ok (.ifCond .eq 18, 3) := by decide +kernel
theorem dX4_patternAt_11 : decode cX4_patternAt 11 = .ok (.iload_n 1, 1) := by decide +kernel
theorem dX4_patternAt_12 : decode cX4_patternAt 12 = .ok (.bipush 8, 2) := by decide +kernel
theorem dX4_patternAt_14 : decode cX4_patternAt 14 = .ok (.if_icmp .ge 12, 3) := by decide +kernel
theorem dX4_patternAt_17 : decode cX4_patternAt 17 = .ok (.aload_n 0, 1) := by decide +kernel
theorem dX4_patternAt_18 : decode cX4_patternAt 18 = .ok (.getfield 18, 3) := by decide +kernel
theorem dX4_patternAt_21 : decode cX4_patternAt 21 = .ok (.iload_n 1, 1) := by decide +kernel
theorem dX4_patternAt_22 : decode cX4_patternAt 22 = .ok (.iaload, 1) := by decide +kernel
theorem dX4_patternAt_23 : decode cX4_patternAt 23 = .ok (.goto 4, 3) := by decide +kernel
theorem dX4_patternAt_26 : decode cX4_patternAt 26 = .ok (.iconst (-1), 1) := by decide +kernel
theorem dX4_patternAt_27 : decode cX4_patternAt 27 = .ok (.ireturn, 1) := by decide +kernel
set_option maxRecDepth 20000 in
theorem ggX4_putPlace_X7_isIndex : GoodIn wsX4_putPlace wsX7_isIndex := goodIn_r _ [9] (by decide +kernel) (by decide +kernel)
set_option maxRecDepth 20000 in
theorem gX4_putPlace_X7_isIndex_n41 : GoodIn wsX4_putPlace (wsX7_isIndex) := ggX4_putPlace_X7_isIndex
theorem dX4_putPlace_0 : decode cX4_putPlace 0 = .ok (.iload_n 1, 1) := by decide +kernel
theorem dX4_putPlace_1 : decode cX4_putPlace 1 = .ok (.bipush 8, 2) := by decide +kernel
theorem dX4_putPlace_3 : decode cX4_putPlace 3 = .ok (.invokestatic 41, 3) := by decide +kernel
theorem dX4_putPlace_6 : decode cX4_putPlace 6 = .ok (.ifCond .eq 24, 3) := by decide +kernel
theorem dX4_putPlace_9 : decode cX4_putPlace 9 = .ok (.aload_n 0, 1) := by decide +kernel
theorem dX4_putPlace_10 : decode cX4_putPlace 10 = .ok (.getfield 18, 3) := by decide +kernel
theorem dX4_putPlace_13 : decode cX4_putPlace 13 = .ok (.iload_n 1, 1) := by decide +kernel
theorem dX4_putPlace_14 : decode cX4_putPlace 14 = .ok (.iload_n 2, 1) := by decide +kernel
theorem dX4_putPlace_15 : decode cX4_putPlace 15 = .ok (.iastore, 1) := by decide +kernel
theorem dX4_putPlace_16 : decode cX4_putPlace 16 = .ok (.aload_n 0, 1) := by decide +kernel
theorem dX4_putPlace_17 : decode cX4_putPlace 17 = .ok (.aload_n 0, 1) := by decide +kernel
theorem dX4_putPlace_18 : decode cX4_putPlace 18 = .ok (.getfield 21, 3) := by decide +kernel
theorem dX4_putPlace_21 : decode cX4_putPlace 21 = .ok (.iload_n 1, 1) := by decide +kernel
theorem dX4_putPlace_22 : decode cX4_putPlace 22 = .ok (.iconst 1, 1) := by decide +kernel
theorem dX4_putPlace_23 : decode cX4_putPlace 23 = .ok (.iadd, 1) := by decide +kernel
theorem dX4_putPlace_24 : decode cX4_putPlace 24 = .ok (.invokestatic 45, 3) := by decide +kernel
theorem dX4_putPlace_27 : decode cX4_putPlace 27 = .ok (.putfield 21, 3) := by decide +kernel
theorem dX4_putPlace_30 : decode cX4_putPlace 30 = .ok (.return_, 1) := by decide +kernel
set_option maxRecDepth 20000 in
theorem ggX4_patternFact_X4_rowsOf : GoodIn wsX4_patternFact wsX4_rowsOf := goodIn_r _ [5, 6, 7, 8, 9, 63, 64, 65, 66] (by decide +kernel) (by decide +kernel)
set_option maxRecDepth 20000 in
theorem gX4_patternFact_X4_rowsOf : GoodIn wsX4_patternFact (wsV RX4 51 RX4 yX4_rowsOf wsX4_rowsOf) := goodIn_app (goodIn_of _ (by decide +kernel)) ggX4_patternFact_X4_rowsOf
set_option maxRecDepth 20000 in
theorem ggX4_patternFact_X4_countCells : GoodIn wsX4_patternFact wsX4_countCells := goodIn_r _ [13, 1, 2, 3, 4, 5, 6, 7, 8, 9, 14, 15, 16, 17, 18, 19, 20, 21, 22, 23, 24, 25, 26, 27, 28, 29, 30, 31, 32, 33, 34, 35, 36, 37, 38, 39, 63, 64, 65, 66] (by decide +kernel) (by decide +kernel)
set_option maxRecDepth 20000 in
theorem gX4_patternFact_X4_countCells : GoodIn wsX4_patternFact (wsV RX4 55 RX4 yX4_countCells wsX4_countCells) := goodIn_app (goodIn_of _ (by decide +kernel)) ggX4_patternFact_X4_countCells
set_option maxRecDepth 20000 in
theorem ggX4_patternFact_X4_countPlaces : GoodIn wsX4_patternFact wsX4_countPlaces := goodIn_r _ [43, 44, 45, 46, 47, 4, 48, 49, 7, 8, 9, 63, 64, 65, 66] (by decide +kernel) (by decide +kernel)
set_option maxRecDepth 20000 in
theorem gX4_patternFact_X4_countPlaces : GoodIn wsX4_patternFact (wsV RX4 59 RX4 yX4_countPlaces wsX4_countPlaces) := goodIn_app (goodIn_of _ (by decide +kernel)) ggX4_patternFact_X4_countPlaces
set_option maxRecDepth 20000 in
theorem ggX4_patternFact_X4_playable : GoodIn wsX4_patternFact wsX4_playable := goodIn_r _ [53, 54, 55, 56, 4, 57, 44, 45, 46, 47, 48, 49, 7, 8, 9, 58, 59, 60, 61, 1, 2, 3, 5, 6, 14, 15, 16, 17, 18, 19, 20, 21, 22, 23, 24, 25, 26, 27, 28, 29, 30, 31, 32, 33, 62, 63, 64, 65, 66] (by decide +kernel) (by decide +kernel)
set_option maxRecDepth 20000 in
theorem gX4_patternFact_X4_playable : GoodIn wsX4_patternFact (wsV RX4 62 RX4 yX4_playable wsX4_playable) := goodIn_app (goodIn_of _ (by decide +kernel)) ggX4_patternFact_X4_playable
theorem dX4_patternFact_0 : decode cX4_patternFact 0 = .ok (.iload_n 2, 1) := by decide +kernel
theorem dX4_patternFact_1 : decode cX4_patternFact 1 = .ok (.tableswitch 57 0 3 #[31, 37, 44, 51], 31) := by decide +kernel
theorem dX4_patternFact_32 : decode cX4_patternFact 32 = .ok (.aload_n 0, 1) := by decide +kernel
theorem dX4_patternFact_33 : decode cX4_patternFact 33 = .ok (.iload_n 1, 1) := by decide +kernel
theorem dX4_patternFact_34 : decode cX4_patternFact 34 = .ok (.invokevirtual 51, 3) := by decide +kernel
theorem dX4_patternFact_37 : decode cX4_patternFact 37 = .ok (.ireturn, 1) := by decide +kernel
theorem dX4_patternFact_38 : decode cX4_patternFact 38 = .ok (.aload_n 0, 1) := by decide +kernel
theorem dX4_patternFact_39 : decode cX4_patternFact 39 = .ok (.iload_n 1, 1) := by decide +kernel
theorem dX4_patternFact_40 : decode cX4_patternFact 40 = .ok (.iconst 0, 1) := by decide +kernel
theorem dX4_patternFact_41 : decode cX4_patternFact 41 = .ok (.invokevirtual 55, 3) := by decide +kernel
theorem dX4_patternFact_44 : decode cX4_patternFact 44 = .ok (.ireturn, 1) := by decide +kernel
theorem dX4_patternFact_45 : decode cX4_patternFact 45 = .ok (.aload_n 0, 1) := by decide +kernel
theorem dX4_patternFact_46 : decode cX4_patternFact 46 = .ok (.iload_n 1, 1) := by decide +kernel
theorem dX4_patternFact_47 : decode cX4_patternFact 47 = .ok (.iconst 1, 1) := by decide +kernel
theorem dX4_patternFact_48 : decode cX4_patternFact 48 = .ok (.invokevirtual 55, 3) := by decide +kernel
theorem dX4_patternFact_51 : decode cX4_patternFact 51 = .ok (.ireturn, 1) := by decide +kernel
theorem dX4_patternFact_52 : decode cX4_patternFact 52 = .ok (.aload_n 0, 1) := by decide +kernel
theorem dX4_patternFact_53 : decode cX4_patternFact 53 = .ok (.iload_n 1, 1) := by decide +kernel
theorem dX4_patternFact_54 : decode cX4_patternFact 54 = .ok (.invokevirtual 59, 3) := by decide +kernel
theorem dX4_patternFact_57 : decode cX4_patternFact 57 = .ok (.ireturn, 1) := by decide +kernel
theorem dX4_patternFact_58 : decode cX4_patternFact 58 = .ok (.aload_n 0, 1) := by decide +kernel
theorem dX4_patternFact_59 : decode cX4_patternFact 59 = .ok (.invokevirtual 62, 3) := by decide +kernel
theorem dX4_patternFact_62 : decode cX4_patternFact 62 = .ok (.iconst 1, 1) := by decide +kernel
theorem dX4_patternFact_63 : decode cX4_patternFact 63 = .ok (.iload_n 1, 1) := by decide +kernel
theorem dX4_patternFact_64 : decode cX4_patternFact 64 = .ok (.ishl, 1) := by decide +kernel
theorem dX4_patternFact_65 : decode cX4_patternFact 65 = .ok (.iand, 1) := by decide +kernel
theorem dX4_patternFact_66 : decode cX4_patternFact 66 = .ok (.ifCond .eq 7, 3) := by decide +kernel
theorem dX4_patternFact_69 : decode cX4_patternFact 69 = .ok (.iconst 1, 1) := by decide +kernel
theorem dX4_patternFact_70 : decode cX4_patternFact 70 = .ok (.goto 4, 3) := by decide +kernel
theorem dX4_patternFact_73 : decode cX4_patternFact 73 = .ok (.iconst 0, 1) := by decide +kernel
theorem dX4_patternFact_74 : decode cX4_patternFact 74 = .ok (.ireturn, 1) := by decide +kernel
set_option maxRecDepth 20000 in
theorem ggX4_countCells_X4_rowsOf : GoodIn wsX4_countCells wsX4_rowsOf := goodIn_r _ [5, 6, 7, 8, 9, 36, 37, 38, 39] (by decide +kernel) (by decide +kernel)
set_option maxRecDepth 20000 in
theorem gX4_countCells_X4_rowsOf : GoodIn wsX4_countCells (wsV RX4 51 RX4 yX4_rowsOf wsX4_rowsOf) := goodIn_app (goodIn_of _ (by decide +kernel)) ggX4_countCells_X4_rowsOf
set_option maxRecDepth 20000 in
theorem ggX4_countCells_X4_cellAt : GoodIn wsX4_countCells wsX4_cellAt := goodIn_r _ [13, 14, 15, 8, 16, 17, 18, 4, 19, 36, 37, 38, 39] (by decide +kernel) (by decide +kernel)
set_option maxRecDepth 20000 in
theorem gX4_countCells_X4_cellAt : GoodIn wsX4_countCells (wsV RX4 66 RX4 yX4_cellAt wsX4_cellAt) := goodIn_app (goodIn_of _ (by decide +kernel)) ggX4_countCells_X4_cellAt
set_option maxRecDepth 20000 in
theorem ggX4_countCells_X0_isCall : GoodIn wsX4_countCells wsX0_isCall := goodIn_r _ [23, 24, 25, 22, 26, 27, 28, 29] (by decide +kernel) (by decide +kernel)
set_option maxRecDepth 20000 in
theorem gX4_countCells_X0_isCall : GoodIn wsX4_countCells (va_wsS RX4 69 yX0_isCall wsX0_isCall) := goodIn_app (goodIn_of _ (by decide +kernel)) ggX4_countCells_X0_isCall
set_option maxRecDepth 20000 in
theorem ggX4_countCells_X0_isTone : GoodIn wsX4_countCells wsX0_isTone := goodIn_r _ [32, 33, 34, 22, 35] (by decide +kernel) (by decide +kernel)
set_option maxRecDepth 20000 in
theorem gX4_countCells_X0_isTone : GoodIn wsX4_countCells (va_wsS RX4 73 yX0_isTone wsX0_isTone) := goodIn_app (goodIn_of _ (by decide +kernel)) ggX4_countCells_X0_isTone
theorem dX4_countCells_0 : decode cX4_countCells 0 = .ok (.iconst 0, 1) := by decide +kernel
theorem dX4_countCells_1 : decode cX4_countCells 1 = .ok (.istore_n 3, 1) := by decide +kernel
theorem dX4_countCells_2 : decode cX4_countCells 2 = .ok (.iconst 0, 1) := by decide +kernel
theorem dX4_countCells_3 : decode cX4_countCells 3 = .ok (.istore 4, 2) := by decide +kernel
theorem dX4_countCells_5 : decode cX4_countCells 5 = .ok (.iload 4, 2) := by decide +kernel
theorem dX4_countCells_7 : decode cX4_countCells 7 = .ok (.aload_n 0, 1) := by decide +kernel
theorem dX4_countCells_8 : decode cX4_countCells 8 = .ok (.iload_n 1, 1) := by decide +kernel
theorem dX4_countCells_9 : decode cX4_countCells 9 = .ok (.invokevirtual 51, 3) := by decide +kernel
theorem dX4_countCells_12 : decode cX4_countCells 12 = .ok (.if_icmp .ge 61, 3) := by decide +kernel
theorem dX4_countCells_15 : decode cX4_countCells 15 = .ok (.iconst 0, 1) := by decide +kernel
theorem dX4_countCells_16 : decode cX4_countCells 16 = .ok (.istore 5, 2) := by decide +kernel
theorem dX4_countCells_18 : decode cX4_countCells 18 = .ok (.iload 5, 2) := by decide +kernel
theorem dX4_countCells_20 : decode cX4_countCells 20 = .ok (.iconst 4, 1) := by decide +kernel
theorem dX4_countCells_21 : decode cX4_countCells 21 = .ok (.if_icmp .ge 46, 3) := by decide +kernel
theorem dX4_countCells_24 : decode cX4_countCells 24 = .ok (.aload_n 0, 1) := by decide +kernel
theorem dX4_countCells_25 : decode cX4_countCells 25 = .ok (.iload_n 1, 1) := by decide +kernel
theorem dX4_countCells_26 : decode cX4_countCells 26 = .ok (.iload 4, 2) := by decide +kernel
theorem dX4_countCells_28 : decode cX4_countCells 28 = .ok (.iload 5, 2) := by decide +kernel
theorem dX4_countCells_30 : decode cX4_countCells 30 = .ok (.invokevirtual 66, 3) := by decide +kernel
theorem dX4_countCells_33 : decode cX4_countCells 33 = .ok (.istore 6, 2) := by decide +kernel
theorem dX4_countCells_35 : decode cX4_countCells 35 = .ok (.iload_n 2, 1) := by decide +kernel
theorem dX4_countCells_36 : decode cX4_countCells 36 = .ok (.ifCond .eq 14, 3) := by decide +kernel
theorem dX4_countCells_39 : decode cX4_countCells 39 = .ok (.iload 6, 2) := by decide +kernel
theorem dX4_countCells_41 : decode cX4_countCells 41 = .ok (.invokestatic 69, 3) := by decide +kernel
theorem dX4_countCells_44 : decode cX4_countCells 44 = .ok (.ifCond .eq 17, 3) := by decide +kernel
theorem dX4_countCells_47 : decode cX4_countCells 47 = .ok (.goto 11, 3) := by decide +kernel
theorem dX4_countCells_50 : decode cX4_countCells 50 = .ok (.iload 6, 2) := by decide +kernel
theorem dX4_countCells_52 : decode cX4_countCells 52 = .ok (.invokestatic 73, 3) := by decide +kernel
theorem dX4_countCells_55 : decode cX4_countCells 55 = .ok (.ifCond .eq 6, 3) := by decide +kernel
theorem dX4_countCells_58 : decode cX4_countCells 58 = .ok (.iinc 3 1, 3) := by decide +kernel
theorem dX4_countCells_61 : decode cX4_countCells 61 = .ok (.iinc 5 1, 3) := by decide +kernel
theorem dX4_countCells_64 : decode cX4_countCells 64 = .ok (.goto (-46), 3) := by decide +kernel
theorem dX4_countCells_67 : decode cX4_countCells 67 = .ok (.iinc 4 1, 3) := by decide +kernel
theorem dX4_countCells_70 : decode cX4_countCells 70 = .ok (.goto (-65), 3) := by decide +kernel
theorem dX4_countCells_73 : decode cX4_countCells 73 = .ok (.iload_n 3, 1) := by decide +kernel
theorem dX4_countCells_74 : decode cX4_countCells 74 = .ok (.ireturn, 1) := by decide +kernel
set_option maxRecDepth 20000 in
theorem ggX4_countPlaces_X4_patternAt : GoodIn wsX4_countPlaces wsX4_patternAt := goodIn_r _ [6, 1, 7, 8, 9, 10, 11, 12, 13, 14] (by decide +kernel) (by decide +kernel)
set_option maxRecDepth 20000 in
theorem gX4_countPlaces_X4_patternAt : GoodIn wsX4_countPlaces (wsV RX4 76 RX4 yX4_patternAt wsX4_patternAt) := goodIn_app (goodIn_of _ (by decide +kernel)) ggX4_countPlaces_X4_patternAt
theorem dX4_countPlaces_0 : decode cX4_countPlaces 0 = .ok (.iconst 0, 1) := by decide +kernel
theorem dX4_countPlaces_1 : decode cX4_countPlaces 1 = .ok (.istore_n 2, 1) := by decide +kernel
theorem dX4_countPlaces_2 : decode cX4_countPlaces 2 = .ok (.iconst 0, 1) := by decide +kernel
theorem dX4_countPlaces_3 : decode cX4_countPlaces 3 = .ok (.istore_n 3, 1) := by decide +kernel
theorem dX4_countPlaces_4 : decode cX4_countPlaces 4 = .ok (.iload_n 3, 1) := by decide +kernel
theorem dX4_countPlaces_5 : decode cX4_countPlaces 5 = .ok (.aload_n 0, 1) := by decide +kernel
theorem dX4_countPlaces_6 : decode cX4_countPlaces 6 = .ok (.getfield 21, 3) := by decide +kernel
theorem dX4_countPlaces_9 : decode cX4_countPlaces 9 = .ok (.if_icmp .ge 21, 3) := by decide +kernel
theorem dX4_countPlaces_12 : decode cX4_countPlaces 12 = .ok (.aload_n 0, 1) := by decide +kernel
theorem dX4_countPlaces_13 : decode cX4_countPlaces 13 = .ok (.iload_n 3, 1) := by decide +kernel
theorem dX4_countPlaces_14 : decode cX4_countPlaces 14 = .ok (.invokevirtual 76, 3) := by decide +kernel
theorem dX4_countPlaces_17 : decode cX4_countPlaces 17 = .ok (.iload_n 1, 1) := by decide +kernel
theorem dX4_countPlaces_18 : decode cX4_countPlaces 18 = .ok (.if_icmp .ne 6, 3) := by decide +kernel
theorem dX4_countPlaces_21 : decode cX4_countPlaces 21 = .ok (.iinc 2 1, 3) := by decide +kernel
theorem dX4_countPlaces_24 : decode cX4_countPlaces 24 = .ok (.iinc 3 1, 3) := by decide +kernel
theorem dX4_countPlaces_27 : decode cX4_countPlaces 27 = .ok (.goto (-23), 3) := by decide +kernel
theorem dX4_countPlaces_30 : decode cX4_countPlaces 30 = .ok (.iload_n 2, 1) := by decide +kernel
theorem dX4_countPlaces_31 : decode cX4_countPlaces 31 = .ok (.ireturn, 1) := by decide +kernel
set_option maxRecDepth 20000 in
theorem ggX4_playable_X4_inOrder : GoodIn wsX4_playable wsX4_inOrder := goodIn_r _ [5, 6, 7, 8, 9, 4, 10, 11, 12, 13, 14, 45, 46, 47, 48] (by decide +kernel) (by decide +kernel)
set_option maxRecDepth 20000 in
theorem gX4_playable_X4_inOrder : GoodIn wsX4_playable (wsV RX4 79 RX4 yX4_inOrder wsX4_inOrder) := goodIn_app (goodIn_of _ (by decide +kernel)) ggX4_playable_X4_inOrder
set_option maxRecDepth 20000 in
theorem ggX4_playable_X4_calledFrom : GoodIn wsX4_playable wsX4_calledFrom := goodIn_r _ [18, 19, 20, 21, 4, 22, 23, 12, 13, 14, 24, 25, 26, 27, 28, 29, 30, 31, 32, 33, 34, 35, 36, 37, 38, 39, 40, 41, 42, 43, 44, 45, 46, 47, 48] (by decide +kernel) (by decide +kernel)
set_option maxRecDepth 20000 in
theorem gX4_playable_X4_calledFrom : GoodIn wsX4_playable (wsV RX4 82 RX4 yX4_calledFrom wsX4_calledFrom) := goodIn_app (goodIn_of _ (by decide +kernel)) ggX4_playable_X4_calledFrom
theorem dX4_playable_0 : decode cX4_playable 0 = .ok (.aload_n 0, 1) := by decide +kernel
theorem dX4_playable_1 : decode cX4_playable 1 = .ok (.invokevirtual 79, 3) := by decide +kernel
theorem dX4_playable_4 : decode cX4_playable 4 = .ok (.istore_n 1, 1) := by decide +kernel
theorem dX4_playable_5 : decode cX4_playable 5 = .ok (.iconst 0, 1) := by decide +kernel
theorem dX4_playable_6 : decode cX4_playable 6 = .ok (.istore_n 2, 1) := by decide +kernel
theorem dX4_playable_7 : decode cX4_playable 7 = .ok (.iconst 0, 1) := by decide +kernel
theorem dX4_playable_8 : decode cX4_playable 8 = .ok (.istore_n 3, 1) := by decide +kernel
theorem dX4_playable_9 : decode cX4_playable 9 = .ok (.iload_n 3, 1) := by decide +kernel
theorem dX4_playable_10 : decode cX4_playable 10 = .ok (.bipush 6, 2) := by decide +kernel
theorem dX4_playable_12 : decode cX4_playable 12 = .ok (.if_icmp .ge 59, 3) := by decide +kernel
theorem dX4_playable_15 : decode cX4_playable 15 = .ok (.iconst 0, 1) := by decide +kernel
theorem dX4_playable_16 : decode cX4_playable 16 = .ok (.istore 4, 2) := by decide +kernel
theorem dX4_playable_18 : decode cX4_playable 18 = .ok (.iload 4, 2) := by decide +kernel
theorem dX4_playable_20 : decode cX4_playable 20 = .ok (.bipush 6, 2) := by decide +kernel
theorem dX4_playable_22 : decode cX4_playable 22 = .ok (.if_icmp .ge 43, 3) := by decide +kernel
theorem dX4_playable_25 : decode cX4_playable 25 = .ok (.iconst 1, 1) := by decide +kernel
theorem dX4_playable_26 : decode cX4_playable 26 = .ok (.iload 4, 2) := by decide +kernel
theorem dX4_playable_28 : decode cX4_playable 28 = .ok (.ishl, 1) := by decide +kernel
theorem dX4_playable_29 : decode cX4_playable 29 = .ok (.istore 5, 2) := by decide +kernel
theorem dX4_playable_31 : decode cX4_playable 31 = .ok (.iload_n 1, 1) := by decide +kernel
theorem dX4_playable_32 : decode cX4_playable 32 = .ok (.iload 5, 2) := by decide +kernel
theorem dX4_playable_34 : decode cX4_playable 34 = .ok (.iand, 1) := by decide +kernel
theorem dX4_playable_35 : decode cX4_playable 35 = .ok (.ifCond .eq 24, 3) := by decide +kernel
theorem dX4_playable_38 : decode cX4_playable 38 = .ok (.iload_n 2, 1) := by decide +kernel
theorem dX4_playable_39 : decode cX4_playable 39 = .ok (.iload 5, 2) := by decide +kernel
theorem dX4_playable_41 : decode cX4_playable 41 = .ok (.iand, 1) := by decide +kernel
theorem dX4_playable_42 : decode cX4_playable 42 = .ok (.ifCond .ne 17, 3) := by decide +kernel
theorem dX4_playable_45 : decode cX4_playable 45 = .ok (.iload_n 2, 1) := by decide +kernel
theorem dX4_playable_46 : decode cX4_playable 46 = .ok (.iload 5, 2) := by decide +kernel
theorem dX4_playable_48 : decode cX4_playable 48 = .ok (.ior, 1) := by decide +kernel
theorem dX4_playable_49 : decode cX4_playable 49 = .ok (.istore_n 2, 1) := by decide +kernel
theorem dX4_playable_50 : decode cX4_playable 50 = .ok (.iload_n 1, 1) := by decide +kernel
theorem dX4_playable_51 : decode cX4_playable 51 = .ok (.aload_n 0, 1) := by decide +kernel
theorem dX4_playable_52 : decode cX4_playable 52 = .ok (.iload 4, 2) := by decide +kernel
theorem dX4_playable_54 : decode cX4_playable 54 = .ok (.invokevirtual 82, 3) := by decide +kernel
theorem dX4_playable_57 : decode cX4_playable 57 = .ok (.ior, 1) := by decide +kernel
theorem dX4_playable_58 : decode cX4_playable 58 = .ok (.istore_n 1, 1) := by decide +kernel
theorem dX4_playable_59 : decode cX4_playable 59 = .ok (.iinc 4 1, 3) := by decide +kernel
theorem dX4_playable_62 : decode cX4_playable 62 = .ok (.goto (-44), 3) := by decide +kernel
theorem dX4_playable_65 : decode cX4_playable 65 = .ok (.iinc 3 1, 3) := by decide +kernel
theorem dX4_playable_68 : decode cX4_playable 68 = .ok (.goto (-59), 3) := by decide +kernel
theorem dX4_playable_71 : decode cX4_playable 71 = .ok (.iload_n 1, 1) := by decide +kernel
theorem dX4_playable_72 : decode cX4_playable 72 = .ok (.ireturn, 1) := by decide +kernel
set_option maxRecDepth 20000 in
theorem ggX4_inOrder_X4_patternAt : GoodIn wsX4_inOrder wsX4_patternAt := goodIn_r _ [6, 1, 7, 8, 9, 10, 11, 12, 13, 14] (by decide +kernel) (by decide +kernel)
set_option maxRecDepth 20000 in
theorem gX4_inOrder_X4_patternAt : GoodIn wsX4_inOrder (wsV RX4 76 RX4 yX4_patternAt wsX4_patternAt) := goodIn_app (goodIn_of _ (by decide +kernel)) ggX4_inOrder_X4_patternAt
theorem dX4_inOrder_0 : decode cX4_inOrder 0 = .ok (.iconst 0, 1) := by decide +kernel
theorem dX4_inOrder_1 : decode cX4_inOrder 1 = .ok (.istore_n 1, 1) := by decide +kernel
theorem dX4_inOrder_2 : decode cX4_inOrder 2 = .ok (.iconst 0, 1) := by decide +kernel
theorem dX4_inOrder_3 : decode cX4_inOrder 3 = .ok (.istore_n 2, 1) := by decide +kernel
theorem dX4_inOrder_4 : decode cX4_inOrder 4 = .ok (.iload_n 2, 1) := by decide +kernel
theorem dX4_inOrder_5 : decode cX4_inOrder 5 = .ok (.aload_n 0, 1) := by decide +kernel
theorem dX4_inOrder_6 : decode cX4_inOrder 6 = .ok (.getfield 21, 3) := by decide +kernel
theorem dX4_inOrder_9 : decode cX4_inOrder 9 = .ok (.if_icmp .ge 19, 3) := by decide +kernel
theorem dX4_inOrder_12 : decode cX4_inOrder 12 = .ok (.iload_n 1, 1) := by decide +kernel
theorem dX4_inOrder_13 : decode cX4_inOrder 13 = .ok (.iconst 1, 1) := by decide +kernel
theorem dX4_inOrder_14 : decode cX4_inOrder 14 = .ok (.aload_n 0, 1) := by decide +kernel
theorem dX4_inOrder_15 : decode cX4_inOrder 15 = .ok (.iload_n 2, 1) := by decide +kernel
theorem dX4_inOrder_16 : decode cX4_inOrder 16 = .ok (.invokevirtual 76, 3) := by decide +kernel
theorem dX4_inOrder_19 : decode cX4_inOrder 19 = .ok (.ishl, 1) := by decide +kernel
theorem dX4_inOrder_20 : decode cX4_inOrder 20 = .ok (.ior, 1) := by decide +kernel
theorem dX4_inOrder_21 : decode cX4_inOrder 21 = .ok (.istore_n 1, 1) := by decide +kernel
theorem dX4_inOrder_22 : decode cX4_inOrder 22 = .ok (.iinc 2 1, 3) := by decide +kernel
theorem dX4_inOrder_25 : decode cX4_inOrder 25 = .ok (.goto (-21), 3) := by decide +kernel
theorem dX4_inOrder_28 : decode cX4_inOrder 28 = .ok (.iload_n 1, 1) := by decide +kernel
theorem dX4_inOrder_29 : decode cX4_inOrder 29 = .ok (.ireturn, 1) := by decide +kernel
set_option maxRecDepth 20000 in
theorem ggX4_calledFrom_X4_rowsOf : GoodIn wsX4_calledFrom wsX4_rowsOf := goodIn_r _ [5, 6, 7, 8, 9, 31, 32, 33, 34] (by decide +kernel) (by decide +kernel)
set_option maxRecDepth 20000 in
theorem gX4_calledFrom_X4_rowsOf : GoodIn wsX4_calledFrom (wsV RX4 51 RX4 yX4_rowsOf wsX4_rowsOf) := goodIn_app (goodIn_of _ (by decide +kernel)) ggX4_calledFrom_X4_rowsOf
set_option maxRecDepth 20000 in
theorem ggX4_calledFrom_X4_cellAt : GoodIn wsX4_calledFrom wsX4_cellAt := goodIn_r _ [13, 14, 15, 8, 16, 17, 18, 4, 19, 31, 32, 33, 34] (by decide +kernel) (by decide +kernel)
set_option maxRecDepth 20000 in
theorem gX4_calledFrom_X4_cellAt : GoodIn wsX4_calledFrom (wsV RX4 66 RX4 yX4_cellAt wsX4_cellAt) := goodIn_app (goodIn_of _ (by decide +kernel)) ggX4_calledFrom_X4_cellAt
set_option maxRecDepth 20000 in
theorem ggX4_calledFrom_X0_isCall : GoodIn wsX4_calledFrom wsX0_isCall := goodIn_r _ [23, 24, 25, 22, 26, 27, 28, 29] (by decide +kernel) (by decide +kernel)
set_option maxRecDepth 20000 in
theorem gX4_calledFrom_X0_isCall : GoodIn wsX4_calledFrom (va_wsS RX4 69 yX0_isCall wsX0_isCall) := goodIn_app (goodIn_of _ (by decide +kernel)) ggX4_calledFrom_X0_isCall
set_option maxRecDepth 20000 in
theorem ggX4_calledFrom_X0_numberOf : GoodIn wsX4_calledFrom wsX0_numberOf := goodIn_r _ [29] (by decide +kernel) (by decide +kernel)
set_option maxRecDepth 20000 in
theorem gX4_calledFrom_X0_numberOf : GoodIn wsX4_calledFrom (va_wsS RX4 85 yX0_numberOf wsX0_numberOf) := goodIn_app (goodIn_of _ (by decide +kernel)) ggX4_calledFrom_X0_numberOf
theorem dX4_calledFrom_0 : decode cX4_calledFrom 0 = .ok (.iconst 0, 1) := by decide +kernel
theorem dX4_calledFrom_1 : decode cX4_calledFrom 1 = .ok (.istore_n 2, 1) := by decide +kernel
theorem dX4_calledFrom_2 : decode cX4_calledFrom 2 = .ok (.iconst 0, 1) := by decide +kernel
theorem dX4_calledFrom_3 : decode cX4_calledFrom 3 = .ok (.istore_n 3, 1) := by decide +kernel
theorem dX4_calledFrom_4 : decode cX4_calledFrom 4 = .ok (.iload_n 3, 1) := by decide +kernel
theorem dX4_calledFrom_5 : decode cX4_calledFrom 5 = .ok (.aload_n 0, 1) := by decide +kernel
theorem dX4_calledFrom_6 : decode cX4_calledFrom 6 = .ok (.iload_n 1, 1) := by decide +kernel
theorem dX4_calledFrom_7 : decode cX4_calledFrom 7 = .ok (.invokevirtual 51, 3) := by decide +kernel
theorem dX4_calledFrom_10 : decode cX4_calledFrom 10 = .ok (.if_icmp .ge 52, 3) := by decide +kernel
theorem dX4_calledFrom_13 : decode cX4_calledFrom 13 = .ok (.iconst 0, 1) := by decide +kernel
theorem dX4_calledFrom_14 : decode cX4_calledFrom 14 = .ok (.istore 4, 2) := by decide +kernel
theorem dX4_calledFrom_16 : decode cX4_calledFrom 16 = .ok (.iload 4, 2) := by decide +kernel
theorem dX4_calledFrom_18 : decode cX4_calledFrom 18 = .ok (.iconst 4, 1) := by decide +kernel
theorem dX4_calledFrom_19 : decode cX4_calledFrom 19 = .ok (.if_icmp .ge 37, 3) := by decide +kernel
theorem dX4_calledFrom_22 : decode cX4_calledFrom 22 = .ok (.aload_n 0, 1) := by decide +kernel
theorem dX4_calledFrom_23 : decode cX4_calledFrom 23 = .ok (.iload_n 1, 1) := by decide +kernel
theorem dX4_calledFrom_24 : decode cX4_calledFrom 24 = .ok (.iload_n 3, 1) := by decide +kernel
theorem dX4_calledFrom_25 : decode cX4_calledFrom 25 = .ok (.iload 4, 2) := by decide +kernel
theorem dX4_calledFrom_27 : decode cX4_calledFrom 27 = .ok (.invokevirtual 66, 3) := by decide +kernel
theorem dX4_calledFrom_30 : decode cX4_calledFrom 30 = .ok (.istore 5, 2) := by decide +kernel
theorem dX4_calledFrom_32 : decode cX4_calledFrom 32 = .ok (.iload 5, 2) := by decide +kernel
theorem dX4_calledFrom_34 : decode cX4_calledFrom 34 = .ok (.invokestatic 69, 3) := by decide +kernel
theorem dX4_calledFrom_37 : decode cX4_calledFrom 37 = .ok (.ifCond .eq 13, 3) := by decide +kernel
theorem dX4_calledFrom_40 : decode cX4_calledFrom 40 = .ok (.iload_n 2, 1) := by decide +kernel
theorem dX4_calledFrom_41 : decode cX4_calledFrom 41 = .ok (.iconst 1, 1) := by decide +kernel
theorem dX4_calledFrom_42 : decode cX4_calledFrom 42 = .ok (.iload 5, 2) := by decide +kernel
theorem dX4_calledFrom_44 : decode cX4_calledFrom 44 = .ok (.invokestatic 85, 3) := by decide +kernel
theorem dX4_calledFrom_47 : decode cX4_calledFrom 47 = .ok (.ishl, 1) := by decide +kernel
theorem dX4_calledFrom_48 : decode cX4_calledFrom 48 = .ok (.ior, 1) := by decide +kernel
theorem dX4_calledFrom_49 : decode cX4_calledFrom 49 = .ok (.istore_n 2, 1) := by decide +kernel
theorem dX4_calledFrom_50 : decode cX4_calledFrom 50 = .ok (.iinc 4 1, 3) := by decide +kernel
theorem dX4_calledFrom_53 : decode cX4_calledFrom 53 = .ok (.goto (-37), 3) := by decide +kernel
theorem dX4_calledFrom_56 : decode cX4_calledFrom 56 = .ok (.iinc 3 1, 3) := by decide +kernel
theorem dX4_calledFrom_59 : decode cX4_calledFrom 59 = .ok (.goto (-55), 3) := by decide +kernel
theorem dX4_calledFrom_62 : decode cX4_calledFrom 62 = .ok (.iload_n 2, 1) := by decide +kernel
theorem dX4_calledFrom_63 : decode cX4_calledFrom 63 = .ok (.ireturn, 1) := by decide +kernel
set_option maxRecDepth 20000 in
theorem ggX5_init_X4_init : GoodIn wsX5_init wsX4_init := goodIn_r _ [14, 15, 2, 3, 16, 17, 18, 19, 20, 36, 37, 38, 39] (by decide +kernel) (by decide +kernel)
set_option maxRecDepth 20000 in
theorem gX5_init_X4_init : GoodIn wsX5_init (wsX4_init) := ggX5_init_X4_init
set_option maxRecDepth 20000 in
theorem ggX5_init_X3_init : GoodIn wsX5_init wsX3_init := goodIn_r _ [23, 24, 2, 3, 25, 26, 27, 28, 29, 30, 31, 32, 16, 33, 34, 35, 42, 43, 44, 45, 46, 47, 48, 49, 50, 51, 52, 53, 54, 55, 56, 57] (by decide +kernel) (by decide +kernel)
set_option maxRecDepth 20000 in
theorem gX5_init_X3_init : GoodIn wsX5_init (wsX3_init) := ggX5_init_X3_init
theorem dX5_init_0 : decode cX5_init 0 = .ok (.aload_n 0, 1) := by decide +kernel
theorem dX5_init_1 : decode cX5_init 1 = .ok (.invokespecial 1, 3) := by decide +kernel
theorem dX5_init_4 : decode cX5_init 4 = .ok (.aload_n 0, 1) := by decide +kernel
theorem dX5_init_5 : decode cX5_init 5 = .ok (.new 7, 3) := by decide +kernel
theorem dX5_init_8 : decode cX5_init 8 = .ok (.dup, 1) := by decide +kernel
theorem dX5_init_9 : decode cX5_init 9 = .ok (.invokespecial 9, 3) := by decide +kernel
theorem dX5_init_12 : decode cX5_init 12 = .ok (.putfield 10, 3) := by decide +kernel
theorem dX5_init_15 : decode cX5_init 15 = .ok (.aload_n 0, 1) := by decide +kernel
theorem dX5_init_16 : decode cX5_init 16 = .ok (.new 16, 3) := by decide +kernel
theorem dX5_init_19 : decode cX5_init 19 = .ok (.dup, 1) := by decide +kernel
theorem dX5_init_20 : decode cX5_init 20 = .ok (.invokespecial 18, 3) := by decide +kernel
theorem dX5_init_23 : decode cX5_init 23 = .ok (.putfield 19, 3) := by decide +kernel
theorem dX5_init_26 : decode cX5_init 26 = .ok (.return_, 1) := by decide +kernel
set_option maxRecDepth 20000 in
theorem ggX5_copyFrom_X4_copyFrom : GoodIn wsX5_copyFrom wsX4_copyFrom := goodIn_r _ [7, 8, 9, 10, 11, 12, 13, 14, 15, 45, 46, 47, 48] (by decide +kernel) (by decide +kernel)
set_option maxRecDepth 20000 in
theorem gX5_copyFrom_X4_copyFrom : GoodIn wsX5_copyFrom (wsV RX5 23 RX4 yX4_copyFrom wsX4_copyFrom) := goodIn_app (goodIn_of _ (by decide +kernel)) ggX5_copyFrom_X4_copyFrom
set_option maxRecDepth 20000 in
theorem ggX5_copyFrom_X3_copyFrom : GoodIn wsX5_copyFrom wsX3_copyFrom := goodIn_r _ [20, 21, 22, 23, 24, 25, 26, 27, 28, 29, 30, 31, 32, 33, 34, 35, 36, 37, 38, 39, 40, 10, 11, 12, 41, 42, 49, 50, 51, 52, 53, 54, 55, 56, 57, 58, 59, 60, 61, 62, 63, 64] (by decide +kernel) (by decide +kernel)
set_option maxRecDepth 20000 in
theorem gX5_copyFrom_X3_copyFrom : GoodIn wsX5_copyFrom (wsV RX5 27 RX3 yX3_copyFrom wsX3_copyFrom) := goodIn_app (goodIn_of _ (by decide +kernel)) ggX5_copyFrom_X3_copyFrom
theorem dX5_copyFrom_0 : decode cX5_copyFrom 0 = .ok (.aload_n 0, 1) := by decide +kernel
theorem dX5_copyFrom_1 : decode cX5_copyFrom 1 = .ok (.getfield 10, 3) := by decide +kernel
theorem dX5_copyFrom_4 : decode cX5_copyFrom 4 = .ok (.aload_n 1, 1) := by decide +kernel
theorem dX5_copyFrom_5 : decode cX5_copyFrom 5 = .ok (.getfield 10, 3) := by decide +kernel
theorem dX5_copyFrom_8 : decode cX5_copyFrom 8 = .ok (.invokevirtual 23, 3) := by decide +kernel
theorem dX5_copyFrom_11 : decode cX5_copyFrom 11 = .ok (.aload_n 0, 1) := by decide +kernel
theorem dX5_copyFrom_12 : decode cX5_copyFrom 12 = .ok (.getfield 19, 3) := by decide +kernel
theorem dX5_copyFrom_15 : decode cX5_copyFrom 15 = .ok (.aload_n 1, 1) := by decide +kernel
theorem dX5_copyFrom_16 : decode cX5_copyFrom 16 = .ok (.getfield 19, 3) := by decide +kernel
theorem dX5_copyFrom_19 : decode cX5_copyFrom 19 = .ok (.invokevirtual 27, 3) := by decide +kernel
theorem dX5_copyFrom_22 : decode cX5_copyFrom 22 = .ok (.return_, 1) := by decide +kernel
theorem dX6_init_0 : decode cX6_init 0 = .ok (.aload_n 0, 1) := by decide +kernel
theorem dX6_init_1 : decode cX6_init 1 = .ok (.invokespecial 3, 3) := by decide +kernel
theorem dX6_init_4 : decode cX6_init 4 = .ok (.aload_n 0, 1) := by decide +kernel
theorem dX6_init_5 : decode cX6_init 5 = .ok (.iconst 3, 1) := by decide +kernel
theorem dX6_init_6 : decode cX6_init 6 = .ok (.newarray .int, 2) := by decide +kernel
theorem dX6_init_8 : decode cX6_init 8 = .ok (.putfield 9, 3) := by decide +kernel
theorem dX6_init_11 : decode cX6_init 11 = .ok (.aload_n 0, 1) := by decide +kernel
theorem dX6_init_12 : decode cX6_init 12 = .ok (.iconst 3, 1) := by decide +kernel
theorem dX6_init_13 : decode cX6_init 13 = .ok (.newarray .int, 2) := by decide +kernel
theorem dX6_init_15 : decode cX6_init 15 = .ok (.putfield 15, 3) := by decide +kernel
theorem dX6_init_18 : decode cX6_init 18 = .ok (.aload_n 0, 1) := by decide +kernel
theorem dX6_init_19 : decode cX6_init 19 = .ok (.sipush 960, 3) := by decide +kernel
theorem dX6_init_22 : decode cX6_init 22 = .ok (.putfield 20, 3) := by decide +kernel
theorem dX6_init_25 : decode cX6_init 25 = .ok (.return_, 1) := by decide +kernel
theorem dX6_copyFrom_0 : decode cX6_copyFrom 0 = .ok (.aload_n 0, 1) := by decide +kernel
theorem dX6_copyFrom_1 : decode cX6_copyFrom 1 = .ok (.aload_n 1, 1) := by decide +kernel
theorem dX6_copyFrom_2 : decode cX6_copyFrom 2 = .ok (.getfield 24, 3) := by decide +kernel
theorem dX6_copyFrom_5 : decode cX6_copyFrom 5 = .ok (.putfield 24, 3) := by decide +kernel
theorem dX6_copyFrom_8 : decode cX6_copyFrom 8 = .ok (.aload_n 0, 1) := by decide +kernel
theorem dX6_copyFrom_9 : decode cX6_copyFrom 9 = .ok (.aload_n 1, 1) := by decide +kernel
theorem dX6_copyFrom_10 : decode cX6_copyFrom 10 = .ok (.getfield 27, 3) := by decide +kernel
theorem dX6_copyFrom_13 : decode cX6_copyFrom 13 = .ok (.putfield 27, 3) := by decide +kernel
theorem dX6_copyFrom_16 : decode cX6_copyFrom 16 = .ok (.aload_n 0, 1) := by decide +kernel
theorem dX6_copyFrom_17 : decode cX6_copyFrom 17 = .ok (.aload_n 1, 1) := by decide +kernel
theorem dX6_copyFrom_18 : decode cX6_copyFrom 18 = .ok (.getfield 30, 3) := by decide +kernel
theorem dX6_copyFrom_21 : decode cX6_copyFrom 21 = .ok (.putfield 30, 3) := by decide +kernel
theorem dX6_copyFrom_24 : decode cX6_copyFrom 24 = .ok (.aload_n 0, 1) := by decide +kernel
theorem dX6_copyFrom_25 : decode cX6_copyFrom 25 = .ok (.aload_n 1, 1) := by decide +kernel
theorem dX6_copyFrom_26 : decode cX6_copyFrom 26 = .ok (.getfield 33, 3) := by decide +kernel
theorem dX6_copyFrom_29 : decode cX6_copyFrom 29 = .ok (.putfield 33, 3) := by decide +kernel
theorem dX6_copyFrom_32 : decode cX6_copyFrom 32 = .ok (.aload_n 0, 1) := by decide +kernel
theorem dX6_copyFrom_33 : decode cX6_copyFrom 33 = .ok (.aload_n 1, 1) := by decide +kernel
theorem dX6_copyFrom_34 : decode cX6_copyFrom 34 = .ok (.getfield 36, 3) := by decide +kernel
theorem dX6_copyFrom_37 : decode cX6_copyFrom 37 = .ok (.putfield 36, 3) := by decide +kernel
theorem dX6_copyFrom_40 : decode cX6_copyFrom 40 = .ok (.aload_n 0, 1) := by decide +kernel
theorem dX6_copyFrom_41 : decode cX6_copyFrom 41 = .ok (.aload_n 1, 1) := by decide +kernel
theorem dX6_copyFrom_42 : decode cX6_copyFrom 42 = .ok (.getfield 39, 3) := by decide +kernel
theorem dX6_copyFrom_45 : decode cX6_copyFrom 45 = .ok (.putfield 39, 3) := by decide +kernel
theorem dX6_copyFrom_48 : decode cX6_copyFrom 48 = .ok (.aload_n 1, 1) := by decide +kernel
theorem dX6_copyFrom_49 : decode cX6_copyFrom 49 = .ok (.getfield 9, 3) := by decide +kernel
theorem dX6_copyFrom_52 : decode cX6_copyFrom 52 = .ok (.iconst 0, 1) := by decide +kernel
theorem dX6_copyFrom_53 : decode cX6_copyFrom 53 = .ok (.aload_n 0, 1) := by decide +kernel
theorem dX6_copyFrom_54 : decode cX6_copyFrom 54 = .ok (.getfield 9, 3) := by decide +kernel
theorem dX6_copyFrom_57 : decode cX6_copyFrom 57 = .ok (.iconst 0, 1) := by decide +kernel
theorem dX6_copyFrom_58 : decode cX6_copyFrom 58 = .ok (.iconst 3, 1) := by decide +kernel
theorem dX6_copyFrom_59 : decode cX6_copyFrom 59 = .ok (.invokestatic 42, 3) := by decide +kernel
theorem dX6_copyFrom_62 : decode cX6_copyFrom 62 = .ok (.aload_n 1, 1) := by decide +kernel
theorem dX6_copyFrom_63 : decode cX6_copyFrom 63 = .ok (.getfield 15, 3) := by decide +kernel
theorem dX6_copyFrom_66 : decode cX6_copyFrom 66 = .ok (.iconst 0, 1) := by decide +kernel
theorem dX6_copyFrom_67 : decode cX6_copyFrom 67 = .ok (.aload_n 0, 1) := by decide +kernel
theorem dX6_copyFrom_68 : decode cX6_copyFrom 68 = .ok (.getfield 15, 3) := by decide +kernel
theorem dX6_copyFrom_71 : decode cX6_copyFrom 71 = .ok (.iconst 0, 1) := by decide +kernel
theorem dX6_copyFrom_72 : decode cX6_copyFrom 72 = .ok (.iconst 3, 1) := by decide +kernel
theorem dX6_copyFrom_73 : decode cX6_copyFrom 73 = .ok (.invokestatic 42, 3) := by decide +kernel
theorem dX6_copyFrom_76 : decode cX6_copyFrom 76 = .ok (.aload_n 0, 1) := by decide +kernel
theorem dX6_copyFrom_77 : decode cX6_copyFrom 77 = .ok (.aload_n 1, 1) := by decide +kernel
theorem dX6_copyFrom_78 : decode cX6_copyFrom 78 = .ok (.getfield 20, 3) := by decide +kernel
theorem dX6_copyFrom_81 : decode cX6_copyFrom 81 = .ok (.putfield 20, 3) := by decide +kernel
theorem dX6_copyFrom_84 : decode cX6_copyFrom 84 = .ok (.return_, 1) := by decide +kernel
set_option maxRecDepth 20000 in
theorem ggX6_goToBeginning_X6_stealBy : GoodIn wsX6_goToBeginning wsX6_stealBy := goodIn_r _ [10, 11, 12, 13, 14, 15, 16, 17, 18, 19, 20, 21] (by decide +kernel) (by decide +kernel)
set_option maxRecDepth 20000 in
theorem gX6_goToBeginning_X6_stealBy : GoodIn wsX6_goToBeginning (wsV RX6 48 RX6 yX6_stealBy wsX6_stealBy) := goodIn_app (goodIn_of _ (by decide +kernel)) ggX6_goToBeginning_X6_stealBy
theorem dX6_goToBeginning_0 : decode cX6_goToBeginning 0 = .ok (.aload_n 0, 1) := by decide +kernel
theorem dX6_goToBeginning_1 : decode cX6_goToBeginning 1 = .ok (.iconst 0, 1) := by decide +kernel
theorem dX6_goToBeginning_2 : decode cX6_goToBeginning 2 = .ok (.putfield 24, 3) := by decide +kernel
theorem dX6_goToBeginning_5 : decode cX6_goToBeginning 5 = .ok (.aload_n 0, 1) := by decide +kernel
theorem dX6_goToBeginning_6 : decode cX6_goToBeginning 6 = .ok (.iconst 0, 1) := by decide +kernel
theorem dX6_goToBeginning_7 : decode cX6_goToBeginning 7 = .ok (.putfield 27, 3) := by decide +kernel
theorem dX6_goToBeginning_10 : decode cX6_goToBeginning 10 = .ok (.aload_n 0, 1) := by decide +kernel
theorem dX6_goToBeginning_11 : decode cX6_goToBeginning 11 = .ok (.iconst 0, 1) := by decide +kernel
theorem dX6_goToBeginning_12 : decode cX6_goToBeginning 12 = .ok (.iconst 0, 1) := by decide +kernel
theorem dX6_goToBeginning_13 : decode cX6_goToBeginning 13 = .ok (.invokevirtual 48, 3) := by decide +kernel
theorem dX6_goToBeginning_16 : decode cX6_goToBeginning 16 = .ok (.pop, 1) := by decide +kernel
theorem dX6_goToBeginning_17 : decode cX6_goToBeginning 17 = .ok (.aload_n 0, 1) := by decide +kernel
theorem dX6_goToBeginning_18 : decode cX6_goToBeginning 18 = .ok (.iconst 0, 1) := by decide +kernel
theorem dX6_goToBeginning_19 : decode cX6_goToBeginning 19 = .ok (.putfield 36, 3) := by decide +kernel
theorem dX6_goToBeginning_22 : decode cX6_goToBeginning 22 = .ok (.aload_n 0, 1) := by decide +kernel
theorem dX6_goToBeginning_23 : decode cX6_goToBeginning 23 = .ok (.iconst 0, 1) := by decide +kernel
theorem dX6_goToBeginning_24 : decode cX6_goToBeginning 24 = .ok (.putfield 39, 3) := by decide +kernel
theorem dX6_goToBeginning_27 : decode cX6_goToBeginning 27 = .ok (.aload_n 0, 1) := by decide +kernel
theorem dX6_goToBeginning_28 : decode cX6_goToBeginning 28 = .ok (.sipush 960, 3) := by decide +kernel
theorem dX6_goToBeginning_31 : decode cX6_goToBeginning 31 = .ok (.putfield 20, 3) := by decide +kernel
theorem dX6_goToBeginning_34 : decode cX6_goToBeginning 34 = .ok (.return_, 1) := by decide +kernel
theorem dX6_pitchOf_0 : decode cX6_pitchOf 0 = .ok (.bipush 16, 2) := by decide +kernel
theorem dX6_pitchOf_2 : decode cX6_pitchOf 2 = .ok (.iload_n 0, 1) := by decide +kernel
theorem dX6_pitchOf_3 : decode cX6_pitchOf 3 = .ok (.imul, 1) := by decide +kernel
theorem dX6_pitchOf_4 : decode cX6_pitchOf 4 = .ok (.ireturn, 1) := by decide +kernel
theorem dX6_stealBy_0 : decode cX6_stealBy 0 = .ok (.aload_n 0, 1) := by decide +kernel
theorem dX6_stealBy_1 : decode cX6_stealBy 1 = .ok (.getfield 30, 3) := by decide +kernel
theorem dX6_stealBy_4 : decode cX6_stealBy 4 = .ok (.istore_n 3, 1) := by decide +kernel
theorem dX6_stealBy_5 : decode cX6_stealBy 5 = .ok (.aload_n 0, 1) := by decide +kernel
theorem dX6_stealBy_6 : decode cX6_stealBy 6 = .ok (.iload_n 1, 1) := by decide +kernel
theorem dX6_stealBy_7 : decode cX6_stealBy 7 = .ok (.putfield 33, 3) := by decide +kernel
theorem dX6_stealBy_10 : decode cX6_stealBy 10 = .ok (.aload_n 0, 1) := by decide +kernel
theorem dX6_stealBy_11 : decode cX6_stealBy 11 = .ok (.iload_n 2, 1) := by decide +kernel
theorem dX6_stealBy_12 : decode cX6_stealBy 12 = .ok (.putfield 30, 3) := by decide +kernel
theorem dX6_stealBy_15 : decode cX6_stealBy 15 = .ok (.iload_n 3, 1) := by decide +kernel
theorem dX6_stealBy_16 : decode cX6_stealBy 16 = .ok (.ireturn, 1) := by decide +kernel
set_option maxRecDepth 20000 in
theorem ggX6_latestPattern_X7_isIndex : GoodIn wsX6_latestPattern wsX7_isIndex := goodIn_r _ [5] (by decide +kernel) (by decide +kernel)
set_option maxRecDepth 20000 in
theorem gX6_latestPattern_X7_isIndex_n52 : GoodIn wsX6_latestPattern (wsX7_isIndex) := ggX6_latestPattern_X7_isIndex
theorem dX6_latestPattern_0 : decode cX6_latestPattern 0 = .ok (.aload_n 0, 1) := by decide +kernel
theorem dX6_latestPattern_1 : decode cX6_latestPattern 1 = .ok (.getfield 39, 3) := by decide +kernel
theorem dX6_latestPattern_4 : decode cX6_latestPattern 4 = .ok (.iconst 1, 1) := by decide +kernel
theorem dX6_latestPattern_5 : decode cX6_latestPattern 5 = .ok (.isub, 1) := by decide +kernel
theorem dX6_latestPattern_6 : decode cX6_latestPattern 6 = .ok (.istore_n 1, 1) := by decide +kernel
theorem dX6_latestPattern_7 : decode cX6_latestPattern 7 = .ok (.iload_n 1, 1) := by decide +kernel
theorem dX6_latestPattern_8 : decode cX6_latestPattern 8 = .ok (.iconst 3, 1) := by decide +kernel
theorem dX6_latestPattern_9 : decode cX6_latestPattern 9 = .ok (.invokestatic 52, 3) := by decide +kernel
theorem dX6_latestPattern_12 : decode cX6_latestPattern 12 = .ok (.ifCond .eq 12, 3) := by decide +kernel
theorem dX6_latestPattern_15 : decode cX6_latestPattern 15 = .ok (.aload_n 0, 1) := by decide +kernel
theorem dX6_latestPattern_16 : decode cX6_latestPattern 16 = .ok (.getfield 9, 3) := by decide +kernel
theorem dX6_latestPattern_19 : decode cX6_latestPattern 19 = .ok (.iload_n 1, 1) := by decide +kernel
theorem dX6_latestPattern_20 : decode cX6_latestPattern 20 = .ok (.iaload, 1) := by decide +kernel
theorem dX6_latestPattern_21 : decode cX6_latestPattern 21 = .ok (.goto 4, 3) := by decide +kernel
theorem dX6_latestPattern_24 : decode cX6_latestPattern 24 = .ok (.iconst (-1), 1) := by decide +kernel
theorem dX6_latestPattern_25 : decode cX6_latestPattern 25 = .ok (.ireturn, 1) := by decide +kernel
set_option maxRecDepth 20000 in
theorem ggX6_latestRow_X7_isIndex : GoodIn wsX6_latestRow wsX7_isIndex := goodIn_r _ [5] (by decide +kernel) (by decide +kernel)
set_option maxRecDepth 20000 in
theorem gX6_latestRow_X7_isIndex_n52 : GoodIn wsX6_latestRow (wsX7_isIndex) := ggX6_latestRow_X7_isIndex
theorem dX6_latestRow_0 : decode cX6_latestRow 0 = .ok (.aload_n 0, 1) := by decide +kernel
theorem dX6_latestRow_1 : decode cX6_latestRow 1 = .ok (.getfield 39, 3) := by decide +kernel
theorem dX6_latestRow_4 : decode cX6_latestRow 4 = .ok (.iconst 1, 1) := by decide +kernel
theorem dX6_latestRow_5 : decode cX6_latestRow 5 = .ok (.isub, 1) := by decide +kernel
theorem dX6_latestRow_6 : decode cX6_latestRow 6 = .ok (.istore_n 1, 1) := by decide +kernel
theorem dX6_latestRow_7 : decode cX6_latestRow 7 = .ok (.iload_n 1, 1) := by decide +kernel
theorem dX6_latestRow_8 : decode cX6_latestRow 8 = .ok (.iconst 3, 1) := by decide +kernel
theorem dX6_latestRow_9 : decode cX6_latestRow 9 = .ok (.invokestatic 52, 3) := by decide +kernel
theorem dX6_latestRow_12 : decode cX6_latestRow 12 = .ok (.ifCond .eq 12, 3) := by decide +kernel
theorem dX6_latestRow_15 : decode cX6_latestRow 15 = .ok (.aload_n 0, 1) := by decide +kernel
theorem dX6_latestRow_16 : decode cX6_latestRow 16 = .ok (.getfield 15, 3) := by decide +kernel
theorem dX6_latestRow_19 : decode cX6_latestRow 19 = .ok (.iload_n 1, 1) := by decide +kernel
theorem dX6_latestRow_20 : decode cX6_latestRow 20 = .ok (.iaload, 1) := by decide +kernel
theorem dX6_latestRow_21 : decode cX6_latestRow 21 = .ok (.goto 4, 3) := by decide +kernel
theorem dX6_latestRow_24 : decode cX6_latestRow 24 = .ok (.iconst (-1), 1) := by decide +kernel
theorem dX6_latestRow_25 : decode cX6_latestRow 25 = .ok (.ireturn, 1) := by decide +kernel
set_option maxRecDepth 20000 in
theorem ggX6_beginRow_X0_isDelay : GoodIn wsX6_beginRow wsX0_isDelay := goodIn_r _ [5, 6, 7, 4, 8, 9, 10, 11] (by decide +kernel) (by decide +kernel)
set_option maxRecDepth 20000 in
theorem gX6_beginRow_X0_isDelay : GoodIn wsX6_beginRow (va_wsS RX6 56 yX0_isDelay wsX0_isDelay) := goodIn_app (goodIn_of _ (by decide +kernel)) ggX6_beginRow_X0_isDelay
set_option maxRecDepth 20000 in
theorem ggX6_beginRow_X6_beginNote : GoodIn wsX6_beginRow wsX6_beginNote := goodIn_r _ [16, 1, 17, 18, 19, 20, 4, 21, 22, 23, 15, 24, 25, 26, 27, 28, 29, 30, 31, 32, 33, 34, 35, 36] (by decide +kernel) (by decide +kernel)
set_option maxRecDepth 20000 in
theorem gX6_beginRow_X6_beginNote : GoodIn wsX6_beginRow (wsV RX6 60 RX6 yX6_beginNote wsX6_beginNote) := goodIn_app (goodIn_of _ (by decide +kernel)) ggX6_beginRow_X6_beginNote
theorem dX6_beginRow_0 : decode cX6_beginRow 0 = .ok (.aload_n 0, 1) := by decide +kernel
theorem dX6_beginRow_1 : decode cX6_beginRow 1 = .ok (.iload_n 1, 1) := by decide +kernel
theorem dX6_beginRow_2 : decode cX6_beginRow 2 = .ok (.putfield 20, 3) := by decide +kernel
theorem dX6_beginRow_5 : decode cX6_beginRow 5 = .ok (.aload_n 0, 1) := by decide +kernel
theorem dX6_beginRow_6 : decode cX6_beginRow 6 = .ok (.getfield 20, 3) := by decide +kernel
theorem dX6_beginRow_9 : decode cX6_beginRow 9 = .ok (.invokestatic 56, 3) := by decide +kernel
theorem dX6_beginRow_12 : decode cX6_beginRow 12 = .ok (.ifCond .ne 7, 3) := by decide +kernel
theorem dX6_beginRow_15 : decode cX6_beginRow 15 = .ok (.aload_n 0, 1) := by decide +kernel
theorem dX6_beginRow_16 : decode cX6_beginRow 16 = .ok (.invokevirtual 60, 3) := by decide +kernel
theorem dX6_beginRow_19 : decode cX6_beginRow 19 = .ok (.return_, 1) := by decide +kernel
set_option maxRecDepth 20000 in
theorem ggX6_goOn_X0_numberOf : GoodIn wsX6_goOn wsX0_numberOf := goodIn_r _ [14] (by decide +kernel) (by decide +kernel)
set_option maxRecDepth 20000 in
theorem gX6_goOn_X0_numberOf : GoodIn wsX6_goOn (va_wsS RX6 63 yX0_numberOf wsX0_numberOf) := goodIn_app (goodIn_of _ (by decide +kernel)) ggX6_goOn_X0_numberOf
set_option maxRecDepth 20000 in
theorem ggX6_goOn_X0_effectOf : GoodIn wsX6_goOn wsX0_effectOf := goodIn_r _ [17] (by decide +kernel) (by decide +kernel)
set_option maxRecDepth 20000 in
theorem gX6_goOn_X0_effectOf : GoodIn wsX6_goOn (va_wsS RX6 67 yX0_effectOf wsX0_effectOf) := goodIn_app (goodIn_of _ (by decide +kernel)) ggX6_goOn_X0_effectOf
set_option maxRecDepth 20000 in
theorem ggX6_goOn_X6_beginNote : GoodIn wsX6_goOn wsX6_beginNote := goodIn_r _ [22, 1, 10, 2, 23, 24, 13, 25, 26, 27, 21, 28, 29, 30, 31, 32, 33, 34, 35, 36, 37, 38, 39, 40] (by decide +kernel) (by decide +kernel)
set_option maxRecDepth 20000 in
theorem gX6_goOn_X6_beginNote : GoodIn wsX6_goOn (wsV RX6 60 RX6 yX6_beginNote wsX6_beginNote) := goodIn_app (goodIn_of _ (by decide +kernel)) ggX6_goOn_X6_beginNote
theorem dX6_goOn_0 : decode cX6_goOn 0 = .ok (.aload_n 0, 1) := by decide +kernel
theorem dX6_goOn_1 : decode cX6_goOn 1 = .ok (.getfield 20, 3) := by decide +kernel
theorem dX6_goOn_4 : decode cX6_goOn 4 = .ok (.invokestatic 63, 3) := by decide +kernel
theorem dX6_goOn_7 : decode cX6_goOn 7 = .ok (.istore_n 2, 1) := by decide +kernel
theorem dX6_goOn_8 : decode cX6_goOn 8 = .ok (.aload_n 0, 1) := by decide +kernel
theorem dX6_goOn_9 : decode cX6_goOn 9 = .ok (.getfield 20, 3) := by decide +kernel
theorem dX6_goOn_12 : decode cX6_goOn 12 = .ok (.invokestatic 67, 3) := by decide +kernel
theorem dX6_goOn_15 : decode cX6_goOn 15 = .ok (.tableswitch 120 1 6 #[37, 56, 73, 91, 120, 108], 37) := by decide +kernel
theorem dX6_goOn_52 : decode cX6_goOn 52 = .ok (.aload_n 0, 1) := by decide +kernel
theorem dX6_goOn_53 : decode cX6_goOn 53 = .ok (.aload_n 0, 1) := by decide +kernel
theorem dX6_goOn_54 : decode cX6_goOn 54 = .ok (.getfield 24, 3) := by decide +kernel
theorem dX6_goOn_57 : decode cX6_goOn 57 = .ok (.iload_n 2, 1) := by decide +kernel
theorem dX6_goOn_58 : decode cX6_goOn 58 = .ok (.iadd, 1) := by decide +kernel
theorem dX6_goOn_59 : decode cX6_goOn 59 = .ok (.sipush 999, 3) := by decide +kernel
theorem dX6_goOn_62 : decode cX6_goOn 62 = .ok (.invokestatic 70, 3) := by decide +kernel
theorem dX6_goOn_65 : decode cX6_goOn 65 = .ok (.putfield 24, 3) := by decide +kernel
theorem dX6_goOn_68 : decode cX6_goOn 68 = .ok (.goto 67, 3) := by decide +kernel
theorem dX6_goOn_71 : decode cX6_goOn 71 = .ok (.aload_n 0, 1) := by decide +kernel
theorem dX6_goOn_72 : decode cX6_goOn 72 = .ok (.aload_n 0, 1) := by decide +kernel
theorem dX6_goOn_73 : decode cX6_goOn 73 = .ok (.getfield 24, 3) := by decide +kernel
theorem dX6_goOn_76 : decode cX6_goOn 76 = .ok (.iload_n 2, 1) := by decide +kernel
theorem dX6_goOn_77 : decode cX6_goOn 77 = .ok (.isub, 1) := by decide +kernel
theorem dX6_goOn_78 : decode cX6_goOn 78 = .ok (.iconst 0, 1) := by decide +kernel
theorem dX6_goOn_79 : decode cX6_goOn 79 = .ok (.invokestatic 75, 3) := by decide +kernel
theorem dX6_goOn_82 : decode cX6_goOn 82 = .ok (.putfield 24, 3) := by decide +kernel
theorem dX6_goOn_85 : decode cX6_goOn 85 = .ok (.goto 50, 3) := by decide +kernel
theorem dX6_goOn_88 : decode cX6_goOn 88 = .ok (.aload_n 0, 1) := by decide +kernel
theorem dX6_goOn_89 : decode cX6_goOn 89 = .ok (.aload_n 0, 1) := by decide +kernel
theorem dX6_goOn_90 : decode cX6_goOn 90 = .ok (.getfield 27, 3) := by decide +kernel
theorem dX6_goOn_93 : decode cX6_goOn 93 = .ok (.iload_n 2, 1) := by decide +kernel
theorem dX6_goOn_94 : decode cX6_goOn 94 = .ok (.iadd, 1) := by decide +kernel
theorem dX6_goOn_95 : decode cX6_goOn 95 = .ok (.bipush 15, 2) := by decide +kernel
theorem dX6_goOn_97 : decode cX6_goOn 97 = .ok (.invokestatic 70, 3) := by decide +kernel
theorem dX6_goOn_100 : decode cX6_goOn 100 = .ok (.putfield 27, 3) := by decide +kernel
theorem dX6_goOn_103 : decode cX6_goOn 103 = .ok (.goto 32, 3) := by decide +kernel
theorem dX6_goOn_106 : decode cX6_goOn 106 = .ok (.aload_n 0, 1) := by decide +kernel
theorem dX6_goOn_107 : decode cX6_goOn 107 = .ok (.aload_n 0, 1) := by decide +kernel
theorem dX6_goOn_108 : decode cX6_goOn 108 = .ok (.getfield 27, 3) := by decide +kernel
theorem dX6_goOn_111 : decode cX6_goOn 111 = .ok (.iload_n 2, 1) := by decide +kernel
theorem dX6_goOn_112 : decode cX6_goOn 112 = .ok (.isub, 1) := by decide +kernel
theorem dX6_goOn_113 : decode cX6_goOn 113 = .ok (.iconst 0, 1) := by decide +kernel
theorem dX6_goOn_114 : decode cX6_goOn 114 = .ok (.invokestatic 75, 3) := by decide +kernel
theorem dX6_goOn_117 : decode cX6_goOn 117 = .ok (.putfield 27, 3) := by decide +kernel
theorem dX6_goOn_120 : decode cX6_goOn 120 = .ok (.goto 15, 3) := by decide +kernel
theorem dX6_goOn_123 : decode cX6_goOn 123 = .ok (.iload_n 2, 1) := by decide +kernel
theorem dX6_goOn_124 : decode cX6_goOn 124 = .ok (.iload_n 1, 1) := by decide +kernel
theorem dX6_goOn_125 : decode cX6_goOn 125 = .ok (.if_icmp .ne 10, 3) := by decide +kernel
theorem dX6_goOn_128 : decode cX6_goOn 128 = .ok (.aload_n 0, 1) := by decide +kernel
theorem dX6_goOn_129 : decode cX6_goOn 129 = .ok (.invokevirtual 60, 3) := by decide +kernel
theorem dX6_goOn_132 : decode cX6_goOn 132 = .ok (.goto 3, 3) := by decide +kernel
theorem dX6_goOn_135 : decode cX6_goOn 135 = .ok (.return_, 1) := by decide +kernel
set_option maxRecDepth 20000 in
theorem ggX6_beginNote_X0_noteOf : GoodIn wsX6_beginNote wsX0_noteOf := goodIn_r _ [7] (by decide +kernel) (by decide +kernel)
set_option maxRecDepth 20000 in
theorem gX6_beginNote_X0_noteOf : GoodIn wsX6_beginNote (va_wsS RX6 78 yX0_noteOf wsX0_noteOf) := goodIn_app (goodIn_of _ (by decide +kernel)) ggX6_beginNote_X0_noteOf
set_option maxRecDepth 20000 in
theorem ggX6_beginNote_X6_pitchOf : GoodIn wsX6_beginNote wsX6_pitchOf := goodIn_r _ [11] (by decide +kernel) (by decide +kernel)
set_option maxRecDepth 20000 in
theorem gX6_beginNote_X6_pitchOf : GoodIn wsX6_beginNote (va_wsS RX6 81 yX6_pitchOf wsX6_pitchOf) := goodIn_app (goodIn_of _ (by decide +kernel)) ggX6_beginNote_X6_pitchOf
set_option maxRecDepth 20000 in
theorem ggX6_beginNote_X0_volumeOf : GoodIn wsX6_beginNote wsX0_volumeOf := goodIn_r _ [14] (by decide +kernel) (by decide +kernel)
set_option maxRecDepth 20000 in
theorem gX6_beginNote_X0_volumeOf : GoodIn wsX6_beginNote (va_wsS RX6 84 yX0_volumeOf wsX0_volumeOf) := goodIn_app (goodIn_of _ (by decide +kernel)) ggX6_beginNote_X0_volumeOf
theorem dX6_beginNote_0 : decode cX6_beginNote 0 = .ok (.aload_n 0, 1) := by decide +kernel
theorem dX6_beginNote_1 : decode cX6_beginNote 1 = .ok (.getfield 20, 3) := by decide +kernel
theorem dX6_beginNote_4 : decode cX6_beginNote 4 = .ok (.invokestatic 78, 3) := by decide +kernel
theorem dX6_beginNote_7 : decode cX6_beginNote 7 = .ok (.istore_n 1, 1) := by decide +kernel
theorem dX6_beginNote_8 : decode cX6_beginNote 8 = .ok (.iload_n 1, 1) := by decide +kernel
theorem dX6_beginNote_9 : decode cX6_beginNote 9 = .ok (.bipush 61, 2) := by decide +kernel
theorem dX6_beginNote_11 : decode cX6_beginNote 11 = .ok (.if_icmp .ne 11, 3) := by decide +kernel
theorem dX6_beginNote_14 : decode cX6_beginNote 14 = .ok (.aload_n 0, 1) := by decide +kernel
theorem dX6_beginNote_15 : decode cX6_beginNote 15 = .ok (.iconst 0, 1) := by decide +kernel
theorem dX6_beginNote_16 : decode cX6_beginNote 16 = .ok (.putfield 27, 3) := by decide +kernel
theorem dX6_beginNote_19 : decode cX6_beginNote 19 = .ok (.goto 26, 3) := by decide +kernel
theorem dX6_beginNote_22 : decode cX6_beginNote 22 = .ok (.iload_n 1, 1) := by decide +kernel
theorem dX6_beginNote_23 : decode cX6_beginNote 23 = .ok (.ifCond .le 22, 3) := by decide +kernel
theorem dX6_beginNote_26 : decode cX6_beginNote 26 = .ok (.aload_n 0, 1) := by decide +kernel
theorem dX6_beginNote_27 : decode cX6_beginNote 27 = .ok (.iload_n 1, 1) := by decide +kernel
theorem dX6_beginNote_28 : decode cX6_beginNote 28 = .ok (.invokestatic 81, 3) := by decide +kernel
theorem dX6_beginNote_31 : decode cX6_beginNote 31 = .ok (.putfield 24, 3) := by decide +kernel
theorem dX6_beginNote_34 : decode cX6_beginNote 34 = .ok (.aload_n 0, 1) := by decide +kernel
theorem dX6_beginNote_35 : decode cX6_beginNote 35 = .ok (.aload_n 0, 1) := by decide +kernel
theorem dX6_beginNote_36 : decode cX6_beginNote 36 = .ok (.getfield 20, 3) := by decide +kernel
theorem dX6_beginNote_39 : decode cX6_beginNote 39 = .ok (.invokestatic 84, 3) := by decide +kernel
theorem dX6_beginNote_42 : decode cX6_beginNote 42 = .ok (.putfield 27, 3) := by decide +kernel
theorem dX6_beginNote_45 : decode cX6_beginNote 45 = .ok (.return_, 1) := by decide +kernel
set_option maxRecDepth 20000 in
theorem ggX6_hear_X7_stolenSound : GoodIn wsX6_hear wsX7_stolenSound := goodIn_r _ [8, 9, 10, 11, 12, 13, 14, 7, 15] (by decide +kernel) (by decide +kernel)
set_option maxRecDepth 20000 in
theorem gX6_hear_X7_stolenSound_n87 : GoodIn wsX6_hear (wsX7_stolenSound) := ggX6_hear_X7_stolenSound
set_option maxRecDepth 20000 in
theorem ggX6_hear_X7_sound : GoodIn wsX6_hear wsX7_sound := goodIn_r _ [15] (by decide +kernel) (by decide +kernel)
set_option maxRecDepth 20000 in
theorem gX6_hear_X7_sound_n90 : GoodIn wsX6_hear (wsX7_sound) := ggX6_hear_X7_sound
theorem dX6_hear_0 : decode cX6_hear 0 = .ok (.aload_n 0, 1) := by decide +kernel
theorem dX6_hear_1 : decode cX6_hear 1 = .ok (.getfield 30, 3) := by decide +kernel
theorem dX6_hear_4 : decode cX6_hear 4 = .ok (.ifCond .le 27, 3) := by decide +kernel
theorem dX6_hear_7 : decode cX6_hear 7 = .ok (.aload_n 0, 1) := by decide +kernel
theorem dX6_hear_8 : decode cX6_hear 8 = .ok (.aload_n 0, 1) := by decide +kernel
theorem dX6_hear_9 : decode cX6_hear 9 = .ok (.getfield 33, 3) := by decide +kernel
theorem dX6_hear_12 : decode cX6_hear 12 = .ok (.invokestatic 87, 3) := by decide +kernel
theorem dX6_hear_15 : decode cX6_hear 15 = .ok (.putfield 36, 3) := by decide +kernel
theorem dX6_hear_18 : decode cX6_hear 18 = .ok (.aload_n 0, 1) := by decide +kernel
theorem dX6_hear_19 : decode cX6_hear 19 = .ok (.dup, 1) := by decide +kernel
theorem dX6_hear_20 : decode cX6_hear 20 = .ok (.getfield 30, 3) := by decide +kernel
theorem dX6_hear_23 : decode cX6_hear 23 = .ok (.iconst 1, 1) := by decide +kernel
theorem dX6_hear_24 : decode cX6_hear 24 = .ok (.isub, 1) := by decide +kernel
theorem dX6_hear_25 : decode cX6_hear 25 = .ok (.putfield 30, 3) := by decide +kernel
theorem dX6_hear_28 : decode cX6_hear 28 = .ok (.goto 29, 3) := by decide +kernel
theorem dX6_hear_31 : decode cX6_hear 31 = .ok (.aload_n 0, 1) := by decide +kernel
theorem dX6_hear_32 : decode cX6_hear 32 = .ok (.aload_n 0, 1) := by decide +kernel
theorem dX6_hear_33 : decode cX6_hear 33 = .ok (.getfield 27, 3) := by decide +kernel
theorem dX6_hear_36 : decode cX6_hear 36 = .ok (.ifCond .ne 7, 3) := by decide +kernel
theorem dX6_hear_39 : decode cX6_hear 39 = .ok (.iconst 0, 1) := by decide +kernel
theorem dX6_hear_40 : decode cX6_hear 40 = .ok (.goto 14, 3) := by decide +kernel
theorem dX6_hear_43 : decode cX6_hear 43 = .ok (.aload_n 0, 1) := by decide +kernel
theorem dX6_hear_44 : decode cX6_hear 44 = .ok (.getfield 24, 3) := by decide +kernel
theorem dX6_hear_47 : decode cX6_hear 47 = .ok (.aload_n 0, 1) := by decide +kernel
theorem dX6_hear_48 : decode cX6_hear 48 = .ok (.getfield 27, 3) := by decide +kernel
theorem dX6_hear_51 : decode cX6_hear 51 = .ok (.invokestatic 90, 3) := by decide +kernel
theorem dX6_hear_54 : decode cX6_hear 54 = .ok (.putfield 36, 3) := by decide +kernel
theorem dX6_hear_57 : decode cX6_hear 57 = .ok (.return_, 1) := by decide +kernel
set_option maxRecDepth 20000 in
theorem ggX6_endRow_X7_isIndex : GoodIn wsX6_endRow wsX7_isIndex := goodIn_r _ [7] (by decide +kernel) (by decide +kernel)
set_option maxRecDepth 20000 in
theorem gX6_endRow_X7_isIndex_n52 : GoodIn wsX6_endRow (wsX7_isIndex) := ggX6_endRow_X7_isIndex
set_option maxRecDepth 20000 in
theorem ggX6_endRow_X4_rowsOf : GoodIn wsX6_endRow wsX4_rowsOf := goodIn_r _ [12, 13, 5, 6, 7, 39, 40, 41, 42] (by decide +kernel) (by decide +kernel)
set_option maxRecDepth 20000 in
theorem gX6_endRow_X4_rowsOf : GoodIn wsX6_endRow (wsV RX6 93 RX4 yX4_rowsOf wsX4_rowsOf) := goodIn_app (goodIn_of _ (by decide +kernel)) ggX6_endRow_X4_rowsOf
set_option maxRecDepth 20000 in
theorem ggX6_endRow_X0_isCall : GoodIn wsX6_endRow wsX0_isCall := goodIn_r _ [17, 18, 19, 16, 20, 21, 22, 23] (by decide +kernel) (by decide +kernel)
set_option maxRecDepth 20000 in
theorem gX6_endRow_X0_isCall : GoodIn wsX6_endRow (va_wsS RX6 98 yX0_isCall wsX0_isCall) := goodIn_app (goodIn_of _ (by decide +kernel)) ggX6_endRow_X0_isCall
set_option maxRecDepth 20000 in
theorem ggX6_endRow_X0_numberOf : GoodIn wsX6_endRow wsX0_numberOf := goodIn_r _ [23] (by decide +kernel) (by decide +kernel)
set_option maxRecDepth 20000 in
theorem gX6_endRow_X0_numberOf : GoodIn wsX6_endRow (va_wsS RX6 63 yX0_numberOf wsX0_numberOf) := goodIn_app (goodIn_of _ (by decide +kernel)) ggX6_endRow_X0_numberOf
set_option maxRecDepth 20000 in
theorem ggX6_endRow_X6_enter : GoodIn wsX6_endRow wsX6_enter := goodIn_r _ [29, 1, 3, 2, 5, 6, 7, 30, 31, 32, 33, 34, 35, 36, 37, 38] (by decide +kernel) (by decide +kernel)
set_option maxRecDepth 20000 in
theorem gX6_endRow_X6_enter : GoodIn wsX6_endRow (wsV RX6 101 RX6 yX6_enter wsX6_enter) := goodIn_app (goodIn_of _ (by decide +kernel)) ggX6_endRow_X6_enter
theorem dX6_endRow_0 : decode cX6_endRow 0 = .ok (.aload_n 0, 1) := by decide +kernel
theorem dX6_endRow_1 : decode cX6_endRow 1 = .ok (.getfield 39, 3) := by decide +kernel
theorem dX6_endRow_4 : decode cX6_endRow 4 = .ok (.iconst 1, 1) := by decide +kernel
theorem dX6_endRow_5 : decode cX6_endRow 5 = .ok (.isub, 1) := by decide +kernel
theorem dX6_endRow_6 : decode cX6_endRow 6 = .ok (.istore_n 2, 1) := by decide +kernel
theorem dX6_endRow_7 : decode cX6_endRow 7 = .ok (.iload_n 2, 1) := by decide +kernel
theorem dX6_endRow_8 : decode cX6_endRow 8 = .ok (.iconst 3, 1) := by decide +kernel
theorem dX6_endRow_9 : decode cX6_endRow 9 = .ok (.invokestatic 52, 3) := by decide +kernel
theorem dX6_endRow_12 : decode cX6_endRow 12 = .ok (.ifCond .eq 37, 3) := by decide +kernel
theorem dX6_endRow_15 : decode cX6_endRow 15 = .ok (.aload_n 0, 1) := by decide +kernel
theorem dX6_endRow_16 : decode cX6_endRow 16 = .ok (.getfield 15, 3) := by decide +kernel
theorem dX6_endRow_19 : decode cX6_endRow 19 = .ok (.iload_n 2, 1) := by decide +kernel
theorem dX6_endRow_20 : decode cX6_endRow 20 = .ok (.dup2, 1) := by decide +kernel
theorem dX6_endRow_21 : decode cX6_endRow 21 = .ok (.iaload, 1) := by decide +kernel
theorem dX6_endRow_22 : decode cX6_endRow 22 = .ok (.iconst 1, 1) := by decide +kernel
theorem dX6_endRow_23 : decode cX6_endRow 23 = .ok (.iadd, 1) := by decide +kernel
theorem dX6_endRow_24 : decode cX6_endRow 24 = .ok (.iastore, 1) := by decide +kernel
theorem dX6_endRow_25 : decode cX6_endRow 25 = .ok (.aload_n 0, 1) := by decide +kernel
theorem dX6_endRow_26 : decode cX6_endRow 26 = .ok (.getfield 15, 3) := by decide +kernel
theorem dX6_endRow_29 : decode cX6_endRow 29 = .ok (.iload_n 2, 1) := by decide +kernel
theorem dX6_endRow_30 : decode cX6_endRow 30 = .ok (.iaload, 1) := by decide +kernel
theorem dX6_endRow_31 : decode cX6_endRow 31 = .ok (.aload_n 1, 1) := by decide +kernel
theorem dX6_endRow_32 : decode cX6_endRow 32 = .ok (.aload_n 0, 1) := by decide +kernel
theorem dX6_endRow_33 : decode cX6_endRow 33 = .ok (.getfield 9, 3) := by decide +kernel
theorem dX6_endRow_36 : decode cX6_endRow 36 = .ok (.iload_n 2, 1) := by decide +kernel
theorem dX6_endRow_37 : decode cX6_endRow 37 = .ok (.iaload, 1) := by decide +kernel
theorem dX6_endRow_38 : decode cX6_endRow 38 = .ok (.invokevirtual 93, 3) := by decide +kernel
theorem dX6_endRow_41 : decode cX6_endRow 41 = .ok (.if_icmp .lt 8, 3) := by decide +kernel
theorem dX6_endRow_44 : decode cX6_endRow 44 = .ok (.aload_n 0, 1) := by decide +kernel
theorem dX6_endRow_45 : decode cX6_endRow 45 = .ok (.iload_n 2, 1) := by decide +kernel
theorem dX6_endRow_46 : decode cX6_endRow 46 = .ok (.putfield 39, 3) := by decide +kernel
theorem dX6_endRow_49 : decode cX6_endRow 49 = .ok (.aload_n 0, 1) := by decide +kernel
theorem dX6_endRow_50 : decode cX6_endRow 50 = .ok (.getfield 20, 3) := by decide +kernel
theorem dX6_endRow_53 : decode cX6_endRow 53 = .ok (.invokestatic 98, 3) := by decide +kernel
theorem dX6_endRow_56 : decode cX6_endRow 56 = .ok (.ifCond .eq 14, 3) := by decide +kernel
theorem dX6_endRow_59 : decode cX6_endRow 59 = .ok (.aload_n 0, 1) := by decide +kernel
theorem dX6_endRow_60 : decode cX6_endRow 60 = .ok (.aload_n 0, 1) := by decide +kernel
theorem dX6_endRow_61 : decode cX6_endRow 61 = .ok (.getfield 20, 3) := by decide +kernel
theorem dX6_endRow_64 : decode cX6_endRow 64 = .ok (.invokestatic 63, 3) := by decide +kernel
theorem dX6_endRow_67 : decode cX6_endRow 67 = .ok (.invokevirtual 101, 3) := by decide +kernel
theorem dX6_endRow_70 : decode cX6_endRow 70 = .ok (.return_, 1) := by decide +kernel
set_option maxRecDepth 20000 in
theorem ggX6_enter_X7_isIndex : GoodIn wsX6_enter wsX7_isIndex := goodIn_r _ [6] (by decide +kernel) (by decide +kernel)
set_option maxRecDepth 20000 in
theorem gX6_enter_X7_isIndex_n52 : GoodIn wsX6_enter (wsX7_isIndex) := ggX6_enter_X7_isIndex
theorem dX6_enter_0 : decode cX6_enter 0 = .ok (.aload_n 0, 1) := by decide +kernel
theorem dX6_enter_1 : decode cX6_enter 1 = .ok (.getfield 39, 3) := by decide +kernel
theorem dX6_enter_4 : decode cX6_enter 4 = .ok (.iconst 3, 1) := by decide +kernel
theorem dX6_enter_5 : decode cX6_enter 5 = .ok (.invokestatic 52, 3) := by decide +kernel
theorem dX6_enter_8 : decode cX6_enter 8 = .ok (.ifCond .eq 33, 3) := by decide +kernel
theorem dX6_enter_11 : decode cX6_enter 11 = .ok (.aload_n 0, 1) := by decide +kernel
theorem dX6_enter_12 : decode cX6_enter 12 = .ok (.getfield 9, 3) := by decide +kernel
theorem dX6_enter_15 : decode cX6_enter 15 = .ok (.aload_n 0, 1) := by decide +kernel
theorem dX6_enter_16 : decode cX6_enter 16 = .ok (.getfield 39, 3) := by decide +kernel
theorem dX6_enter_19 : decode cX6_enter 19 = .ok (.iload_n 1, 1) := by decide +kernel
theorem dX6_enter_20 : decode cX6_enter 20 = .ok (.iastore, 1) := by decide +kernel
theorem dX6_enter_21 : decode cX6_enter 21 = .ok (.aload_n 0, 1) := by decide +kernel
theorem dX6_enter_22 : decode cX6_enter 22 = .ok (.getfield 15, 3) := by decide +kernel
theorem dX6_enter_25 : decode cX6_enter 25 = .ok (.aload_n 0, 1) := by decide +kernel
theorem dX6_enter_26 : decode cX6_enter 26 = .ok (.getfield 39, 3) := by decide +kernel
theorem dX6_enter_29 : decode cX6_enter 29 = .ok (.iconst 0, 1) := by decide +kernel
theorem dX6_enter_30 : decode cX6_enter 30 = .ok (.iastore, 1) := by decide +kernel
theorem dX6_enter_31 : decode cX6_enter 31 = .ok (.aload_n 0, 1) := by decide +kernel
theorem dX6_enter_32 : decode cX6_enter 32 = .ok (.dup, 1) := by decide +kernel
theorem dX6_enter_33 : decode cX6_enter 33 = .ok (.getfield 39, 3) := by decide +kernel
theorem dX6_enter_36 : decode cX6_enter 36 = .ok (.iconst 1, 1) := by decide +kernel
theorem dX6_enter_37 : decode cX6_enter 37 = .ok (.iadd, 1) := by decide +kernel
theorem dX6_enter_38 : decode cX6_enter 38 = .ok (.putfield 39, 3) := by decide +kernel
theorem dX6_enter_41 : decode cX6_enter 41 = .ok (.return_, 1) := by decide +kernel
set_option maxRecDepth 20000 in
theorem ggX6_fact_X6_latestPattern : GoodIn wsX6_fact wsX6_latestPattern := goodIn_r _ [11, 5, 12, 13, 14, 15, 21, 22, 23, 24, 25, 26, 27, 28, 29] (by decide +kernel) (by decide +kernel)
set_option maxRecDepth 20000 in
theorem gX6_fact_X6_latestPattern : GoodIn wsX6_fact (wsV RX6 105 RX6 yX6_latestPattern wsX6_latestPattern) := goodIn_app (goodIn_of _ (by decide +kernel)) ggX6_fact_X6_latestPattern
set_option maxRecDepth 20000 in
theorem ggX6_fact_X6_latestRow : GoodIn wsX6_fact wsX6_latestRow := goodIn_r _ [19, 5, 20, 13, 14, 15, 21, 22, 23, 24, 25, 26, 27, 28, 29] (by decide +kernel) (by decide +kernel)
set_option maxRecDepth 20000 in
theorem gX6_fact_X6_latestRow : GoodIn wsX6_fact (wsV RX6 109 RX6 yX6_latestRow wsX6_latestRow) := goodIn_app (goodIn_of _ (by decide +kernel)) ggX6_fact_X6_latestRow
theorem dX6_fact_0 : decode cX6_fact 0 = .ok (.iload_n 1, 1) := by decide +kernel
theorem dX6_fact_1 : decode cX6_fact 1 = .ok (.tableswitch 89 0 6 #[43, 48, 53, 58, 74, 79, 84], 43) := by decide +kernel
theorem dX6_fact_44 : decode cX6_fact 44 = .ok (.aload_n 0, 1) := by decide +kernel
theorem dX6_fact_45 : decode cX6_fact 45 = .ok (.getfield 24, 3) := by decide +kernel
theorem dX6_fact_48 : decode cX6_fact 48 = .ok (.ireturn, 1) := by decide +kernel
theorem dX6_fact_49 : decode cX6_fact 49 = .ok (.aload_n 0, 1) := by decide +kernel
theorem dX6_fact_50 : decode cX6_fact 50 = .ok (.getfield 27, 3) := by decide +kernel
theorem dX6_fact_53 : decode cX6_fact 53 = .ok (.ireturn, 1) := by decide +kernel
theorem dX6_fact_54 : decode cX6_fact 54 = .ok (.aload_n 0, 1) := by decide +kernel
theorem dX6_fact_55 : decode cX6_fact 55 = .ok (.getfield 30, 3) := by decide +kernel
theorem dX6_fact_58 : decode cX6_fact 58 = .ok (.ireturn, 1) := by decide +kernel
theorem dX6_fact_59 : decode cX6_fact 59 = .ok (.aload_n 0, 1) := by decide +kernel
theorem dX6_fact_60 : decode cX6_fact 60 = .ok (.getfield 30, 3) := by decide +kernel
theorem dX6_fact_63 : decode cX6_fact 63 = .ok (.ifCond .le 10, 3) := by decide +kernel
theorem dX6_fact_66 : decode cX6_fact 66 = .ok (.aload_n 0, 1) := by decide +kernel
theorem dX6_fact_67 : decode cX6_fact 67 = .ok (.getfield 33, 3) := by decide +kernel
theorem dX6_fact_70 : decode cX6_fact 70 = .ok (.goto 4, 3) := by decide +kernel
theorem dX6_fact_73 : decode cX6_fact 73 = .ok (.iconst (-1), 1) := by decide +kernel
theorem dX6_fact_74 : decode cX6_fact 74 = .ok (.ireturn, 1) := by decide +kernel
theorem dX6_fact_75 : decode cX6_fact 75 = .ok (.aload_n 0, 1) := by decide +kernel
theorem dX6_fact_76 : decode cX6_fact 76 = .ok (.getfield 39, 3) := by decide +kernel
theorem dX6_fact_79 : decode cX6_fact 79 = .ok (.ireturn, 1) := by decide +kernel
theorem dX6_fact_80 : decode cX6_fact 80 = .ok (.aload_n 0, 1) := by decide +kernel
theorem dX6_fact_81 : decode cX6_fact 81 = .ok (.invokevirtual 105, 3) := by decide +kernel
theorem dX6_fact_84 : decode cX6_fact 84 = .ok (.ireturn, 1) := by decide +kernel
theorem dX6_fact_85 : decode cX6_fact 85 = .ok (.aload_n 0, 1) := by decide +kernel
theorem dX6_fact_86 : decode cX6_fact 86 = .ok (.invokevirtual 109, 3) := by decide +kernel
theorem dX6_fact_89 : decode cX6_fact 89 = .ok (.ireturn, 1) := by decide +kernel
theorem dX6_fact_90 : decode cX6_fact 90 = .ok (.aload_n 0, 1) := by decide +kernel
theorem dX6_fact_91 : decode cX6_fact 91 = .ok (.getfield 36, 3) := by decide +kernel
theorem dX6_fact_94 : decode cX6_fact 94 = .ok (.ireturn, 1) := by decide +kernel
