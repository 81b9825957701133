theorem dX8_plays_0 : decode cX8_plays 0 = .ok (.bipush 17, 2) := by decide +kernel
theorem dX8_plays_2 : decode cX8_plays 2 = .ok (.istore_n 2, 1) := by decide +kernel
theorem dX8_plays_3 : decode cX8_plays 3 = .ok (.iconst 0, 1) := by decide +kernel
theorem dX8_plays_4 : decode cX8_plays 4 = .ok (.istore_n 3, 1) := by decide +kernel
theorem dX8_plays_5 : decode cX8_plays 5 = .ok (.iload_n 3, 1) := by decide +kernel
theorem dX8_plays_6 : decode cX8_plays 6 = .ok (.iload_n 1, 1) := by decide +kernel
theorem dX8_plays_7 : decode cX8_plays 7 = .ok (.if_icmp .ge 44, 3) := by decide +kernel
theorem dX8_plays_10 : decode cX8_plays 10 = .ok (.aload_n 0, 1) := by decide +kernel
theorem dX8_plays_11 : decode cX8_plays 11 = .ok (.invokevirtual 134, 3) := by decide +kernel
theorem dX8_plays_14 : decode cX8_plays 14 = .ok (.istore 4, 2) := by decide +kernel
theorem dX8_plays_16 : decode cX8_plays 16 = .ok (.iconst 0, 1) := by decide +kernel
theorem dX8_plays_17 : decode cX8_plays 17 = .ok (.istore 5, 2) := by decide +kernel
theorem dX8_plays_19 : decode cX8_plays 19 = .ok (.iload 5, 2) := by decide +kernel
theorem dX8_plays_21 : decode cX8_plays 21 = .ok (.iconst 4, 1) := by decide +kernel
theorem dX8_plays_22 : decode cX8_plays 22 = .ok (.if_icmp .ge 23, 3) := by decide +kernel
theorem dX8_plays_25 : decode cX8_plays 25 = .ok (.bipush 31, 2) := by decide +kernel
theorem dX8_plays_27 : decode cX8_plays 27 = .ok (.iload_n 2, 1) := by decide +kernel
theorem dX8_plays_28 : decode cX8_plays 28 = .ok (.imul, 1) := by decide +kernel
theorem dX8_plays_29 : decode cX8_plays 29 = .ok (.aload_n 0, 1) := by decide +kernel
theorem dX8_plays_30 : decode cX8_plays 30 = .ok (.iload 5, 2) := by decide +kernel
theorem dX8_plays_32 : decode cX8_plays 32 = .ok (.bipush 11, 2) := by decide +kernel
theorem dX8_plays_34 : decode cX8_plays 34 = .ok (.invokevirtual 107, 3) := by decide +kernel
theorem dX8_plays_37 : decode cX8_plays 37 = .ok (.iadd, 1) := by decide +kernel
theorem dX8_plays_38 : decode cX8_plays 38 = .ok (.istore_n 2, 1) := by decide +kernel
theorem dX8_plays_39 : decode cX8_plays 39 = .ok (.iinc 5 1, 3) := by decide +kernel
theorem dX8_plays_42 : decode cX8_plays 42 = .ok (.goto (-23), 3) := by decide +kernel
theorem dX8_plays_45 : decode cX8_plays 45 = .ok (.iinc 3 1, 3) := by decide +kernel
theorem dX8_plays_48 : decode cX8_plays 48 = .ok (.goto (-43), 3) := by decide +kernel
theorem dX8_plays_51 : decode cX8_plays 51 = .ok (.iload_n 2, 1) := by decide +kernel
theorem dX8_plays_52 : decode cX8_plays 52 = .ok (.ireturn, 1) := by decide +kernel
set_option maxRecDepth 20000 in
theorem ggX8_play_X8_in : GoodIn wsX8_play wsX8_in := goodIn_r _ [7] (by decide +kernel) (by decide +kernel)
set_option maxRecDepth 20000 in
theorem gX8_play_X8_in : GoodIn wsX8_play (va_wsS RX8 45 yX8_in wsX8_in) := goodIn_app (goodIn_of _ (by decide +kernel)) ggX8_play_X8_in
set_option maxRecDepth 20000 in
theorem ggX8_play_X8_throwing : GoodIn wsX8_play wsX8_throwing := goodIn_r _ [11, 12, 78, 79, 80, 81, 82, 83, 84, 85, 86, 87, 88] (by decide +kernel) (by decide +kernel)
set_option maxRecDepth 20000 in
theorem gX8_play_X8_throwing : GoodIn wsX8_play (wsV RX8 64 RX8 yX8_throwing wsX8_throwing) := goodIn_app (goodIn_of _ (by decide +kernel)) ggX8_play_X8_throwing
set_option maxRecDepth 20000 in
theorem ggX8_play_X8_save : GoodIn wsX8_play wsX8_save := goodIn_r _ [16, 17, 18, 2, 78, 79, 80, 81, 82, 83, 84, 85, 86, 87, 88] (by decide +kernel) (by decide +kernel)
set_option maxRecDepth 20000 in
theorem gX8_play_X8_save : GoodIn wsX8_play (wsV RX8 72 RX8 yX8_save wsX8_save) := goodIn_app (goodIn_of _ (by decide +kernel)) ggX8_play_X8_save
set_option maxRecDepth 20000 in
theorem ggX8_play_X8_plays : GoodIn wsX8_play wsX8_plays := goodIn_r _ [22, 23, 24, 25, 6, 26, 2, 27, 28, 29, 30, 31, 32, 33, 34, 35, 36, 37, 38, 39, 40, 41, 42, 43, 44, 45, 46, 47, 48, 49, 4, 5, 7, 50, 51, 52, 53, 54, 55, 56, 57, 58, 59, 60, 61, 62, 63, 64, 65, 66, 67, 68, 69, 70, 71, 72, 73, 78, 79, 80, 81, 82, 83, 84, 85, 86, 87, 88] (by decide +kernel) (by decide +kernel)
set_option maxRecDepth 20000 in
theorem gX8_play_X8_plays : GoodIn wsX8_play (wsV RX8 141 RX8 yX8_plays wsX8_plays) := goodIn_app (goodIn_of _ (by decide +kernel)) ggX8_play_X8_plays
set_option maxRecDepth 20000 in
theorem ggX8_play_X8_fine : GoodIn wsX8_play wsX8_fine := goodIn_r _ [77, 12, 78, 79, 80, 81, 82, 83, 84, 85, 86, 87, 88] (by decide +kernel) (by decide +kernel)
set_option maxRecDepth 20000 in
theorem gX8_play_X8_fine : GoodIn wsX8_play (wsV RX8 75 RX8 yX8_fine wsX8_fine) := goodIn_app (goodIn_of _ (by decide +kernel)) ggX8_play_X8_fine
theorem dX8_play_0 : decode cX8_play 0 = .ok (.iload_n 1, 1) := by decide +kernel
theorem dX8_play_1 : decode cX8_play 1 = .ok (.i2l, 1) := by decide +kernel
theorem dX8_play_2 : decode cX8_play 2 = .ok (.lconst 1, 1) := by decide +kernel
theorem dX8_play_3 : decode cX8_play 3 = .ok (.ldc2_w 138, 3) := by decide +kernel
theorem dX8_play_6 : decode cX8_play 6 = .ok (.invokestatic 45, 3) := by decide +kernel
theorem dX8_play_9 : decode cX8_play 9 = .ok (.ifCond .ne 9, 3) := by decide +kernel
theorem dX8_play_12 : decode cX8_play 12 = .ok (.aload_n 0, 1) := by decide +kernel
theorem dX8_play_13 : decode cX8_play 13 = .ok (.iconst 1, 1) := by decide +kernel
theorem dX8_play_14 : decode cX8_play 14 = .ok (.invokevirtual 64, 3) := by decide +kernel
theorem dX8_play_17 : decode cX8_play 17 = .ok (.ireturn, 1) := by decide +kernel
theorem dX8_play_18 : decode cX8_play 18 = .ok (.aload_n 0, 1) := by decide +kernel
theorem dX8_play_19 : decode cX8_play 19 = .ok (.getfield 7, 3) := by decide +kernel
theorem dX8_play_22 : decode cX8_play 22 = .ok (.iconst 4, 1) := by decide +kernel
theorem dX8_play_23 : decode cX8_play 23 = .ok (.iaload, 1) := by decide +kernel
theorem dX8_play_24 : decode cX8_play 24 = .ok (.iload_n 1, 1) := by decide +kernel
theorem dX8_play_25 : decode cX8_play 25 = .ok (.iadd, 1) := by decide +kernel
theorem dX8_play_26 : decode cX8_play 26 = .ok (.ldc 140, 2) := by decide +kernel
theorem dX8_play_28 : decode cX8_play 28 = .ok (.if_icmp .le 9, 3) := by decide +kernel
theorem dX8_play_31 : decode cX8_play 31 = .ok (.aload_n 0, 1) := by decide +kernel
theorem dX8_play_32 : decode cX8_play 32 = .ok (.iconst 2, 1) := by decide +kernel
theorem dX8_play_33 : decode cX8_play 33 = .ok (.invokevirtual 64, 3) := by decide +kernel
theorem dX8_play_36 : decode cX8_play 36 = .ok (.ireturn, 1) := by decide +kernel
theorem dX8_play_37 : decode cX8_play 37 = .ok (.aload_n 0, 1) := by decide +kernel
theorem dX8_play_38 : decode cX8_play 38 = .ok (.invokevirtual 72, 3) := by decide +kernel
theorem dX8_play_41 : decode cX8_play 41 = .ok (.aload_n 0, 1) := by decide +kernel
theorem dX8_play_42 : decode cX8_play 42 = .ok (.aload_n 0, 1) := by decide +kernel
theorem dX8_play_43 : decode cX8_play 43 = .ok (.iload_n 1, 1) := by decide +kernel
theorem dX8_play_44 : decode cX8_play 44 = .ok (.invokevirtual 141, 3) := by decide +kernel
theorem dX8_play_47 : decode cX8_play 47 = .ok (.invokevirtual 75, 3) := by decide +kernel
theorem dX8_play_50 : decode cX8_play 50 = .ok (.ireturn, 1) := by decide +kernel
set_option maxRecDepth 20000 in
theorem ggX8_restart_X8_save : GoodIn wsX8_restart wsX8_save := goodIn_r _ [6, 7, 8, 1, 18, 19, 20, 21, 22, 23, 24, 25, 26, 27, 28] (by decide +kernel) (by decide +kernel)
set_option maxRecDepth 20000 in
theorem gX8_restart_X8_save : GoodIn wsX8_restart (wsV RX8 72 RX8 yX8_save wsX8_save) := goodIn_app (goodIn_of _ (by decide +kernel)) ggX8_restart_X8_save
set_option maxRecDepth 20000 in
theorem ggX8_restart_X8_begins : GoodIn wsX8_restart wsX8_begins := goodIn_r _ [12, 1, 18, 19, 20, 21, 22, 23, 24, 25, 26, 27, 28] (by decide +kernel) (by decide +kernel)
set_option maxRecDepth 20000 in
theorem gX8_restart_X8_begins : GoodIn wsX8_restart (wsV RX8 29 RX8 yX8_begins wsX8_begins) := goodIn_app (goodIn_of _ (by decide +kernel)) ggX8_restart_X8_begins
set_option maxRecDepth 20000 in
theorem ggX8_restart_X8_fine : GoodIn wsX8_restart wsX8_fine := goodIn_r _ [16, 17, 18, 19, 20, 21, 22, 23, 24, 25, 26, 27, 28] (by decide +kernel) (by decide +kernel)
set_option maxRecDepth 20000 in
theorem gX8_restart_X8_fine : GoodIn wsX8_restart (wsV RX8 75 RX8 yX8_fine wsX8_fine) := goodIn_app (goodIn_of _ (by decide +kernel)) ggX8_restart_X8_fine
theorem dX8_restart_0 : decode cX8_restart 0 = .ok (.aload_n 0, 1) := by decide +kernel
theorem dX8_restart_1 : decode cX8_restart 1 = .ok (.invokevirtual 72, 3) := by decide +kernel
theorem dX8_restart_4 : decode cX8_restart 4 = .ok (.aload_n 0, 1) := by decide +kernel
theorem dX8_restart_5 : decode cX8_restart 5 = .ok (.getfield 7, 3) := by decide +kernel
theorem dX8_restart_8 : decode cX8_restart 8 = .ok (.iconst 4, 1) := by decide +kernel
theorem dX8_restart_9 : decode cX8_restart 9 = .ok (.iaload, 1) := by decide +kernel
theorem dX8_restart_10 : decode cX8_restart 10 = .ok (.istore_n 1, 1) := by decide +kernel
theorem dX8_restart_11 : decode cX8_restart 11 = .ok (.aload_n 0, 1) := by decide +kernel
theorem dX8_restart_12 : decode cX8_restart 12 = .ok (.invokevirtual 29, 3) := by decide +kernel
theorem dX8_restart_15 : decode cX8_restart 15 = .ok (.aload_n 0, 1) := by decide +kernel
theorem dX8_restart_16 : decode cX8_restart 16 = .ok (.iload_n 1, 1) := by decide +kernel
theorem dX8_restart_17 : decode cX8_restart 17 = .ok (.invokevirtual 75, 3) := by decide +kernel
theorem dX8_restart_20 : decode cX8_restart 20 = .ok (.ireturn, 1) := by decide +kernel
set_option maxRecDepth 20000 in
theorem ggX8_steal_X8_isChannel : GoodIn wsX8_steal wsX8_isChannel := goodIn_r _ [7, 8, 9, 10, 6, 11] (by decide +kernel) (by decide +kernel)
set_option maxRecDepth 20000 in
theorem gX8_steal_X8_isChannel : GoodIn wsX8_steal (va_wsS RX8 57 yX8_isChannel wsX8_isChannel) := goodIn_app (goodIn_of _ (by decide +kernel)) ggX8_steal_X8_isChannel
set_option maxRecDepth 20000 in
theorem ggX8_steal_X8_throwing : GoodIn wsX8_steal wsX8_throwing := goodIn_r _ [15, 16, 34, 35, 36, 37, 38, 39, 40, 41, 42, 43, 44] (by decide +kernel) (by decide +kernel)
set_option maxRecDepth 20000 in
theorem gX8_steal_X8_throwing : GoodIn wsX8_steal (wsV RX8 64 RX8 yX8_throwing wsX8_throwing) := goodIn_app (goodIn_of _ (by decide +kernel)) ggX8_steal_X8_throwing
set_option maxRecDepth 20000 in
theorem ggX8_steal_X8_in : GoodIn wsX8_steal wsX8_in := goodIn_r _ [11] (by decide +kernel) (by decide +kernel)
set_option maxRecDepth 20000 in
theorem gX8_steal_X8_in : GoodIn wsX8_steal (va_wsS RX8 45 yX8_in wsX8_in) := goodIn_app (goodIn_of _ (by decide +kernel)) ggX8_steal_X8_in
set_option maxRecDepth 20000 in
theorem ggX8_steal_X8_save : GoodIn wsX8_steal wsX8_save := goodIn_r _ [20, 21, 22, 3, 34, 35, 36, 37, 38, 39, 40, 41, 42, 43, 44] (by decide +kernel) (by decide +kernel)
set_option maxRecDepth 20000 in
theorem gX8_steal_X8_save : GoodIn wsX8_steal (wsV RX8 72 RX8 yX8_save wsX8_save) := goodIn_app (goodIn_of _ (by decide +kernel)) ggX8_steal_X8_save
set_option maxRecDepth 20000 in
theorem ggX8_steal_X8_of : GoodIn wsX8_steal wsX8_of := goodIn_r _ [26, 3, 27, 28, 6, 29, 34, 35, 36, 37, 38, 39, 40, 41, 42, 43, 44] (by decide +kernel) (by decide +kernel)
set_option maxRecDepth 20000 in
theorem gX8_steal_X8_of : GoodIn wsX8_steal (wsV RX8 107 RX8 yX8_of wsX8_of) := goodIn_app (goodIn_of _ (by decide +kernel)) ggX8_steal_X8_of
set_option maxRecDepth 20000 in
theorem ggX8_steal_X8_at : GoodIn wsX8_steal wsX8_at := goodIn_r _ [29] (by decide +kernel) (by decide +kernel)
set_option maxRecDepth 20000 in
theorem gX8_steal_X8_at : GoodIn wsX8_steal (va_wsS RX8 104 yX8_at wsX8_at) := goodIn_app (goodIn_of _ (by decide +kernel)) ggX8_steal_X8_at
set_option maxRecDepth 20000 in
theorem ggX8_steal_X8_fine : GoodIn wsX8_steal wsX8_fine := goodIn_r _ [33, 16, 34, 35, 36, 37, 38, 39, 40, 41, 42, 43, 44] (by decide +kernel) (by decide +kernel)
set_option maxRecDepth 20000 in
theorem gX8_steal_X8_fine : GoodIn wsX8_steal (wsV RX8 75 RX8 yX8_fine wsX8_fine) := goodIn_app (goodIn_of _ (by decide +kernel)) ggX8_steal_X8_fine
theorem dX8_steal_0 : decode cX8_steal 0 = .ok (.iload_n 1, 1) := by decide +kernel
theorem dX8_steal_1 : decode cX8_steal 1 = .ok (.invokestatic 57, 3) := by decide +kernel
theorem dX8_steal_4 : decode cX8_steal 4 = .ok (.ifCond .ne 9, 3) := by decide +kernel
theorem dX8_steal_7 : decode cX8_steal 7 = .ok (.aload_n 0, 1) := by decide +kernel
theorem dX8_steal_8 : decode cX8_steal 8 = .ok (.iconst 1, 1) := by decide +kernel
theorem dX8_steal_9 : decode cX8_steal 9 = .ok (.invokevirtual 64, 3) := by decide +kernel
theorem dX8_steal_12 : decode cX8_steal 12 = .ok (.ireturn, 1) := by decide +kernel
theorem dX8_steal_13 : decode cX8_steal 13 = .ok (.iload_n 2, 1) := by decide +kernel
theorem dX8_steal_14 : decode cX8_steal 14 = .ok (.i2l, 1) := by decide +kernel
theorem dX8_steal_15 : decode cX8_steal 15 = .ok (.lconst 1, 1) := by decide +kernel
theorem dX8_steal_16 : decode cX8_steal 16 = .ok (.ldc2_w 85, 3) := by decide +kernel
theorem dX8_steal_19 : decode cX8_steal 19 = .ok (.invokestatic 45, 3) := by decide +kernel
theorem dX8_steal_22 : decode cX8_steal 22 = .ok (.ifCond .eq 15, 3) := by decide +kernel
theorem dX8_steal_25 : decode cX8_steal 25 = .ok (.iload_n 3, 1) := by decide +kernel
theorem dX8_steal_26 : decode cX8_steal 26 = .ok (.i2l, 1) := by decide +kernel
theorem dX8_steal_27 : decode cX8_steal 27 = .ok (.lconst 1, 1) := by decide +kernel
theorem dX8_steal_28 : decode cX8_steal 28 = .ok (.ldc2_w 144, 3) := by decide +kernel
theorem dX8_steal_31 : decode cX8_steal 31 = .ok (.invokestatic 45, 3) := by decide +kernel
theorem dX8_steal_34 : decode cX8_steal 34 = .ok (.ifCond .ne 9, 3) := by decide +kernel
theorem dX8_steal_37 : decode cX8_steal 37 = .ok (.aload_n 0, 1) := by decide +kernel
theorem dX8_steal_38 : decode cX8_steal 38 = .ok (.iconst 2, 1) := by decide +kernel
theorem dX8_steal_39 : decode cX8_steal 39 = .ok (.invokevirtual 64, 3) := by decide +kernel
theorem dX8_steal_42 : decode cX8_steal 42 = .ok (.ireturn, 1) := by decide +kernel
theorem dX8_steal_43 : decode cX8_steal 43 = .ok (.aload_n 0, 1) := by decide +kernel
theorem dX8_steal_44 : decode cX8_steal 44 = .ok (.invokevirtual 72, 3) := by decide +kernel
theorem dX8_steal_47 : decode cX8_steal 47 = .ok (.aload_n 0, 1) := by decide +kernel
theorem dX8_steal_48 : decode cX8_steal 48 = .ok (.iload_n 1, 1) := by decide +kernel
theorem dX8_steal_49 : decode cX8_steal 49 = .ok (.iconst 2, 1) := by decide +kernel
theorem dX8_steal_50 : decode cX8_steal 50 = .ok (.invokevirtual 107, 3) := by decide +kernel
theorem dX8_steal_53 : decode cX8_steal 53 = .ok (.istore 4, 2) := by decide +kernel
theorem dX8_steal_55 : decode cX8_steal 55 = .ok (.aload_n 0, 1) := by decide +kernel
theorem dX8_steal_56 : decode cX8_steal 56 = .ok (.getfield 7, 3) := by decide +kernel
theorem dX8_steal_59 : decode cX8_steal 59 = .ok (.iload_n 1, 1) := by decide +kernel
theorem dX8_steal_60 : decode cX8_steal 60 = .ok (.iconst 2, 1) := by decide +kernel
theorem dX8_steal_61 : decode cX8_steal 61 = .ok (.invokestatic 104, 3) := by decide +kernel
theorem dX8_steal_64 : decode cX8_steal 64 = .ok (.iload_n 3, 1) := by decide +kernel
theorem dX8_steal_65 : decode cX8_steal 65 = .ok (.iastore, 1) := by decide +kernel
theorem dX8_steal_66 : decode cX8_steal 66 = .ok (.aload_n 0, 1) := by decide +kernel
theorem dX8_steal_67 : decode cX8_steal 67 = .ok (.getfield 7, 3) := by decide +kernel
theorem dX8_steal_70 : decode cX8_steal 70 = .ok (.iload_n 1, 1) := by decide +kernel
theorem dX8_steal_71 : decode cX8_steal 71 = .ok (.iconst 3, 1) := by decide +kernel
theorem dX8_steal_72 : decode cX8_steal 72 = .ok (.invokestatic 104, 3) := by decide +kernel
theorem dX8_steal_75 : decode cX8_steal 75 = .ok (.iload_n 2, 1) := by decide +kernel
theorem dX8_steal_76 : decode cX8_steal 76 = .ok (.iastore, 1) := by decide +kernel
theorem dX8_steal_77 : decode cX8_steal 77 = .ok (.aload_n 0, 1) := by decide +kernel
theorem dX8_steal_78 : decode cX8_steal 78 = .ok (.iload 4, 2) := by decide +kernel
theorem dX8_steal_80 : decode cX8_steal 80 = .ok (.invokevirtual 75, 3) := by decide +kernel
theorem dX8_steal_83 : decode cX8_steal 83 = .ok (.ireturn, 1) := by decide +kernel
set_option maxRecDepth 20000 in
theorem ggX8_giveBack_X8_isChannel : GoodIn wsX8_giveBack wsX8_isChannel := goodIn_r _ [5, 6, 7, 8, 4, 9] (by decide +kernel) (by decide +kernel)
set_option maxRecDepth 20000 in
theorem gX8_giveBack_X8_isChannel : GoodIn wsX8_giveBack (va_wsS RX8 57 yX8_isChannel wsX8_isChannel) := goodIn_app (goodIn_of _ (by decide +kernel)) ggX8_giveBack_X8_isChannel
set_option maxRecDepth 20000 in
theorem ggX8_giveBack_X8_throwing : GoodIn wsX8_giveBack wsX8_throwing := goodIn_r _ [13, 14, 32, 33, 34, 35, 36, 37, 38, 39, 40, 41, 42] (by decide +kernel) (by decide +kernel)
set_option maxRecDepth 20000 in
theorem gX8_giveBack_X8_throwing : GoodIn wsX8_giveBack (wsV RX8 64 RX8 yX8_throwing wsX8_throwing) := goodIn_app (goodIn_of _ (by decide +kernel)) ggX8_giveBack_X8_throwing
set_option maxRecDepth 20000 in
theorem ggX8_giveBack_X8_save : GoodIn wsX8_giveBack wsX8_save := goodIn_r _ [18, 19, 20, 1, 32, 33, 34, 35, 36, 37, 38, 39, 40, 41, 42] (by decide +kernel) (by decide +kernel)
set_option maxRecDepth 20000 in
theorem gX8_giveBack_X8_save : GoodIn wsX8_giveBack (wsV RX8 72 RX8 yX8_save wsX8_save) := goodIn_app (goodIn_of _ (by decide +kernel)) ggX8_giveBack_X8_save
set_option maxRecDepth 20000 in
theorem ggX8_giveBack_X8_of : GoodIn wsX8_giveBack wsX8_of := goodIn_r _ [24, 1, 25, 26, 4, 27, 32, 33, 34, 35, 36, 37, 38, 39, 40, 41, 42] (by decide +kernel) (by decide +kernel)
set_option maxRecDepth 20000 in
theorem gX8_giveBack_X8_of : GoodIn wsX8_giveBack (wsV RX8 107 RX8 yX8_of wsX8_of) := goodIn_app (goodIn_of _ (by decide +kernel)) ggX8_giveBack_X8_of
set_option maxRecDepth 20000 in
theorem ggX8_giveBack_X8_at : GoodIn wsX8_giveBack wsX8_at := goodIn_r _ [27] (by decide +kernel) (by decide +kernel)
set_option maxRecDepth 20000 in
theorem gX8_giveBack_X8_at : GoodIn wsX8_giveBack (va_wsS RX8 104 yX8_at wsX8_at) := goodIn_app (goodIn_of _ (by decide +kernel)) ggX8_giveBack_X8_at
set_option maxRecDepth 20000 in
theorem ggX8_giveBack_X8_fine : GoodIn wsX8_giveBack wsX8_fine := goodIn_r _ [31, 14, 32, 33, 34, 35, 36, 37, 38, 39, 40, 41, 42] (by decide +kernel) (by decide +kernel)
set_option maxRecDepth 20000 in
theorem gX8_giveBack_X8_fine : GoodIn wsX8_giveBack (wsV RX8 75 RX8 yX8_fine wsX8_fine) := goodIn_app (goodIn_of _ (by decide +kernel)) ggX8_giveBack_X8_fine
theorem dX8_giveBack_0 : decode cX8_giveBack 0 = .ok (.iload_n 1, 1) := by decide +kernel
theorem dX8_giveBack_1 : decode cX8_giveBack 1 = .ok (.invokestatic 57, 3) := by decide +kernel
theorem dX8_giveBack_4 : decode cX8_giveBack 4 = .ok (.ifCond .ne 9, 3) := by decide +kernel
theorem dX8_giveBack_7 : decode cX8_giveBack 7 = .ok (.aload_n 0, 1) := by decide +kernel
theorem dX8_giveBack_8 : decode cX8_giveBack 8 = .ok (.iconst 1, 1) := by decide +kernel
theorem dX8_giveBack_9 : decode cX8_giveBack 9 = .ok (.invokevirtual 64, 3) := by decide +kernel
theorem dX8_giveBack_12 : decode cX8_giveBack 12 = .ok (.ireturn, 1) := by decide +kernel
theorem dX8_giveBack_13 : decode cX8_giveBack 13 = .ok (.aload_n 0, 1) := by decide +kernel
theorem dX8_giveBack_14 : decode cX8_giveBack 14 = .ok (.invokevirtual 72, 3) := by decide +kernel
theorem dX8_giveBack_17 : decode cX8_giveBack 17 = .ok (.aload_n 0, 1) := by decide +kernel
theorem dX8_giveBack_18 : decode cX8_giveBack 18 = .ok (.iload_n 1, 1) := by decide +kernel
theorem dX8_giveBack_19 : decode cX8_giveBack 19 = .ok (.iconst 2, 1) := by decide +kernel
theorem dX8_giveBack_20 : decode cX8_giveBack 20 = .ok (.invokevirtual 107, 3) := by decide +kernel
theorem dX8_giveBack_23 : decode cX8_giveBack 23 = .ok (.istore_n 2, 1) := by decide +kernel
theorem dX8_giveBack_24 : decode cX8_giveBack 24 = .ok (.aload_n 0, 1) := by decide +kernel
theorem dX8_giveBack_25 : decode cX8_giveBack 25 = .ok (.getfield 7, 3) := by decide +kernel
theorem dX8_giveBack_28 : decode cX8_giveBack 28 = .ok (.iload_n 1, 1) := by decide +kernel
theorem dX8_giveBack_29 : decode cX8_giveBack 29 = .ok (.iconst 2, 1) := by decide +kernel
theorem dX8_giveBack_30 : decode cX8_giveBack 30 = .ok (.invokestatic 104, 3) := by decide +kernel
theorem dX8_giveBack_33 : decode cX8_giveBack 33 = .ok (.iconst 0, 1) := by decide +kernel
theorem dX8_giveBack_34 : decode cX8_giveBack 34 = .ok (.iastore, 1) := by decide +kernel
theorem dX8_giveBack_35 : decode cX8_giveBack 35 = .ok (.aload_n 0, 1) := by decide +kernel
theorem dX8_giveBack_36 : decode cX8_giveBack 36 = .ok (.iload_n 2, 1) := by decide +kernel
theorem dX8_giveBack_37 : decode cX8_giveBack 37 = .ok (.invokevirtual 75, 3) := by decide +kernel
theorem dX8_giveBack_40 : decode cX8_giveBack 40 = .ok (.ireturn, 1) := by decide +kernel
set_option maxRecDepth 20000 in
theorem ggX8_channelOf_X8_of : GoodIn wsX8_channelOf wsX8_of := goodIn_r _ [6, 1, 7, 8, 5, 9, 14, 15, 16, 17, 18, 19, 20, 21, 22, 23, 24] (by decide +kernel) (by decide +kernel)
set_option maxRecDepth 20000 in
theorem gX8_channelOf_X8_of : GoodIn wsX8_channelOf (wsV RX8 107 RX8 yX8_of wsX8_of) := goodIn_app (goodIn_of _ (by decide +kernel)) ggX8_channelOf_X8_of
set_option maxRecDepth 20000 in
theorem ggX8_channelOf_X8_latest : GoodIn wsX8_channelOf wsX8_latest := goodIn_r _ [13, 2, 3, 4, 5, 6, 1, 7, 8, 9, 14, 15, 16, 17, 18, 19, 20, 21, 22, 23, 24] (by decide +kernel) (by decide +kernel)
set_option maxRecDepth 20000 in
theorem gX8_channelOf_X8_latest : GoodIn wsX8_channelOf (wsV RX8 110 RX8 yX8_latest wsX8_latest) := goodIn_app (goodIn_of _ (by decide +kernel)) ggX8_channelOf_X8_latest
theorem dX8_channelOf_0 : decode cX8_channelOf 0 = .ok (.iload_n 2, 1) := by decide +kernel
theorem dX8_channelOf_1 : decode cX8_channelOf 1 = .ok (.tableswitch 91 3 7 #[35, 91, 55, 55, 83], 35) := by decide +kernel
theorem dX8_channelOf_36 : decode cX8_channelOf 36 = .ok (.aload_n 0, 1) := by decide +kernel
theorem dX8_channelOf_37 : decode cX8_channelOf 37 = .ok (.iload_n 1, 1) := by decide +kernel
theorem dX8_channelOf_38 : decode cX8_channelOf 38 = .ok (.iconst 2, 1) := by decide +kernel
theorem dX8_channelOf_39 : decode cX8_channelOf 39 = .ok (.invokevirtual 107, 3) := by decide +kernel
theorem dX8_channelOf_42 : decode cX8_channelOf 42 = .ok (.ifCond .le 12, 3) := by decide +kernel
theorem dX8_channelOf_45 : decode cX8_channelOf 45 = .ok (.aload_n 0, 1) := by decide +kernel
theorem dX8_channelOf_46 : decode cX8_channelOf 46 = .ok (.iload_n 1, 1) := by decide +kernel
theorem dX8_channelOf_47 : decode cX8_channelOf 47 = .ok (.iconst 3, 1) := by decide +kernel
theorem dX8_channelOf_48 : decode cX8_channelOf 48 = .ok (.invokevirtual 107, 3) := by decide +kernel
theorem dX8_channelOf_51 : decode cX8_channelOf 51 = .ok (.goto 4, 3) := by decide +kernel
theorem dX8_channelOf_54 : decode cX8_channelOf 54 = .ok (.iconst (-1), 1) := by decide +kernel
theorem dX8_channelOf_55 : decode cX8_channelOf 55 = .ok (.ireturn, 1) := by decide +kernel
theorem dX8_channelOf_56 : decode cX8_channelOf 56 = .ok (.aload_n 0, 1) := by decide +kernel
theorem dX8_channelOf_57 : decode cX8_channelOf 57 = .ok (.iload_n 1, 1) := by decide +kernel
theorem dX8_channelOf_58 : decode cX8_channelOf 58 = .ok (.iconst 4, 1) := by decide +kernel
theorem dX8_channelOf_59 : decode cX8_channelOf 59 = .ok (.invokevirtual 107, 3) := by decide +kernel
theorem dX8_channelOf_62 : decode cX8_channelOf 62 = .ok (.ifCond .le 20, 3) := by decide +kernel
theorem dX8_channelOf_65 : decode cX8_channelOf 65 = .ok (.aload_n 0, 1) := by decide +kernel
theorem dX8_channelOf_66 : decode cX8_channelOf 66 = .ok (.getfield 7, 3) := by decide +kernel
theorem dX8_channelOf_69 : decode cX8_channelOf 69 = .ok (.aload_n 0, 1) := by decide +kernel
theorem dX8_channelOf_70 : decode cX8_channelOf 70 = .ok (.iload_n 1, 1) := by decide +kernel
theorem dX8_channelOf_71 : decode cX8_channelOf 71 = .ok (.invokevirtual 110, 3) := by decide +kernel
theorem dX8_channelOf_74 : decode cX8_channelOf 74 = .ok (.iload_n 2, 1) := by decide +kernel
theorem dX8_channelOf_75 : decode cX8_channelOf 75 = .ok (.iadd, 1) := by decide +kernel
theorem dX8_channelOf_76 : decode cX8_channelOf 76 = .ok (.iconst 5, 1) := by decide +kernel
theorem dX8_channelOf_77 : decode cX8_channelOf 77 = .ok (.isub, 1) := by decide +kernel
theorem dX8_channelOf_78 : decode cX8_channelOf 78 = .ok (.iaload, 1) := by decide +kernel
theorem dX8_channelOf_79 : decode cX8_channelOf 79 = .ok (.goto 4, 3) := by decide +kernel
theorem dX8_channelOf_82 : decode cX8_channelOf 82 = .ok (.iconst (-1), 1) := by decide +kernel
theorem dX8_channelOf_83 : decode cX8_channelOf 83 = .ok (.ireturn, 1) := by decide +kernel
theorem dX8_channelOf_84 : decode cX8_channelOf 84 = .ok (.aload_n 0, 1) := by decide +kernel
theorem dX8_channelOf_85 : decode cX8_channelOf 85 = .ok (.iload_n 1, 1) := by decide +kernel
theorem dX8_channelOf_86 : decode cX8_channelOf 86 = .ok (.bipush 11, 2) := by decide +kernel
theorem dX8_channelOf_88 : decode cX8_channelOf 88 = .ok (.invokevirtual 107, 3) := by decide +kernel
theorem dX8_channelOf_91 : decode cX8_channelOf 91 = .ok (.ireturn, 1) := by decide +kernel
theorem dX8_channelOf_92 : decode cX8_channelOf 92 = .ok (.aload_n 0, 1) := by decide +kernel
theorem dX8_channelOf_93 : decode cX8_channelOf 93 = .ok (.iload_n 1, 1) := by decide +kernel
theorem dX8_channelOf_94 : decode cX8_channelOf 94 = .ok (.iload_n 2, 1) := by decide +kernel
theorem dX8_channelOf_95 : decode cX8_channelOf 95 = .ok (.invokevirtual 107, 3) := by decide +kernel
theorem dX8_channelOf_98 : decode cX8_channelOf 98 = .ok (.ireturn, 1) := by decide +kernel
set_option maxRecDepth 20000 in
theorem ggX8_channel_X8_isChannel : GoodIn wsX8_channel wsX8_isChannel := goodIn_r _ [5, 6, 7, 8, 4, 9] (by decide +kernel) (by decide +kernel)
set_option maxRecDepth 20000 in
theorem gX8_channel_X8_isChannel : GoodIn wsX8_channel (va_wsS RX8 57 yX8_isChannel wsX8_isChannel) := goodIn_app (goodIn_of _ (by decide +kernel)) ggX8_channel_X8_isChannel
set_option maxRecDepth 20000 in
theorem ggX8_channel_X8_throwing : GoodIn wsX8_channel wsX8_throwing := goodIn_r _ [13, 14, 35, 36, 37, 38, 39, 40, 41, 42, 43, 44, 45] (by decide +kernel) (by decide +kernel)
set_option maxRecDepth 20000 in
theorem gX8_channel_X8_throwing : GoodIn wsX8_channel (wsV RX8 64 RX8 yX8_throwing wsX8_throwing) := goodIn_app (goodIn_of _ (by decide +kernel)) ggX8_channel_X8_throwing
set_option maxRecDepth 20000 in
theorem ggX8_channel_X8_in : GoodIn wsX8_channel wsX8_in := goodIn_r _ [9] (by decide +kernel) (by decide +kernel)
set_option maxRecDepth 20000 in
theorem gX8_channel_X8_in : GoodIn wsX8_channel (va_wsS RX8 45 yX8_in wsX8_in) := goodIn_app (goodIn_of _ (by decide +kernel)) ggX8_channel_X8_in
set_option maxRecDepth 20000 in
theorem ggX8_channel_X8_channelOf : GoodIn wsX8_channel wsX8_channelOf := goodIn_r _ [18, 19, 20, 21, 22, 4, 23, 24, 25, 26, 27, 28, 29, 30, 35, 36, 37, 38, 39, 40, 41, 42, 43, 44, 45] (by decide +kernel) (by decide +kernel)
set_option maxRecDepth 20000 in
theorem gX8_channel_X8_channelOf : GoodIn wsX8_channel (wsV RX8 146 RX8 yX8_channelOf wsX8_channelOf) := goodIn_app (goodIn_of _ (by decide +kernel)) ggX8_channel_X8_channelOf
set_option maxRecDepth 20000 in
theorem ggX8_channel_X8_fine : GoodIn wsX8_channel wsX8_fine := goodIn_r _ [34, 14, 35, 36, 37, 38, 39, 40, 41, 42, 43, 44, 45] (by decide +kernel) (by decide +kernel)
set_option maxRecDepth 20000 in
theorem gX8_channel_X8_fine : GoodIn wsX8_channel (wsV RX8 75 RX8 yX8_fine wsX8_fine) := goodIn_app (goodIn_of _ (by decide +kernel)) ggX8_channel_X8_fine
theorem dX8_channel_0 : decode cX8_channel 0 = .ok (.iload_n 1, 1) := by decide +kernel
theorem dX8_channel_1 : decode cX8_channel 1 = .ok (.invokestatic 57, 3) := by decide +kernel
theorem dX8_channel_4 : decode cX8_channel 4 = .ok (.ifCond .ne 9, 3) := by decide +kernel
theorem dX8_channel_7 : decode cX8_channel 7 = .ok (.aload_n 0, 1) := by decide +kernel
theorem dX8_channel_8 : decode cX8_channel 8 = .ok (.iconst 1, 1) := by decide +kernel
theorem dX8_channel_9 : decode cX8_channel 9 = .ok (.invokevirtual 64, 3) := by decide +kernel
theorem dX8_channel_12 : decode cX8_channel 12 = .ok (.ireturn, 1) := by decide +kernel
theorem dX8_channel_13 : decode cX8_channel 13 = .ok (.iload_n 2, 1) := by decide +kernel
theorem dX8_channel_14 : decode cX8_channel 14 = .ok (.i2l, 1) := by decide +kernel
theorem dX8_channel_15 : decode cX8_channel 15 = .ok (.lconst 0, 1) := by decide +kernel
theorem dX8_channel_16 : decode cX8_channel 16 = .ok (.ldc2_w 55, 3) := by decide +kernel
theorem dX8_channel_19 : decode cX8_channel 19 = .ok (.invokestatic 45, 3) := by decide +kernel
theorem dX8_channel_22 : decode cX8_channel 22 = .ok (.ifCond .eq 16, 3) := by decide +kernel
theorem dX8_channel_25 : decode cX8_channel 25 = .ok (.aload_n 0, 1) := by decide +kernel
theorem dX8_channel_26 : decode cX8_channel 26 = .ok (.aload_n 0, 1) := by decide +kernel
theorem dX8_channel_27 : decode cX8_channel 27 = .ok (.iload_n 1, 1) := by decide +kernel
theorem dX8_channel_28 : decode cX8_channel 28 = .ok (.iload_n 2, 1) := by decide +kernel
theorem dX8_channel_29 : decode cX8_channel 29 = .ok (.invokevirtual 146, 3) := by decide +kernel
theorem dX8_channel_32 : decode cX8_channel 32 = .ok (.invokevirtual 75, 3) := by decide +kernel
theorem dX8_channel_35 : decode cX8_channel 35 = .ok (.goto 8, 3) := by decide +kernel
theorem dX8_channel_38 : decode cX8_channel 38 = .ok (.aload_n 0, 1) := by decide +kernel
theorem dX8_channel_39 : decode cX8_channel 39 = .ok (.iconst 2, 1) := by decide +kernel
theorem dX8_channel_40 : decode cX8_channel 40 = .ok (.invokevirtual 64, 3) := by decide +kernel
theorem dX8_channel_43 : decode cX8_channel 43 = .ok (.ireturn, 1) := by decide +kernel
set_option maxRecDepth 20000 in
theorem ggX8_valueOf_X8_patternAtPlace : GoodIn wsX8_valueOf wsX8_patternAtPlace := goodIn_r _ [6, 1, 7, 8, 9, 10, 11, 12, 13, 14, 15, 16, 17] (by decide +kernel) (by decide +kernel)
set_option maxRecDepth 20000 in
theorem gX8_valueOf_X8_patternAtPlace : GoodIn wsX8_valueOf (wsV RX8 113 RX8 yX8_patternAtPlace wsX8_patternAtPlace) := goodIn_app (goodIn_of _ (by decide +kernel)) ggX8_valueOf_X8_patternAtPlace
theorem dX8_valueOf_0 : decode cX8_valueOf 0 = .ok (.iload_n 1, 1) := by decide +kernel
theorem dX8_valueOf_1 : decode cX8_valueOf 1 = .ok (.bipush 7, 2) := by decide +kernel
theorem dX8_valueOf_3 : decode cX8_valueOf 3 = .ok (.if_icmp .ne 10, 3) := by decide +kernel
theorem dX8_valueOf_6 : decode cX8_valueOf 6 = .ok (.aload_n 0, 1) := by decide +kernel
theorem dX8_valueOf_7 : decode cX8_valueOf 7 = .ok (.invokevirtual 113, 3) := by decide +kernel
theorem dX8_valueOf_10 : decode cX8_valueOf 10 = .ok (.goto 9, 3) := by decide +kernel
theorem dX8_valueOf_13 : decode cX8_valueOf 13 = .ok (.aload_n 0, 1) := by decide +kernel
theorem dX8_valueOf_14 : decode cX8_valueOf 14 = .ok (.getfield 7, 3) := by decide +kernel
theorem dX8_valueOf_17 : decode cX8_valueOf 17 = .ok (.iload_n 1, 1) := by decide +kernel
theorem dX8_valueOf_18 : decode cX8_valueOf 18 = .ok (.iaload, 1) := by decide +kernel
theorem dX8_valueOf_19 : decode cX8_valueOf 19 = .ok (.ireturn, 1) := by decide +kernel
set_option maxRecDepth 20000 in
theorem ggX8_value_X8_in : GoodIn wsX8_value wsX8_in := goodIn_r _ [5] (by decide +kernel) (by decide +kernel)
set_option maxRecDepth 20000 in
theorem gX8_value_X8_in : GoodIn wsX8_value (va_wsS RX8 45 yX8_in wsX8_in) := goodIn_app (goodIn_of _ (by decide +kernel)) ggX8_value_X8_in
set_option maxRecDepth 20000 in
theorem ggX8_value_X8_valueOf : GoodIn wsX8_value wsX8_valueOf := goodIn_r _ [9, 10, 11, 12, 13, 4, 14, 24, 25, 26, 27, 28, 29, 30, 31, 32, 33, 34] (by decide +kernel) (by decide +kernel)
set_option maxRecDepth 20000 in
theorem gX8_value_X8_valueOf : GoodIn wsX8_value (wsV RX8 149 RX8 yX8_valueOf wsX8_valueOf) := goodIn_app (goodIn_of _ (by decide +kernel)) ggX8_value_X8_valueOf
set_option maxRecDepth 20000 in
theorem ggX8_value_X8_fine : GoodIn wsX8_value wsX8_fine := goodIn_r _ [18, 19, 24, 25, 26, 27, 28, 29, 30, 31, 32, 33, 34] (by decide +kernel) (by decide +kernel)
set_option maxRecDepth 20000 in
theorem gX8_value_X8_fine : GoodIn wsX8_value (wsV RX8 75 RX8 yX8_fine wsX8_fine) := goodIn_app (goodIn_of _ (by decide +kernel)) ggX8_value_X8_fine
set_option maxRecDepth 20000 in
theorem ggX8_value_X8_throwing : GoodIn wsX8_value wsX8_throwing := goodIn_r _ [23, 19, 24, 25, 26, 27, 28, 29, 30, 31, 32, 33, 34] (by decide +kernel) (by decide +kernel)
set_option maxRecDepth 20000 in
theorem gX8_value_X8_throwing : GoodIn wsX8_value (wsV RX8 64 RX8 yX8_throwing wsX8_throwing) := goodIn_app (goodIn_of _ (by decide +kernel)) ggX8_value_X8_throwing
theorem dX8_value_0 : decode cX8_value 0 = .ok (.iload_n 1, 1) := by decide +kernel
theorem dX8_value_1 : decode cX8_value 1 = .ok (.i2l, 1) := by decide +kernel
theorem dX8_value_2 : decode cX8_value 2 = .ok (.lconst 0, 1) := by decide +kernel
theorem dX8_value_3 : decode cX8_value 3 = .ok (.ldc2_w 55, 3) := by decide +kernel
theorem dX8_value_6 : decode cX8_value 6 = .ok (.invokestatic 45, 3) := by decide +kernel
theorem dX8_value_9 : decode cX8_value 9 = .ok (.ifCond .eq 15, 3) := by decide +kernel
theorem dX8_value_12 : decode cX8_value 12 = .ok (.aload_n 0, 1) := by decide +kernel
theorem dX8_value_13 : decode cX8_value 13 = .ok (.aload_n 0, 1) := by decide +kernel
theorem dX8_value_14 : decode cX8_value 14 = .ok (.iload_n 1, 1) := by decide +kernel
theorem dX8_value_15 : decode cX8_value 15 = .ok (.invokevirtual 149, 3) := by decide +kernel
theorem dX8_value_18 : decode cX8_value 18 = .ok (.invokevirtual 75, 3) := by decide +kernel
theorem dX8_value_21 : decode cX8_value 21 = .ok (.goto 8, 3) := by decide +kernel
theorem dX8_value_24 : decode cX8_value 24 = .ok (.aload_n 0, 1) := by decide +kernel
theorem dX8_value_25 : decode cX8_value 25 = .ok (.iconst 1, 1) := by decide +kernel
theorem dX8_value_26 : decode cX8_value 26 = .ok (.invokevirtual 64, 3) := by decide +kernel
theorem dX8_value_29 : decode cX8_value 29 = .ok (.ireturn, 1) := by decide +kernel
set_option maxRecDepth 20000 in
theorem ggX8_hashIf_X8_laysAside : GoodIn wsX8_hashIf wsX8_laysAside := goodIn_r _ [5, 6, 7, 70, 71, 72, 73, 74, 75, 76, 77, 78, 79, 80] (by decide +kernel) (by decide +kernel)
set_option maxRecDepth 20000 in
theorem gX8_hashIf_X8_laysAside : GoodIn wsX8_hashIf (wsV RX8 152 RX8 yX8_laysAside wsX8_laysAside) := goodIn_app (goodIn_of _ (by decide +kernel)) ggX8_hashIf_X8_laysAside
set_option maxRecDepth 20000 in
theorem ggX8_hashIf_X8_plays : GoodIn wsX8_hashIf wsX8_plays := goodIn_r _ [11, 12, 13, 14, 4, 15, 7, 16, 17, 18, 19, 20, 21, 22, 23, 24, 25, 26, 27, 28, 29, 30, 31, 32, 33, 34, 35, 36, 37, 38, 39, 40, 41, 42, 43, 44, 45, 46, 47, 48, 49, 50, 51, 52, 53, 54, 55, 56, 57, 58, 59, 60, 61, 62, 63, 64, 65, 70, 71, 72, 73, 74, 75, 76, 77, 78, 79, 80] (by decide +kernel) (by decide +kernel)
set_option maxRecDepth 20000 in
theorem gX8_hashIf_X8_plays : GoodIn wsX8_hashIf (wsV RX8 141 RX8 yX8_plays wsX8_plays) := goodIn_app (goodIn_of _ (by decide +kernel)) ggX8_hashIf_X8_plays
set_option maxRecDepth 20000 in
theorem ggX8_hashIf_X8_takesBack : GoodIn wsX8_hashIf wsX8_takesBack := goodIn_r _ [69, 7, 6, 70, 71, 72, 73, 74, 75, 76, 77, 78, 79, 80] (by decide +kernel) (by decide +kernel)
set_option maxRecDepth 20000 in
theorem gX8_hashIf_X8_takesBack : GoodIn wsX8_hashIf (wsV RX8 155 RX8 yX8_takesBack wsX8_takesBack) := goodIn_app (goodIn_of _ (by decide +kernel)) ggX8_hashIf_X8_takesBack
theorem dX8_hashIf_0 : decode cX8_hashIf 0 = .ok (.aload_n 0, 1) := by decide +kernel
theorem dX8_hashIf_1 : decode cX8_hashIf 1 = .ok (.invokevirtual 152, 3) := by decide +kernel
theorem dX8_hashIf_4 : decode cX8_hashIf 4 = .ok (.aload_n 0, 1) := by decide +kernel
theorem dX8_hashIf_5 : decode cX8_hashIf 5 = .ok (.iload_n 1, 1) := by decide +kernel
theorem dX8_hashIf_6 : decode cX8_hashIf 6 = .ok (.invokevirtual 141, 3) := by decide +kernel
theorem dX8_hashIf_9 : decode cX8_hashIf 9 = .ok (.istore_n 2, 1) := by decide +kernel
theorem dX8_hashIf_10 : decode cX8_hashIf 10 = .ok (.aload_n 0, 1) := by decide +kernel
theorem dX8_hashIf_11 : decode cX8_hashIf 11 = .ok (.invokevirtual 155, 3) := by decide +kernel
theorem dX8_hashIf_14 : decode cX8_hashIf 14 = .ok (.iload_n 2, 1) := by decide +kernel
theorem dX8_hashIf_15 : decode cX8_hashIf 15 = .ok (.ireturn, 1) := by decide +kernel
set_option maxRecDepth 20000 in
theorem ggX8_hashOf_X8_in : GoodIn wsX8_hashOf wsX8_in := goodIn_r _ [5] (by decide +kernel) (by decide +kernel)
set_option maxRecDepth 20000 in
theorem gX8_hashOf_X8_in : GoodIn wsX8_hashOf (va_wsS RX8 45 yX8_in wsX8_in) := goodIn_app (goodIn_of _ (by decide +kernel)) ggX8_hashOf_X8_in
set_option maxRecDepth 20000 in
theorem ggX8_hashOf_X8_hashIf : GoodIn wsX8_hashOf wsX8_hashIf := goodIn_r _ [9, 10, 11, 12, 4, 13, 14, 15, 16, 17, 18, 19, 20, 21, 22, 23, 24, 25, 26, 27, 28, 29, 30, 31, 32, 33, 34, 35, 36, 37, 38, 39, 40, 41, 42, 43, 44, 45, 46, 2, 3, 5, 47, 48, 49, 50, 51, 52, 53, 54, 55, 56, 57, 58, 59, 60, 61, 62, 63, 64, 65, 66, 67, 68, 69, 70, 71, 72, 73, 74, 84, 85, 86, 87, 88, 89, 90, 91, 92, 93, 94] (by decide +kernel) (by decide +kernel)
set_option maxRecDepth 20000 in
theorem gX8_hashOf_X8_hashIf : GoodIn wsX8_hashOf (wsV RX8 158 RX8 yX8_hashIf wsX8_hashIf) := goodIn_app (goodIn_of _ (by decide +kernel)) ggX8_hashOf_X8_hashIf
set_option maxRecDepth 20000 in
theorem ggX8_hashOf_X8_fine : GoodIn wsX8_hashOf wsX8_fine := goodIn_r _ [78, 79, 84, 85, 86, 87, 88, 89, 90, 91, 92, 93, 94] (by decide +kernel) (by decide +kernel)
set_option maxRecDepth 20000 in
theorem gX8_hashOf_X8_fine : GoodIn wsX8_hashOf (wsV RX8 75 RX8 yX8_fine wsX8_fine) := goodIn_app (goodIn_of _ (by decide +kernel)) ggX8_hashOf_X8_fine
set_option maxRecDepth 20000 in
theorem ggX8_hashOf_X8_throwing : GoodIn wsX8_hashOf wsX8_throwing := goodIn_r _ [83, 79, 84, 85, 86, 87, 88, 89, 90, 91, 92, 93, 94] (by decide +kernel) (by decide +kernel)
set_option maxRecDepth 20000 in
theorem gX8_hashOf_X8_throwing : GoodIn wsX8_hashOf (wsV RX8 64 RX8 yX8_throwing wsX8_throwing) := goodIn_app (goodIn_of _ (by decide +kernel)) ggX8_hashOf_X8_throwing
theorem dX8_hashOf_0 : decode cX8_hashOf 0 = .ok (.iload_n 1, 1) := by decide +kernel
theorem dX8_hashOf_1 : decode cX8_hashOf 1 = .ok (.i2l, 1) := by decide +kernel
theorem dX8_hashOf_2 : decode cX8_hashOf 2 = .ok (.lconst 0, 1) := by decide +kernel
theorem dX8_hashOf_3 : decode cX8_hashOf 3 = .ok (.ldc2_w 138, 3) := by decide +kernel
theorem dX8_hashOf_6 : decode cX8_hashOf 6 = .ok (.invokestatic 45, 3) := by decide +kernel
theorem dX8_hashOf_9 : decode cX8_hashOf 9 = .ok (.ifCond .eq 15, 3) := by decide +kernel
theorem dX8_hashOf_12 : decode cX8_hashOf 12 = .ok (.aload_n 0, 1) := by decide +kernel
theorem dX8_hashOf_13 : decode cX8_hashOf 13 = .ok (.aload_n 0, 1) := by decide +kernel
theorem dX8_hashOf_14 : decode cX8_hashOf 14 = .ok (.iload_n 1, 1) := by decide +kernel
theorem dX8_hashOf_15 : decode cX8_hashOf 15 = .ok (.invokevirtual 158, 3) := by decide +kernel
theorem dX8_hashOf_18 : decode cX8_hashOf 18 = .ok (.invokevirtual 75, 3) := by decide +kernel
theorem dX8_hashOf_21 : decode cX8_hashOf 21 = .ok (.goto 8, 3) := by decide +kernel
theorem dX8_hashOf_24 : decode cX8_hashOf 24 = .ok (.aload_n 0, 1) := by decide +kernel
theorem dX8_hashOf_25 : decode cX8_hashOf 25 = .ok (.iconst 1, 1) := by decide +kernel
theorem dX8_hashOf_26 : decode cX8_hashOf 26 = .ok (.invokevirtual 64, 3) := by decide +kernel
theorem dX8_hashOf_29 : decode cX8_hashOf 29 = .ok (.ireturn, 1) := by decide +kernel
set_option maxRecDepth 20000 in
theorem ggX8_ticksToRound_X8_laysAside : GoodIn wsX8_ticksToRound wsX8_laysAside := goodIn_r _ [5, 6, 7, 71, 72, 73, 74, 75, 76, 77, 78, 79, 80, 81] (by decide +kernel) (by decide +kernel)
set_option maxRecDepth 20000 in
theorem gX8_ticksToRound_X8_laysAside : GoodIn wsX8_ticksToRound (wsV RX8 152 RX8 yX8_laysAside wsX8_laysAside) := goodIn_app (goodIn_of _ (by decide +kernel)) ggX8_ticksToRound_X8_laysAside
set_option maxRecDepth 20000 in
theorem ggX8_ticksToRound_X8_tick : GoodIn wsX8_ticksToRound wsX8_tick := goodIn_r _ [11, 7, 12, 13, 14, 4, 15, 16, 17, 18, 19, 20, 21, 22, 23, 24, 25, 26, 27, 28, 29, 30, 31, 32, 33, 34, 35, 36, 37, 38, 39, 40, 41, 42, 43, 44, 45, 46, 47, 48, 49, 50, 51, 52, 53, 54, 55, 56, 57, 58, 59, 60, 61, 71, 72, 73, 74, 75, 76, 77, 78, 79, 80, 81] (by decide +kernel) (by decide +kernel)
set_option maxRecDepth 20000 in
theorem gX8_ticksToRound_X8_tick : GoodIn wsX8_ticksToRound (wsV RX8 134 RX8 yX8_tick wsX8_tick) := goodIn_app (goodIn_of _ (by decide +kernel)) ggX8_ticksToRound_X8_tick
set_option maxRecDepth 20000 in
theorem ggX8_ticksToRound_X8_takesBack : GoodIn wsX8_ticksToRound wsX8_takesBack := goodIn_r _ [65, 7, 6, 71, 72, 73, 74, 75, 76, 77, 78, 79, 80, 81] (by decide +kernel) (by decide +kernel)
set_option maxRecDepth 20000 in
theorem gX8_ticksToRound_X8_takesBack : GoodIn wsX8_ticksToRound (wsV RX8 155 RX8 yX8_takesBack wsX8_takesBack) := goodIn_app (goodIn_of _ (by decide +kernel)) ggX8_ticksToRound_X8_takesBack
set_option maxRecDepth 20000 in
theorem ggX8_ticksToRound_X8_fine : GoodIn wsX8_ticksToRound wsX8_fine := goodIn_r _ [69, 70, 71, 72, 73, 74, 75, 76, 77, 78, 79, 80, 81] (by decide +kernel) (by decide +kernel)
set_option maxRecDepth 20000 in
theorem gX8_ticksToRound_X8_fine : GoodIn wsX8_ticksToRound (wsV RX8 75 RX8 yX8_fine wsX8_fine) := goodIn_app (goodIn_of _ (by decide +kernel)) ggX8_ticksToRound_X8_fine
theorem dX8_ticksToRound_0 : decode cX8_ticksToRound 0 = .ok (.aload_n 0, 1) := by decide +kernel
theorem dX8_ticksToRound_1 : decode cX8_ticksToRound 1 = .ok (.invokevirtual 152, 3) := by decide +kernel
theorem dX8_ticksToRound_4 : decode cX8_ticksToRound 4 = .ok (.iconst 0, 1) := by decide +kernel
theorem dX8_ticksToRound_5 : decode cX8_ticksToRound 5 = .ok (.istore_n 1, 1) := by decide +kernel
theorem dX8_ticksToRound_6 : decode cX8_ticksToRound 6 = .ok (.iconst 0, 1) := by decide +kernel
theorem dX8_ticksToRound_7 : decode cX8_ticksToRound 7 = .ok (.istore_n 2, 1) := by decide +kernel
theorem dX8_ticksToRound_8 : decode cX8_ticksToRound 8 = .ok (.iload_n 1, 1) := by decide +kernel
theorem dX8_ticksToRound_9 : decode cX8_ticksToRound 9 = .ok (.sipush 1000, 3) := by decide +kernel
theorem dX8_ticksToRound_12 : decode cX8_ticksToRound 12 = .ok (.if_icmp .ge 18, 3) := by decide +kernel
theorem dX8_ticksToRound_15 : decode cX8_ticksToRound 15 = .ok (.iload_n 2, 1) := by decide +kernel
theorem dX8_ticksToRound_16 : decode cX8_ticksToRound 16 = .ok (.ifCond .ne 14, 3) := by decide +kernel
theorem dX8_ticksToRound_19 : decode cX8_ticksToRound 19 = .ok (.aload_n 0, 1) := by decide +kernel
theorem dX8_ticksToRound_20 : decode cX8_ticksToRound 20 = .ok (.invokevirtual 134, 3) := by decide +kernel
theorem dX8_ticksToRound_23 : decode cX8_ticksToRound 23 = .ok (.istore_n 2, 1) := by decide +kernel
theorem dX8_ticksToRound_24 : decode cX8_ticksToRound 24 = .ok (.iinc 1 1, 3) := by decide +kernel
theorem dX8_ticksToRound_27 : decode cX8_ticksToRound 27 = .ok (.goto (-19), 3) := by decide +kernel
theorem dX8_ticksToRound_30 : decode cX8_ticksToRound 30 = .ok (.aload_n 0, 1) := by decide +kernel
theorem dX8_ticksToRound_31 : decode cX8_ticksToRound 31 = .ok (.invokevirtual 155, 3) := by decide +kernel
theorem dX8_ticksToRound_34 : decode cX8_ticksToRound 34 = .ok (.aload_n 0, 1) := by decide +kernel
theorem dX8_ticksToRound_35 : decode cX8_ticksToRound 35 = .ok (.iload_n 2, 1) := by decide +kernel
theorem dX8_ticksToRound_36 : decode cX8_ticksToRound 36 = .ok (.ifCond .eq 7, 3) := by decide +kernel
theorem dX8_ticksToRound_39 : decode cX8_ticksToRound 39 = .ok (.iload_n 1, 1) := by decide +kernel
theorem dX8_ticksToRound_40 : decode cX8_ticksToRound 40 = .ok (.goto 4, 3) := by decide +kernel
theorem dX8_ticksToRound_43 : decode cX8_ticksToRound 43 = .ok (.iconst (-1), 1) := by decide +kernel
theorem dX8_ticksToRound_44 : decode cX8_ticksToRound 44 = .ok (.invokevirtual 75, 3) := by decide +kernel
theorem dX8_ticksToRound_47 : decode cX8_ticksToRound 47 = .ok (.ireturn, 1) := by decide +kernel
set_option maxRecDepth 20000 in
theorem ggX8_silent_X8_isChannel : GoodIn wsX8_silent wsX8_isChannel := goodIn_r _ [5, 6, 7, 8, 4, 9] (by decide +kernel) (by decide +kernel)
set_option maxRecDepth 20000 in
theorem gX8_silent_X8_isChannel : GoodIn wsX8_silent (va_wsS RX8 57 yX8_isChannel wsX8_isChannel) := goodIn_app (goodIn_of _ (by decide +kernel)) ggX8_silent_X8_isChannel
set_option maxRecDepth 20000 in
theorem ggX8_silent_X8_throwing : GoodIn wsX8_silent wsX8_throwing := goodIn_r _ [13, 14, 80, 81, 82, 83, 84, 85, 86, 87, 88, 89, 90] (by decide +kernel) (by decide +kernel)
set_option maxRecDepth 20000 in
theorem gX8_silent_X8_throwing : GoodIn wsX8_silent (wsV RX8 64 RX8 yX8_throwing wsX8_throwing) := goodIn_app (goodIn_of _ (by decide +kernel)) ggX8_silent_X8_throwing
set_option maxRecDepth 20000 in
theorem ggX8_silent_X8_in : GoodIn wsX8_silent wsX8_in := goodIn_r _ [9] (by decide +kernel) (by decide +kernel)
set_option maxRecDepth 20000 in
theorem gX8_silent_X8_in : GoodIn wsX8_silent (va_wsS RX8 45 yX8_in wsX8_in) := goodIn_app (goodIn_of _ (by decide +kernel)) ggX8_silent_X8_in
set_option maxRecDepth 20000 in
theorem ggX8_silent_X8_laysAside : GoodIn wsX8_silent wsX8_laysAside := goodIn_r _ [18, 19, 20, 80, 81, 82, 83, 84, 85, 86, 87, 88, 89, 90] (by decide +kernel) (by decide +kernel)
set_option maxRecDepth 20000 in
theorem gX8_silent_X8_laysAside : GoodIn wsX8_silent (wsV RX8 152 RX8 yX8_laysAside wsX8_laysAside) := goodIn_app (goodIn_of _ (by decide +kernel)) ggX8_silent_X8_laysAside
set_option maxRecDepth 20000 in
theorem ggX8_silent_X8_tick : GoodIn wsX8_silent wsX8_tick := goodIn_r _ [24, 20, 25, 26, 27, 4, 28, 29, 30, 31, 32, 33, 34, 35, 36, 37, 38, 39, 40, 41, 42, 43, 44, 45, 46, 47, 7, 8, 9, 48, 49, 50, 51, 52, 53, 54, 55, 56, 57, 58, 59, 60, 61, 62, 63, 64, 65, 66, 67, 68, 69, 70, 71, 80, 81, 82, 83, 84, 85, 86, 87, 88, 89, 90] (by decide +kernel) (by decide +kernel)
set_option maxRecDepth 20000 in
theorem gX8_silent_X8_tick : GoodIn wsX8_silent (wsV RX8 134 RX8 yX8_tick wsX8_tick) := goodIn_app (goodIn_of _ (by decide +kernel)) ggX8_silent_X8_tick
set_option maxRecDepth 20000 in
theorem ggX8_silent_X8_of : GoodIn wsX8_silent wsX8_of := goodIn_r _ [33, 20, 34, 35, 4, 36, 80, 81, 82, 83, 84, 85, 86, 87, 88, 89, 90] (by decide +kernel) (by decide +kernel)
set_option maxRecDepth 20000 in
theorem gX8_silent_X8_of : GoodIn wsX8_silent (wsV RX8 107 RX8 yX8_of wsX8_of) := goodIn_app (goodIn_of _ (by decide +kernel)) ggX8_silent_X8_of
set_option maxRecDepth 20000 in
theorem ggX8_silent_X8_takesBack : GoodIn wsX8_silent wsX8_takesBack := goodIn_r _ [75, 20, 19, 80, 81, 82, 83, 84, 85, 86, 87, 88, 89, 90] (by decide +kernel) (by decide +kernel)
set_option maxRecDepth 20000 in
theorem gX8_silent_X8_takesBack : GoodIn wsX8_silent (wsV RX8 155 RX8 yX8_takesBack wsX8_takesBack) := goodIn_app (goodIn_of _ (by decide +kernel)) ggX8_silent_X8_takesBack
set_option maxRecDepth 20000 in
theorem ggX8_silent_X8_fine : GoodIn wsX8_silent wsX8_fine := goodIn_r _ [79, 14, 80, 81, 82, 83, 84, 85, 86, 87, 88, 89, 90] (by decide +kernel) (by decide +kernel)
set_option maxRecDepth 20000 in
theorem gX8_silent_X8_fine : GoodIn wsX8_silent (wsV RX8 75 RX8 yX8_fine wsX8_fine) := goodIn_app (goodIn_of _ (by decide +kernel)) ggX8_silent_X8_fine
theorem dX8_silent_0 : decode cX8_silent 0 = .ok (.iload_n 1, 1) := by decide +kernel
theorem dX8_silent_1 : decode cX8_silent 1 = .ok (.invokestatic 57, 3) := by decide +kernel
theorem dX8_silent_4 : decode cX8_silent 4 = .ok (.ifCond .ne 9, 3) := by decide +kernel
theorem dX8_silent_7 : decode cX8_silent 7 = .ok (.aload_n 0, 1) := by decide +kernel
theorem dX8_silent_8 : decode cX8_silent 8 = .ok (.iconst 1, 1) := by decide +kernel
theorem dX8_silent_9 : decode cX8_silent 9 = .ok (.invokevirtual 64, 3) := by decide +kernel
theorem dX8_silent_12 : decode cX8_silent 12 = .ok (.ireturn, 1) := by decide +kernel
theorem dX8_silent_13 : decode cX8_silent 13 = .ok (.iload_n 2, 1) := by decide +kernel
theorem dX8_silent_14 : decode cX8_silent 14 = .ok (.i2l, 1) := by decide +kernel
theorem dX8_silent_15 : decode cX8_silent 15 = .ok (.lconst 1, 1) := by decide +kernel
theorem dX8_silent_16 : decode cX8_silent 16 = .ok (.ldc2_w 138, 3) := by decide +kernel
theorem dX8_silent_19 : decode cX8_silent 19 = .ok (.invokestatic 45, 3) := by decide +kernel
theorem dX8_silent_22 : decode cX8_silent 22 = .ok (.ifCond .ne 9, 3) := by decide +kernel
theorem dX8_silent_25 : decode cX8_silent 25 = .ok (.aload_n 0, 1) := by decide +kernel
theorem dX8_silent_26 : decode cX8_silent 26 = .ok (.iconst 2, 1) := by decide +kernel
theorem dX8_silent_27 : decode cX8_silent 27 = .ok (.invokevirtual 64, 3) := by decide +kernel
theorem dX8_silent_30 : decode cX8_silent 30 = .ok (.ireturn, 1) := by decide +kernel
theorem dX8_silent_31 : decode cX8_silent 31 = .ok (.aload_n 0, 1) := by decide +kernel
theorem dX8_silent_32 : decode cX8_silent 32 = .ok (.invokevirtual 152, 3) := by decide +kernel
theorem dX8_silent_35 : decode cX8_silent 35 = .ok (.iconst 0, 1) := by decide +kernel
theorem dX8_silent_36 : decode cX8_silent 36 = .ok (.istore_n 3, 1) := by decide +kernel
theorem dX8_silent_37 : decode cX8_silent 37 = .ok (.iconst 0, 1) := by decide +kernel
theorem dX8_silent_38 : decode cX8_silent 38 = .ok (.istore 4, 2) := by decide +kernel
theorem dX8_silent_40 : decode cX8_silent 40 = .ok (.iload 4, 2) := by decide +kernel
theorem dX8_silent_42 : decode cX8_silent 42 = .ok (.iload_n 2, 1) := by decide +kernel
theorem dX8_silent_43 : decode cX8_silent 43 = .ok (.if_icmp .ge 33, 3) := by decide +kernel
theorem dX8_silent_46 : decode cX8_silent 46 = .ok (.aload_n 0, 1) := by decide +kernel
theorem dX8_silent_47 : decode cX8_silent 47 = .ok (.invokevirtual 134, 3) := by decide +kernel
theorem dX8_silent_50 : decode cX8_silent 50 = .ok (.istore 5, 2) := by decide +kernel
theorem dX8_silent_52 : decode cX8_silent 52 = .ok (.iload_n 3, 1) := by decide +kernel
theorem dX8_silent_53 : decode cX8_silent 53 = .ok (.aload_n 0, 1) := by decide +kernel
theorem dX8_silent_54 : decode cX8_silent 54 = .ok (.iload_n 1, 1) := by decide +kernel
theorem dX8_silent_55 : decode cX8_silent 55 = .ok (.bipush 11, 2) := by decide +kernel
theorem dX8_silent_57 : decode cX8_silent 57 = .ok (.invokevirtual 107, 3) := by decide +kernel
theorem dX8_silent_60 : decode cX8_silent 60 = .ok (.ifCond .ne 7, 3) := by decide +kernel
theorem dX8_silent_63 : decode cX8_silent 63 = .ok (.iconst 1, 1) := by decide +kernel
theorem dX8_silent_64 : decode cX8_silent 64 = .ok (.goto 4, 3) := by decide +kernel
theorem dX8_silent_67 : decode cX8_silent 67 = .ok (.iconst 0, 1) := by decide +kernel
theorem dX8_silent_68 : decode cX8_silent 68 = .ok (.iadd, 1) := by decide +kernel
theorem dX8_silent_69 : decode cX8_silent 69 = .ok (.istore_n 3, 1) := by decide +kernel
theorem dX8_silent_70 : decode cX8_silent 70 = .ok (.iinc 4 1, 3) := by decide +kernel
theorem dX8_silent_73 : decode cX8_silent 73 = .ok (.goto (-33), 3) := by decide +kernel
theorem dX8_silent_76 : decode cX8_silent 76 = .ok (.aload_n 0, 1) := by decide +kernel
theorem dX8_silent_77 : decode cX8_silent 77 = .ok (.invokevirtual 155, 3) := by decide +kernel
theorem dX8_silent_80 : decode cX8_silent 80 = .ok (.aload_n 0, 1) := by decide +kernel
theorem dX8_silent_81 : decode cX8_silent 81 = .ok (.iload_n 3, 1) := by decide +kernel
theorem dX8_silent_82 : decode cX8_silent 82 = .ok (.invokevirtual 75, 3) := by decide +kernel
theorem dX8_silent_85 : decode cX8_silent 85 = .ok (.ireturn, 1) := by decide +kernel
set_option maxRecDepth 20000 in
theorem ggX8_deepest_X8_isChannel : GoodIn wsX8_deepest wsX8_isChannel := goodIn_r _ [5, 6, 7, 8, 4, 9] (by decide +kernel) (by decide +kernel)
set_option maxRecDepth 20000 in
theorem gX8_deepest_X8_isChannel : GoodIn wsX8_deepest (va_wsS RX8 57 yX8_isChannel wsX8_isChannel) := goodIn_app (goodIn_of _ (by decide +kernel)) ggX8_deepest_X8_isChannel
set_option maxRecDepth 20000 in
theorem ggX8_deepest_X8_throwing : GoodIn wsX8_deepest wsX8_throwing := goodIn_r _ [13, 14, 80, 81, 82, 83, 84, 85, 86, 87, 88, 89, 90] (by decide +kernel) (by decide +kernel)
set_option maxRecDepth 20000 in
theorem gX8_deepest_X8_throwing : GoodIn wsX8_deepest (wsV RX8 64 RX8 yX8_throwing wsX8_throwing) := goodIn_app (goodIn_of _ (by decide +kernel)) ggX8_deepest_X8_throwing
set_option maxRecDepth 20000 in
theorem ggX8_deepest_X8_in : GoodIn wsX8_deepest wsX8_in := goodIn_r _ [9] (by decide +kernel) (by decide +kernel)
set_option maxRecDepth 20000 in
theorem gX8_deepest_X8_in : GoodIn wsX8_deepest (va_wsS RX8 45 yX8_in wsX8_in) := goodIn_app (goodIn_of _ (by decide +kernel)) ggX8_deepest_X8_in
set_option maxRecDepth 20000 in
theorem ggX8_deepest_X8_laysAside : GoodIn wsX8_deepest wsX8_laysAside := goodIn_r _ [18, 19, 20, 80, 81, 82, 83, 84, 85, 86, 87, 88, 89, 90] (by decide +kernel) (by decide +kernel)
set_option maxRecDepth 20000 in
theorem gX8_deepest_X8_laysAside : GoodIn wsX8_deepest (wsV RX8 152 RX8 yX8_laysAside wsX8_laysAside) := goodIn_app (goodIn_of _ (by decide +kernel)) ggX8_deepest_X8_laysAside
set_option maxRecDepth 20000 in
theorem ggX8_deepest_X8_tick : GoodIn wsX8_deepest wsX8_tick := goodIn_r _ [24, 20, 25, 26, 27, 4, 28, 29, 30, 31, 32, 33, 34, 35, 36, 37, 38, 39, 40, 41, 42, 43, 44, 45, 46, 47, 7, 8, 9, 48, 49, 50, 51, 52, 53, 54, 55, 56, 57, 58, 59, 60, 61, 62, 63, 64, 65, 66, 67, 68, 69, 70, 71, 80, 81, 82, 83, 84, 85, 86, 87, 88, 89, 90] (by decide +kernel) (by decide +kernel)
set_option maxRecDepth 20000 in
theorem gX8_deepest_X8_tick : GoodIn wsX8_deepest (wsV RX8 134 RX8 yX8_tick wsX8_tick) := goodIn_app (goodIn_of _ (by decide +kernel)) ggX8_deepest_X8_tick
set_option maxRecDepth 20000 in
theorem ggX8_deepest_X8_of : GoodIn wsX8_deepest wsX8_of := goodIn_r _ [33, 20, 34, 35, 4, 36, 80, 81, 82, 83, 84, 85, 86, 87, 88, 89, 90] (by decide +kernel) (by decide +kernel)
set_option maxRecDepth 20000 in
theorem gX8_deepest_X8_of : GoodIn wsX8_deepest (wsV RX8 107 RX8 yX8_of wsX8_of) := goodIn_app (goodIn_of _ (by decide +kernel)) ggX8_deepest_X8_of
set_option maxRecDepth 20000 in
theorem ggX8_deepest_X8_takesBack : GoodIn wsX8_deepest wsX8_takesBack := goodIn_r _ [75, 20, 19, 80, 81, 82, 83, 84, 85, 86, 87, 88, 89, 90] (by decide +kernel) (by decide +kernel)
set_option maxRecDepth 20000 in
theorem gX8_deepest_X8_takesBack : GoodIn wsX8_deepest (wsV RX8 155 RX8 yX8_takesBack wsX8_takesBack) := goodIn_app (goodIn_of _ (by decide +kernel)) ggX8_deepest_X8_takesBack
set_option maxRecDepth 20000 in
theorem ggX8_deepest_X8_fine : GoodIn wsX8_deepest wsX8_fine := goodIn_r _ [79, 14, 80, 81, 82, 83, 84, 85, 86, 87, 88, 89, 90] (by decide +kernel) (by decide +kernel)
set_option maxRecDepth 20000 in
theorem gX8_deepest_X8_fine : GoodIn wsX8_deepest (wsV RX8 75 RX8 yX8_fine wsX8_fine) := goodIn_app (goodIn_of _ (by decide +kernel)) ggX8_deepest_X8_fine
theorem dX8_deepest_0 : decode cX8_deepest 0 = .ok (.iload_n 1, 1) := by decide +kernel
theorem dX8_deepest_1 : decode cX8_deepest 1 = .ok (.invokestatic 57, 3) := by decide +kernel
theorem dX8_deepest_4 : decode cX8_deepest 4 = .ok (.ifCond .ne 9, 3) := by decide +kernel
theorem dX8_deepest_7 : decode cX8_deepest 7 = .ok (.aload_n 0, 1) := by decide +kernel
theorem dX8_deepest_8 : decode cX8_deepest 8 = .ok (.iconst 1, 1) := by decide +kernel
theorem dX8_deepest_9 : decode cX8_deepest 9 = .ok (.invokevirtual 64, 3) := by decide +kernel
theorem dX8_deepest_12 : decode cX8_deepest 12 = .ok (.ireturn, 1) := by decide +kernel
theorem dX8_deepest_13 : decode cX8_deepest 13 = .ok (.iload_n 2, 1) := by decide +kernel
theorem dX8_deepest_14 : decode cX8_deepest 14 = .ok (.i2l, 1) := by decide +kernel
theorem dX8_deepest_15 : decode cX8_deepest 15 = .ok (.lconst 1, 1) := by decide +kernel
theorem dX8_deepest_16 : decode cX8_deepest 16 = .ok (.ldc2_w 138, 3) := by decide +kernel
theorem dX8_deepest_19 : decode cX8_deepest 19 = .ok (.invokestatic 45, 3) := by decide +kernel
theorem dX8_deepest_22 : decode cX8_deepest 22 = .ok (.ifCond .ne 9, 3) := by decide +kernel
theorem dX8_deepest_25 : decode cX8_deepest 25 = .ok (.aload_n 0, 1) := by decide +kernel
theorem dX8_deepest_26 : decode cX8_deepest 26 = .ok (.iconst 2, 1) := by decide +kernel
theorem dX8_deepest_27 : decode cX8_deepest 27 = .ok (.invokevirtual 64, 3) := by decide +kernel
theorem dX8_deepest_30 : decode cX8_deepest 30 = .ok (.ireturn, 1) := by decide +kernel
theorem dX8_deepest_31 : decode cX8_deepest 31 = .ok (.aload_n 0, 1) := by decide +kernel
theorem dX8_deepest_32 : decode cX8_deepest 32 = .ok (.invokevirtual 152, 3) := by decide +kernel
theorem dX8_deepest_35 : decode cX8_deepest 35 = .ok (.iconst 0, 1) := by decide +kernel
theorem dX8_deepest_36 : decode cX8_deepest 36 = .ok (.istore_n 3, 1) := by decide +kernel
theorem dX8_deepest_37 : decode cX8_deepest 37 = .ok (.iconst 0, 1) := by decide +kernel
theorem dX8_deepest_38 : decode cX8_deepest 38 = .ok (.istore 4, 2) := by decide +kernel
theorem dX8_deepest_40 : decode cX8_deepest 40 = .ok (.iload 4, 2) := by decide +kernel
theorem dX8_deepest_42 : decode cX8_deepest 42 = .ok (.iload_n 2, 1) := by decide +kernel
theorem dX8_deepest_43 : decode cX8_deepest 43 = .ok (.if_icmp .ge 36, 3) := by decide +kernel
theorem dX8_deepest_46 : decode cX8_deepest 46 = .ok (.aload_n 0, 1) := by decide +kernel
theorem dX8_deepest_47 : decode cX8_deepest 47 = .ok (.invokevirtual 134, 3) := by decide +kernel
theorem dX8_deepest_50 : decode cX8_deepest 50 = .ok (.istore 5, 2) := by decide +kernel
theorem dX8_deepest_52 : decode cX8_deepest 52 = .ok (.aload_n 0, 1) := by decide +kernel
theorem dX8_deepest_53 : decode cX8_deepest 53 = .ok (.iload_n 1, 1) := by decide +kernel
theorem dX8_deepest_54 : decode cX8_deepest 54 = .ok (.iconst 4, 1) := by decide +kernel
theorem dX8_deepest_55 : decode cX8_deepest 55 = .ok (.invokevirtual 107, 3) := by decide +kernel
theorem dX8_deepest_58 : decode cX8_deepest 58 = .ok (.iload_n 3, 1) := by decide +kernel
theorem dX8_deepest_59 : decode cX8_deepest 59 = .ok (.if_icmp .le 12, 3) := by decide +kernel
theorem dX8_deepest_62 : decode cX8_deepest 62 = .ok (.aload_n 0, 1) := by decide +kernel
theorem dX8_deepest_63 : decode cX8_deepest 63 = .ok (.iload_n 1, 1) := by decide +kernel
theorem dX8_deepest_64 : decode cX8_deepest 64 = .ok (.iconst 4, 1) := by decide +kernel
theorem dX8_deepest_65 : decode cX8_deepest 65 = .ok (.invokevirtual 107, 3) := by decide +kernel
theorem dX8_deepest_68 : decode cX8_deepest 68 = .ok (.goto 4, 3) := by decide +kernel
theorem dX8_deepest_71 : decode cX8_deepest 71 = .ok (.iload_n 3, 1) := by decide +kernel
theorem dX8_deepest_72 : decode cX8_deepest 72 = .ok (.istore_n 3, 1) := by decide +kernel
theorem dX8_deepest_73 : decode cX8_deepest 73 = .ok (.iinc 4 1, 3) := by decide +kernel
theorem dX8_deepest_76 : decode cX8_deepest 76 = .ok (.goto (-36), 3) := by decide +kernel
theorem dX8_deepest_79 : decode cX8_deepest 79 = .ok (.aload_n 0, 1) := by decide +kernel
theorem dX8_deepest_80 : decode cX8_deepest 80 = .ok (.invokevirtual 155, 3) := by decide +kernel
theorem dX8_deepest_83 : decode cX8_deepest 83 = .ok (.aload_n 0, 1) := by decide +kernel
theorem dX8_deepest_84 : decode cX8_deepest 84 = .ok (.iload_n 3, 1) := by decide +kernel
theorem dX8_deepest_85 : decode cX8_deepest 85 = .ok (.invokevirtual 75, 3) := by decide +kernel
theorem dX8_deepest_88 : decode cX8_deepest 88 = .ok (.ireturn, 1) := by decide +kernel
set_option maxRecDepth 20000 in
theorem ggX8_unheard_X8_isChannel : GoodIn wsX8_unheard wsX8_isChannel := goodIn_r _ [6, 7, 8, 9, 5, 10] (by decide +kernel) (by decide +kernel)
set_option maxRecDepth 20000 in
theorem gX8_unheard_X8_isChannel : GoodIn wsX8_unheard (va_wsS RX8 57 yX8_isChannel wsX8_isChannel) := goodIn_app (goodIn_of _ (by decide +kernel)) ggX8_unheard_X8_isChannel
set_option maxRecDepth 20000 in
theorem ggX8_unheard_X8_throwing : GoodIn wsX8_unheard wsX8_throwing := goodIn_r _ [14, 15, 79, 80, 81, 82, 83, 84, 85, 86, 87, 88, 89] (by decide +kernel) (by decide +kernel)
set_option maxRecDepth 20000 in
theorem gX8_unheard_X8_throwing : GoodIn wsX8_unheard (wsV RX8 64 RX8 yX8_throwing wsX8_throwing) := goodIn_app (goodIn_of _ (by decide +kernel)) ggX8_unheard_X8_throwing
set_option maxRecDepth 20000 in
theorem ggX8_unheard_X8_in : GoodIn wsX8_unheard wsX8_in := goodIn_r _ [10] (by decide +kernel) (by decide +kernel)
set_option maxRecDepth 20000 in
theorem gX8_unheard_X8_in : GoodIn wsX8_unheard (va_wsS RX8 45 yX8_in wsX8_in) := goodIn_app (goodIn_of _ (by decide +kernel)) ggX8_unheard_X8_in
set_option maxRecDepth 20000 in
theorem ggX8_unheard_X8_laysAside : GoodIn wsX8_unheard wsX8_laysAside := goodIn_r _ [19, 20, 2, 79, 80, 81, 82, 83, 84, 85, 86, 87, 88, 89] (by decide +kernel) (by decide +kernel)
set_option maxRecDepth 20000 in
theorem gX8_unheard_X8_laysAside : GoodIn wsX8_unheard (wsV RX8 152 RX8 yX8_laysAside wsX8_laysAside) := goodIn_app (goodIn_of _ (by decide +kernel)) ggX8_unheard_X8_laysAside
set_option maxRecDepth 20000 in
theorem ggX8_unheard_X8_at : GoodIn wsX8_unheard wsX8_at := goodIn_r _ [23] (by decide +kernel) (by decide +kernel)
set_option maxRecDepth 20000 in
theorem gX8_unheard_X8_at : GoodIn wsX8_unheard (va_wsS RX8 104 yX8_at wsX8_at) := goodIn_app (goodIn_of _ (by decide +kernel)) ggX8_unheard_X8_at
set_option maxRecDepth 20000 in
theorem ggX8_unheard_X8_tick : GoodIn wsX8_unheard wsX8_tick := goodIn_r _ [27, 2, 28, 29, 30, 5, 31, 32, 33, 34, 35, 36, 21, 22, 23, 37, 38, 39, 40, 41, 42, 43, 44, 45, 46, 47, 8, 9, 10, 48, 49, 50, 51, 1, 52, 53, 54, 55, 56, 57, 58, 59, 60, 61, 62, 63, 64, 65, 66, 67, 68, 69, 70, 79, 80, 81, 82, 83, 84, 85, 86, 87, 88, 89] (by decide +kernel) (by decide +kernel)
set_option maxRecDepth 20000 in
theorem gX8_unheard_X8_tick : GoodIn wsX8_unheard (wsV RX8 134 RX8 yX8_tick wsX8_tick) := goodIn_app (goodIn_of _ (by decide +kernel)) ggX8_unheard_X8_tick
set_option maxRecDepth 20000 in
theorem ggX8_unheard_X8_of : GoodIn wsX8_unheard wsX8_of := goodIn_r _ [36, 2, 21, 22, 5, 23, 79, 80, 81, 82, 83, 84, 85, 86, 87, 88, 89] (by decide +kernel) (by decide +kernel)
set_option maxRecDepth 20000 in
theorem gX8_unheard_X8_of : GoodIn wsX8_unheard (wsV RX8 107 RX8 yX8_of wsX8_of) := goodIn_app (goodIn_of _ (by decide +kernel)) ggX8_unheard_X8_of
set_option maxRecDepth 20000 in
theorem ggX8_unheard_X8_heardBy : GoodIn wsX8_unheard wsX8_heardBy := goodIn_r _ [62] (by decide +kernel) (by decide +kernel)
set_option maxRecDepth 20000 in
theorem gX8_unheard_X8_heardBy : GoodIn wsX8_unheard (va_wsS RX8 119 yX8_heardBy wsX8_heardBy) := goodIn_app (goodIn_of _ (by decide +kernel)) ggX8_unheard_X8_heardBy
set_option maxRecDepth 20000 in
theorem ggX8_unheard_X8_takesBack : GoodIn wsX8_unheard wsX8_takesBack := goodIn_r _ [74, 2, 20, 79, 80, 81, 82, 83, 84, 85, 86, 87, 88, 89] (by decide +kernel) (by decide +kernel)
set_option maxRecDepth 20000 in
theorem gX8_unheard_X8_takesBack : GoodIn wsX8_unheard (wsV RX8 155 RX8 yX8_takesBack wsX8_takesBack) := goodIn_app (goodIn_of _ (by decide +kernel)) ggX8_unheard_X8_takesBack
set_option maxRecDepth 20000 in
theorem ggX8_unheard_X8_fine : GoodIn wsX8_unheard wsX8_fine := goodIn_r _ [78, 15, 79, 80, 81, 82, 83, 84, 85, 86, 87, 88, 89] (by decide +kernel) (by decide +kernel)
set_option maxRecDepth 20000 in
theorem gX8_unheard_X8_fine : GoodIn wsX8_unheard (wsV RX8 75 RX8 yX8_fine wsX8_fine) := goodIn_app (goodIn_of _ (by decide +kernel)) ggX8_unheard_X8_fine
theorem dX8_unheard_0 : decode cX8_unheard 0 = .ok (.iload_n 1, 1) := by decide +kernel
theorem dX8_unheard_1 : decode cX8_unheard 1 = .ok (.invokestatic 57, 3) := by decide +kernel
theorem dX8_unheard_4 : decode cX8_unheard 4 = .ok (.ifCond .ne 9, 3) := by decide +kernel
theorem dX8_unheard_7 : decode cX8_unheard 7 = .ok (.aload_n 0, 1) := by decide +kernel
theorem dX8_unheard_8 : decode cX8_unheard 8 = .ok (.iconst 1, 1) := by decide +kernel
theorem dX8_unheard_9 : decode cX8_unheard 9 = .ok (.invokevirtual 64, 3) := by decide +kernel
theorem dX8_unheard_12 : decode cX8_unheard 12 = .ok (.ireturn, 1) := by decide +kernel
theorem dX8_unheard_13 : decode cX8_unheard 13 = .ok (.iload_n 2, 1) := by decide +kernel
theorem dX8_unheard_14 : decode cX8_unheard 14 = .ok (.i2l, 1) := by decide +kernel
theorem dX8_unheard_15 : decode cX8_unheard 15 = .ok (.lconst 1, 1) := by decide +kernel
theorem dX8_unheard_16 : decode cX8_unheard 16 = .ok (.ldc2_w 85, 3) := by decide +kernel
theorem dX8_unheard_19 : decode cX8_unheard 19 = .ok (.invokestatic 45, 3) := by decide +kernel
theorem dX8_unheard_22 : decode cX8_unheard 22 = .ok (.ifCond .ne 9, 3) := by decide +kernel
theorem dX8_unheard_25 : decode cX8_unheard 25 = .ok (.aload_n 0, 1) := by decide +kernel
theorem dX8_unheard_26 : decode cX8_unheard 26 = .ok (.iconst 2, 1) := by decide +kernel
theorem dX8_unheard_27 : decode cX8_unheard 27 = .ok (.invokevirtual 64, 3) := by decide +kernel
theorem dX8_unheard_30 : decode cX8_unheard 30 = .ok (.ireturn, 1) := by decide +kernel
theorem dX8_unheard_31 : decode cX8_unheard 31 = .ok (.aload_n 0, 1) := by decide +kernel
theorem dX8_unheard_32 : decode cX8_unheard 32 = .ok (.invokevirtual 152, 3) := by decide +kernel
theorem dX8_unheard_35 : decode cX8_unheard 35 = .ok (.aload_n 0, 1) := by decide +kernel
theorem dX8_unheard_36 : decode cX8_unheard 36 = .ok (.getfield 7, 3) := by decide +kernel
theorem dX8_unheard_39 : decode cX8_unheard 39 = .ok (.iload_n 1, 1) := by decide +kernel
theorem dX8_unheard_40 : decode cX8_unheard 40 = .ok (.iconst 2, 1) := by decide +kernel
theorem dX8_unheard_41 : decode cX8_unheard 41 = .ok (.invokestatic 104, 3) := by decide +kernel
theorem dX8_unheard_44 : decode cX8_unheard 44 = .ok (.iconst 0, 1) := by decide +kernel
theorem dX8_unheard_45 : decode cX8_unheard 45 = .ok (.iastore, 1) := by decide +kernel
theorem dX8_unheard_46 : decode cX8_unheard 46 = .ok (.iconst 0, 1) := by decide +kernel
theorem dX8_unheard_47 : decode cX8_unheard 47 = .ok (.istore_n 3, 1) := by decide +kernel
theorem dX8_unheard_48 : decode cX8_unheard 48 = .ok (.iconst 1, 1) := by decide +kernel
theorem dX8_unheard_49 : decode cX8_unheard 49 = .ok (.istore 4, 2) := by decide +kernel
theorem dX8_unheard_51 : decode cX8_unheard 51 = .ok (.iload_n 3, 1) := by decide +kernel
theorem dX8_unheard_52 : decode cX8_unheard 52 = .ok (.bipush 99, 2) := by decide +kernel
theorem dX8_unheard_54 : decode cX8_unheard 54 = .ok (.if_icmp .ge 51, 3) := by decide +kernel
theorem dX8_unheard_57 : decode cX8_unheard 57 = .ok (.iload 4, 2) := by decide +kernel
theorem dX8_unheard_59 : decode cX8_unheard 59 = .ok (.ifCond .eq 46, 3) := by decide +kernel
theorem dX8_unheard_62 : decode cX8_unheard 62 = .ok (.aload_n 0, 1) := by decide +kernel
theorem dX8_unheard_63 : decode cX8_unheard 63 = .ok (.invokevirtual 134, 3) := by decide +kernel
theorem dX8_unheard_66 : decode cX8_unheard 66 = .ok (.istore 5, 2) := by decide +kernel
theorem dX8_unheard_68 : decode cX8_unheard 68 = .ok (.aload_n 0, 1) := by decide +kernel
theorem dX8_unheard_69 : decode cX8_unheard 69 = .ok (.iload_n 1, 1) := by decide +kernel
theorem dX8_unheard_70 : decode cX8_unheard 70 = .ok (.bipush 11, 2) := by decide +kernel
theorem dX8_unheard_72 : decode cX8_unheard 72 = .ok (.invokevirtual 107, 3) := by decide +kernel
theorem dX8_unheard_75 : decode cX8_unheard 75 = .ok (.iload_n 2, 1) := by decide +kernel
theorem dX8_unheard_76 : decode cX8_unheard 76 = .ok (.invokestatic 119, 3) := by decide +kernel
theorem dX8_unheard_79 : decode cX8_unheard 79 = .ok (.if_icmp .ne 7, 3) := by decide +kernel
theorem dX8_unheard_82 : decode cX8_unheard 82 = .ok (.iconst 1, 1) := by decide +kernel
theorem dX8_unheard_83 : decode cX8_unheard 83 = .ok (.goto 4, 3) := by decide +kernel
theorem dX8_unheard_86 : decode cX8_unheard 86 = .ok (.iconst 0, 1) := by decide +kernel
theorem dX8_unheard_87 : decode cX8_unheard 87 = .ok (.istore 4, 2) := by decide +kernel
theorem dX8_unheard_89 : decode cX8_unheard 89 = .ok (.iload_n 3, 1) := by decide +kernel
theorem dX8_unheard_90 : decode cX8_unheard 90 = .ok (.iload 4, 2) := by decide +kernel
theorem dX8_unheard_92 : decode cX8_unheard 92 = .ok (.ifCond .eq 7, 3) := by decide +kernel
theorem dX8_unheard_95 : decode cX8_unheard 95 = .ok (.iconst 1, 1) := by decide +kernel
theorem dX8_unheard_96 : decode cX8_unheard 96 = .ok (.goto 4, 3) := by decide +kernel
theorem dX8_unheard_99 : decode cX8_unheard 99 = .ok (.iconst 0, 1) := by decide +kernel
theorem dX8_unheard_100 : decode cX8_unheard 100 = .ok (.iadd, 1) := by decide +kernel
theorem dX8_unheard_101 : decode cX8_unheard 101 = .ok (.istore_n 3, 1) := by decide +kernel
theorem dX8_unheard_102 : decode cX8_unheard 102 = .ok (.goto (-51), 3) := by decide +kernel
theorem dX8_unheard_105 : decode cX8_unheard 105 = .ok (.aload_n 0, 1) := by decide +kernel
theorem dX8_unheard_106 : decode cX8_unheard 106 = .ok (.invokevirtual 155, 3) := by decide +kernel
theorem dX8_unheard_109 : decode cX8_unheard 109 = .ok (.aload_n 0, 1) := by decide +kernel
theorem dX8_unheard_110 : decode cX8_unheard 110 = .ok (.iload_n 3, 1) := by decide +kernel
theorem dX8_unheard_111 : decode cX8_unheard 111 = .ok (.invokevirtual 75, 3) := by decide +kernel
theorem dX8_unheard_114 : decode cX8_unheard 114 = .ok (.ireturn, 1) := by decide +kernel
set_option maxRecDepth 20000 in
theorem ggX8_meanVolume_X8_of : GoodIn wsX8_meanVolume wsX8_of := goodIn_r _ [7, 8, 9, 10, 6, 11, 12, 13, 14, 15, 16, 17, 18, 19, 20, 21, 22] (by decide +kernel) (by decide +kernel)
set_option maxRecDepth 20000 in
theorem gX8_meanVolume_X8_of : GoodIn wsX8_meanVolume (wsV RX8 107 RX8 yX8_of wsX8_of) := goodIn_app (goodIn_of _ (by decide +kernel)) ggX8_meanVolume_X8_of
theorem dX8_meanVolume_0 : decode cX8_meanVolume 0 = .ok (.aload_n 0, 1) := by decide +kernel
theorem dX8_meanVolume_1 : decode cX8_meanVolume 1 = .ok (.iconst 0, 1) := by decide +kernel
theorem dX8_meanVolume_2 : decode cX8_meanVolume 2 = .ok (.putfield 32, 3) := by decide +kernel
theorem dX8_meanVolume_5 : decode cX8_meanVolume 5 = .ok (.aload_n 0, 1) := by decide +kernel
theorem dX8_meanVolume_6 : decode cX8_meanVolume 6 = .ok (.iconst 0, 1) := by decide +kernel
theorem dX8_meanVolume_7 : decode cX8_meanVolume 7 = .ok (.iconst 1, 1) := by decide +kernel
theorem dX8_meanVolume_8 : decode cX8_meanVolume 8 = .ok (.invokevirtual 107, 3) := by decide +kernel
theorem dX8_meanVolume_11 : decode cX8_meanVolume 11 = .ok (.aload_n 0, 1) := by decide +kernel
theorem dX8_meanVolume_12 : decode cX8_meanVolume 12 = .ok (.iconst 1, 1) := by decide +kernel
theorem dX8_meanVolume_13 : decode cX8_meanVolume 13 = .ok (.iconst 1, 1) := by decide +kernel
theorem dX8_meanVolume_14 : decode cX8_meanVolume 14 = .ok (.invokevirtual 107, 3) := by decide +kernel
theorem dX8_meanVolume_17 : decode cX8_meanVolume 17 = .ok (.iadd, 1) := by decide +kernel
theorem dX8_meanVolume_18 : decode cX8_meanVolume 18 = .ok (.aload_n 0, 1) := by decide +kernel
theorem dX8_meanVolume_19 : decode cX8_meanVolume 19 = .ok (.iconst 2, 1) := by decide +kernel
theorem dX8_meanVolume_20 : decode cX8_meanVolume 20 = .ok (.iconst 1, 1) := by decide +kernel
theorem dX8_meanVolume_21 : decode cX8_meanVolume 21 = .ok (.invokevirtual 107, 3) := by decide +kernel
theorem dX8_meanVolume_24 : decode cX8_meanVolume 24 = .ok (.iadd, 1) := by decide +kernel
theorem dX8_meanVolume_25 : decode cX8_meanVolume 25 = .ok (.aload_n 0, 1) := by decide +kernel
theorem dX8_meanVolume_26 : decode cX8_meanVolume 26 = .ok (.iconst 3, 1) := by decide +kernel
theorem dX8_meanVolume_27 : decode cX8_meanVolume 27 = .ok (.iconst 1, 1) := by decide +kernel
theorem dX8_meanVolume_28 : decode cX8_meanVolume 28 = .ok (.invokevirtual 107, 3) := by decide +kernel
theorem dX8_meanVolume_31 : decode cX8_meanVolume 31 = .ok (.iadd, 1) := by decide +kernel
theorem dX8_meanVolume_32 : decode cX8_meanVolume 32 = .ok (.i2d, 1) := by decide +kernel
theorem dX8_meanVolume_33 : decode cX8_meanVolume 33 = .ok (.dstore_n 1, 1) := by decide +kernel
theorem dX8_meanVolume_34 : decode cX8_meanVolume 34 = .ok (.dload_n 1, 1) := by decide +kernel
theorem dX8_meanVolume_35 : decode cX8_meanVolume 35 = .ok (.ldc2_w 161, 3) := by decide +kernel
theorem dX8_meanVolume_38 : decode cX8_meanVolume 38 = .ok (.ddiv, 1) := by decide +kernel
theorem dX8_meanVolume_39 : decode cX8_meanVolume 39 = .ok (.dreturn, 1) := by decide +kernel
set_option maxRecDepth 20000 in
theorem ggX8_append_X8_in : GoodIn wsX8_append wsX8_in := goodIn_r _ [7] (by decide +kernel) (by decide +kernel)
set_option maxRecDepth 20000 in
theorem gX8_append_X8_in : GoodIn wsX8_append (va_wsS RX8 45 yX8_in wsX8_in) := goodIn_app (goodIn_of _ (by decide +kernel)) ggX8_append_X8_in
set_option maxRecDepth 20000 in
theorem ggX8_append_X8_throwing : GoodIn wsX8_append wsX8_throwing := goodIn_r _ [11, 12, 17, 18, 19, 20, 21, 22, 23, 24, 25, 26, 27] (by decide +kernel) (by decide +kernel)
set_option maxRecDepth 20000 in
theorem gX8_append_X8_throwing : GoodIn wsX8_append (wsV RX8 64 RX8 yX8_throwing wsX8_throwing) := goodIn_app (goodIn_of _ (by decide +kernel)) ggX8_append_X8_throwing
set_option maxRecDepth 20000 in
theorem ggX8_append_X8_fine : GoodIn wsX8_append wsX8_fine := goodIn_r _ [16, 12, 17, 18, 19, 20, 21, 22, 23, 24, 25, 26, 27] (by decide +kernel) (by decide +kernel)
set_option maxRecDepth 20000 in
theorem gX8_append_X8_fine : GoodIn wsX8_append (wsV RX8 75 RX8 yX8_fine wsX8_fine) := goodIn_app (goodIn_of _ (by decide +kernel)) ggX8_append_X8_fine
theorem dX8_append_0 : decode cX8_append 0 = .ok (.iload_n 1, 1) := by decide +kernel
theorem dX8_append_1 : decode cX8_append 1 = .ok (.i2l, 1) := by decide +kernel
theorem dX8_append_2 : decode cX8_append 2 = .ok (.lconst 0, 1) := by decide +kernel
theorem dX8_append_3 : decode cX8_append 3 = .ok (.ldc2_w 163, 3) := by decide +kernel
theorem dX8_append_6 : decode cX8_append 6 = .ok (.invokestatic 45, 3) := by decide +kernel
theorem dX8_append_9 : decode cX8_append 9 = .ok (.ifCond .ne 9, 3) := by decide +kernel
theorem dX8_append_12 : decode cX8_append 12 = .ok (.aload_n 0, 1) := by decide +kernel
theorem dX8_append_13 : decode cX8_append 13 = .ok (.iconst 1, 1) := by decide +kernel
theorem dX8_append_14 : decode cX8_append 14 = .ok (.invokevirtual 64, 3) := by decide +kernel
theorem dX8_append_17 : decode cX8_append 17 = .ok (.ireturn, 1) := by decide +kernel
theorem dX8_append_18 : decode cX8_append 18 = .ok (.aload_n 0, 1) := by decide +kernel
theorem dX8_append_19 : decode cX8_append 19 = .ok (.getfield 165, 3) := by decide +kernel
theorem dX8_append_22 : decode cX8_append 22 = .ok (.bipush 100, 2) := by decide +kernel
theorem dX8_append_24 : decode cX8_append 24 = .ok (.if_icmp .ne 9, 3) := by decide +kernel
theorem dX8_append_27 : decode cX8_append 27 = .ok (.aload_n 0, 1) := by decide +kernel
theorem dX8_append_28 : decode cX8_append 28 = .ok (.iconst 2, 1) := by decide +kernel
theorem dX8_append_29 : decode cX8_append 29 = .ok (.invokevirtual 64, 3) := by decide +kernel
theorem dX8_append_32 : decode cX8_append 32 = .ok (.ireturn, 1) := by decide +kernel
theorem dX8_append_33 : decode cX8_append 33 = .ok (.aload_n 0, 1) := by decide +kernel
theorem dX8_append_34 : decode cX8_append 34 = .ok (.getfield 19, 3) := by decide +kernel
theorem dX8_append_37 : decode cX8_append 37 = .ok (.aload_n 0, 1) := by decide +kernel
theorem dX8_append_38 : decode cX8_append 38 = .ok (.getfield 165, 3) := by decide +kernel
theorem dX8_append_41 : decode cX8_append 41 = .ok (.iload_n 1, 1) := by decide +kernel
theorem dX8_append_42 : decode cX8_append 42 = .ok (.iastore, 1) := by decide +kernel
theorem dX8_append_43 : decode cX8_append 43 = .ok (.aload_n 0, 1) := by decide +kernel
theorem dX8_append_44 : decode cX8_append 44 = .ok (.dup, 1) := by decide +kernel
theorem dX8_append_45 : decode cX8_append 45 = .ok (.getfield 165, 3) := by decide +kernel
theorem dX8_append_48 : decode cX8_append 48 = .ok (.iconst 1, 1) := by decide +kernel
theorem dX8_append_49 : decode cX8_append 49 = .ok (.iadd, 1) := by decide +kernel
theorem dX8_append_50 : decode cX8_append 50 = .ok (.putfield 165, 3) := by decide +kernel
theorem dX8_append_53 : decode cX8_append 53 = .ok (.aload_n 0, 1) := by decide +kernel
theorem dX8_append_54 : decode cX8_append 54 = .ok (.aload_n 0, 1) := by decide +kernel
theorem dX8_append_55 : decode cX8_append 55 = .ok (.getfield 165, 3) := by decide +kernel
theorem dX8_append_58 : decode cX8_append 58 = .ok (.invokevirtual 75, 3) := by decide +kernel
theorem dX8_append_61 : decode cX8_append 61 = .ok (.ireturn, 1) := by decide +kernel
set_option maxRecDepth 20000 in
theorem ggX8_clearText_X8_fine : GoodIn wsX8_clearText wsX8_fine := goodIn_r _ [6, 7, 8, 9, 10, 11, 12, 13, 14, 15, 16, 17, 18] (by decide +kernel) (by decide +kernel)
set_option maxRecDepth 20000 in
theorem gX8_clearText_X8_fine : GoodIn wsX8_clearText (wsV RX8 75 RX8 yX8_fine wsX8_fine) := goodIn_app (goodIn_of _ (by decide +kernel)) ggX8_clearText_X8_fine
theorem dX8_clearText_0 : decode cX8_clearText 0 = .ok (.aload_n 0, 1) := by decide +kernel
theorem dX8_clearText_1 : decode cX8_clearText 1 = .ok (.getfield 165, 3) := by decide +kernel
theorem dX8_clearText_4 : decode cX8_clearText 4 = .ok (.istore_n 1, 1) := by decide +kernel
theorem dX8_clearText_5 : decode cX8_clearText 5 = .ok (.aload_n 0, 1) := by decide +kernel
theorem dX8_clearText_6 : decode cX8_clearText 6 = .ok (.iconst 0, 1) := by decide +kernel
theorem dX8_clearText_7 : decode cX8_clearText 7 = .ok (.putfield 165, 3) := by decide +kernel
theorem dX8_clearText_10 : decode cX8_clearText 10 = .ok (.aload_n 0, 1) := by decide +kernel
theorem dX8_clearText_11 : decode cX8_clearText 11 = .ok (.iload_n 1, 1) := by decide +kernel
theorem dX8_clearText_12 : decode cX8_clearText 12 = .ok (.invokevirtual 75, 3) := by decide +kernel
theorem dX8_clearText_15 : decode cX8_clearText 15 = .ok (.ireturn, 1) := by decide +kernel
theorem dX8_here_0 : decode cX8_here 0 = .ok (.aload_n 0, 1) := by decide +kernel
theorem dX8_here_1 : decode cX8_here 1 = .ok (.getfield 168, 3) := by decide +kernel
theorem dX8_here_4 : decode cX8_here 4 = .ok (.aload_n 0, 1) := by decide +kernel
theorem dX8_here_5 : decode cX8_here 5 = .ok (.getfield 165, 3) := by decide +kernel
theorem dX8_here_8 : decode cX8_here 8 = .ok (.if_icmp .ge 15, 3) := by decide +kernel
theorem dX8_here_11 : decode cX8_here 11 = .ok (.aload_n 0, 1) := by decide +kernel
theorem dX8_here_12 : decode cX8_here 12 = .ok (.getfield 19, 3) := by decide +kernel
theorem dX8_here_15 : decode cX8_here 15 = .ok (.aload_n 0, 1) := by decide +kernel
theorem dX8_here_16 : decode cX8_here 16 = .ok (.getfield 168, 3) := by decide +kernel
theorem dX8_here_19 : decode cX8_here 19 = .ok (.iaload, 1) := by decide +kernel
theorem dX8_here_20 : decode cX8_here 20 = .ok (.goto 4, 3) := by decide +kernel
theorem dX8_here_23 : decode cX8_here 23 = .ok (.iconst (-1), 1) := by decide +kernel
theorem dX8_here_24 : decode cX8_here 24 = .ok (.ireturn, 1) := by decide +kernel
set_option maxRecDepth 20000 in
theorem ggX8_passes_X8_here : GoodIn wsX8_passes wsX8_here := goodIn_r _ [6, 1, 7, 8, 9, 10, 11, 12, 13, 14, 15, 16, 17, 18, 19] (by decide +kernel) (by decide +kernel)
set_option maxRecDepth 20000 in
theorem gX8_passes_X8_here : GoodIn wsX8_passes (wsV RX8 171 RX8 yX8_here wsX8_here) := goodIn_app (goodIn_of _ (by decide +kernel)) ggX8_passes_X8_here
theorem dX8_passes_0 : decode cX8_passes 0 = .ok (.aload_n 0, 1) := by decide +kernel
theorem dX8_passes_1 : decode cX8_passes 1 = .ok (.invokevirtual 171, 3) := by decide +kernel
theorem dX8_passes_4 : decode cX8_passes 4 = .ok (.iload_n 1, 1) := by decide +kernel
theorem dX8_passes_5 : decode cX8_passes 5 = .ok (.if_icmp .ne 7, 3) := by decide +kernel
theorem dX8_passes_8 : decode cX8_passes 8 = .ok (.iconst 1, 1) := by decide +kernel
theorem dX8_passes_9 : decode cX8_passes 9 = .ok (.goto 4, 3) := by decide +kernel
theorem dX8_passes_12 : decode cX8_passes 12 = .ok (.iconst 0, 1) := by decide +kernel
theorem dX8_passes_13 : decode cX8_passes 13 = .ok (.istore_n 2, 1) := by decide +kernel
theorem dX8_passes_14 : decode cX8_passes 14 = .ok (.aload_n 0, 1) := by decide +kernel
theorem dX8_passes_15 : decode cX8_passes 15 = .ok (.dup, 1) := by decide +kernel
theorem dX8_passes_16 : decode cX8_passes 16 = .ok (.getfield 168, 3) := by decide +kernel
theorem dX8_passes_19 : decode cX8_passes 19 = .ok (.iload_n 2, 1) := by decide +kernel
theorem dX8_passes_20 : decode cX8_passes 20 = .ok (.ifCond .eq 7, 3) := by decide +kernel
theorem dX8_passes_23 : decode cX8_passes 23 = .ok (.iconst 1, 1) := by decide +kernel
theorem dX8_passes_24 : decode cX8_passes 24 = .ok (.goto 4, 3) := by decide +kernel
theorem dX8_passes_27 : decode cX8_passes 27 = .ok (.iconst 0, 1) := by decide +kernel
theorem dX8_passes_28 : decode cX8_passes 28 = .ok (.iadd, 1) := by decide +kernel
theorem dX8_passes_29 : decode cX8_passes 29 = .ok (.putfield 168, 3) := by decide +kernel
theorem dX8_passes_32 : decode cX8_passes 32 = .ok (.iload_n 2, 1) := by decide +kernel
theorem dX8_passes_33 : decode cX8_passes 33 = .ok (.ireturn, 1) := by decide +kernel
set_option maxRecDepth 20000 in
theorem ggX8_readsNumber_X8_here : GoodIn wsX8_readsNumber wsX8_here := goodIn_r _ [9, 1, 10, 11, 15, 16, 17, 18, 19, 20, 21, 22, 23, 24, 25] (by decide +kernel) (by decide +kernel)
set_option maxRecDepth 20000 in
theorem gX8_readsNumber_X8_here : GoodIn wsX8_readsNumber (wsV RX8 171 RX8 yX8_here wsX8_here) := goodIn_app (goodIn_of _ (by decide +kernel)) ggX8_readsNumber_X8_here
set_option maxRecDepth 20000 in
theorem ggX8_readsNumber_X8_in : GoodIn wsX8_readsNumber wsX8_in := goodIn_r _ [14] (by decide +kernel) (by decide +kernel)
set_option maxRecDepth 20000 in
theorem gX8_readsNumber_X8_in : GoodIn wsX8_readsNumber (va_wsS RX8 45 yX8_in wsX8_in) := goodIn_app (goodIn_of _ (by decide +kernel)) ggX8_readsNumber_X8_in
theorem dX8_readsNumber_0 : decode cX8_readsNumber 0 = .ok (.aload_n 0, 1) := by decide +kernel
theorem dX8_readsNumber_1 : decode cX8_readsNumber 1 = .ok (.getfield 168, 3) := by decide +kernel
theorem dX8_readsNumber_4 : decode cX8_readsNumber 4 = .ok (.istore_n 2, 1) := by decide +kernel
theorem dX8_readsNumber_5 : decode cX8_readsNumber 5 = .ok (.aload_n 0, 1) := by decide +kernel
theorem dX8_readsNumber_6 : decode cX8_readsNumber 6 = .ok (.iconst 0, 1) := by decide +kernel
theorem dX8_readsNumber_7 : decode cX8_readsNumber 7 = .ok (.putfield 174, 3) := by decide +kernel
theorem dX8_readsNumber_10 : decode cX8_readsNumber 10 = .ok (.aload_n 0, 1) := by decide +kernel
theorem dX8_readsNumber_11 : decode cX8_readsNumber 11 = .ok (.invokevirtual 171, 3) := by decide +kernel
theorem dX8_readsNumber_14 : decode cX8_readsNumber 14 = .ok (.i2l, 1) := by decide +kernel
theorem dX8_readsNumber_15 : decode cX8_readsNumber 15 = .ok (.ldc2_w 177, 3) := by decide +kernel
theorem dX8_readsNumber_18 : decode cX8_readsNumber 18 = .ok (.ldc2_w 179, 3) := by decide +kernel
theorem dX8_readsNumber_21 : decode cX8_readsNumber 21 = .ok (.invokestatic 45, 3) := by decide +kernel
theorem dX8_readsNumber_24 : decode cX8_readsNumber 24 = .ok (.ifCond .eq 45, 3) := by decide +kernel
theorem dX8_readsNumber_27 : decode cX8_readsNumber 27 = .ok (.aload_n 0, 1) := by decide +kernel
theorem dX8_readsNumber_28 : decode cX8_readsNumber 28 = .ok (.getfield 168, 3) := by decide +kernel
theorem dX8_readsNumber_31 : decode cX8_readsNumber 31 = .ok (.iload_n 2, 1) := by decide +kernel
theorem dX8_readsNumber_32 : decode cX8_readsNumber 32 = .ok (.iconst 2, 1) := by decide +kernel
theorem dX8_readsNumber_33 : decode cX8_readsNumber 33 = .ok (.iadd, 1) := by decide +kernel
theorem dX8_readsNumber_34 : decode cX8_readsNumber 34 = .ok (.if_icmp .ge 35, 3) := by decide +kernel
theorem dX8_readsNumber_37 : decode cX8_readsNumber 37 = .ok (.aload_n 0, 1) := by decide +kernel
theorem dX8_readsNumber_38 : decode cX8_readsNumber 38 = .ok (.bipush 10, 2) := by decide +kernel
theorem dX8_readsNumber_40 : decode cX8_readsNumber 40 = .ok (.aload_n 0, 1) := by decide +kernel
theorem dX8_readsNumber_41 : decode cX8_readsNumber 41 = .ok (.getfield 174, 3) := by decide +kernel
theorem dX8_readsNumber_44 : decode cX8_readsNumber 44 = .ok (.imul, 1) := by decide +kernel
theorem dX8_readsNumber_45 : decode cX8_readsNumber 45 = .ok (.aload_n 0, 1) := by decide +kernel
theorem dX8_readsNumber_46 : decode cX8_readsNumber 46 = .ok (.invokevirtual 171, 3) := by decide +kernel
theorem dX8_readsNumber_49 : decode cX8_readsNumber 49 = .ok (.iadd, 1) := by decide +kernel
theorem dX8_readsNumber_50 : decode cX8_readsNumber 50 = .ok (.bipush 48, 2) := by decide +kernel
theorem dX8_readsNumber_52 : decode cX8_readsNumber 52 = .ok (.isub, 1) := by decide +kernel
theorem dX8_readsNumber_53 : decode cX8_readsNumber 53 = .ok (.putfield 174, 3) := by decide +kernel
theorem dX8_readsNumber_56 : decode cX8_readsNumber 56 = .ok (.aload_n 0, 1) := by decide +kernel
theorem dX8_readsNumber_57 : decode cX8_readsNumber 57 = .ok (.dup, 1) := by decide +kernel
theorem dX8_readsNumber_58 : decode cX8_readsNumber 58 = .ok (.getfield 168, 3) := by decide +kernel
theorem dX8_readsNumber_61 : decode cX8_readsNumber 61 = .ok (.iconst 1, 1) := by decide +kernel
theorem dX8_readsNumber_62 : decode cX8_readsNumber 62 = .ok (.iadd, 1) := by decide +kernel
theorem dX8_readsNumber_63 : decode cX8_readsNumber 63 = .ok (.putfield 168, 3) := by decide +kernel
theorem dX8_readsNumber_66 : decode cX8_readsNumber 66 = .ok (.goto (-56), 3) := by decide +kernel
theorem dX8_readsNumber_69 : decode cX8_readsNumber 69 = .ok (.aload_n 0, 1) := by decide +kernel
theorem dX8_readsNumber_70 : decode cX8_readsNumber 70 = .ok (.getfield 168, 3) := by decide +kernel
theorem dX8_readsNumber_73 : decode cX8_readsNumber 73 = .ok (.iload_n 2, 1) := by decide +kernel
theorem dX8_readsNumber_74 : decode cX8_readsNumber 74 = .ok (.if_icmp .eq 20, 3) := by decide +kernel
theorem dX8_readsNumber_77 : decode cX8_readsNumber 77 = .ok (.aload_n 0, 1) := by decide +kernel
theorem dX8_readsNumber_78 : decode cX8_readsNumber 78 = .ok (.invokevirtual 171, 3) := by decide +kernel
theorem dX8_readsNumber_81 : decode cX8_readsNumber 81 = .ok (.i2l, 1) := by decide +kernel
theorem dX8_readsNumber_82 : decode cX8_readsNumber 82 = .ok (.ldc2_w 177, 3) := by decide +kernel
theorem dX8_readsNumber_85 : decode cX8_readsNumber 85 = .ok (.ldc2_w 179, 3) := by decide +kernel
theorem dX8_readsNumber_88 : decode cX8_readsNumber 88 = .ok (.invokestatic 45, 3) := by decide +kernel
theorem dX8_readsNumber_91 : decode cX8_readsNumber 91 = .ok (.ifCond .eq 5, 3) := by decide +kernel
theorem dX8_readsNumber_94 : decode cX8_readsNumber 94 = .ok (.iconst 0, 1) := by decide +kernel
theorem dX8_readsNumber_95 : decode cX8_readsNumber 95 = .ok (.ireturn, 1) := by decide +kernel
theorem dX8_readsNumber_96 : decode cX8_readsNumber 96 = .ok (.aload_n 0, 1) := by decide +kernel
theorem dX8_readsNumber_97 : decode cX8_readsNumber 97 = .ok (.getfield 174, 3) := by decide +kernel
theorem dX8_readsNumber_100 : decode cX8_readsNumber 100 = .ok (.iload_n 1, 1) := by decide +kernel
theorem dX8_readsNumber_101 : decode cX8_readsNumber 101 = .ok (.if_icmp .le 10, 3) := by decide +kernel
theorem dX8_readsNumber_104 : decode cX8_readsNumber 104 = .ok (.aload_n 0, 1) := by decide +kernel
theorem dX8_readsNumber_105 : decode cX8_readsNumber 105 = .ok (.iload_n 2, 1) := by decide +kernel
theorem dX8_readsNumber_106 : decode cX8_readsNumber 106 = .ok (.putfield 168, 3) := by decide +kernel
theorem dX8_readsNumber_109 : decode cX8_readsNumber 109 = .ok (.iconst 0, 1) := by decide +kernel
theorem dX8_readsNumber_110 : decode cX8_readsNumber 110 = .ok (.ireturn, 1) := by decide +kernel
theorem dX8_readsNumber_111 : decode cX8_readsNumber 111 = .ok (.iconst 1, 1) := by decide +kernel
theorem dX8_readsNumber_112 : decode cX8_readsNumber 112 = .ok (.ireturn, 1) := by decide +kernel
set_option maxRecDepth 20000 in
theorem ggX8_readsEffect_X8_here : GoodIn wsX8_readsEffect wsX8_here := goodIn_r _ [9, 2, 10, 11, 15, 16, 17, 18, 19, 20, 21, 22, 23, 24, 25] (by decide +kernel) (by decide +kernel)
set_option maxRecDepth 20000 in
theorem gX8_readsEffect_X8_here : GoodIn wsX8_readsEffect (wsV RX8 171 RX8 yX8_here wsX8_here) := goodIn_app (goodIn_of _ (by decide +kernel)) ggX8_readsEffect_X8_here
set_option maxRecDepth 20000 in
theorem ggX8_readsEffect_X8_in : GoodIn wsX8_readsEffect wsX8_in := goodIn_r _ [14] (by decide +kernel) (by decide +kernel)
set_option maxRecDepth 20000 in
theorem gX8_readsEffect_X8_in : GoodIn wsX8_readsEffect (va_wsS RX8 45 yX8_in wsX8_in) := goodIn_app (goodIn_of _ (by decide +kernel)) ggX8_readsEffect_X8_in
theorem dX8_readsEffect_0 : decode cX8_readsEffect 0 = .ok (.aload_n 0, 1) := by decide +kernel
theorem dX8_readsEffect_1 : decode cX8_readsEffect 1 = .ok (.getfield 22, 3) := by decide +kernel
theorem dX8_readsEffect_4 : decode cX8_readsEffect 4 = .ok (.iload_n 1, 1) := by decide +kernel
theorem dX8_readsEffect_5 : decode cX8_readsEffect 5 = .ok (.iconst 2, 1) := by decide +kernel
theorem dX8_readsEffect_6 : decode cX8_readsEffect 6 = .ok (.iadd, 1) := by decide +kernel
theorem dX8_readsEffect_7 : decode cX8_readsEffect 7 = .ok (.aload_n 0, 1) := by decide +kernel
theorem dX8_readsEffect_8 : decode cX8_readsEffect 8 = .ok (.invokevirtual 171, 3) := by decide +kernel
theorem dX8_readsEffect_11 : decode cX8_readsEffect 11 = .ok (.bipush 97, 2) := by decide +kernel
theorem dX8_readsEffect_13 : decode cX8_readsEffect 13 = .ok (.isub, 1) := by decide +kernel
theorem dX8_readsEffect_14 : decode cX8_readsEffect 14 = .ok (.iconst 1, 1) := by decide +kernel
theorem dX8_readsEffect_15 : decode cX8_readsEffect 15 = .ok (.iadd, 1) := by decide +kernel
theorem dX8_readsEffect_16 : decode cX8_readsEffect 16 = .ok (.iastore, 1) := by decide +kernel
theorem dX8_readsEffect_17 : decode cX8_readsEffect 17 = .ok (.aload_n 0, 1) := by decide +kernel
theorem dX8_readsEffect_18 : decode cX8_readsEffect 18 = .ok (.dup, 1) := by decide +kernel
theorem dX8_readsEffect_19 : decode cX8_readsEffect 19 = .ok (.getfield 168, 3) := by decide +kernel
theorem dX8_readsEffect_22 : decode cX8_readsEffect 22 = .ok (.iconst 1, 1) := by decide +kernel
theorem dX8_readsEffect_23 : decode cX8_readsEffect 23 = .ok (.iadd, 1) := by decide +kernel
theorem dX8_readsEffect_24 : decode cX8_readsEffect 24 = .ok (.putfield 168, 3) := by decide +kernel
theorem dX8_readsEffect_27 : decode cX8_readsEffect 27 = .ok (.aload_n 0, 1) := by decide +kernel
theorem dX8_readsEffect_28 : decode cX8_readsEffect 28 = .ok (.invokevirtual 171, 3) := by decide +kernel
theorem dX8_readsEffect_31 : decode cX8_readsEffect 31 = .ok (.i2l, 1) := by decide +kernel
theorem dX8_readsEffect_32 : decode cX8_readsEffect 32 = .ok (.ldc2_w 177, 3) := by decide +kernel
theorem dX8_readsEffect_35 : decode cX8_readsEffect 35 = .ok (.ldc2_w 179, 3) := by decide +kernel
theorem dX8_readsEffect_38 : decode cX8_readsEffect 38 = .ok (.invokestatic 45, 3) := by decide +kernel
theorem dX8_readsEffect_41 : decode cX8_readsEffect 41 = .ok (.ifCond .ne 5, 3) := by decide +kernel
theorem dX8_readsEffect_44 : decode cX8_readsEffect 44 = .ok (.iconst 0, 1) := by decide +kernel
theorem dX8_readsEffect_45 : decode cX8_readsEffect 45 = .ok (.ireturn, 1) := by decide +kernel
theorem dX8_readsEffect_46 : decode cX8_readsEffect 46 = .ok (.aload_n 0, 1) := by decide +kernel
theorem dX8_readsEffect_47 : decode cX8_readsEffect 47 = .ok (.getfield 22, 3) := by decide +kernel
theorem dX8_readsEffect_50 : decode cX8_readsEffect 50 = .ok (.iload_n 1, 1) := by decide +kernel
theorem dX8_readsEffect_51 : decode cX8_readsEffect 51 = .ok (.iconst 3, 1) := by decide +kernel
theorem dX8_readsEffect_52 : decode cX8_readsEffect 52 = .ok (.iadd, 1) := by decide +kernel
theorem dX8_readsEffect_53 : decode cX8_readsEffect 53 = .ok (.aload_n 0, 1) := by decide +kernel
theorem dX8_readsEffect_54 : decode cX8_readsEffect 54 = .ok (.invokevirtual 171, 3) := by decide +kernel
theorem dX8_readsEffect_57 : decode cX8_readsEffect 57 = .ok (.bipush 48, 2) := by decide +kernel
theorem dX8_readsEffect_59 : decode cX8_readsEffect 59 = .ok (.isub, 1) := by decide +kernel
theorem dX8_readsEffect_60 : decode cX8_readsEffect 60 = .ok (.iastore, 1) := by decide +kernel
theorem dX8_readsEffect_61 : decode cX8_readsEffect 61 = .ok (.aload_n 0, 1) := by decide +kernel
theorem dX8_readsEffect_62 : decode cX8_readsEffect 62 = .ok (.dup, 1) := by decide +kernel
theorem dX8_readsEffect_63 : decode cX8_readsEffect 63 = .ok (.getfield 168, 3) := by decide +kernel
theorem dX8_readsEffect_66 : decode cX8_readsEffect 66 = .ok (.iconst 1, 1) := by decide +kernel
theorem dX8_readsEffect_67 : decode cX8_readsEffect 67 = .ok (.iadd, 1) := by decide +kernel
theorem dX8_readsEffect_68 : decode cX8_readsEffect 68 = .ok (.putfield 168, 3) := by decide +kernel
theorem dX8_readsEffect_71 : decode cX8_readsEffect 71 = .ok (.iconst 1, 1) := by decide +kernel
theorem dX8_readsEffect_72 : decode cX8_readsEffect 72 = .ok (.ireturn, 1) := by decide +kernel
set_option maxRecDepth 20000 in
theorem ggX8_readsCell_X8_passes : GoodIn wsX8_readsCell wsX8_passes := goodIn_r _ [9, 10, 11, 12, 13, 8, 14, 15, 16, 30, 31, 32, 33, 34, 35, 36, 37, 38, 39, 40] (by decide +kernel) (by decide +kernel)
set_option maxRecDepth 20000 in
theorem gX8_readsCell_X8_passes : GoodIn wsX8_readsCell (wsV RX8 181 RX8 yX8_passes wsX8_passes) := goodIn_app (goodIn_of _ (by decide +kernel)) ggX8_readsCell_X8_passes
set_option maxRecDepth 20000 in
theorem ggX8_readsCell_X8_readsNumber : GoodIn wsX8_readsCell wsX8_readsNumber := goodIn_r _ [20, 10, 2, 21, 22, 11, 12, 13, 8, 14, 15, 16, 23, 24, 25, 30, 31, 32, 33, 34, 35, 36, 37, 38, 39, 40] (by decide +kernel) (by decide +kernel)
set_option maxRecDepth 20000 in
theorem gX8_readsCell_X8_readsNumber : GoodIn wsX8_readsCell (wsV RX8 184 RX8 yX8_readsNumber wsX8_readsNumber) := goodIn_app (goodIn_of _ (by decide +kernel)) ggX8_readsCell_X8_readsNumber
set_option maxRecDepth 20000 in
theorem ggX8_readsCell_X8_here : GoodIn wsX8_readsCell wsX8_here := goodIn_r _ [14, 10, 15, 16, 30, 31, 32, 33, 34, 35, 36, 37, 38, 39, 40] (by decide +kernel) (by decide +kernel)
set_option maxRecDepth 20000 in
theorem gX8_readsCell_X8_here : GoodIn wsX8_readsCell (wsV RX8 171 RX8 yX8_here wsX8_here) := goodIn_app (goodIn_of _ (by decide +kernel)) ggX8_readsCell_X8_here
set_option maxRecDepth 20000 in
theorem ggX8_readsCell_X8_in : GoodIn wsX8_readsCell wsX8_in := goodIn_r _ [25] (by decide +kernel) (by decide +kernel)
set_option maxRecDepth 20000 in
theorem gX8_readsCell_X8_in : GoodIn wsX8_readsCell (va_wsS RX8 45 yX8_in wsX8_in) := goodIn_app (goodIn_of _ (by decide +kernel)) ggX8_readsCell_X8_in
set_option maxRecDepth 20000 in
theorem ggX8_readsCell_X8_readsEffect : GoodIn wsX8_readsCell wsX8_readsEffect := goodIn_r _ [29, 1, 10, 21, 22, 11, 12, 13, 8, 14, 15, 16, 23, 24, 25, 30, 31, 32, 33, 34, 35, 36, 37, 38, 39, 40] (by decide +kernel) (by decide +kernel)
set_option maxRecDepth 20000 in
theorem gX8_readsCell_X8_readsEffect : GoodIn wsX8_readsCell (wsV RX8 191 RX8 yX8_readsEffect wsX8_readsEffect) := goodIn_app (goodIn_of _ (by decide +kernel)) ggX8_readsCell_X8_readsEffect
theorem dX8_readsCell_0 : decode cX8_readsCell 0 = .ok (.aload_n 0, 1) := by decide +kernel
theorem dX8_readsCell_1 : decode cX8_readsCell 1 = .ok (.bipush 46, 2) := by decide +kernel
theorem dX8_readsCell_3 : decode cX8_readsCell 3 = .ok (.invokevirtual 181, 3) := by decide +kernel
theorem dX8_readsCell_6 : decode cX8_readsCell 6 = .ok (.ifCond .eq 5, 3) := by decide +kernel
theorem dX8_readsCell_9 : decode cX8_readsCell 9 = .ok (.iconst 1, 1) := by decide +kernel
theorem dX8_readsCell_10 : decode cX8_readsCell 10 = .ok (.ireturn, 1) := by decide +kernel
theorem dX8_readsCell_11 : decode cX8_readsCell 11 = .ok (.aload_n 0, 1) := by decide +kernel
theorem dX8_readsCell_12 : decode cX8_readsCell 12 = .ok (.bipush 61, 2) := by decide +kernel
theorem dX8_readsCell_14 : decode cX8_readsCell 14 = .ok (.invokevirtual 184, 3) := by decide +kernel
theorem dX8_readsCell_17 : decode cX8_readsCell 17 = .ok (.ifCond .ne 5, 3) := by decide +kernel
theorem dX8_readsCell_20 : decode cX8_readsCell 20 = .ok (.iconst 0, 1) := by decide +kernel
theorem dX8_readsCell_21 : decode cX8_readsCell 21 = .ok (.ireturn, 1) := by decide +kernel
theorem dX8_readsCell_22 : decode cX8_readsCell 22 = .ok (.aload_n 0, 1) := by decide +kernel
theorem dX8_readsCell_23 : decode cX8_readsCell 23 = .ok (.getfield 22, 3) := by decide +kernel
theorem dX8_readsCell_26 : decode cX8_readsCell 26 = .ok (.iload_n 1, 1) := by decide +kernel
theorem dX8_readsCell_27 : decode cX8_readsCell 27 = .ok (.iconst 0, 1) := by decide +kernel
theorem dX8_readsCell_28 : decode cX8_readsCell 28 = .ok (.iadd, 1) := by decide +kernel
theorem dX8_readsCell_29 : decode cX8_readsCell 29 = .ok (.aload_n 0, 1) := by decide +kernel
theorem dX8_readsCell_30 : decode cX8_readsCell 30 = .ok (.getfield 174, 3) := by decide +kernel
theorem dX8_readsCell_33 : decode cX8_readsCell 33 = .ok (.iastore, 1) := by decide +kernel
theorem dX8_readsCell_34 : decode cX8_readsCell 34 = .ok (.aload_n 0, 1) := by decide +kernel
theorem dX8_readsCell_35 : decode cX8_readsCell 35 = .ok (.bipush 118, 2) := by decide +kernel
theorem dX8_readsCell_37 : decode cX8_readsCell 37 = .ok (.invokevirtual 181, 3) := by decide +kernel
theorem dX8_readsCell_40 : decode cX8_readsCell 40 = .ok (.ifCond .eq 26, 3) := by decide +kernel
theorem dX8_readsCell_43 : decode cX8_readsCell 43 = .ok (.aload_n 0, 1) := by decide +kernel
theorem dX8_readsCell_44 : decode cX8_readsCell 44 = .ok (.bipush 15, 2) := by decide +kernel
theorem dX8_readsCell_46 : decode cX8_readsCell 46 = .ok (.invokevirtual 184, 3) := by decide +kernel
theorem dX8_readsCell_49 : decode cX8_readsCell 49 = .ok (.ifCond .ne 5, 3) := by decide +kernel
theorem dX8_readsCell_52 : decode cX8_readsCell 52 = .ok (.iconst 0, 1) := by decide +kernel
theorem dX8_readsCell_53 : decode cX8_readsCell 53 = .ok (.ireturn, 1) := by decide +kernel
theorem dX8_readsCell_54 : decode cX8_readsCell 54 = .ok (.aload_n 0, 1) := by decide +kernel
theorem dX8_readsCell_55 : decode cX8_readsCell 55 = .ok (.getfield 22, 3) := by decide +kernel
theorem dX8_readsCell_58 : decode cX8_readsCell 58 = .ok (.iload_n 1, 1) := by decide +kernel
theorem dX8_readsCell_59 : decode cX8_readsCell 59 = .ok (.iconst 1, 1) := by decide +kernel
theorem dX8_readsCell_60 : decode cX8_readsCell 60 = .ok (.iadd, 1) := by decide +kernel
theorem dX8_readsCell_61 : decode cX8_readsCell 61 = .ok (.aload_n 0, 1) := by decide +kernel
theorem dX8_readsCell_62 : decode cX8_readsCell 62 = .ok (.getfield 174, 3) := by decide +kernel
theorem dX8_readsCell_65 : decode cX8_readsCell 65 = .ok (.iastore, 1) := by decide +kernel
theorem dX8_readsCell_66 : decode cX8_readsCell 66 = .ok (.aload_n 0, 1) := by decide +kernel
theorem dX8_readsCell_67 : decode cX8_readsCell 67 = .ok (.invokevirtual 171, 3) := by decide +kernel
theorem dX8_readsCell_70 : decode cX8_readsCell 70 = .ok (.i2l, 1) := by decide +kernel
theorem dX8_readsCell_71 : decode cX8_readsCell 71 = .ok (.ldc2_w 187, 3) := by decide +kernel
theorem dX8_readsCell_74 : decode cX8_readsCell 74 = .ok (.ldc2_w 189, 3) := by decide +kernel
theorem dX8_readsCell_77 : decode cX8_readsCell 77 = .ok (.invokestatic 45, 3) := by decide +kernel
theorem dX8_readsCell_80 : decode cX8_readsCell 80 = .ok (.ifCond .eq 11, 3) := by decide +kernel
theorem dX8_readsCell_83 : decode cX8_readsCell 83 = .ok (.aload_n 0, 1) := by decide +kernel
theorem dX8_readsCell_84 : decode cX8_readsCell 84 = .ok (.iload_n 1, 1) := by decide +kernel
theorem dX8_readsCell_85 : decode cX8_readsCell 85 = .ok (.invokevirtual 191, 3) := by decide +kernel
theorem dX8_readsCell_88 : decode cX8_readsCell 88 = .ok (.ifCond .eq 7, 3) := by decide +kernel
theorem dX8_readsCell_91 : decode cX8_readsCell 91 = .ok (.iconst 1, 1) := by decide +kernel
theorem dX8_readsCell_92 : decode cX8_readsCell 92 = .ok (.goto 4, 3) := by decide +kernel
theorem dX8_readsCell_95 : decode cX8_readsCell 95 = .ok (.iconst 0, 1) := by decide +kernel
theorem dX8_readsCell_96 : decode cX8_readsCell 96 = .ok (.ireturn, 1) := by decide +kernel
set_option maxRecDepth 20000 in
theorem ggX8_readsRow_X8_readsCell : GoodIn wsX8_readsRow wsX8_readsCell := goodIn_r _ [6, 7, 8, 9, 10, 11, 12, 13, 5, 14, 15, 16, 17, 18, 19, 20, 21, 22, 23, 24, 25, 26, 27, 28, 29, 30, 31, 32, 33, 34, 35, 36, 37, 38, 39, 40, 41, 42, 43, 44, 45] (by decide +kernel) (by decide +kernel)
set_option maxRecDepth 20000 in
theorem gX8_readsRow_X8_readsCell : GoodIn wsX8_readsRow (wsV RX8 197 RX8 yX8_readsCell wsX8_readsCell) := goodIn_app (goodIn_of _ (by decide +kernel)) ggX8_readsRow_X8_readsCell
set_option maxRecDepth 20000 in
theorem ggX8_readsRow_X8_passes : GoodIn wsX8_readsRow wsX8_passes := goodIn_r _ [14, 15, 16, 17, 18, 5, 19, 20, 21, 35, 36, 37, 38, 39, 40, 41, 42, 43, 44, 45] (by decide +kernel) (by decide +kernel)
set_option maxRecDepth 20000 in
theorem gX8_readsRow_X8_passes : GoodIn wsX8_readsRow (wsV RX8 181 RX8 yX8_passes wsX8_passes) := goodIn_app (goodIn_of _ (by decide +kernel)) ggX8_readsRow_X8_passes
theorem dX8_readsRow_0 : decode cX8_readsRow 0 = .ok (.iconst 0, 1) := by decide +kernel
theorem dX8_readsRow_1 : decode cX8_readsRow 1 = .ok (.istore_n 1, 1) := by decide +kernel
theorem dX8_readsRow_2 : decode cX8_readsRow 2 = .ok (.aload_n 0, 1) := by decide +kernel
theorem dX8_readsRow_3 : decode cX8_readsRow 3 = .ok (.bipush 16, 2) := by decide +kernel
theorem dX8_readsRow_5 : decode cX8_readsRow 5 = .ok (.aload_n 0, 1) := by decide +kernel
theorem dX8_readsRow_6 : decode cX8_readsRow 6 = .ok (.getfield 194, 3) := by decide +kernel
theorem dX8_readsRow_9 : decode cX8_readsRow 9 = .ok (.imul, 1) := by decide +kernel
theorem dX8_readsRow_10 : decode cX8_readsRow 10 = .ok (.invokevirtual 197, 3) := by decide +kernel
theorem dX8_readsRow_13 : decode cX8_readsRow 13 = .ok (.istore_n 2, 1) := by decide +kernel
theorem dX8_readsRow_14 : decode cX8_readsRow 14 = .ok (.iload_n 2, 1) := by decide +kernel
theorem dX8_readsRow_15 : decode cX8_readsRow 15 = .ok (.ifCond .eq 39, 3) := by decide +kernel
theorem dX8_readsRow_18 : decode cX8_readsRow 18 = .ok (.iload_n 1, 1) := by decide +kernel
theorem dX8_readsRow_19 : decode cX8_readsRow 19 = .ok (.iconst 3, 1) := by decide +kernel
theorem dX8_readsRow_20 : decode cX8_readsRow 20 = .ok (.if_icmp .ge 34, 3) := by decide +kernel
theorem dX8_readsRow_23 : decode cX8_readsRow 23 = .ok (.aload_n 0, 1) := by decide +kernel
theorem dX8_readsRow_24 : decode cX8_readsRow 24 = .ok (.bipush 44, 2) := by decide +kernel
theorem dX8_readsRow_26 : decode cX8_readsRow 26 = .ok (.invokevirtual 181, 3) := by decide +kernel
theorem dX8_readsRow_29 : decode cX8_readsRow 29 = .ok (.ifCond .eq 25, 3) := by decide +kernel
theorem dX8_readsRow_32 : decode cX8_readsRow 32 = .ok (.iinc 1 1, 3) := by decide +kernel
theorem dX8_readsRow_35 : decode cX8_readsRow 35 = .ok (.aload_n 0, 1) := by decide +kernel
theorem dX8_readsRow_36 : decode cX8_readsRow 36 = .ok (.bipush 16, 2) := by decide +kernel
theorem dX8_readsRow_38 : decode cX8_readsRow 38 = .ok (.aload_n 0, 1) := by decide +kernel
theorem dX8_readsRow_39 : decode cX8_readsRow 39 = .ok (.getfield 194, 3) := by decide +kernel
theorem dX8_readsRow_42 : decode cX8_readsRow 42 = .ok (.imul, 1) := by decide +kernel
theorem dX8_readsRow_43 : decode cX8_readsRow 43 = .ok (.iconst 4, 1) := by decide +kernel
theorem dX8_readsRow_44 : decode cX8_readsRow 44 = .ok (.iload_n 1, 1) := by decide +kernel
theorem dX8_readsRow_45 : decode cX8_readsRow 45 = .ok (.imul, 1) := by decide +kernel
theorem dX8_readsRow_46 : decode cX8_readsRow 46 = .ok (.iadd, 1) := by decide +kernel
theorem dX8_readsRow_47 : decode cX8_readsRow 47 = .ok (.invokevirtual 197, 3) := by decide +kernel
theorem dX8_readsRow_50 : decode cX8_readsRow 50 = .ok (.istore_n 2, 1) := by decide +kernel
theorem dX8_readsRow_51 : decode cX8_readsRow 51 = .ok (.goto (-37), 3) := by decide +kernel
theorem dX8_readsRow_54 : decode cX8_readsRow 54 = .ok (.aload_n 0, 1) := by decide +kernel
theorem dX8_readsRow_55 : decode cX8_readsRow 55 = .ok (.dup, 1) := by decide +kernel
theorem dX8_readsRow_56 : decode cX8_readsRow 56 = .ok (.getfield 194, 3) := by decide +kernel
theorem dX8_readsRow_59 : decode cX8_readsRow 59 = .ok (.iload_n 2, 1) := by decide +kernel
theorem dX8_readsRow_60 : decode cX8_readsRow 60 = .ok (.ifCond .eq 7, 3) := by decide +kernel
theorem dX8_readsRow_63 : decode cX8_readsRow 63 = .ok (.iconst 1, 1) := by decide +kernel
theorem dX8_readsRow_64 : decode cX8_readsRow 64 = .ok (.goto 4, 3) := by decide +kernel
theorem dX8_readsRow_67 : decode cX8_readsRow 67 = .ok (.iconst 0, 1) := by decide +kernel
theorem dX8_readsRow_68 : decode cX8_readsRow 68 = .ok (.iadd, 1) := by decide +kernel
theorem dX8_readsRow_69 : decode cX8_readsRow 69 = .ok (.putfield 194, 3) := by decide +kernel
theorem dX8_readsRow_72 : decode cX8_readsRow 72 = .ok (.iload_n 2, 1) := by decide +kernel
theorem dX8_readsRow_73 : decode cX8_readsRow 73 = .ok (.ireturn, 1) := by decide +kernel
set_option maxRecDepth 20000 in
theorem ggX8_readsText_X8_here : GoodIn wsX8_readsText wsX8_here := goodIn_r _ [11, 1, 6, 12, 40, 41, 42, 43, 44, 45, 46, 47, 48, 49, 50] (by decide +kernel) (by decide +kernel)
set_option maxRecDepth 20000 in
theorem gX8_readsText_X8_here : GoodIn wsX8_readsText (wsV RX8 171 RX8 yX8_here wsX8_here) := goodIn_app (goodIn_of _ (by decide +kernel)) ggX8_readsText_X8_here
set_option maxRecDepth 20000 in
theorem ggX8_readsText_X8_in : GoodIn wsX8_readsText wsX8_in := goodIn_r _ [15] (by decide +kernel) (by decide +kernel)
set_option maxRecDepth 20000 in
theorem gX8_readsText_X8_in : GoodIn wsX8_readsText (va_wsS RX8 45 yX8_in wsX8_in) := goodIn_app (goodIn_of _ (by decide +kernel)) ggX8_readsText_X8_in
set_option maxRecDepth 20000 in
theorem ggX8_readsText_X8_passes : GoodIn wsX8_readsText wsX8_passes := goodIn_r _ [19, 1, 7, 8, 9, 10, 11, 6, 12, 40, 41, 42, 43, 44, 45, 46, 47, 48, 49, 50] (by decide +kernel) (by decide +kernel)
set_option maxRecDepth 20000 in
theorem gX8_readsText_X8_passes : GoodIn wsX8_readsText (wsV RX8 181 RX8 yX8_passes wsX8_passes) := goodIn_app (goodIn_of _ (by decide +kernel)) ggX8_readsText_X8_passes
set_option maxRecDepth 20000 in
theorem ggX8_readsText_X8_readsRow : GoodIn wsX8_readsText wsX8_readsRow := goodIn_r _ [23, 2, 24, 25, 26, 10, 27, 3, 28, 29, 30, 16, 17, 18, 19, 1, 7, 8, 9, 11, 6, 12, 31, 32, 33, 34, 4, 35, 13, 14, 15, 36, 37, 38, 39, 40, 41, 42, 43, 44, 45, 46, 47, 48, 49, 50] (by decide +kernel) (by decide +kernel)
set_option maxRecDepth 20000 in
theorem gX8_readsText_X8_readsRow : GoodIn wsX8_readsText (wsV RX8 202 RX8 yX8_readsRow wsX8_readsRow) := goodIn_app (goodIn_of _ (by decide +kernel)) ggX8_readsText_X8_readsRow
theorem dX8_readsText_0 : decode cX8_readsText 0 = .ok (.aload_n 0, 1) := by decide +kernel
theorem dX8_readsText_1 : decode cX8_readsText 1 = .ok (.iconst 0, 1) := by decide +kernel
theorem dX8_readsText_2 : decode cX8_readsText 2 = .ok (.putfield 168, 3) := by decide +kernel
theorem dX8_readsText_5 : decode cX8_readsText 5 = .ok (.aload_n 0, 1) := by decide +kernel
theorem dX8_readsText_6 : decode cX8_readsText 6 = .ok (.iconst 0, 1) := by decide +kernel
theorem dX8_readsText_7 : decode cX8_readsText 7 = .ok (.putfield 194, 3) := by decide +kernel
theorem dX8_readsText_10 : decode cX8_readsText 10 = .ok (.iconst 0, 1) := by decide +kernel
theorem dX8_readsText_11 : decode cX8_readsText 11 = .ok (.istore_n 1, 1) := by decide +kernel
theorem dX8_readsText_12 : decode cX8_readsText 12 = .ok (.iload_n 1, 1) := by decide +kernel
theorem dX8_readsText_13 : decode cX8_readsText 13 = .ok (.sipush 128, 3) := by decide +kernel
theorem dX8_readsText_16 : decode cX8_readsText 16 = .ok (.if_icmp .ge 28, 3) := by decide +kernel
theorem dX8_readsText_19 : decode cX8_readsText 19 = .ok (.aload_n 0, 1) := by decide +kernel
theorem dX8_readsText_20 : decode cX8_readsText 20 = .ok (.getfield 22, 3) := by decide +kernel
theorem dX8_readsText_23 : decode cX8_readsText 23 = .ok (.iload_n 1, 1) := by decide +kernel
theorem dX8_readsText_24 : decode cX8_readsText 24 = .ok (.iload_n 1, 1) := by decide +kernel
theorem dX8_readsText_25 : decode cX8_readsText 25 = .ok (.iconst 4, 1) := by decide +kernel
theorem dX8_readsText_26 : decode cX8_readsText 26 = .ok (.irem, 1) := by decide +kernel
theorem dX8_readsText_27 : decode cX8_readsText 27 = .ok (.iconst 1, 1) := by decide +kernel
theorem dX8_readsText_28 : decode cX8_readsText 28 = .ok (.if_icmp .ne 8, 3) := by decide +kernel
theorem dX8_readsText_31 : decode cX8_readsText 31 = .ok (.bipush 15, 2) := by decide +kernel
theorem dX8_readsText_33 : decode cX8_readsText 33 = .ok (.goto 4, 3) := by decide +kernel
theorem dX8_readsText_36 : decode cX8_readsText 36 = .ok (.iconst 0, 1) := by decide +kernel
theorem dX8_readsText_37 : decode cX8_readsText 37 = .ok (.iastore, 1) := by decide +kernel
theorem dX8_readsText_38 : decode cX8_readsText 38 = .ok (.iinc 1 1, 3) := by decide +kernel
theorem dX8_readsText_41 : decode cX8_readsText 41 = .ok (.goto (-29), 3) := by decide +kernel
theorem dX8_readsText_44 : decode cX8_readsText 44 = .ok (.aload_n 0, 1) := by decide +kernel
theorem dX8_readsText_45 : decode cX8_readsText 45 = .ok (.invokevirtual 171, 3) := by decide +kernel
theorem dX8_readsText_48 : decode cX8_readsText 48 = .ok (.i2l, 1) := by decide +kernel
theorem dX8_readsText_49 : decode cX8_readsText 49 = .ok (.ldc2_w 177, 3) := by decide +kernel
theorem dX8_readsText_52 : decode cX8_readsText 52 = .ok (.ldc2_w 200, 3) := by decide +kernel
theorem dX8_readsText_55 : decode cX8_readsText 55 = .ok (.invokestatic 45, 3) := by decide +kernel
theorem dX8_readsText_58 : decode cX8_readsText 58 = .ok (.ifCond .ne 5, 3) := by decide +kernel
theorem dX8_readsText_61 : decode cX8_readsText 61 = .ok (.iconst 0, 1) := by decide +kernel
theorem dX8_readsText_62 : decode cX8_readsText 62 = .ok (.ireturn, 1) := by decide +kernel
theorem dX8_readsText_63 : decode cX8_readsText 63 = .ok (.aload_n 0, 1) := by decide +kernel
theorem dX8_readsText_64 : decode cX8_readsText 64 = .ok (.dup, 1) := by decide +kernel
theorem dX8_readsText_65 : decode cX8_readsText 65 = .ok (.getfield 168, 3) := by decide +kernel
theorem dX8_readsText_68 : decode cX8_readsText 68 = .ok (.iconst 1, 1) := by decide +kernel
theorem dX8_readsText_69 : decode cX8_readsText 69 = .ok (.iadd, 1) := by decide +kernel
theorem dX8_readsText_70 : decode cX8_readsText 70 = .ok (.putfield 168, 3) := by decide +kernel
theorem dX8_readsText_73 : decode cX8_readsText 73 = .ok (.aload_n 0, 1) := by decide +kernel
theorem dX8_readsText_74 : decode cX8_readsText 74 = .ok (.bipush 58, 2) := by decide +kernel
theorem dX8_readsText_76 : decode cX8_readsText 76 = .ok (.invokevirtual 181, 3) := by decide +kernel
theorem dX8_readsText_79 : decode cX8_readsText 79 = .ok (.ifCond .eq 14, 3) := by decide +kernel
theorem dX8_readsText_82 : decode cX8_readsText 82 = .ok (.aload_n 0, 1) := by decide +kernel
theorem dX8_readsText_83 : decode cX8_readsText 83 = .ok (.invokevirtual 202, 3) := by decide +kernel
theorem dX8_readsText_86 : decode cX8_readsText 86 = .ok (.ifCond .eq 7, 3) := by decide +kernel
theorem dX8_readsText_89 : decode cX8_readsText 89 = .ok (.iconst 1, 1) := by decide +kernel
theorem dX8_readsText_90 : decode cX8_readsText 90 = .ok (.goto 4, 3) := by decide +kernel
theorem dX8_readsText_93 : decode cX8_readsText 93 = .ok (.iconst 0, 1) := by decide +kernel
theorem dX8_readsText_94 : decode cX8_readsText 94 = .ok (.istore_n 1, 1) := by decide +kernel
theorem dX8_readsText_95 : decode cX8_readsText 95 = .ok (.iload_n 1, 1) := by decide +kernel
theorem dX8_readsText_96 : decode cX8_readsText 96 = .ok (.ifCond .eq 29, 3) := by decide +kernel
theorem dX8_readsText_99 : decode cX8_readsText 99 = .ok (.aload_n 0, 1) := by decide +kernel
theorem dX8_readsText_100 : decode cX8_readsText 100 = .ok (.getfield 194, 3) := by decide +kernel
theorem dX8_readsText_103 : decode cX8_readsText 103 = .ok (.bipush 8, 2) := by decide +kernel
theorem dX8_readsText_105 : decode cX8_readsText 105 = .ok (.if_icmp .ge 20, 3) := by decide +kernel
theorem dX8_readsText_108 : decode cX8_readsText 108 = .ok (.aload_n 0, 1) := by decide +kernel
theorem dX8_readsText_109 : decode cX8_readsText 109 = .ok (.bipush 47, 2) := by decide +kernel
theorem dX8_readsText_111 : decode cX8_readsText 111 = .ok (.invokevirtual 181, 3) := by decide +kernel
theorem dX8_readsText_114 : decode cX8_readsText 114 = .ok (.ifCond .eq 11, 3) := by decide +kernel
theorem dX8_readsText_117 : decode cX8_readsText 117 = .ok (.aload_n 0, 1) := by decide +kernel
theorem dX8_readsText_118 : decode cX8_readsText 118 = .ok (.invokevirtual 202, 3) := by decide +kernel
theorem dX8_readsText_121 : decode cX8_readsText 121 = .ok (.istore_n 1, 1) := by decide +kernel
theorem dX8_readsText_122 : decode cX8_readsText 122 = .ok (.goto (-27), 3) := by decide +kernel
theorem dX8_readsText_125 : decode cX8_readsText 125 = .ok (.iload_n 1, 1) := by decide +kernel
theorem dX8_readsText_126 : decode cX8_readsText 126 = .ok (.ifCond .eq 18, 3) := by decide +kernel
theorem dX8_readsText_129 : decode cX8_readsText 129 = .ok (.aload_n 0, 1) := by decide +kernel
theorem dX8_readsText_130 : decode cX8_readsText 130 = .ok (.getfield 168, 3) := by decide +kernel
theorem dX8_readsText_133 : decode cX8_readsText 133 = .ok (.aload_n 0, 1) := by decide +kernel
theorem dX8_readsText_134 : decode cX8_readsText 134 = .ok (.getfield 165, 3) := by decide +kernel
theorem dX8_readsText_137 : decode cX8_readsText 137 = .ok (.if_icmp .ne 7, 3) := by decide +kernel
theorem dX8_readsText_140 : decode cX8_readsText 140 = .ok (.iconst 1, 1) := by decide +kernel
theorem dX8_readsText_141 : decode cX8_readsText 141 = .ok (.goto 4, 3) := by decide +kernel
theorem dX8_readsText_144 : decode cX8_readsText 144 = .ok (.iconst 0, 1) := by decide +kernel
theorem dX8_readsText_145 : decode cX8_readsText 145 = .ok (.ireturn, 1) := by decide +kernel
set_option maxRecDepth 20000 in
theorem ggX8_parse_X8_readsText : GoodIn wsX8_parse wsX8_readsText := goodIn_r _ [10, 1, 5, 4, 11, 12, 13, 14, 15, 16, 9, 17, 2, 18, 19, 20, 21, 22, 23, 24, 25, 26, 27, 28, 29, 30, 31, 32, 33, 34, 35, 36, 37, 38, 39, 40, 41, 42, 43, 44, 59, 60, 61, 62, 63, 64, 65, 66, 67, 68, 69] (by decide +kernel) (by decide +kernel)
set_option maxRecDepth 20000 in
theorem gX8_parse_X8_readsText : GoodIn wsX8_parse (wsV RX8 205 RX8 yX8_readsText wsX8_readsText) := goodIn_app (goodIn_of _ (by decide +kernel)) ggX8_parse_X8_readsText
set_option maxRecDepth 20000 in
theorem ggX8_parse_X8_fine : GoodIn wsX8_parse wsX8_fine := goodIn_r _ [48, 49, 59, 60, 61, 62, 63, 64, 65, 66, 67, 68, 69] (by decide +kernel) (by decide +kernel)
set_option maxRecDepth 20000 in
theorem gX8_parse_X8_fine : GoodIn wsX8_parse (wsV RX8 75 RX8 yX8_fine wsX8_fine) := goodIn_app (goodIn_of _ (by decide +kernel)) ggX8_parse_X8_fine
set_option maxRecDepth 20000 in
theorem ggX8_parse_X8_save : GoodIn wsX8_parse wsX8_save := goodIn_r _ [53, 54, 55, 3, 59, 60, 61, 62, 63, 64, 65, 66, 67, 68, 69] (by decide +kernel) (by decide +kernel)
set_option maxRecDepth 20000 in
theorem gX8_parse_X8_save : GoodIn wsX8_parse (wsV RX8 72 RX8 yX8_save wsX8_save) := goodIn_app (goodIn_of _ (by decide +kernel)) ggX8_parse_X8_save
set_option maxRecDepth 20000 in
theorem ggX8_parse_X8_cellAt : GoodIn wsX8_parse wsX8_cellAt := goodIn_r _ [58] (by decide +kernel) (by decide +kernel)
set_option maxRecDepth 20000 in
theorem gX8_parse_X8_cellAt : GoodIn wsX8_parse (va_wsS RX8 39 yX8_cellAt wsX8_cellAt) := goodIn_app (goodIn_of _ (by decide +kernel)) ggX8_parse_X8_cellAt
theorem dX8_parse_0 : decode cX8_parse 0 = .ok (.aload_n 0, 1) := by decide +kernel
theorem dX8_parse_1 : decode cX8_parse 1 = .ok (.invokevirtual 205, 3) := by decide +kernel
theorem dX8_parse_4 : decode cX8_parse 4 = .ok (.ifCond .ne 15, 3) := by decide +kernel
theorem dX8_parse_7 : decode cX8_parse 7 = .ok (.aload_n 0, 1) := by decide +kernel
theorem dX8_parse_8 : decode cX8_parse 8 = .ok (.bipush (-10), 2) := by decide +kernel
theorem dX8_parse_10 : decode cX8_parse 10 = .ok (.aload_n 0, 1) := by decide +kernel
theorem dX8_parse_11 : decode cX8_parse 11 = .ok (.getfield 168, 3) := by decide +kernel
theorem dX8_parse_14 : decode cX8_parse 14 = .ok (.isub, 1) := by decide +kernel
theorem dX8_parse_15 : decode cX8_parse 15 = .ok (.invokevirtual 75, 3) := by decide +kernel
theorem dX8_parse_18 : decode cX8_parse 18 = .ok (.ireturn, 1) := by decide +kernel
theorem dX8_parse_19 : decode cX8_parse 19 = .ok (.aload_n 0, 1) := by decide +kernel
theorem dX8_parse_20 : decode cX8_parse 20 = .ok (.invokevirtual 72, 3) := by decide +kernel
theorem dX8_parse_23 : decode cX8_parse 23 = .ok (.aload_n 0, 1) := by decide +kernel
theorem dX8_parse_24 : decode cX8_parse 24 = .ok (.getfield 19, 3) := by decide +kernel
theorem dX8_parse_27 : decode cX8_parse 27 = .ok (.iconst 0, 1) := by decide +kernel
theorem dX8_parse_28 : decode cX8_parse 28 = .ok (.iaload, 1) := by decide +kernel
theorem dX8_parse_29 : decode cX8_parse 29 = .ok (.bipush 48, 2) := by decide +kernel
theorem dX8_parse_31 : decode cX8_parse 31 = .ok (.isub, 1) := by decide +kernel
theorem dX8_parse_32 : decode cX8_parse 32 = .ok (.istore_n 1, 1) := by decide +kernel
theorem dX8_parse_33 : decode cX8_parse 33 = .ok (.iconst 0, 1) := by decide +kernel
theorem dX8_parse_34 : decode cX8_parse 34 = .ok (.istore_n 2, 1) := by decide +kernel
theorem dX8_parse_35 : decode cX8_parse 35 = .ok (.iload_n 2, 1) := by decide +kernel
theorem dX8_parse_36 : decode cX8_parse 36 = .ok (.sipush 128, 3) := by decide +kernel
theorem dX8_parse_39 : decode cX8_parse 39 = .ok (.if_icmp .ge 28, 3) := by decide +kernel
theorem dX8_parse_42 : decode cX8_parse 42 = .ok (.aload_n 0, 1) := by decide +kernel
theorem dX8_parse_43 : decode cX8_parse 43 = .ok (.getfield 7, 3) := by decide +kernel
theorem dX8_parse_46 : decode cX8_parse 46 = .ok (.iload_n 1, 1) := by decide +kernel
theorem dX8_parse_47 : decode cX8_parse 47 = .ok (.iconst 0, 1) := by decide +kernel
theorem dX8_parse_48 : decode cX8_parse 48 = .ok (.iconst 0, 1) := by decide +kernel
theorem dX8_parse_49 : decode cX8_parse 49 = .ok (.invokestatic 39, 3) := by decide +kernel
theorem dX8_parse_52 : decode cX8_parse 52 = .ok (.iload_n 2, 1) := by decide +kernel
theorem dX8_parse_53 : decode cX8_parse 53 = .ok (.iadd, 1) := by decide +kernel
theorem dX8_parse_54 : decode cX8_parse 54 = .ok (.aload_n 0, 1) := by decide +kernel
theorem dX8_parse_55 : decode cX8_parse 55 = .ok (.getfield 22, 3) := by decide +kernel
theorem dX8_parse_58 : decode cX8_parse 58 = .ok (.iload_n 2, 1) := by decide +kernel
theorem dX8_parse_59 : decode cX8_parse 59 = .ok (.iaload, 1) := by decide +kernel
theorem dX8_parse_60 : decode cX8_parse 60 = .ok (.iastore, 1) := by decide +kernel
theorem dX8_parse_61 : decode cX8_parse 61 = .ok (.iinc 2 1, 3) := by decide +kernel
theorem dX8_parse_64 : decode cX8_parse 64 = .ok (.goto (-29), 3) := by decide +kernel
theorem dX8_parse_67 : decode cX8_parse 67 = .ok (.aload_n 0, 1) := by decide +kernel
theorem dX8_parse_68 : decode cX8_parse 68 = .ok (.getfield 7, 3) := by decide +kernel
theorem dX8_parse_71 : decode cX8_parse 71 = .ok (.bipush 15, 2) := by decide +kernel
theorem dX8_parse_73 : decode cX8_parse 73 = .ok (.iload_n 1, 1) := by decide +kernel
theorem dX8_parse_74 : decode cX8_parse 74 = .ok (.iadd, 1) := by decide +kernel
theorem dX8_parse_75 : decode cX8_parse 75 = .ok (.aload_n 0, 1) := by decide +kernel
theorem dX8_parse_76 : decode cX8_parse 76 = .ok (.getfield 194, 3) := by decide +kernel
theorem dX8_parse_79 : decode cX8_parse 79 = .ok (.iastore, 1) := by decide +kernel
theorem dX8_parse_80 : decode cX8_parse 80 = .ok (.aload_n 0, 1) := by decide +kernel
theorem dX8_parse_81 : decode cX8_parse 81 = .ok (.iload_n 1, 1) := by decide +kernel
theorem dX8_parse_82 : decode cX8_parse 82 = .ok (.invokevirtual 75, 3) := by decide +kernel
theorem dX8_parse_85 : decode cX8_parse 85 = .ok (.ireturn, 1) := by decide +kernel
set_option maxRecDepth 20000 in
theorem ggX8_undo_X8_throwing : GoodIn wsX8_undo wsX8_throwing := goodIn_r _ [8, 9, 14, 15, 16, 17, 18, 19, 20, 21, 22, 23, 24] (by decide +kernel) (by decide +kernel)
set_option maxRecDepth 20000 in
theorem gX8_undo_X8_throwing : GoodIn wsX8_undo (wsV RX8 64 RX8 yX8_throwing wsX8_throwing) := goodIn_app (goodIn_of _ (by decide +kernel)) ggX8_undo_X8_throwing
set_option maxRecDepth 20000 in
theorem ggX8_undo_X8_fine : GoodIn wsX8_undo wsX8_fine := goodIn_r _ [13, 9, 14, 15, 16, 17, 18, 19, 20, 21, 22, 23, 24] (by decide +kernel) (by decide +kernel)
set_option maxRecDepth 20000 in
theorem gX8_undo_X8_fine : GoodIn wsX8_undo (wsV RX8 75 RX8 yX8_fine wsX8_fine) := goodIn_app (goodIn_of _ (by decide +kernel)) ggX8_undo_X8_fine
theorem dX8_undo_0 : decode cX8_undo 0 = .ok (.aload_n 0, 1) := by decide +kernel
theorem dX8_undo_1 : decode cX8_undo 1 = .ok (.getfield 36, 3) := by decide +kernel
theorem dX8_undo_4 : decode cX8_undo 4 = .ok (.ifCond .ne 9, 3) := by decide +kernel
theorem dX8_undo_7 : decode cX8_undo 7 = .ok (.aload_n 0, 1) := by decide +kernel
theorem dX8_undo_8 : decode cX8_undo 8 = .ok (.iconst 1, 1) := by decide +kernel
theorem dX8_undo_9 : decode cX8_undo 9 = .ok (.invokevirtual 64, 3) := by decide +kernel
theorem dX8_undo_12 : decode cX8_undo 12 = .ok (.ireturn, 1) := by decide +kernel
theorem dX8_undo_13 : decode cX8_undo 13 = .ok (.aload_n 0, 1) := by decide +kernel
theorem dX8_undo_14 : decode cX8_undo 14 = .ok (.dup, 1) := by decide +kernel
theorem dX8_undo_15 : decode cX8_undo 15 = .ok (.getfield 36, 3) := by decide +kernel
theorem dX8_undo_18 : decode cX8_undo 18 = .ok (.iconst 1, 1) := by decide +kernel
theorem dX8_undo_19 : decode cX8_undo 19 = .ok (.isub, 1) := by decide +kernel
theorem dX8_undo_20 : decode cX8_undo 20 = .ok (.putfield 36, 3) := by decide +kernel
theorem dX8_undo_23 : decode cX8_undo 23 = .ok (.iconst 0, 1) := by decide +kernel
theorem dX8_undo_24 : decode cX8_undo 24 = .ok (.istore_n 1, 1) := by decide +kernel
theorem dX8_undo_25 : decode cX8_undo 25 = .ok (.iload_n 1, 1) := by decide +kernel
theorem dX8_undo_26 : decode cX8_undo 26 = .ok (.sipush 853, 3) := by decide +kernel
theorem dX8_undo_29 : decode cX8_undo 29 = .ok (.if_icmp .ge 30, 3) := by decide +kernel
theorem dX8_undo_32 : decode cX8_undo 32 = .ok (.aload_n 0, 1) := by decide +kernel
theorem dX8_undo_33 : decode cX8_undo 33 = .ok (.getfield 7, 3) := by decide +kernel
theorem dX8_undo_36 : decode cX8_undo 36 = .ok (.iload_n 1, 1) := by decide +kernel
theorem dX8_undo_37 : decode cX8_undo 37 = .ok (.aload_n 0, 1) := by decide +kernel
theorem dX8_undo_38 : decode cX8_undo 38 = .ok (.getfield 13, 3) := by decide +kernel
theorem dX8_undo_41 : decode cX8_undo 41 = .ok (.sipush 853, 3) := by decide +kernel
theorem dX8_undo_44 : decode cX8_undo 44 = .ok (.aload_n 0, 1) := by decide +kernel
theorem dX8_undo_45 : decode cX8_undo 45 = .ok (.getfield 36, 3) := by decide +kernel
theorem dX8_undo_48 : decode cX8_undo 48 = .ok (.imul, 1) := by decide +kernel
theorem dX8_undo_49 : decode cX8_undo 49 = .ok (.iload_n 1, 1) := by decide +kernel
theorem dX8_undo_50 : decode cX8_undo 50 = .ok (.iadd, 1) := by decide +kernel
theorem dX8_undo_51 : decode cX8_undo 51 = .ok (.iaload, 1) := by decide +kernel
theorem dX8_undo_52 : decode cX8_undo 52 = .ok (.iastore, 1) := by decide +kernel
theorem dX8_undo_53 : decode cX8_undo 53 = .ok (.iinc 1 1, 3) := by decide +kernel
theorem dX8_undo_56 : decode cX8_undo 56 = .ok (.goto (-31), 3) := by decide +kernel
theorem dX8_undo_59 : decode cX8_undo 59 = .ok (.aload_n 0, 1) := by decide +kernel
theorem dX8_undo_60 : decode cX8_undo 60 = .ok (.aload_n 0, 1) := by decide +kernel
theorem dX8_undo_61 : decode cX8_undo 61 = .ok (.getfield 36, 3) := by decide +kernel
theorem dX8_undo_64 : decode cX8_undo 64 = .ok (.invokevirtual 75, 3) := by decide +kernel
theorem dX8_undo_67 : decode cX8_undo 67 = .ok (.ireturn, 1) := by decide +kernel
set_option maxRecDepth 20000 in
theorem ggX8_digest_X8_valueOf : GoodIn wsX8_digest wsX8_valueOf := goodIn_r _ [11, 5, 12, 13, 14, 10, 15, 103, 104, 105, 106, 107, 108, 109, 110, 111, 112, 113] (by decide +kernel) (by decide +kernel)
set_option maxRecDepth 20000 in
theorem gX8_digest_X8_valueOf : GoodIn wsX8_digest (wsV RX8 149 RX8 yX8_valueOf wsX8_valueOf) := goodIn_app (goodIn_of _ (by decide +kernel)) ggX8_digest_X8_valueOf
set_option maxRecDepth 20000 in
theorem ggX8_digest_X8_patternOf : GoodIn wsX8_digest wsX8_patternOf := goodIn_r _ [19, 5, 20, 21, 22, 10, 23, 24, 25, 26, 27, 28, 29, 30, 31, 32, 33, 34, 35, 36, 37, 38, 39, 40, 41, 42, 103, 104, 105, 106, 107, 108, 109, 110, 111, 112, 113] (by decide +kernel) (by decide +kernel)
set_option maxRecDepth 20000 in
theorem gX8_digest_X8_patternOf : GoodIn wsX8_digest (wsV RX8 100 RX8 yX8_patternOf wsX8_patternOf) := goodIn_app (goodIn_of _ (by decide +kernel)) ggX8_digest_X8_patternOf
set_option maxRecDepth 20000 in
theorem ggX8_digest_X8_cellAt : GoodIn wsX8_digest wsX8_cellAt := goodIn_r _ [27] (by decide +kernel) (by decide +kernel)
set_option maxRecDepth 20000 in
theorem gX8_digest_X8_cellAt : GoodIn wsX8_digest (va_wsS RX8 39 yX8_cellAt wsX8_cellAt) := goodIn_app (goodIn_of _ (by decide +kernel)) ggX8_digest_X8_cellAt
set_option maxRecDepth 20000 in
theorem ggX8_digest_X8_channelOf : GoodIn wsX8_digest wsX8_channelOf := goodIn_r _ [46, 5, 47, 48, 49, 10, 50, 51, 52, 53, 54, 55, 56, 57, 103, 104, 105, 106, 107, 108, 109, 110, 111, 112, 113] (by decide +kernel) (by decide +kernel)
set_option maxRecDepth 20000 in
theorem gX8_digest_X8_channelOf : GoodIn wsX8_digest (wsV RX8 146 RX8 yX8_channelOf wsX8_channelOf) := goodIn_app (goodIn_of _ (by decide +kernel)) ggX8_digest_X8_channelOf
set_option maxRecDepth 20000 in
theorem ggX8_digest_X8_hashIf : GoodIn wsX8_digest wsX8_hashIf := goodIn_r _ [61, 62, 63, 64, 10, 65, 66, 5, 67, 68, 69, 70, 71, 72, 73, 74, 75, 76, 77, 78, 79, 47, 48, 49, 50, 51, 52, 53, 54, 55, 56, 57, 25, 26, 27, 12, 13, 14, 15, 32, 33, 34, 80, 81, 82, 83, 24, 84, 85, 86, 87, 88, 89, 90, 91, 92, 93, 94, 95, 96, 97, 98, 28, 29, 30, 31, 99, 100, 101, 102, 103, 104, 105, 106, 107, 108, 109, 110, 111, 112, 113] (by decide +kernel) (by decide +kernel)
set_option maxRecDepth 20000 in
theorem gX8_digest_X8_hashIf : GoodIn wsX8_digest (wsV RX8 158 RX8 yX8_hashIf wsX8_hashIf) := goodIn_app (goodIn_of _ (by decide +kernel)) ggX8_digest_X8_hashIf
theorem dX8_digest_0 : decode cX8_digest 0 = .ok (.aload_n 0, 1) := by decide +kernel
theorem dX8_digest_1 : decode cX8_digest 1 = .ok (.iconst 0, 1) := by decide +kernel
theorem dX8_digest_2 : decode cX8_digest 2 = .ok (.putfield 32, 3) := by decide +kernel
theorem dX8_digest_5 : decode cX8_digest 5 = .ok (.ldc2_w 208, 3) := by decide +kernel
theorem dX8_digest_8 : decode cX8_digest 8 = .ok (.aload_n 0, 1) := by decide +kernel
theorem dX8_digest_9 : decode cX8_digest 9 = .ok (.getfield 165, 3) := by decide +kernel
theorem dX8_digest_12 : decode cX8_digest 12 = .ok (.i2l, 1) := by decide +kernel
theorem dX8_digest_13 : decode cX8_digest 13 = .ok (.ladd, 1) := by decide +kernel
theorem dX8_digest_14 : decode cX8_digest 14 = .ok (.lstore_n 1, 1) := by decide +kernel
theorem dX8_digest_15 : decode cX8_digest 15 = .ok (.iconst 0, 1) := by decide +kernel
theorem dX8_digest_16 : decode cX8_digest 16 = .ok (.istore_n 3, 1) := by decide +kernel
theorem dX8_digest_17 : decode cX8_digest 17 = .ok (.iload_n 3, 1) := by decide +kernel
theorem dX8_digest_18 : decode cX8_digest 18 = .ok (.bipush 8, 2) := by decide +kernel
theorem dX8_digest_20 : decode cX8_digest 20 = .ok (.if_icmp .ge 22, 3) := by decide +kernel
theorem dX8_digest_23 : decode cX8_digest 23 = .ok (.ldc2_w 210, 3) := by decide +kernel
theorem dX8_digest_26 : decode cX8_digest 26 = .ok (.lload_n 1, 1) := by decide +kernel
theorem dX8_digest_27 : decode cX8_digest 27 = .ok (.lmul, 1) := by decide +kernel
theorem dX8_digest_28 : decode cX8_digest 28 = .ok (.aload_n 0, 1) := by decide +kernel
theorem dX8_digest_29 : decode cX8_digest 29 = .ok (.iload_n 3, 1) := by decide +kernel
theorem dX8_digest_30 : decode cX8_digest 30 = .ok (.invokevirtual 149, 3) := by decide +kernel
theorem dX8_digest_33 : decode cX8_digest 33 = .ok (.i2l, 1) := by decide +kernel
theorem dX8_digest_34 : decode cX8_digest 34 = .ok (.ladd, 1) := by decide +kernel
theorem dX8_digest_35 : decode cX8_digest 35 = .ok (.lstore_n 1, 1) := by decide +kernel
theorem dX8_digest_36 : decode cX8_digest 36 = .ok (.iinc 3 1, 3) := by decide +kernel
theorem dX8_digest_39 : decode cX8_digest 39 = .ok (.goto (-22), 3) := by decide +kernel
theorem dX8_digest_42 : decode cX8_digest 42 = .ok (.iconst 0, 1) := by decide +kernel
theorem dX8_digest_43 : decode cX8_digest 43 = .ok (.istore_n 3, 1) := by decide +kernel
theorem dX8_digest_44 : decode cX8_digest 44 = .ok (.iload_n 3, 1) := by decide +kernel
theorem dX8_digest_45 : decode cX8_digest 45 = .ok (.bipush 6, 2) := by decide +kernel
theorem dX8_digest_47 : decode cX8_digest 47 = .ok (.if_icmp .ge 87, 3) := by decide +kernel
theorem dX8_digest_50 : decode cX8_digest 50 = .ok (.iconst 0, 1) := by decide +kernel
theorem dX8_digest_51 : decode cX8_digest 51 = .ok (.istore 4, 2) := by decide +kernel
theorem dX8_digest_53 : decode cX8_digest 53 = .ok (.iload 4, 2) := by decide +kernel
theorem dX8_digest_55 : decode cX8_digest 55 = .ok (.iconst 5, 1) := by decide +kernel
theorem dX8_digest_56 : decode cX8_digest 56 = .ok (.if_icmp .ge 24, 3) := by decide +kernel
theorem dX8_digest_59 : decode cX8_digest 59 = .ok (.ldc2_w 210, 3) := by decide +kernel
theorem dX8_digest_62 : decode cX8_digest 62 = .ok (.lload_n 1, 1) := by decide +kernel
theorem dX8_digest_63 : decode cX8_digest 63 = .ok (.lmul, 1) := by decide +kernel
theorem dX8_digest_64 : decode cX8_digest 64 = .ok (.aload_n 0, 1) := by decide +kernel
theorem dX8_digest_65 : decode cX8_digest 65 = .ok (.iload_n 3, 1) := by decide +kernel
theorem dX8_digest_66 : decode cX8_digest 66 = .ok (.iload 4, 2) := by decide +kernel
theorem dX8_digest_68 : decode cX8_digest 68 = .ok (.invokevirtual 100, 3) := by decide +kernel
theorem dX8_digest_71 : decode cX8_digest 71 = .ok (.i2l, 1) := by decide +kernel
theorem dX8_digest_72 : decode cX8_digest 72 = .ok (.ladd, 1) := by decide +kernel
theorem dX8_digest_73 : decode cX8_digest 73 = .ok (.lstore_n 1, 1) := by decide +kernel
theorem dX8_digest_74 : decode cX8_digest 74 = .ok (.iinc 4 1, 3) := by decide +kernel
theorem dX8_digest_77 : decode cX8_digest 77 = .ok (.goto (-24), 3) := by decide +kernel
theorem dX8_digest_80 : decode cX8_digest 80 = .ok (.iconst 0, 1) := by decide +kernel
theorem dX8_digest_81 : decode cX8_digest 81 = .ok (.istore 4, 2) := by decide +kernel
theorem dX8_digest_83 : decode cX8_digest 83 = .ok (.iload 4, 2) := by decide +kernel
theorem dX8_digest_85 : decode cX8_digest 85 = .ok (.bipush 16, 2) := by decide +kernel
theorem dX8_digest_87 : decode cX8_digest 87 = .ok (.aload_n 0, 1) := by decide +kernel
theorem dX8_digest_88 : decode cX8_digest 88 = .ok (.getfield 7, 3) := by decide +kernel
theorem dX8_digest_91 : decode cX8_digest 91 = .ok (.bipush 15, 2) := by decide +kernel
theorem dX8_digest_93 : decode cX8_digest 93 = .ok (.iload_n 3, 1) := by decide +kernel
theorem dX8_digest_94 : decode cX8_digest 94 = .ok (.iadd, 1) := by decide +kernel
theorem dX8_digest_95 : decode cX8_digest 95 = .ok (.iaload, 1) := by decide +kernel
theorem dX8_digest_96 : decode cX8_digest 96 = .ok (.imul, 1) := by decide +kernel
theorem dX8_digest_97 : decode cX8_digest 97 = .ok (.if_icmp .ge 31, 3) := by decide +kernel
theorem dX8_digest_100 : decode cX8_digest 100 = .ok (.ldc2_w 210, 3) := by decide +kernel
theorem dX8_digest_103 : decode cX8_digest 103 = .ok (.lload_n 1, 1) := by decide +kernel
theorem dX8_digest_104 : decode cX8_digest 104 = .ok (.lmul, 1) := by decide +kernel
theorem dX8_digest_105 : decode cX8_digest 105 = .ok (.aload_n 0, 1) := by decide +kernel
theorem dX8_digest_106 : decode cX8_digest 106 = .ok (.getfield 7, 3) := by decide +kernel
theorem dX8_digest_109 : decode cX8_digest 109 = .ok (.iload_n 3, 1) := by decide +kernel
theorem dX8_digest_110 : decode cX8_digest 110 = .ok (.iconst 0, 1) := by decide +kernel
theorem dX8_digest_111 : decode cX8_digest 111 = .ok (.iconst 0, 1) := by decide +kernel
theorem dX8_digest_112 : decode cX8_digest 112 = .ok (.invokestatic 39, 3) := by decide +kernel
theorem dX8_digest_115 : decode cX8_digest 115 = .ok (.iload 4, 2) := by decide +kernel
theorem dX8_digest_117 : decode cX8_digest 117 = .ok (.iadd, 1) := by decide +kernel
theorem dX8_digest_118 : decode cX8_digest 118 = .ok (.iaload, 1) := by decide +kernel
theorem dX8_digest_119 : decode cX8_digest 119 = .ok (.i2l, 1) := by decide +kernel
theorem dX8_digest_120 : decode cX8_digest 120 = .ok (.ladd, 1) := by decide +kernel
theorem dX8_digest_121 : decode cX8_digest 121 = .ok (.lstore_n 1, 1) := by decide +kernel
theorem dX8_digest_122 : decode cX8_digest 122 = .ok (.iinc 4 1, 3) := by decide +kernel
theorem dX8_digest_125 : decode cX8_digest 125 = .ok (.goto (-42), 3) := by decide +kernel
theorem dX8_digest_128 : decode cX8_digest 128 = .ok (.iinc 3 1, 3) := by decide +kernel
theorem dX8_digest_131 : decode cX8_digest 131 = .ok (.goto (-87), 3) := by decide +kernel
theorem dX8_digest_134 : decode cX8_digest 134 = .ok (.iconst 0, 1) := by decide +kernel
theorem dX8_digest_135 : decode cX8_digest 135 = .ok (.istore_n 3, 1) := by decide +kernel
theorem dX8_digest_136 : decode cX8_digest 136 = .ok (.iload_n 3, 1) := by decide +kernel
theorem dX8_digest_137 : decode cX8_digest 137 = .ok (.aload_n 0, 1) := by decide +kernel
theorem dX8_digest_138 : decode cX8_digest 138 = .ok (.getfield 7, 3) := by decide +kernel
theorem dX8_digest_141 : decode cX8_digest 141 = .ok (.bipush 6, 2) := by decide +kernel
theorem dX8_digest_143 : decode cX8_digest 143 = .ok (.iaload, 1) := by decide +kernel
theorem dX8_digest_144 : decode cX8_digest 144 = .ok (.if_icmp .ge 26, 3) := by decide +kernel
theorem dX8_digest_147 : decode cX8_digest 147 = .ok (.ldc2_w 210, 3) := by decide +kernel
theorem dX8_digest_150 : decode cX8_digest 150 = .ok (.lload_n 1, 1) := by decide +kernel
theorem dX8_digest_151 : decode cX8_digest 151 = .ok (.lmul, 1) := by decide +kernel
theorem dX8_digest_152 : decode cX8_digest 152 = .ok (.aload_n 0, 1) := by decide +kernel
theorem dX8_digest_153 : decode cX8_digest 153 = .ok (.getfield 7, 3) := by decide +kernel
theorem dX8_digest_156 : decode cX8_digest 156 = .ok (.bipush 7, 2) := by decide +kernel
theorem dX8_digest_158 : decode cX8_digest 158 = .ok (.iload_n 3, 1) := by decide +kernel
theorem dX8_digest_159 : decode cX8_digest 159 = .ok (.iadd, 1) := by decide +kernel
theorem dX8_digest_160 : decode cX8_digest 160 = .ok (.iaload, 1) := by decide +kernel
theorem dX8_digest_161 : decode cX8_digest 161 = .ok (.i2l, 1) := by decide +kernel
theorem dX8_digest_162 : decode cX8_digest 162 = .ok (.ladd, 1) := by decide +kernel
theorem dX8_digest_163 : decode cX8_digest 163 = .ok (.lstore_n 1, 1) := by decide +kernel
theorem dX8_digest_164 : decode cX8_digest 164 = .ok (.iinc 3 1, 3) := by decide +kernel
theorem dX8_digest_167 : decode cX8_digest 167 = .ok (.goto (-31), 3) := by decide +kernel
theorem dX8_digest_170 : decode cX8_digest 170 = .ok (.iconst 0, 1) := by decide +kernel
theorem dX8_digest_171 : decode cX8_digest 171 = .ok (.istore_n 3, 1) := by decide +kernel
theorem dX8_digest_172 : decode cX8_digest 172 = .ok (.iload_n 3, 1) := by decide +kernel
theorem dX8_digest_173 : decode cX8_digest 173 = .ok (.bipush 32, 2) := by decide +kernel
theorem dX8_digest_175 : decode cX8_digest 175 = .ok (.if_icmp .ge 29, 3) := by decide +kernel
theorem dX8_digest_178 : decode cX8_digest 178 = .ok (.ldc2_w 210, 3) := by decide +kernel
theorem dX8_digest_181 : decode cX8_digest 181 = .ok (.lload_n 1, 1) := by decide +kernel
theorem dX8_digest_182 : decode cX8_digest 182 = .ok (.lmul, 1) := by decide +kernel
theorem dX8_digest_183 : decode cX8_digest 183 = .ok (.aload_n 0, 1) := by decide +kernel
theorem dX8_digest_184 : decode cX8_digest 184 = .ok (.iload_n 3, 1) := by decide +kernel
theorem dX8_digest_185 : decode cX8_digest 185 = .ok (.bipush 8, 2) := by decide +kernel
theorem dX8_digest_187 : decode cX8_digest 187 = .ok (.idiv, 1) := by decide +kernel
theorem dX8_digest_188 : decode cX8_digest 188 = .ok (.iload_n 3, 1) := by decide +kernel
theorem dX8_digest_189 : decode cX8_digest 189 = .ok (.bipush 8, 2) := by decide +kernel
theorem dX8_digest_191 : decode cX8_digest 191 = .ok (.irem, 1) := by decide +kernel
theorem dX8_digest_192 : decode cX8_digest 192 = .ok (.invokevirtual 146, 3) := by decide +kernel
theorem dX8_digest_195 : decode cX8_digest 195 = .ok (.i2l, 1) := by decide +kernel
theorem dX8_digest_196 : decode cX8_digest 196 = .ok (.ladd, 1) := by decide +kernel
theorem dX8_digest_197 : decode cX8_digest 197 = .ok (.lstore_n 1, 1) := by decide +kernel
theorem dX8_digest_198 : decode cX8_digest 198 = .ok (.iinc 3 1, 3) := by decide +kernel
theorem dX8_digest_201 : decode cX8_digest 201 = .ok (.goto (-29), 3) := by decide +kernel
theorem dX8_digest_204 : decode cX8_digest 204 = .ok (.ldc2_w 210, 3) := by decide +kernel
theorem dX8_digest_207 : decode cX8_digest 207 = .ok (.ldc2_w 210, 3) := by decide +kernel
theorem dX8_digest_210 : decode cX8_digest 210 = .ok (.lload_n 1, 1) := by decide +kernel
theorem dX8_digest_211 : decode cX8_digest 211 = .ok (.lmul, 1) := by decide +kernel
theorem dX8_digest_212 : decode cX8_digest 212 = .ok (.aload_n 0, 1) := by decide +kernel
theorem dX8_digest_213 : decode cX8_digest 213 = .ok (.bipush 40, 2) := by decide +kernel
theorem dX8_digest_215 : decode cX8_digest 215 = .ok (.invokevirtual 158, 3) := by decide +kernel
theorem dX8_digest_218 : decode cX8_digest 218 = .ok (.i2l, 1) := by decide +kernel
theorem dX8_digest_219 : decode cX8_digest 219 = .ok (.ladd, 1) := by decide +kernel
theorem dX8_digest_220 : decode cX8_digest 220 = .ok (.lmul, 1) := by decide +kernel
theorem dX8_digest_221 : decode cX8_digest 221 = .ok (.aload_n 0, 1) := by decide +kernel
theorem dX8_digest_222 : decode cX8_digest 222 = .ok (.getfield 36, 3) := by decide +kernel
theorem dX8_digest_225 : decode cX8_digest 225 = .ok (.i2l, 1) := by decide +kernel
theorem dX8_digest_226 : decode cX8_digest 226 = .ok (.ladd, 1) := by decide +kernel
theorem dX8_digest_227 : decode cX8_digest 227 = .ok (.lreturn, 1) := by decide +kernel
