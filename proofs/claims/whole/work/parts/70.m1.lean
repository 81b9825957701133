set_option maxRecDepth 20000 in
theorem ggX8_init_X8_empties : GoodIn wsX8_init wsX8_empties := goodIn_r _ [14, 5, 15, 16, 13, 17, 22, 23, 24, 25, 26, 27, 28, 29, 30, 31, 32] (by decide +kernel) (by decide +kernel)
set_option maxRecDepth 20000 in
theorem gX8_init_X8_empties : GoodIn wsX8_init (wsV RX8 25 RX8 yX8_empties wsX8_empties) := goodIn_app (goodIn_of _ (by decide +kernel)) ggX8_init_X8_empties
set_option maxRecDepth 20000 in
theorem ggX8_init_X8_begins : GoodIn wsX8_init wsX8_begins := goodIn_r _ [21, 5, 22, 23, 24, 25, 26, 27, 28, 29, 30, 31, 32] (by decide +kernel) (by decide +kernel)
set_option maxRecDepth 20000 in
theorem gX8_init_X8_begins : GoodIn wsX8_init (wsV RX8 29 RX8 yX8_begins wsX8_begins) := goodIn_app (goodIn_of _ (by decide +kernel)) ggX8_init_X8_begins
theorem dX8_init_0 : decode cX8_init 0 = .ok (.aload_n 0, 1) := by decide +kernel
theorem dX8_init_1 : decode cX8_init 1 = .ok (.invokespecial 1, 3) := by decide +kernel
theorem dX8_init_4 : decode cX8_init 4 = .ok (.aload_n 0, 1) := by decide +kernel
theorem dX8_init_5 : decode cX8_init 5 = .ok (.sipush 853, 3) := by decide +kernel
theorem dX8_init_8 : decode cX8_init 8 = .ok (.newarray .int, 2) := by decide +kernel
theorem dX8_init_10 : decode cX8_init 10 = .ok (.putfield 7, 3) := by decide +kernel
theorem dX8_init_13 : decode cX8_init 13 = .ok (.aload_n 0, 1) := by decide +kernel
theorem dX8_init_14 : decode cX8_init 14 = .ok (.sipush 3412, 3) := by decide +kernel
theorem dX8_init_17 : decode cX8_init 17 = .ok (.newarray .int, 2) := by decide +kernel
theorem dX8_init_19 : decode cX8_init 19 = .ok (.putfield 13, 3) := by decide +kernel
theorem dX8_init_22 : decode cX8_init 22 = .ok (.aload_n 0, 1) := by decide +kernel
theorem dX8_init_23 : decode cX8_init 23 = .ok (.sipush 853, 3) := by decide +kernel
theorem dX8_init_26 : decode cX8_init 26 = .ok (.newarray .int, 2) := by decide +kernel
theorem dX8_init_28 : decode cX8_init 28 = .ok (.putfield 16, 3) := by decide +kernel
theorem dX8_init_31 : decode cX8_init 31 = .ok (.aload_n 0, 1) := by decide +kernel
theorem dX8_init_32 : decode cX8_init 32 = .ok (.bipush 100, 2) := by decide +kernel
theorem dX8_init_34 : decode cX8_init 34 = .ok (.newarray .int, 2) := by decide +kernel
theorem dX8_init_36 : decode cX8_init 36 = .ok (.putfield 19, 3) := by decide +kernel
theorem dX8_init_39 : decode cX8_init 39 = .ok (.aload_n 0, 1) := by decide +kernel
theorem dX8_init_40 : decode cX8_init 40 = .ok (.sipush 128, 3) := by decide +kernel
theorem dX8_init_43 : decode cX8_init 43 = .ok (.newarray .int, 2) := by decide +kernel
theorem dX8_init_45 : decode cX8_init 45 = .ok (.putfield 22, 3) := by decide +kernel
theorem dX8_init_48 : decode cX8_init 48 = .ok (.iconst 0, 1) := by decide +kernel
theorem dX8_init_49 : decode cX8_init 49 = .ok (.istore_n 1, 1) := by decide +kernel
theorem dX8_init_50 : decode cX8_init 50 = .ok (.iload_n 1, 1) := by decide +kernel
theorem dX8_init_51 : decode cX8_init 51 = .ok (.bipush 6, 2) := by decide +kernel
theorem dX8_init_53 : decode cX8_init 53 = .ok (.if_icmp .ge 24, 3) := by decide +kernel
theorem dX8_init_56 : decode cX8_init 56 = .ok (.aload_n 0, 1) := by decide +kernel
theorem dX8_init_57 : decode cX8_init 57 = .ok (.getfield 7, 3) := by decide +kernel
theorem dX8_init_60 : decode cX8_init 60 = .ok (.bipush 15, 2) := by decide +kernel
theorem dX8_init_62 : decode cX8_init 62 = .ok (.iload_n 1, 1) := by decide +kernel
theorem dX8_init_63 : decode cX8_init 63 = .ok (.iadd, 1) := by decide +kernel
theorem dX8_init_64 : decode cX8_init 64 = .ok (.iconst 4, 1) := by decide +kernel
theorem dX8_init_65 : decode cX8_init 65 = .ok (.iastore, 1) := by decide +kernel
theorem dX8_init_66 : decode cX8_init 66 = .ok (.aload_n 0, 1) := by decide +kernel
theorem dX8_init_67 : decode cX8_init 67 = .ok (.iload_n 1, 1) := by decide +kernel
theorem dX8_init_68 : decode cX8_init 68 = .ok (.invokevirtual 25, 3) := by decide +kernel
theorem dX8_init_71 : decode cX8_init 71 = .ok (.iinc 1 1, 3) := by decide +kernel
theorem dX8_init_74 : decode cX8_init 74 = .ok (.goto (-24), 3) := by decide +kernel
theorem dX8_init_77 : decode cX8_init 77 = .ok (.aload_n 0, 1) := by decide +kernel
theorem dX8_init_78 : decode cX8_init 78 = .ok (.getfield 7, 3) := by decide +kernel
theorem dX8_init_81 : decode cX8_init 81 = .ok (.bipush 6, 2) := by decide +kernel
theorem dX8_init_83 : decode cX8_init 83 = .ok (.iconst 1, 1) := by decide +kernel
theorem dX8_init_84 : decode cX8_init 84 = .ok (.iastore, 1) := by decide +kernel
theorem dX8_init_85 : decode cX8_init 85 = .ok (.aload_n 0, 1) := by decide +kernel
theorem dX8_init_86 : decode cX8_init 86 = .ok (.invokevirtual 29, 3) := by decide +kernel
theorem dX8_init_89 : decode cX8_init 89 = .ok (.return_, 1) := by decide +kernel
theorem dX8_thrown_0 : decode cX8_thrown 0 = .ok (.aload_n 0, 1) := by decide +kernel
theorem dX8_thrown_1 : decode cX8_thrown 1 = .ok (.getfield 32, 3) := by decide +kernel
theorem dX8_thrown_4 : decode cX8_thrown 4 = .ok (.ireturn, 1) := by decide +kernel
theorem dX8_in_0 : decode cX8_in 0 = .ok (.lload_n 0, 1) := by decide +kernel
theorem dX8_in_1 : decode cX8_in 1 = .ok (.lload_n 2, 1) := by decide +kernel
theorem dX8_in_2 : decode cX8_in 2 = .ok (.lcmp, 1) := by decide +kernel
theorem dX8_in_3 : decode cX8_in 3 = .ok (.ifCond .lt 14, 3) := by decide +kernel
theorem dX8_in_6 : decode cX8_in 6 = .ok (.lload_n 0, 1) := by decide +kernel
theorem dX8_in_7 : decode cX8_in 7 = .ok (.lload 4, 2) := by decide +kernel
theorem dX8_in_9 : decode cX8_in 9 = .ok (.lcmp, 1) := by decide +kernel
theorem dX8_in_10 : decode cX8_in 10 = .ok (.ifCond .gt 7, 3) := by decide +kernel
theorem dX8_in_13 : decode cX8_in 13 = .ok (.iconst 1, 1) := by decide +kernel
theorem dX8_in_14 : decode cX8_in 14 = .ok (.goto 4, 3) := by decide +kernel
theorem dX8_in_17 : decode cX8_in 17 = .ok (.iconst 0, 1) := by decide +kernel
theorem dX8_in_18 : decode cX8_in 18 = .ok (.ireturn, 1) := by decide +kernel
theorem dX8_fine_0 : decode cX8_fine 0 = .ok (.aload_n 0, 1) := by decide +kernel
theorem dX8_fine_1 : decode cX8_fine 1 = .ok (.iconst 0, 1) := by decide +kernel
theorem dX8_fine_2 : decode cX8_fine 2 = .ok (.putfield 32, 3) := by decide +kernel
theorem dX8_fine_5 : decode cX8_fine 5 = .ok (.iload_n 1, 1) := by decide +kernel
theorem dX8_fine_6 : decode cX8_fine 6 = .ok (.ireturn, 1) := by decide +kernel
theorem dX8_throwing_0 : decode cX8_throwing 0 = .ok (.aload_n 0, 1) := by decide +kernel
theorem dX8_throwing_1 : decode cX8_throwing 1 = .ok (.iload_n 1, 1) := by decide +kernel
theorem dX8_throwing_2 : decode cX8_throwing 2 = .ok (.putfield 32, 3) := by decide +kernel
theorem dX8_throwing_5 : decode cX8_throwing 5 = .ok (.iconst 0, 1) := by decide +kernel
theorem dX8_throwing_6 : decode cX8_throwing 6 = .ok (.ireturn, 1) := by decide +kernel
theorem dX8_save_0 : decode cX8_save 0 = .ok (.aload_n 0, 1) := by decide +kernel
theorem dX8_save_1 : decode cX8_save 1 = .ok (.getfield 36, 3) := by decide +kernel
theorem dX8_save_4 : decode cX8_save 4 = .ok (.iconst 4, 1) := by decide +kernel
theorem dX8_save_5 : decode cX8_save 5 = .ok (.if_icmp .ne 44, 3) := by decide +kernel
theorem dX8_save_8 : decode cX8_save 8 = .ok (.iconst 0, 1) := by decide +kernel
theorem dX8_save_9 : decode cX8_save 9 = .ok (.istore_n 1, 1) := by decide +kernel
theorem dX8_save_10 : decode cX8_save 10 = .ok (.iload_n 1, 1) := by decide +kernel
theorem dX8_save_11 : decode cX8_save 11 = .ok (.sipush 2559, 3) := by decide +kernel
theorem dX8_save_14 : decode cX8_save 14 = .ok (.if_icmp .ge 25, 3) := by decide +kernel
theorem dX8_save_17 : decode cX8_save 17 = .ok (.aload_n 0, 1) := by decide +kernel
theorem dX8_save_18 : decode cX8_save 18 = .ok (.getfield 13, 3) := by decide +kernel
theorem dX8_save_21 : decode cX8_save 21 = .ok (.iload_n 1, 1) := by decide +kernel
theorem dX8_save_22 : decode cX8_save 22 = .ok (.aload_n 0, 1) := by decide +kernel
theorem dX8_save_23 : decode cX8_save 23 = .ok (.getfield 13, 3) := by decide +kernel
theorem dX8_save_26 : decode cX8_save 26 = .ok (.iload_n 1, 1) := by decide +kernel
theorem dX8_save_27 : decode cX8_save 27 = .ok (.sipush 853, 3) := by decide +kernel
theorem dX8_save_30 : decode cX8_save 30 = .ok (.iadd, 1) := by decide +kernel
theorem dX8_save_31 : decode cX8_save 31 = .ok (.iaload, 1) := by decide +kernel
theorem dX8_save_32 : decode cX8_save 32 = .ok (.iastore, 1) := by decide +kernel
theorem dX8_save_33 : decode cX8_save 33 = .ok (.iinc 1 1, 3) := by decide +kernel
theorem dX8_save_36 : decode cX8_save 36 = .ok (.goto (-26), 3) := by decide +kernel
theorem dX8_save_39 : decode cX8_save 39 = .ok (.aload_n 0, 1) := by decide +kernel
theorem dX8_save_40 : decode cX8_save 40 = .ok (.dup, 1) := by decide +kernel
theorem dX8_save_41 : decode cX8_save 41 = .ok (.getfield 36, 3) := by decide +kernel
theorem dX8_save_44 : decode cX8_save 44 = .ok (.iconst 1, 1) := by decide +kernel
theorem dX8_save_45 : decode cX8_save 45 = .ok (.isub, 1) := by decide +kernel
theorem dX8_save_46 : decode cX8_save 46 = .ok (.putfield 36, 3) := by decide +kernel
theorem dX8_save_49 : decode cX8_save 49 = .ok (.iconst 0, 1) := by decide +kernel
theorem dX8_save_50 : decode cX8_save 50 = .ok (.istore_n 1, 1) := by decide +kernel
theorem dX8_save_51 : decode cX8_save 51 = .ok (.iload_n 1, 1) := by decide +kernel
theorem dX8_save_52 : decode cX8_save 52 = .ok (.sipush 853, 3) := by decide +kernel
theorem dX8_save_55 : decode cX8_save 55 = .ok (.if_icmp .ge 30, 3) := by decide +kernel
theorem dX8_save_58 : decode cX8_save 58 = .ok (.aload_n 0, 1) := by decide +kernel
theorem dX8_save_59 : decode cX8_save 59 = .ok (.getfield 13, 3) := by decide +kernel
theorem dX8_save_62 : decode cX8_save 62 = .ok (.sipush 853, 3) := by decide +kernel
theorem dX8_save_65 : decode cX8_save 65 = .ok (.aload_n 0, 1) := by decide +kernel
theorem dX8_save_66 : decode cX8_save 66 = .ok (.getfield 36, 3) := by decide +kernel
theorem dX8_save_69 : decode cX8_save 69 = .ok (.imul, 1) := by decide +kernel
theorem dX8_save_70 : decode cX8_save 70 = .ok (.iload_n 1, 1) := by decide +kernel
theorem dX8_save_71 : decode cX8_save 71 = .ok (.iadd, 1) := by decide +kernel
theorem dX8_save_72 : decode cX8_save 72 = .ok (.aload_n 0, 1) := by decide +kernel
theorem dX8_save_73 : decode cX8_save 73 = .ok (.getfield 7, 3) := by decide +kernel
theorem dX8_save_76 : decode cX8_save 76 = .ok (.iload_n 1, 1) := by decide +kernel
theorem dX8_save_77 : decode cX8_save 77 = .ok (.iaload, 1) := by decide +kernel
theorem dX8_save_78 : decode cX8_save 78 = .ok (.iastore, 1) := by decide +kernel
theorem dX8_save_79 : decode cX8_save 79 = .ok (.iinc 1 1, 3) := by decide +kernel
theorem dX8_save_82 : decode cX8_save 82 = .ok (.goto (-31), 3) := by decide +kernel
theorem dX8_save_85 : decode cX8_save 85 = .ok (.aload_n 0, 1) := by decide +kernel
theorem dX8_save_86 : decode cX8_save 86 = .ok (.dup, 1) := by decide +kernel
theorem dX8_save_87 : decode cX8_save 87 = .ok (.getfield 36, 3) := by decide +kernel
theorem dX8_save_90 : decode cX8_save 90 = .ok (.iconst 1, 1) := by decide +kernel
theorem dX8_save_91 : decode cX8_save 91 = .ok (.iadd, 1) := by decide +kernel
theorem dX8_save_92 : decode cX8_save 92 = .ok (.putfield 36, 3) := by decide +kernel
theorem dX8_save_95 : decode cX8_save 95 = .ok (.return_, 1) := by decide +kernel
theorem dX8_laysAside_0 : decode cX8_laysAside 0 = .ok (.iconst 0, 1) := by decide +kernel
theorem dX8_laysAside_1 : decode cX8_laysAside 1 = .ok (.istore_n 1, 1) := by decide +kernel
theorem dX8_laysAside_2 : decode cX8_laysAside 2 = .ok (.iload_n 1, 1) := by decide +kernel
theorem dX8_laysAside_3 : decode cX8_laysAside 3 = .ok (.sipush 853, 3) := by decide +kernel
theorem dX8_laysAside_6 : decode cX8_laysAside 6 = .ok (.if_icmp .ge 21, 3) := by decide +kernel
theorem dX8_laysAside_9 : decode cX8_laysAside 9 = .ok (.aload_n 0, 1) := by decide +kernel
theorem dX8_laysAside_10 : decode cX8_laysAside 10 = .ok (.getfield 16, 3) := by decide +kernel
theorem dX8_laysAside_13 : decode cX8_laysAside 13 = .ok (.iload_n 1, 1) := by decide +kernel
theorem dX8_laysAside_14 : decode cX8_laysAside 14 = .ok (.aload_n 0, 1) := by decide +kernel
theorem dX8_laysAside_15 : decode cX8_laysAside 15 = .ok (.getfield 7, 3) := by decide +kernel
theorem dX8_laysAside_18 : decode cX8_laysAside 18 = .ok (.iload_n 1, 1) := by decide +kernel
theorem dX8_laysAside_19 : decode cX8_laysAside 19 = .ok (.iaload, 1) := by decide +kernel
theorem dX8_laysAside_20 : decode cX8_laysAside 20 = .ok (.iastore, 1) := by decide +kernel
theorem dX8_laysAside_21 : decode cX8_laysAside 21 = .ok (.iinc 1 1, 3) := by decide +kernel
theorem dX8_laysAside_24 : decode cX8_laysAside 24 = .ok (.goto (-22), 3) := by decide +kernel
theorem dX8_laysAside_27 : decode cX8_laysAside 27 = .ok (.return_, 1) := by decide +kernel
theorem dX8_takesBack_0 : decode cX8_takesBack 0 = .ok (.iconst 0, 1) := by decide +kernel
theorem dX8_takesBack_1 : decode cX8_takesBack 1 = .ok (.istore_n 1, 1) := by decide +kernel
theorem dX8_takesBack_2 : decode cX8_takesBack 2 = .ok (.iload_n 1, 1) := by decide +kernel
theorem dX8_takesBack_3 : decode cX8_takesBack 3 = .ok (.sipush 853, 3) := by decide +kernel
theorem dX8_takesBack_6 : decode cX8_takesBack 6 = .ok (.if_icmp .ge 21, 3) := by decide +kernel
theorem dX8_takesBack_9 : decode cX8_takesBack 9 = .ok (.aload_n 0, 1) := by decide +kernel
theorem dX8_takesBack_10 : decode cX8_takesBack 10 = .ok (.getfield 7, 3) := by decide +kernel
theorem dX8_takesBack_13 : decode cX8_takesBack 13 = .ok (.iload_n 1, 1) := by decide +kernel
theorem dX8_takesBack_14 : decode cX8_takesBack 14 = .ok (.aload_n 0, 1) := by decide +kernel
theorem dX8_takesBack_15 : decode cX8_takesBack 15 = .ok (.getfield 16, 3) := by decide +kernel
theorem dX8_takesBack_18 : decode cX8_takesBack 18 = .ok (.iload_n 1, 1) := by decide +kernel
theorem dX8_takesBack_19 : decode cX8_takesBack 19 = .ok (.iaload, 1) := by decide +kernel
theorem dX8_takesBack_20 : decode cX8_takesBack 20 = .ok (.iastore, 1) := by decide +kernel
theorem dX8_takesBack_21 : decode cX8_takesBack 21 = .ok (.iinc 1 1, 3) := by decide +kernel
theorem dX8_takesBack_24 : decode cX8_takesBack 24 = .ok (.goto (-22), 3) := by decide +kernel
theorem dX8_takesBack_27 : decode cX8_takesBack 27 = .ok (.return_, 1) := by decide +kernel
theorem dX8_cellAt_0 : decode cX8_cellAt 0 = .ok (.bipush 85, 2) := by decide +kernel
theorem dX8_cellAt_2 : decode cX8_cellAt 2 = .ok (.iconst 4, 1) := by decide +kernel
theorem dX8_cellAt_3 : decode cX8_cellAt 3 = .ok (.iconst 4, 1) := by decide +kernel
theorem dX8_cellAt_4 : decode cX8_cellAt 4 = .ok (.bipush 8, 2) := by decide +kernel
theorem dX8_cellAt_6 : decode cX8_cellAt 6 = .ok (.iload_n 0, 1) := by decide +kernel
theorem dX8_cellAt_7 : decode cX8_cellAt 7 = .ok (.imul, 1) := by decide +kernel
theorem dX8_cellAt_8 : decode cX8_cellAt 8 = .ok (.iload_n 1, 1) := by decide +kernel
theorem dX8_cellAt_9 : decode cX8_cellAt 9 = .ok (.iadd, 1) := by decide +kernel
theorem dX8_cellAt_10 : decode cX8_cellAt 10 = .ok (.imul, 1) := by decide +kernel
theorem dX8_cellAt_11 : decode cX8_cellAt 11 = .ok (.iload_n 2, 1) := by decide +kernel
theorem dX8_cellAt_12 : decode cX8_cellAt 12 = .ok (.iadd, 1) := by decide +kernel
theorem dX8_cellAt_13 : decode cX8_cellAt 13 = .ok (.imul, 1) := by decide +kernel
theorem dX8_cellAt_14 : decode cX8_cellAt 14 = .ok (.iadd, 1) := by decide +kernel
theorem dX8_cellAt_15 : decode cX8_cellAt 15 = .ok (.ireturn, 1) := by decide +kernel
set_option maxRecDepth 20000 in
theorem ggX8_empties_X8_cellAt : GoodIn wsX8_empties wsX8_cellAt := goodIn_r _ [5] (by decide +kernel) (by decide +kernel)
set_option maxRecDepth 20000 in
theorem gX8_empties_X8_cellAt : GoodIn wsX8_empties (va_wsS RX8 39 yX8_cellAt wsX8_cellAt) := goodIn_app (goodIn_of _ (by decide +kernel)) ggX8_empties_X8_cellAt
theorem dX8_empties_0 : decode cX8_empties 0 = .ok (.iconst 0, 1) := by decide +kernel
theorem dX8_empties_1 : decode cX8_empties 1 = .ok (.istore_n 2, 1) := by decide +kernel
theorem dX8_empties_2 : decode cX8_empties 2 = .ok (.iload_n 2, 1) := by decide +kernel
theorem dX8_empties_3 : decode cX8_empties 3 = .ok (.bipush 32, 2) := by decide +kernel
theorem dX8_empties_5 : decode cX8_empties 5 = .ok (.if_icmp .ge 57, 3) := by decide +kernel
theorem dX8_empties_8 : decode cX8_empties 8 = .ok (.iload_n 1, 1) := by decide +kernel
theorem dX8_empties_9 : decode cX8_empties 9 = .ok (.iconst 0, 1) := by decide +kernel
theorem dX8_empties_10 : decode cX8_empties 10 = .ok (.iconst 0, 1) := by decide +kernel
theorem dX8_empties_11 : decode cX8_empties 11 = .ok (.invokestatic 39, 3) := by decide +kernel
theorem dX8_empties_14 : decode cX8_empties 14 = .ok (.iconst 4, 1) := by decide +kernel
theorem dX8_empties_15 : decode cX8_empties 15 = .ok (.iload_n 2, 1) := by decide +kernel
theorem dX8_empties_16 : decode cX8_empties 16 = .ok (.imul, 1) := by decide +kernel
theorem dX8_empties_17 : decode cX8_empties 17 = .ok (.iadd, 1) := by decide +kernel
theorem dX8_empties_18 : decode cX8_empties 18 = .ok (.istore_n 3, 1) := by decide +kernel
theorem dX8_empties_19 : decode cX8_empties 19 = .ok (.aload_n 0, 1) := by decide +kernel
theorem dX8_empties_20 : decode cX8_empties 20 = .ok (.getfield 7, 3) := by decide +kernel
theorem dX8_empties_23 : decode cX8_empties 23 = .ok (.iload_n 3, 1) := by decide +kernel
theorem dX8_empties_24 : decode cX8_empties 24 = .ok (.iconst 0, 1) := by decide +kernel
theorem dX8_empties_25 : decode cX8_empties 25 = .ok (.iadd, 1) := by decide +kernel
theorem dX8_empties_26 : decode cX8_empties 26 = .ok (.iconst 0, 1) := by decide +kernel
theorem dX8_empties_27 : decode cX8_empties 27 = .ok (.iastore, 1) := by decide +kernel
theorem dX8_empties_28 : decode cX8_empties 28 = .ok (.aload_n 0, 1) := by decide +kernel
theorem dX8_empties_29 : decode cX8_empties 29 = .ok (.getfield 7, 3) := by decide +kernel
theorem dX8_empties_32 : decode cX8_empties 32 = .ok (.iload_n 3, 1) := by decide +kernel
theorem dX8_empties_33 : decode cX8_empties 33 = .ok (.iconst 1, 1) := by decide +kernel
theorem dX8_empties_34 : decode cX8_empties 34 = .ok (.iadd, 1) := by decide +kernel
theorem dX8_empties_35 : decode cX8_empties 35 = .ok (.bipush 15, 2) := by decide +kernel
theorem dX8_empties_37 : decode cX8_empties 37 = .ok (.iastore, 1) := by decide +kernel
theorem dX8_empties_38 : decode cX8_empties 38 = .ok (.aload_n 0, 1) := by decide +kernel
theorem dX8_empties_39 : decode cX8_empties 39 = .ok (.getfield 7, 3) := by decide +kernel
theorem dX8_empties_42 : decode cX8_empties 42 = .ok (.iload_n 3, 1) := by decide +kernel
theorem dX8_empties_43 : decode cX8_empties 43 = .ok (.iconst 2, 1) := by decide +kernel
theorem dX8_empties_44 : decode cX8_empties 44 = .ok (.iadd, 1) := by decide +kernel
theorem dX8_empties_45 : decode cX8_empties 45 = .ok (.iconst 0, 1) := by decide +kernel
theorem dX8_empties_46 : decode cX8_empties 46 = .ok (.iastore, 1) := by decide +kernel
theorem dX8_empties_47 : decode cX8_empties 47 = .ok (.aload_n 0, 1) := by decide +kernel
theorem dX8_empties_48 : decode cX8_empties 48 = .ok (.getfield 7, 3) := by decide +kernel
theorem dX8_empties_51 : decode cX8_empties 51 = .ok (.iload_n 3, 1) := by decide +kernel
theorem dX8_empties_52 : decode cX8_empties 52 = .ok (.iconst 3, 1) := by decide +kernel
theorem dX8_empties_53 : decode cX8_empties 53 = .ok (.iadd, 1) := by decide +kernel
theorem dX8_empties_54 : decode cX8_empties 54 = .ok (.iconst 0, 1) := by decide +kernel
theorem dX8_empties_55 : decode cX8_empties 55 = .ok (.iastore, 1) := by decide +kernel
theorem dX8_empties_56 : decode cX8_empties 56 = .ok (.iinc 2 1, 3) := by decide +kernel
theorem dX8_empties_59 : decode cX8_empties 59 = .ok (.goto (-57), 3) := by decide +kernel
theorem dX8_empties_62 : decode cX8_empties 62 = .ok (.return_, 1) := by decide +kernel
set_option maxRecDepth 20000 in
theorem ggX8_isPattern_X8_in : GoodIn wsX8_isPattern wsX8_in := goodIn_r _ [5] (by decide +kernel) (by decide +kernel)
set_option maxRecDepth 20000 in
theorem gX8_isPattern_X8_in : GoodIn wsX8_isPattern (va_wsS RX8 45 yX8_in wsX8_in) := goodIn_app (goodIn_of _ (by decide +kernel)) ggX8_isPattern_X8_in
theorem dX8_isPattern_0 : decode cX8_isPattern 0 = .ok (.iload_n 0, 1) := by decide +kernel
theorem dX8_isPattern_1 : decode cX8_isPattern 1 = .ok (.i2l, 1) := by decide +kernel
theorem dX8_isPattern_2 : decode cX8_isPattern 2 = .ok (.lconst 0, 1) := by decide +kernel
theorem dX8_isPattern_3 : decode cX8_isPattern 3 = .ok (.ldc2_w 43, 3) := by decide +kernel
theorem dX8_isPattern_6 : decode cX8_isPattern 6 = .ok (.invokestatic 45, 3) := by decide +kernel
theorem dX8_isPattern_9 : decode cX8_isPattern 9 = .ok (.ireturn, 1) := by decide +kernel
set_option maxRecDepth 20000 in
theorem ggX8_isChannel_X8_in : GoodIn wsX8_isChannel wsX8_in := goodIn_r _ [5] (by decide +kernel) (by decide +kernel)
set_option maxRecDepth 20000 in
theorem gX8_isChannel_X8_in : GoodIn wsX8_isChannel (va_wsS RX8 45 yX8_in wsX8_in) := goodIn_app (goodIn_of _ (by decide +kernel)) ggX8_isChannel_X8_in
theorem dX8_isChannel_0 : decode cX8_isChannel 0 = .ok (.iload_n 0, 1) := by decide +kernel
theorem dX8_isChannel_1 : decode cX8_isChannel 1 = .ok (.i2l, 1) := by decide +kernel
theorem dX8_isChannel_2 : decode cX8_isChannel 2 = .ok (.lconst 0, 1) := by decide +kernel
theorem dX8_isChannel_3 : decode cX8_isChannel 3 = .ok (.ldc2_w 49, 3) := by decide +kernel
theorem dX8_isChannel_6 : decode cX8_isChannel 6 = .ok (.invokestatic 45, 3) := by decide +kernel
theorem dX8_isChannel_9 : decode cX8_isChannel 9 = .ok (.ireturn, 1) := by decide +kernel
set_option maxRecDepth 20000 in
theorem ggX8_isCell_X8_isPattern : GoodIn wsX8_isCell wsX8_isPattern := goodIn_r _ [5, 6, 7, 8, 4, 9] (by decide +kernel) (by decide +kernel)
set_option maxRecDepth 20000 in
theorem gX8_isCell_X8_isPattern : GoodIn wsX8_isCell (va_wsS RX8 51 yX8_isPattern wsX8_isPattern) := goodIn_app (goodIn_of _ (by decide +kernel)) ggX8_isCell_X8_isPattern
set_option maxRecDepth 20000 in
theorem ggX8_isCell_X8_in : GoodIn wsX8_isCell wsX8_in := goodIn_r _ [9] (by decide +kernel) (by decide +kernel)
set_option maxRecDepth 20000 in
theorem gX8_isCell_X8_in : GoodIn wsX8_isCell (va_wsS RX8 45 yX8_in wsX8_in) := goodIn_app (goodIn_of _ (by decide +kernel)) ggX8_isCell_X8_in
set_option maxRecDepth 20000 in
theorem ggX8_isCell_X8_isChannel : GoodIn wsX8_isCell wsX8_isChannel := goodIn_r _ [12, 13, 7, 8, 4, 9] (by decide +kernel) (by decide +kernel)
set_option maxRecDepth 20000 in
theorem gX8_isCell_X8_isChannel : GoodIn wsX8_isCell (va_wsS RX8 57 yX8_isChannel wsX8_isChannel) := goodIn_app (goodIn_of _ (by decide +kernel)) ggX8_isCell_X8_isChannel
theorem dX8_isCell_0 : decode cX8_isCell 0 = .ok (.iload_n 0, 1) := by decide +kernel
theorem dX8_isCell_1 : decode cX8_isCell 1 = .ok (.invokestatic 51, 3) := by decide +kernel
theorem dX8_isCell_4 : decode cX8_isCell 4 = .ok (.ifCond .eq 26, 3) := by decide +kernel
theorem dX8_isCell_7 : decode cX8_isCell 7 = .ok (.iload_n 1, 1) := by decide +kernel
theorem dX8_isCell_8 : decode cX8_isCell 8 = .ok (.i2l, 1) := by decide +kernel
theorem dX8_isCell_9 : decode cX8_isCell 9 = .ok (.lconst 0, 1) := by decide +kernel
theorem dX8_isCell_10 : decode cX8_isCell 10 = .ok (.ldc2_w 55, 3) := by decide +kernel
theorem dX8_isCell_13 : decode cX8_isCell 13 = .ok (.invokestatic 45, 3) := by decide +kernel
theorem dX8_isCell_16 : decode cX8_isCell 16 = .ok (.ifCond .eq 14, 3) := by decide +kernel
theorem dX8_isCell_19 : decode cX8_isCell 19 = .ok (.iload_n 2, 1) := by decide +kernel
theorem dX8_isCell_20 : decode cX8_isCell 20 = .ok (.invokestatic 57, 3) := by decide +kernel
theorem dX8_isCell_23 : decode cX8_isCell 23 = .ok (.ifCond .eq 7, 3) := by decide +kernel
theorem dX8_isCell_26 : decode cX8_isCell 26 = .ok (.iconst 1, 1) := by decide +kernel
theorem dX8_isCell_27 : decode cX8_isCell 27 = .ok (.goto 4, 3) := by decide +kernel
theorem dX8_isCell_30 : decode cX8_isCell 30 = .ok (.iconst 0, 1) := by decide +kernel
theorem dX8_isCell_31 : decode cX8_isCell 31 = .ok (.ireturn, 1) := by decide +kernel
set_option maxRecDepth 20000 in
theorem ggX8_setNote_X8_isCell : GoodIn wsX8_setNote wsX8_isCell := goodIn_r _ [7, 8, 9, 10, 6, 11, 12, 13, 14, 15, 16, 17, 18, 19] (by decide +kernel) (by decide +kernel)
set_option maxRecDepth 20000 in
theorem gX8_setNote_X8_isCell : GoodIn wsX8_setNote (va_wsS RX8 60 yX8_isCell wsX8_isCell) := goodIn_app (goodIn_of _ (by decide +kernel)) ggX8_setNote_X8_isCell
set_option maxRecDepth 20000 in
theorem ggX8_setNote_X8_throwing : GoodIn wsX8_setNote wsX8_throwing := goodIn_r _ [23, 24, 38, 39, 40, 41, 42, 43, 44, 45, 46, 47, 48] (by decide +kernel) (by decide +kernel)
set_option maxRecDepth 20000 in
theorem gX8_setNote_X8_throwing : GoodIn wsX8_setNote (wsV RX8 64 RX8 yX8_throwing wsX8_throwing) := goodIn_app (goodIn_of _ (by decide +kernel)) ggX8_setNote_X8_throwing
set_option maxRecDepth 20000 in
theorem ggX8_setNote_X8_in : GoodIn wsX8_setNote wsX8_in := goodIn_r _ [15] (by decide +kernel) (by decide +kernel)
set_option maxRecDepth 20000 in
theorem gX8_setNote_X8_in : GoodIn wsX8_setNote (va_wsS RX8 45 yX8_in wsX8_in) := goodIn_app (goodIn_of _ (by decide +kernel)) ggX8_setNote_X8_in
set_option maxRecDepth 20000 in
theorem ggX8_setNote_X8_save : GoodIn wsX8_setNote wsX8_save := goodIn_r _ [28, 29, 30, 3, 38, 39, 40, 41, 42, 43, 44, 45, 46, 47, 48] (by decide +kernel) (by decide +kernel)
set_option maxRecDepth 20000 in
theorem gX8_setNote_X8_save : GoodIn wsX8_setNote (wsV RX8 72 RX8 yX8_save wsX8_save) := goodIn_app (goodIn_of _ (by decide +kernel)) ggX8_setNote_X8_save
set_option maxRecDepth 20000 in
theorem ggX8_setNote_X8_cellAt : GoodIn wsX8_setNote wsX8_cellAt := goodIn_r _ [33] (by decide +kernel) (by decide +kernel)
set_option maxRecDepth 20000 in
theorem gX8_setNote_X8_cellAt : GoodIn wsX8_setNote (va_wsS RX8 39 yX8_cellAt wsX8_cellAt) := goodIn_app (goodIn_of _ (by decide +kernel)) ggX8_setNote_X8_cellAt
set_option maxRecDepth 20000 in
theorem ggX8_setNote_X8_fine : GoodIn wsX8_setNote wsX8_fine := goodIn_r _ [37, 24, 38, 39, 40, 41, 42, 43, 44, 45, 46, 47, 48] (by decide +kernel) (by decide +kernel)
set_option maxRecDepth 20000 in
theorem gX8_setNote_X8_fine : GoodIn wsX8_setNote (wsV RX8 75 RX8 yX8_fine wsX8_fine) := goodIn_app (goodIn_of _ (by decide +kernel)) ggX8_setNote_X8_fine
theorem dX8_setNote_0 : decode cX8_setNote 0 = .ok (.iload_n 1, 1) := by decide +kernel
theorem dX8_setNote_1 : decode cX8_setNote 1 = .ok (.iload_n 2, 1) := by decide +kernel
theorem dX8_setNote_2 : decode cX8_setNote 2 = .ok (.iload_n 3, 1) := by decide +kernel
theorem dX8_setNote_3 : decode cX8_setNote 3 = .ok (.invokestatic 60, 3) := by decide +kernel
theorem dX8_setNote_6 : decode cX8_setNote 6 = .ok (.ifCond .ne 9, 3) := by decide +kernel
theorem dX8_setNote_9 : decode cX8_setNote 9 = .ok (.aload_n 0, 1) := by decide +kernel
theorem dX8_setNote_10 : decode cX8_setNote 10 = .ok (.iconst 1, 1) := by decide +kernel
theorem dX8_setNote_11 : decode cX8_setNote 11 = .ok (.invokevirtual 64, 3) := by decide +kernel
theorem dX8_setNote_14 : decode cX8_setNote 14 = .ok (.ireturn, 1) := by decide +kernel
theorem dX8_setNote_15 : decode cX8_setNote 15 = .ok (.iload 4, 2) := by decide +kernel
theorem dX8_setNote_17 : decode cX8_setNote 17 = .ok (.i2l, 1) := by decide +kernel
theorem dX8_setNote_18 : decode cX8_setNote 18 = .ok (.lconst 0, 1) := by decide +kernel
theorem dX8_setNote_19 : decode cX8_setNote 19 = .ok (.ldc2_w 68, 3) := by decide +kernel
theorem dX8_setNote_22 : decode cX8_setNote 22 = .ok (.invokestatic 45, 3) := by decide +kernel
theorem dX8_setNote_25 : decode cX8_setNote 25 = .ok (.ifCond .eq 16, 3) := by decide +kernel
theorem dX8_setNote_28 : decode cX8_setNote 28 = .ok (.iload 5, 2) := by decide +kernel
theorem dX8_setNote_30 : decode cX8_setNote 30 = .ok (.i2l, 1) := by decide +kernel
theorem dX8_setNote_31 : decode cX8_setNote 31 = .ok (.lconst 0, 1) := by decide +kernel
theorem dX8_setNote_32 : decode cX8_setNote 32 = .ok (.ldc2_w 70, 3) := by decide +kernel
theorem dX8_setNote_35 : decode cX8_setNote 35 = .ok (.invokestatic 45, 3) := by decide +kernel
theorem dX8_setNote_38 : decode cX8_setNote 38 = .ok (.ifCond .ne 9, 3) := by decide +kernel
theorem dX8_setNote_41 : decode cX8_setNote 41 = .ok (.aload_n 0, 1) := by decide +kernel
theorem dX8_setNote_42 : decode cX8_setNote 42 = .ok (.iconst 2, 1) := by decide +kernel
theorem dX8_setNote_43 : decode cX8_setNote 43 = .ok (.invokevirtual 64, 3) := by decide +kernel
theorem dX8_setNote_46 : decode cX8_setNote 46 = .ok (.ireturn, 1) := by decide +kernel
theorem dX8_setNote_47 : decode cX8_setNote 47 = .ok (.aload_n 0, 1) := by decide +kernel
theorem dX8_setNote_48 : decode cX8_setNote 48 = .ok (.invokevirtual 72, 3) := by decide +kernel
theorem dX8_setNote_51 : decode cX8_setNote 51 = .ok (.iload_n 1, 1) := by decide +kernel
theorem dX8_setNote_52 : decode cX8_setNote 52 = .ok (.iload_n 2, 1) := by decide +kernel
theorem dX8_setNote_53 : decode cX8_setNote 53 = .ok (.iload_n 3, 1) := by decide +kernel
theorem dX8_setNote_54 : decode cX8_setNote 54 = .ok (.invokestatic 39, 3) := by decide +kernel
theorem dX8_setNote_57 : decode cX8_setNote 57 = .ok (.istore 6, 2) := by decide +kernel
theorem dX8_setNote_59 : decode cX8_setNote 59 = .ok (.aload_n 0, 1) := by decide +kernel
theorem dX8_setNote_60 : decode cX8_setNote 60 = .ok (.getfield 7, 3) := by decide +kernel
theorem dX8_setNote_63 : decode cX8_setNote 63 = .ok (.iload 6, 2) := by decide +kernel
theorem dX8_setNote_65 : decode cX8_setNote 65 = .ok (.iconst 0, 1) := by decide +kernel
theorem dX8_setNote_66 : decode cX8_setNote 66 = .ok (.iadd, 1) := by decide +kernel
theorem dX8_setNote_67 : decode cX8_setNote 67 = .ok (.iaload, 1) := by decide +kernel
theorem dX8_setNote_68 : decode cX8_setNote 68 = .ok (.istore 7, 2) := by decide +kernel
theorem dX8_setNote_70 : decode cX8_setNote 70 = .ok (.aload_n 0, 1) := by decide +kernel
theorem dX8_setNote_71 : decode cX8_setNote 71 = .ok (.getfield 7, 3) := by decide +kernel
theorem dX8_setNote_74 : decode cX8_setNote 74 = .ok (.iload 6, 2) := by decide +kernel
theorem dX8_setNote_76 : decode cX8_setNote 76 = .ok (.iconst 0, 1) := by decide +kernel
theorem dX8_setNote_77 : decode cX8_setNote 77 = .ok (.iadd, 1) := by decide +kernel
theorem dX8_setNote_78 : decode cX8_setNote 78 = .ok (.iload 4, 2) := by decide +kernel
theorem dX8_setNote_80 : decode cX8_setNote 80 = .ok (.iastore, 1) := by decide +kernel
theorem dX8_setNote_81 : decode cX8_setNote 81 = .ok (.aload_n 0, 1) := by decide +kernel
theorem dX8_setNote_82 : decode cX8_setNote 82 = .ok (.getfield 7, 3) := by decide +kernel
theorem dX8_setNote_85 : decode cX8_setNote 85 = .ok (.iload 6, 2) := by decide +kernel
theorem dX8_setNote_87 : decode cX8_setNote 87 = .ok (.iconst 1, 1) := by decide +kernel
theorem dX8_setNote_88 : decode cX8_setNote 88 = .ok (.iadd, 1) := by decide +kernel
theorem dX8_setNote_89 : decode cX8_setNote 89 = .ok (.iload 5, 2) := by decide +kernel
theorem dX8_setNote_91 : decode cX8_setNote 91 = .ok (.iastore, 1) := by decide +kernel
theorem dX8_setNote_92 : decode cX8_setNote 92 = .ok (.aload_n 0, 1) := by decide +kernel
theorem dX8_setNote_93 : decode cX8_setNote 93 = .ok (.iload 7, 2) := by decide +kernel
theorem dX8_setNote_95 : decode cX8_setNote 95 = .ok (.invokevirtual 75, 3) := by decide +kernel
theorem dX8_setNote_98 : decode cX8_setNote 98 = .ok (.ireturn, 1) := by decide +kernel
set_option maxRecDepth 20000 in
theorem ggX8_setEffect_X8_isCell : GoodIn wsX8_setEffect wsX8_isCell := goodIn_r _ [7, 1, 8, 9, 6, 10, 11, 12, 13, 14, 15, 16, 17, 18] (by decide +kernel) (by decide +kernel)
set_option maxRecDepth 20000 in
theorem gX8_setEffect_X8_isCell : GoodIn wsX8_setEffect (va_wsS RX8 60 yX8_isCell wsX8_isCell) := goodIn_app (goodIn_of _ (by decide +kernel)) ggX8_setEffect_X8_isCell
set_option maxRecDepth 20000 in
theorem ggX8_setEffect_X8_throwing : GoodIn wsX8_setEffect wsX8_throwing := goodIn_r _ [22, 23, 37, 38, 39, 40, 41, 42, 43, 44, 45, 46, 47] (by decide +kernel) (by decide +kernel)
set_option maxRecDepth 20000 in
theorem gX8_setEffect_X8_throwing : GoodIn wsX8_setEffect (wsV RX8 64 RX8 yX8_throwing wsX8_throwing) := goodIn_app (goodIn_of _ (by decide +kernel)) ggX8_setEffect_X8_throwing
set_option maxRecDepth 20000 in
theorem ggX8_setEffect_X8_in : GoodIn wsX8_setEffect wsX8_in := goodIn_r _ [14] (by decide +kernel) (by decide +kernel)
set_option maxRecDepth 20000 in
theorem gX8_setEffect_X8_in : GoodIn wsX8_setEffect (va_wsS RX8 45 yX8_in wsX8_in) := goodIn_app (goodIn_of _ (by decide +kernel)) ggX8_setEffect_X8_in
set_option maxRecDepth 20000 in
theorem ggX8_setEffect_X8_save : GoodIn wsX8_setEffect wsX8_save := goodIn_r _ [27, 28, 29, 3, 37, 38, 39, 40, 41, 42, 43, 44, 45, 46, 47] (by decide +kernel) (by decide +kernel)
set_option maxRecDepth 20000 in
theorem gX8_setEffect_X8_save : GoodIn wsX8_setEffect (wsV RX8 72 RX8 yX8_save wsX8_save) := goodIn_app (goodIn_of _ (by decide +kernel)) ggX8_setEffect_X8_save
set_option maxRecDepth 20000 in
theorem ggX8_setEffect_X8_cellAt : GoodIn wsX8_setEffect wsX8_cellAt := goodIn_r _ [32] (by decide +kernel) (by decide +kernel)
set_option maxRecDepth 20000 in
theorem gX8_setEffect_X8_cellAt : GoodIn wsX8_setEffect (va_wsS RX8 39 yX8_cellAt wsX8_cellAt) := goodIn_app (goodIn_of _ (by decide +kernel)) ggX8_setEffect_X8_cellAt
set_option maxRecDepth 20000 in
theorem ggX8_setEffect_X8_fine : GoodIn wsX8_setEffect wsX8_fine := goodIn_r _ [36, 23, 37, 38, 39, 40, 41, 42, 43, 44, 45, 46, 47] (by decide +kernel) (by decide +kernel)
set_option maxRecDepth 20000 in
theorem gX8_setEffect_X8_fine : GoodIn wsX8_setEffect (wsV RX8 75 RX8 yX8_fine wsX8_fine) := goodIn_app (goodIn_of _ (by decide +kernel)) ggX8_setEffect_X8_fine
theorem dX8_setEffect_0 : decode cX8_setEffect 0 = .ok (.iload_n 1, 1) := by decide +kernel
theorem dX8_setEffect_1 : decode cX8_setEffect 1 = .ok (.iload_n 2, 1) := by decide +kernel
theorem dX8_setEffect_2 : decode cX8_setEffect 2 = .ok (.iload_n 3, 1) := by decide +kernel
theorem dX8_setEffect_3 : decode cX8_setEffect 3 = .ok (.invokestatic 60, 3) := by decide +kernel
theorem dX8_setEffect_6 : decode cX8_setEffect 6 = .ok (.ifCond .ne 9, 3) := by decide +kernel
theorem dX8_setEffect_9 : decode cX8_setEffect 9 = .ok (.aload_n 0, 1) := by decide +kernel
theorem dX8_setEffect_10 : decode cX8_setEffect 10 = .ok (.iconst 1, 1) := by decide +kernel
theorem dX8_setEffect_11 : decode cX8_setEffect 11 = .ok (.invokevirtual 64, 3) := by decide +kernel
theorem dX8_setEffect_14 : decode cX8_setEffect 14 = .ok (.ireturn, 1) := by decide +kernel
theorem dX8_setEffect_15 : decode cX8_setEffect 15 = .ok (.iload 4, 2) := by decide +kernel
theorem dX8_setEffect_17 : decode cX8_setEffect 17 = .ok (.i2l, 1) := by decide +kernel
theorem dX8_setEffect_18 : decode cX8_setEffect 18 = .ok (.lconst 0, 1) := by decide +kernel
theorem dX8_setEffect_19 : decode cX8_setEffect 19 = .ok (.ldc2_w 55, 3) := by decide +kernel
theorem dX8_setEffect_22 : decode cX8_setEffect 22 = .ok (.invokestatic 45, 3) := by decide +kernel
theorem dX8_setEffect_25 : decode cX8_setEffect 25 = .ok (.ifCond .eq 16, 3) := by decide +kernel
theorem dX8_setEffect_28 : decode cX8_setEffect 28 = .ok (.iload 5, 2) := by decide +kernel
theorem dX8_setEffect_30 : decode cX8_setEffect 30 = .ok (.i2l, 1) := by decide +kernel
theorem dX8_setEffect_31 : decode cX8_setEffect 31 = .ok (.lconst 0, 1) := by decide +kernel
theorem dX8_setEffect_32 : decode cX8_setEffect 32 = .ok (.ldc2_w 78, 3) := by decide +kernel
theorem dX8_setEffect_35 : decode cX8_setEffect 35 = .ok (.invokestatic 45, 3) := by decide +kernel
theorem dX8_setEffect_38 : decode cX8_setEffect 38 = .ok (.ifCond .ne 9, 3) := by decide +kernel
theorem dX8_setEffect_41 : decode cX8_setEffect 41 = .ok (.aload_n 0, 1) := by decide +kernel
theorem dX8_setEffect_42 : decode cX8_setEffect 42 = .ok (.iconst 2, 1) := by decide +kernel
theorem dX8_setEffect_43 : decode cX8_setEffect 43 = .ok (.invokevirtual 64, 3) := by decide +kernel
theorem dX8_setEffect_46 : decode cX8_setEffect 46 = .ok (.ireturn, 1) := by decide +kernel
theorem dX8_setEffect_47 : decode cX8_setEffect 47 = .ok (.aload_n 0, 1) := by decide +kernel
theorem dX8_setEffect_48 : decode cX8_setEffect 48 = .ok (.invokevirtual 72, 3) := by decide +kernel
theorem dX8_setEffect_51 : decode cX8_setEffect 51 = .ok (.iload_n 1, 1) := by decide +kernel
theorem dX8_setEffect_52 : decode cX8_setEffect 52 = .ok (.iload_n 2, 1) := by decide +kernel
theorem dX8_setEffect_53 : decode cX8_setEffect 53 = .ok (.iload_n 3, 1) := by decide +kernel
theorem dX8_setEffect_54 : decode cX8_setEffect 54 = .ok (.invokestatic 39, 3) := by decide +kernel
theorem dX8_setEffect_57 : decode cX8_setEffect 57 = .ok (.istore 6, 2) := by decide +kernel
theorem dX8_setEffect_59 : decode cX8_setEffect 59 = .ok (.aload_n 0, 1) := by decide +kernel
theorem dX8_setEffect_60 : decode cX8_setEffect 60 = .ok (.getfield 7, 3) := by decide +kernel
theorem dX8_setEffect_63 : decode cX8_setEffect 63 = .ok (.iload 6, 2) := by decide +kernel
theorem dX8_setEffect_65 : decode cX8_setEffect 65 = .ok (.iconst 2, 1) := by decide +kernel
theorem dX8_setEffect_66 : decode cX8_setEffect 66 = .ok (.iadd, 1) := by decide +kernel
theorem dX8_setEffect_67 : decode cX8_setEffect 67 = .ok (.iaload, 1) := by decide +kernel
theorem dX8_setEffect_68 : decode cX8_setEffect 68 = .ok (.istore 7, 2) := by decide +kernel
theorem dX8_setEffect_70 : decode cX8_setEffect 70 = .ok (.aload_n 0, 1) := by decide +kernel
theorem dX8_setEffect_71 : decode cX8_setEffect 71 = .ok (.getfield 7, 3) := by decide +kernel
theorem dX8_setEffect_74 : decode cX8_setEffect 74 = .ok (.iload 6, 2) := by decide +kernel
theorem dX8_setEffect_76 : decode cX8_setEffect 76 = .ok (.iconst 2, 1) := by decide +kernel
theorem dX8_setEffect_77 : decode cX8_setEffect 77 = .ok (.iadd, 1) := by decide +kernel
theorem dX8_setEffect_78 : decode cX8_setEffect 78 = .ok (.iload 4, 2) := by decide +kernel
theorem dX8_setEffect_80 : decode cX8_setEffect 80 = .ok (.iastore, 1) := by decide +kernel
theorem dX8_setEffect_81 : decode cX8_setEffect 81 = .ok (.aload_n 0, 1) := by decide +kernel
theorem dX8_setEffect_82 : decode cX8_setEffect 82 = .ok (.getfield 7, 3) := by decide +kernel
theorem dX8_setEffect_85 : decode cX8_setEffect 85 = .ok (.iload 6, 2) := by decide +kernel
theorem dX8_setEffect_87 : decode cX8_setEffect 87 = .ok (.iconst 3, 1) := by decide +kernel
theorem dX8_setEffect_88 : decode cX8_setEffect 88 = .ok (.iadd, 1) := by decide +kernel
theorem dX8_setEffect_89 : decode cX8_setEffect 89 = .ok (.iload 5, 2) := by decide +kernel
theorem dX8_setEffect_91 : decode cX8_setEffect 91 = .ok (.iastore, 1) := by decide +kernel
theorem dX8_setEffect_92 : decode cX8_setEffect 92 = .ok (.aload_n 0, 1) := by decide +kernel
theorem dX8_setEffect_93 : decode cX8_setEffect 93 = .ok (.iload 7, 2) := by decide +kernel
theorem dX8_setEffect_95 : decode cX8_setEffect 95 = .ok (.invokevirtual 75, 3) := by decide +kernel
theorem dX8_setEffect_98 : decode cX8_setEffect 98 = .ok (.ireturn, 1) := by decide +kernel
set_option maxRecDepth 20000 in
theorem ggX8_setRows_X8_isPattern : GoodIn wsX8_setRows wsX8_isPattern := goodIn_r _ [6, 7, 8, 9, 5, 10] (by decide +kernel) (by decide +kernel)
set_option maxRecDepth 20000 in
theorem gX8_setRows_X8_isPattern : GoodIn wsX8_setRows (va_wsS RX8 51 yX8_isPattern wsX8_isPattern) := goodIn_app (goodIn_of _ (by decide +kernel)) ggX8_setRows_X8_isPattern
set_option maxRecDepth 20000 in
theorem ggX8_setRows_X8_throwing : GoodIn wsX8_setRows wsX8_throwing := goodIn_r _ [14, 15, 26, 27, 28, 29, 30, 31, 32, 33, 34, 35, 36] (by decide +kernel) (by decide +kernel)
set_option maxRecDepth 20000 in
theorem gX8_setRows_X8_throwing : GoodIn wsX8_setRows (wsV RX8 64 RX8 yX8_throwing wsX8_throwing) := goodIn_app (goodIn_of _ (by decide +kernel)) ggX8_setRows_X8_throwing
set_option maxRecDepth 20000 in
theorem ggX8_setRows_X8_in : GoodIn wsX8_setRows wsX8_in := goodIn_r _ [10] (by decide +kernel) (by decide +kernel)
set_option maxRecDepth 20000 in
theorem gX8_setRows_X8_in : GoodIn wsX8_setRows (va_wsS RX8 45 yX8_in wsX8_in) := goodIn_app (goodIn_of _ (by decide +kernel)) ggX8_setRows_X8_in
set_option maxRecDepth 20000 in
theorem ggX8_setRows_X8_save : GoodIn wsX8_setRows wsX8_save := goodIn_r _ [19, 20, 21, 2, 26, 27, 28, 29, 30, 31, 32, 33, 34, 35, 36] (by decide +kernel) (by decide +kernel)
set_option maxRecDepth 20000 in
theorem gX8_setRows_X8_save : GoodIn wsX8_setRows (wsV RX8 72 RX8 yX8_save wsX8_save) := goodIn_app (goodIn_of _ (by decide +kernel)) ggX8_setRows_X8_save
set_option maxRecDepth 20000 in
theorem ggX8_setRows_X8_fine : GoodIn wsX8_setRows wsX8_fine := goodIn_r _ [25, 15, 26, 27, 28, 29, 30, 31, 32, 33, 34, 35, 36] (by decide +kernel) (by decide +kernel)
set_option maxRecDepth 20000 in
theorem gX8_setRows_X8_fine : GoodIn wsX8_setRows (wsV RX8 75 RX8 yX8_fine wsX8_fine) := goodIn_app (goodIn_of _ (by decide +kernel)) ggX8_setRows_X8_fine
theorem dX8_setRows_0 : decode cX8_setRows 0 = .ok (.iload_n 1, 1) := by decide +kernel
theorem dX8_setRows_1 : decode cX8_setRows 1 = .ok (.invokestatic 51, 3) := by decide +kernel
theorem dX8_setRows_4 : decode cX8_setRows 4 = .ok (.ifCond .ne 9, 3) := by decide +kernel
theorem dX8_setRows_7 : decode cX8_setRows 7 = .ok (.aload_n 0, 1) := by decide +kernel
theorem dX8_setRows_8 : decode cX8_setRows 8 = .ok (.iconst 1, 1) := by decide +kernel
theorem dX8_setRows_9 : decode cX8_setRows 9 = .ok (.invokevirtual 64, 3) := by decide +kernel
theorem dX8_setRows_12 : decode cX8_setRows 12 = .ok (.ireturn, 1) := by decide +kernel
theorem dX8_setRows_13 : decode cX8_setRows 13 = .ok (.iload_n 2, 1) := by decide +kernel
theorem dX8_setRows_14 : decode cX8_setRows 14 = .ok (.i2l, 1) := by decide +kernel
theorem dX8_setRows_15 : decode cX8_setRows 15 = .ok (.lconst 1, 1) := by decide +kernel
theorem dX8_setRows_16 : decode cX8_setRows 16 = .ok (.ldc2_w 80, 3) := by decide +kernel
theorem dX8_setRows_19 : decode cX8_setRows 19 = .ok (.invokestatic 45, 3) := by decide +kernel
theorem dX8_setRows_22 : decode cX8_setRows 22 = .ok (.ifCond .ne 9, 3) := by decide +kernel
theorem dX8_setRows_25 : decode cX8_setRows 25 = .ok (.aload_n 0, 1) := by decide +kernel
theorem dX8_setRows_26 : decode cX8_setRows 26 = .ok (.iconst 2, 1) := by decide +kernel
theorem dX8_setRows_27 : decode cX8_setRows 27 = .ok (.invokevirtual 64, 3) := by decide +kernel
theorem dX8_setRows_30 : decode cX8_setRows 30 = .ok (.ireturn, 1) := by decide +kernel
theorem dX8_setRows_31 : decode cX8_setRows 31 = .ok (.aload_n 0, 1) := by decide +kernel
theorem dX8_setRows_32 : decode cX8_setRows 32 = .ok (.invokevirtual 72, 3) := by decide +kernel
theorem dX8_setRows_35 : decode cX8_setRows 35 = .ok (.aload_n 0, 1) := by decide +kernel
theorem dX8_setRows_36 : decode cX8_setRows 36 = .ok (.getfield 7, 3) := by decide +kernel
theorem dX8_setRows_39 : decode cX8_setRows 39 = .ok (.bipush 15, 2) := by decide +kernel
theorem dX8_setRows_41 : decode cX8_setRows 41 = .ok (.iload_n 1, 1) := by decide +kernel
theorem dX8_setRows_42 : decode cX8_setRows 42 = .ok (.iadd, 1) := by decide +kernel
theorem dX8_setRows_43 : decode cX8_setRows 43 = .ok (.iaload, 1) := by decide +kernel
theorem dX8_setRows_44 : decode cX8_setRows 44 = .ok (.istore_n 3, 1) := by decide +kernel
theorem dX8_setRows_45 : decode cX8_setRows 45 = .ok (.aload_n 0, 1) := by decide +kernel
theorem dX8_setRows_46 : decode cX8_setRows 46 = .ok (.getfield 7, 3) := by decide +kernel
theorem dX8_setRows_49 : decode cX8_setRows 49 = .ok (.bipush 15, 2) := by decide +kernel
theorem dX8_setRows_51 : decode cX8_setRows 51 = .ok (.iload_n 1, 1) := by decide +kernel
theorem dX8_setRows_52 : decode cX8_setRows 52 = .ok (.iadd, 1) := by decide +kernel
theorem dX8_setRows_53 : decode cX8_setRows 53 = .ok (.iload_n 2, 1) := by decide +kernel
theorem dX8_setRows_54 : decode cX8_setRows 54 = .ok (.iastore, 1) := by decide +kernel
theorem dX8_setRows_55 : decode cX8_setRows 55 = .ok (.aload_n 0, 1) := by decide +kernel
theorem dX8_setRows_56 : decode cX8_setRows 56 = .ok (.iload_n 3, 1) := by decide +kernel
theorem dX8_setRows_57 : decode cX8_setRows 57 = .ok (.invokevirtual 75, 3) := by decide +kernel
theorem dX8_setRows_60 : decode cX8_setRows 60 = .ok (.ireturn, 1) := by decide +kernel
set_option maxRecDepth 20000 in
theorem ggX8_setOrder_X8_in : GoodIn wsX8_setOrder wsX8_in := goodIn_r _ [5] (by decide +kernel) (by decide +kernel)
set_option maxRecDepth 20000 in
theorem gX8_setOrder_X8_in : GoodIn wsX8_setOrder (va_wsS RX8 45 yX8_in wsX8_in) := goodIn_app (goodIn_of _ (by decide +kernel)) ggX8_setOrder_X8_in
set_option maxRecDepth 20000 in
theorem ggX8_setOrder_X8_throwing : GoodIn wsX8_setOrder wsX8_throwing := goodIn_r _ [9, 10, 25, 26, 27, 28, 29, 30, 31, 32, 33, 34, 35] (by decide +kernel) (by decide +kernel)
set_option maxRecDepth 20000 in
theorem gX8_setOrder_X8_throwing : GoodIn wsX8_setOrder (wsV RX8 64 RX8 yX8_throwing wsX8_throwing) := goodIn_app (goodIn_of _ (by decide +kernel)) ggX8_setOrder_X8_throwing
set_option maxRecDepth 20000 in
theorem ggX8_setOrder_X8_isPattern : GoodIn wsX8_setOrder wsX8_isPattern := goodIn_r _ [13, 14, 2, 3, 4, 5] (by decide +kernel) (by decide +kernel)
set_option maxRecDepth 20000 in
theorem gX8_setOrder_X8_isPattern : GoodIn wsX8_setOrder (va_wsS RX8 51 yX8_isPattern wsX8_isPattern) := goodIn_app (goodIn_of _ (by decide +kernel)) ggX8_setOrder_X8_isPattern
set_option maxRecDepth 20000 in
theorem ggX8_setOrder_X8_save : GoodIn wsX8_setOrder wsX8_save := goodIn_r _ [18, 19, 20, 1, 25, 26, 27, 28, 29, 30, 31, 32, 33, 34, 35] (by decide +kernel) (by decide +kernel)
set_option maxRecDepth 20000 in
theorem gX8_setOrder_X8_save : GoodIn wsX8_setOrder (wsV RX8 72 RX8 yX8_save wsX8_save) := goodIn_app (goodIn_of _ (by decide +kernel)) ggX8_setOrder_X8_save
set_option maxRecDepth 20000 in
theorem ggX8_setOrder_X8_fine : GoodIn wsX8_setOrder wsX8_fine := goodIn_r _ [24, 10, 25, 26, 27, 28, 29, 30, 31, 32, 33, 34, 35] (by decide +kernel) (by decide +kernel)
set_option maxRecDepth 20000 in
theorem gX8_setOrder_X8_fine : GoodIn wsX8_setOrder (wsV RX8 75 RX8 yX8_fine wsX8_fine) := goodIn_app (goodIn_of _ (by decide +kernel)) ggX8_setOrder_X8_fine
theorem dX8_setOrder_0 : decode cX8_setOrder 0 = .ok (.iload_n 1, 1) := by decide +kernel
theorem dX8_setOrder_1 : decode cX8_setOrder 1 = .ok (.i2l, 1) := by decide +kernel
theorem dX8_setOrder_2 : decode cX8_setOrder 2 = .ok (.lconst 0, 1) := by decide +kernel
theorem dX8_setOrder_3 : decode cX8_setOrder 3 = .ok (.aload_n 0, 1) := by decide +kernel
theorem dX8_setOrder_4 : decode cX8_setOrder 4 = .ok (.getfield 7, 3) := by decide +kernel
theorem dX8_setOrder_7 : decode cX8_setOrder 7 = .ok (.bipush 6, 2) := by decide +kernel
theorem dX8_setOrder_9 : decode cX8_setOrder 9 = .ok (.iaload, 1) := by decide +kernel
theorem dX8_setOrder_10 : decode cX8_setOrder 10 = .ok (.i2l, 1) := by decide +kernel
theorem dX8_setOrder_11 : decode cX8_setOrder 11 = .ok (.invokestatic 45, 3) := by decide +kernel
theorem dX8_setOrder_14 : decode cX8_setOrder 14 = .ok (.ifCond .eq 9, 3) := by decide +kernel
theorem dX8_setOrder_17 : decode cX8_setOrder 17 = .ok (.iload_n 1, 1) := by decide +kernel
theorem dX8_setOrder_18 : decode cX8_setOrder 18 = .ok (.bipush 8, 2) := by decide +kernel
theorem dX8_setOrder_20 : decode cX8_setOrder 20 = .ok (.if_icmp .lt 9, 3) := by decide +kernel
theorem dX8_setOrder_23 : decode cX8_setOrder 23 = .ok (.aload_n 0, 1) := by decide +kernel
theorem dX8_setOrder_24 : decode cX8_setOrder 24 = .ok (.iconst 1, 1) := by decide +kernel
theorem dX8_setOrder_25 : decode cX8_setOrder 25 = .ok (.invokevirtual 64, 3) := by decide +kernel
theorem dX8_setOrder_28 : decode cX8_setOrder 28 = .ok (.ireturn, 1) := by decide +kernel
theorem dX8_setOrder_29 : decode cX8_setOrder 29 = .ok (.iload_n 2, 1) := by decide +kernel
theorem dX8_setOrder_30 : decode cX8_setOrder 30 = .ok (.invokestatic 51, 3) := by decide +kernel
theorem dX8_setOrder_33 : decode cX8_setOrder 33 = .ok (.ifCond .ne 9, 3) := by decide +kernel
theorem dX8_setOrder_36 : decode cX8_setOrder 36 = .ok (.aload_n 0, 1) := by decide +kernel
theorem dX8_setOrder_37 : decode cX8_setOrder 37 = .ok (.iconst 2, 1) := by decide +kernel
theorem dX8_setOrder_38 : decode cX8_setOrder 38 = .ok (.invokevirtual 64, 3) := by decide +kernel
theorem dX8_setOrder_41 : decode cX8_setOrder 41 = .ok (.ireturn, 1) := by decide +kernel
theorem dX8_setOrder_42 : decode cX8_setOrder 42 = .ok (.aload_n 0, 1) := by decide +kernel
theorem dX8_setOrder_43 : decode cX8_setOrder 43 = .ok (.invokevirtual 72, 3) := by decide +kernel
theorem dX8_setOrder_46 : decode cX8_setOrder 46 = .ok (.aload_n 0, 1) := by decide +kernel
theorem dX8_setOrder_47 : decode cX8_setOrder 47 = .ok (.getfield 7, 3) := by decide +kernel
theorem dX8_setOrder_50 : decode cX8_setOrder 50 = .ok (.bipush 7, 2) := by decide +kernel
theorem dX8_setOrder_52 : decode cX8_setOrder 52 = .ok (.iload_n 1, 1) := by decide +kernel
theorem dX8_setOrder_53 : decode cX8_setOrder 53 = .ok (.iadd, 1) := by decide +kernel
theorem dX8_setOrder_54 : decode cX8_setOrder 54 = .ok (.iload_n 2, 1) := by decide +kernel
theorem dX8_setOrder_55 : decode cX8_setOrder 55 = .ok (.iastore, 1) := by decide +kernel
theorem dX8_setOrder_56 : decode cX8_setOrder 56 = .ok (.aload_n 0, 1) := by decide +kernel
theorem dX8_setOrder_57 : decode cX8_setOrder 57 = .ok (.getfield 7, 3) := by decide +kernel
theorem dX8_setOrder_60 : decode cX8_setOrder 60 = .ok (.bipush 6, 2) := by decide +kernel
theorem dX8_setOrder_62 : decode cX8_setOrder 62 = .ok (.dup2, 1) := by decide +kernel
theorem dX8_setOrder_63 : decode cX8_setOrder 63 = .ok (.iaload, 1) := by decide +kernel
theorem dX8_setOrder_64 : decode cX8_setOrder 64 = .ok (.iload_n 1, 1) := by decide +kernel
theorem dX8_setOrder_65 : decode cX8_setOrder 65 = .ok (.aload_n 0, 1) := by decide +kernel
theorem dX8_setOrder_66 : decode cX8_setOrder 66 = .ok (.getfield 7, 3) := by decide +kernel
theorem dX8_setOrder_69 : decode cX8_setOrder 69 = .ok (.bipush 6, 2) := by decide +kernel
theorem dX8_setOrder_71 : decode cX8_setOrder 71 = .ok (.iaload, 1) := by decide +kernel
theorem dX8_setOrder_72 : decode cX8_setOrder 72 = .ok (.if_icmp .ne 7, 3) := by decide +kernel
theorem dX8_setOrder_75 : decode cX8_setOrder 75 = .ok (.iconst 1, 1) := by decide +kernel
theorem dX8_setOrder_76 : decode cX8_setOrder 76 = .ok (.goto 4, 3) := by decide +kernel
theorem dX8_setOrder_79 : decode cX8_setOrder 79 = .ok (.iconst 0, 1) := by decide +kernel
theorem dX8_setOrder_80 : decode cX8_setOrder 80 = .ok (.iadd, 1) := by decide +kernel
theorem dX8_setOrder_81 : decode cX8_setOrder 81 = .ok (.iastore, 1) := by decide +kernel
theorem dX8_setOrder_82 : decode cX8_setOrder 82 = .ok (.aload_n 0, 1) := by decide +kernel
theorem dX8_setOrder_83 : decode cX8_setOrder 83 = .ok (.aload_n 0, 1) := by decide +kernel
theorem dX8_setOrder_84 : decode cX8_setOrder 84 = .ok (.getfield 7, 3) := by decide +kernel
theorem dX8_setOrder_87 : decode cX8_setOrder 87 = .ok (.bipush 6, 2) := by decide +kernel
theorem dX8_setOrder_89 : decode cX8_setOrder 89 = .ok (.iaload, 1) := by decide +kernel
theorem dX8_setOrder_90 : decode cX8_setOrder 90 = .ok (.invokevirtual 75, 3) := by decide +kernel
theorem dX8_setOrder_93 : decode cX8_setOrder 93 = .ok (.ireturn, 1) := by decide +kernel
set_option maxRecDepth 20000 in
theorem ggX8_shorten_X8_throwing : GoodIn wsX8_shorten wsX8_throwing := goodIn_r _ [6, 7, 18, 19, 20, 21, 22, 23, 24, 25, 26, 27, 28] (by decide +kernel) (by decide +kernel)
set_option maxRecDepth 20000 in
theorem gX8_shorten_X8_throwing : GoodIn wsX8_shorten (wsV RX8 64 RX8 yX8_throwing wsX8_throwing) := goodIn_app (goodIn_of _ (by decide +kernel)) ggX8_shorten_X8_throwing
set_option maxRecDepth 20000 in
theorem ggX8_shorten_X8_save : GoodIn wsX8_shorten wsX8_save := goodIn_r _ [11, 12, 13, 1, 18, 19, 20, 21, 22, 23, 24, 25, 26, 27, 28] (by decide +kernel) (by decide +kernel)
set_option maxRecDepth 20000 in
theorem gX8_shorten_X8_save : GoodIn wsX8_shorten (wsV RX8 72 RX8 yX8_save wsX8_save) := goodIn_app (goodIn_of _ (by decide +kernel)) ggX8_shorten_X8_save
set_option maxRecDepth 20000 in
theorem ggX8_shorten_X8_fine : GoodIn wsX8_shorten wsX8_fine := goodIn_r _ [17, 7, 18, 19, 20, 21, 22, 23, 24, 25, 26, 27, 28] (by decide +kernel) (by decide +kernel)
set_option maxRecDepth 20000 in
theorem gX8_shorten_X8_fine : GoodIn wsX8_shorten (wsV RX8 75 RX8 yX8_fine wsX8_fine) := goodIn_app (goodIn_of _ (by decide +kernel)) ggX8_shorten_X8_fine
theorem dX8_shorten_0 : decode cX8_shorten 0 = .ok (.aload_n 0, 1) := by decide +kernel
theorem dX8_shorten_1 : decode cX8_shorten 1 = .ok (.getfield 7, 3) := by decide +kernel
theorem dX8_shorten_4 : decode cX8_shorten 4 = .ok (.bipush 6, 2) := by decide +kernel
theorem dX8_shorten_6 : decode cX8_shorten 6 = .ok (.iaload, 1) := by decide +kernel
theorem dX8_shorten_7 : decode cX8_shorten 7 = .ok (.iconst 1, 1) := by decide +kernel
theorem dX8_shorten_8 : decode cX8_shorten 8 = .ok (.if_icmp .eq 21, 3) := by decide +kernel
theorem dX8_shorten_11 : decode cX8_shorten 11 = .ok (.aload_n 0, 1) := by decide +kernel
theorem dX8_shorten_12 : decode cX8_shorten 12 = .ok (.getfield 7, 3) := by decide +kernel
theorem dX8_shorten_15 : decode cX8_shorten 15 = .ok (.iconst 0, 1) := by decide +kernel
theorem dX8_shorten_16 : decode cX8_shorten 16 = .ok (.iaload, 1) := by decide +kernel
theorem dX8_shorten_17 : decode cX8_shorten 17 = .ok (.aload_n 0, 1) := by decide +kernel
theorem dX8_shorten_18 : decode cX8_shorten 18 = .ok (.getfield 7, 3) := by decide +kernel
theorem dX8_shorten_21 : decode cX8_shorten 21 = .ok (.bipush 6, 2) := by decide +kernel
theorem dX8_shorten_23 : decode cX8_shorten 23 = .ok (.iaload, 1) := by decide +kernel
theorem dX8_shorten_24 : decode cX8_shorten 24 = .ok (.iconst 1, 1) := by decide +kernel
theorem dX8_shorten_25 : decode cX8_shorten 25 = .ok (.isub, 1) := by decide +kernel
theorem dX8_shorten_26 : decode cX8_shorten 26 = .ok (.if_icmp .ne 9, 3) := by decide +kernel
theorem dX8_shorten_29 : decode cX8_shorten 29 = .ok (.aload_n 0, 1) := by decide +kernel
theorem dX8_shorten_30 : decode cX8_shorten 30 = .ok (.iconst 1, 1) := by decide +kernel
theorem dX8_shorten_31 : decode cX8_shorten 31 = .ok (.invokevirtual 64, 3) := by decide +kernel
theorem dX8_shorten_34 : decode cX8_shorten 34 = .ok (.ireturn, 1) := by decide +kernel
theorem dX8_shorten_35 : decode cX8_shorten 35 = .ok (.aload_n 0, 1) := by decide +kernel
theorem dX8_shorten_36 : decode cX8_shorten 36 = .ok (.invokevirtual 72, 3) := by decide +kernel
theorem dX8_shorten_39 : decode cX8_shorten 39 = .ok (.aload_n 0, 1) := by decide +kernel
theorem dX8_shorten_40 : decode cX8_shorten 40 = .ok (.getfield 7, 3) := by decide +kernel
theorem dX8_shorten_43 : decode cX8_shorten 43 = .ok (.bipush 6, 2) := by decide +kernel
theorem dX8_shorten_45 : decode cX8_shorten 45 = .ok (.dup2, 1) := by decide +kernel
theorem dX8_shorten_46 : decode cX8_shorten 46 = .ok (.iaload, 1) := by decide +kernel
theorem dX8_shorten_47 : decode cX8_shorten 47 = .ok (.iconst 1, 1) := by decide +kernel
theorem dX8_shorten_48 : decode cX8_shorten 48 = .ok (.isub, 1) := by decide +kernel
theorem dX8_shorten_49 : decode cX8_shorten 49 = .ok (.iastore, 1) := by decide +kernel
theorem dX8_shorten_50 : decode cX8_shorten 50 = .ok (.aload_n 0, 1) := by decide +kernel
theorem dX8_shorten_51 : decode cX8_shorten 51 = .ok (.getfield 7, 3) := by decide +kernel
theorem dX8_shorten_54 : decode cX8_shorten 54 = .ok (.bipush 7, 2) := by decide +kernel
theorem dX8_shorten_56 : decode cX8_shorten 56 = .ok (.aload_n 0, 1) := by decide +kernel
theorem dX8_shorten_57 : decode cX8_shorten 57 = .ok (.getfield 7, 3) := by decide +kernel
theorem dX8_shorten_60 : decode cX8_shorten 60 = .ok (.bipush 6, 2) := by decide +kernel
theorem dX8_shorten_62 : decode cX8_shorten 62 = .ok (.iaload, 1) := by decide +kernel
theorem dX8_shorten_63 : decode cX8_shorten 63 = .ok (.iadd, 1) := by decide +kernel
theorem dX8_shorten_64 : decode cX8_shorten 64 = .ok (.iconst 0, 1) := by decide +kernel
theorem dX8_shorten_65 : decode cX8_shorten 65 = .ok (.iastore, 1) := by decide +kernel
theorem dX8_shorten_66 : decode cX8_shorten 66 = .ok (.aload_n 0, 1) := by decide +kernel
theorem dX8_shorten_67 : decode cX8_shorten 67 = .ok (.aload_n 0, 1) := by decide +kernel
theorem dX8_shorten_68 : decode cX8_shorten 68 = .ok (.getfield 7, 3) := by decide +kernel
theorem dX8_shorten_71 : decode cX8_shorten 71 = .ok (.bipush 6, 2) := by decide +kernel
theorem dX8_shorten_73 : decode cX8_shorten 73 = .ok (.iaload, 1) := by decide +kernel
theorem dX8_shorten_74 : decode cX8_shorten 74 = .ok (.invokevirtual 75, 3) := by decide +kernel
theorem dX8_shorten_77 : decode cX8_shorten 77 = .ok (.ireturn, 1) := by decide +kernel
set_option maxRecDepth 20000 in
theorem ggX8_cell_X8_isCell : GoodIn wsX8_cell wsX8_isCell := goodIn_r _ [6, 7, 8, 9, 5, 10, 11, 12, 13, 14, 15, 16, 17, 1] (by decide +kernel) (by decide +kernel)
set_option maxRecDepth 20000 in
theorem gX8_cell_X8_isCell : GoodIn wsX8_cell (va_wsS RX8 60 yX8_isCell wsX8_isCell) := goodIn_app (goodIn_of _ (by decide +kernel)) ggX8_cell_X8_isCell
set_option maxRecDepth 20000 in
theorem ggX8_cell_X8_throwing : GoodIn wsX8_cell wsX8_throwing := goodIn_r _ [21, 22, 30, 31, 32, 33, 34, 35, 36, 37, 38, 39, 40] (by decide +kernel) (by decide +kernel)
set_option maxRecDepth 20000 in
theorem gX8_cell_X8_throwing : GoodIn wsX8_cell (wsV RX8 64 RX8 yX8_throwing wsX8_throwing) := goodIn_app (goodIn_of _ (by decide +kernel)) ggX8_cell_X8_throwing
set_option maxRecDepth 20000 in
theorem ggX8_cell_X8_in : GoodIn wsX8_cell wsX8_in := goodIn_r _ [14] (by decide +kernel) (by decide +kernel)
set_option maxRecDepth 20000 in
theorem gX8_cell_X8_in : GoodIn wsX8_cell (va_wsS RX8 45 yX8_in wsX8_in) := goodIn_app (goodIn_of _ (by decide +kernel)) ggX8_cell_X8_in
set_option maxRecDepth 20000 in
theorem ggX8_cell_X8_cellAt : GoodIn wsX8_cell wsX8_cellAt := goodIn_r _ [25] (by decide +kernel) (by decide +kernel)
set_option maxRecDepth 20000 in
theorem gX8_cell_X8_cellAt : GoodIn wsX8_cell (va_wsS RX8 39 yX8_cellAt wsX8_cellAt) := goodIn_app (goodIn_of _ (by decide +kernel)) ggX8_cell_X8_cellAt
set_option maxRecDepth 20000 in
theorem ggX8_cell_X8_fine : GoodIn wsX8_cell wsX8_fine := goodIn_r _ [29, 22, 30, 31, 32, 33, 34, 35, 36, 37, 38, 39, 40] (by decide +kernel) (by decide +kernel)
set_option maxRecDepth 20000 in
theorem gX8_cell_X8_fine : GoodIn wsX8_cell (wsV RX8 75 RX8 yX8_fine wsX8_fine) := goodIn_app (goodIn_of _ (by decide +kernel)) ggX8_cell_X8_fine
theorem dX8_cell_0 : decode cX8_cell 0 = .ok (.iload_n 1, 1) := by decide +kernel
theorem dX8_cell_1 : decode cX8_cell 1 = .ok (.iload_n 2, 1) := by decide +kernel
theorem dX8_cell_2 : decode cX8_cell 2 = .ok (.iload_n 3, 1) := by decide +kernel
theorem dX8_cell_3 : decode cX8_cell 3 = .ok (.invokestatic 60, 3) := by decide +kernel
theorem dX8_cell_6 : decode cX8_cell 6 = .ok (.ifCond .ne 9, 3) := by decide +kernel
theorem dX8_cell_9 : decode cX8_cell 9 = .ok (.aload_n 0, 1) := by decide +kernel
theorem dX8_cell_10 : decode cX8_cell 10 = .ok (.iconst 1, 1) := by decide +kernel
theorem dX8_cell_11 : decode cX8_cell 11 = .ok (.invokevirtual 64, 3) := by decide +kernel
theorem dX8_cell_14 : decode cX8_cell 14 = .ok (.ireturn, 1) := by decide +kernel
theorem dX8_cell_15 : decode cX8_cell 15 = .ok (.iload 4, 2) := by decide +kernel
theorem dX8_cell_17 : decode cX8_cell 17 = .ok (.i2l, 1) := by decide +kernel
theorem dX8_cell_18 : decode cX8_cell 18 = .ok (.lconst 0, 1) := by decide +kernel
theorem dX8_cell_19 : decode cX8_cell 19 = .ok (.ldc2_w 49, 3) := by decide +kernel
theorem dX8_cell_22 : decode cX8_cell 22 = .ok (.invokestatic 45, 3) := by decide +kernel
theorem dX8_cell_25 : decode cX8_cell 25 = .ok (.ifCond .eq 24, 3) := by decide +kernel
theorem dX8_cell_28 : decode cX8_cell 28 = .ok (.aload_n 0, 1) := by decide +kernel
theorem dX8_cell_29 : decode cX8_cell 29 = .ok (.aload_n 0, 1) := by decide +kernel
theorem dX8_cell_30 : decode cX8_cell 30 = .ok (.getfield 7, 3) := by decide +kernel
theorem dX8_cell_33 : decode cX8_cell 33 = .ok (.iload_n 1, 1) := by decide +kernel
theorem dX8_cell_34 : decode cX8_cell 34 = .ok (.iload_n 2, 1) := by decide +kernel
theorem dX8_cell_35 : decode cX8_cell 35 = .ok (.iload_n 3, 1) := by decide +kernel
theorem dX8_cell_36 : decode cX8_cell 36 = .ok (.invokestatic 39, 3) := by decide +kernel
theorem dX8_cell_39 : decode cX8_cell 39 = .ok (.iload 4, 2) := by decide +kernel
theorem dX8_cell_41 : decode cX8_cell 41 = .ok (.iadd, 1) := by decide +kernel
theorem dX8_cell_42 : decode cX8_cell 42 = .ok (.iaload, 1) := by decide +kernel
theorem dX8_cell_43 : decode cX8_cell 43 = .ok (.invokevirtual 75, 3) := by decide +kernel
theorem dX8_cell_46 : decode cX8_cell 46 = .ok (.goto 8, 3) := by decide +kernel
theorem dX8_cell_49 : decode cX8_cell 49 = .ok (.aload_n 0, 1) := by decide +kernel
theorem dX8_cell_50 : decode cX8_cell 50 = .ok (.iconst 2, 1) := by decide +kernel
theorem dX8_cell_51 : decode cX8_cell 51 = .ok (.invokevirtual 64, 3) := by decide +kernel
theorem dX8_cell_54 : decode cX8_cell 54 = .ok (.ireturn, 1) := by decide +kernel
theorem dX8_calls_0 : decode cX8_calls 0 = .ok (.aload_n 0, 1) := by decide +kernel
theorem dX8_calls_1 : decode cX8_calls 1 = .ok (.getfield 7, 3) := by decide +kernel
theorem dX8_calls_4 : decode cX8_calls 4 = .ok (.iload_n 1, 1) := by decide +kernel
theorem dX8_calls_5 : decode cX8_calls 5 = .ok (.iconst 2, 1) := by decide +kernel
theorem dX8_calls_6 : decode cX8_calls 6 = .ok (.iadd, 1) := by decide +kernel
theorem dX8_calls_7 : decode cX8_calls 7 = .ok (.iaload, 1) := by decide +kernel
theorem dX8_calls_8 : decode cX8_calls 8 = .ok (.iconst 5, 1) := by decide +kernel
theorem dX8_calls_9 : decode cX8_calls 9 = .ok (.if_icmp .ne 20, 3) := by decide +kernel
theorem dX8_calls_12 : decode cX8_calls 12 = .ok (.aload_n 0, 1) := by decide +kernel
theorem dX8_calls_13 : decode cX8_calls 13 = .ok (.getfield 7, 3) := by decide +kernel
theorem dX8_calls_16 : decode cX8_calls 16 = .ok (.iload_n 1, 1) := by decide +kernel
theorem dX8_calls_17 : decode cX8_calls 17 = .ok (.iconst 3, 1) := by decide +kernel
theorem dX8_calls_18 : decode cX8_calls 18 = .ok (.iadd, 1) := by decide +kernel
theorem dX8_calls_19 : decode cX8_calls 19 = .ok (.iaload, 1) := by decide +kernel
theorem dX8_calls_20 : decode cX8_calls 20 = .ok (.bipush 6, 2) := by decide +kernel
theorem dX8_calls_22 : decode cX8_calls 22 = .ok (.if_icmp .ge 7, 3) := by decide +kernel
theorem dX8_calls_25 : decode cX8_calls 25 = .ok (.iconst 1, 1) := by decide +kernel
theorem dX8_calls_26 : decode cX8_calls 26 = .ok (.goto 4, 3) := by decide +kernel
theorem dX8_calls_29 : decode cX8_calls 29 = .ok (.iconst 0, 1) := by decide +kernel
theorem dX8_calls_30 : decode cX8_calls 30 = .ok (.ireturn, 1) := by decide +kernel
set_option maxRecDepth 20000 in
theorem ggX8_playable_X8_cellAt : GoodIn wsX8_playable wsX8_cellAt := goodIn_r _ [5] (by decide +kernel) (by decide +kernel)
set_option maxRecDepth 20000 in
theorem gX8_playable_X8_cellAt : GoodIn wsX8_playable (va_wsS RX8 39 yX8_cellAt wsX8_cellAt) := goodIn_app (goodIn_of _ (by decide +kernel)) ggX8_playable_X8_cellAt
set_option maxRecDepth 20000 in
theorem ggX8_playable_X8_calls : GoodIn wsX8_playable wsX8_calls := goodIn_r _ [9, 1, 10, 11, 12, 13, 14, 15, 16, 17, 18, 19, 20] (by decide +kernel) (by decide +kernel)
set_option maxRecDepth 20000 in
theorem gX8_playable_X8_calls : GoodIn wsX8_playable (wsV RX8 82 RX8 yX8_calls wsX8_calls) := goodIn_app (goodIn_of _ (by decide +kernel)) ggX8_playable_X8_calls
theorem dX8_playable_0 : decode cX8_playable 0 = .ok (.iconst 0, 1) := by decide +kernel
theorem dX8_playable_1 : decode cX8_playable 1 = .ok (.istore_n 1, 1) := by decide +kernel
theorem dX8_playable_2 : decode cX8_playable 2 = .ok (.iconst 0, 1) := by decide +kernel
theorem dX8_playable_3 : decode cX8_playable 3 = .ok (.istore_n 2, 1) := by decide +kernel
theorem dX8_playable_4 : decode cX8_playable 4 = .ok (.iload_n 2, 1) := by decide +kernel
theorem dX8_playable_5 : decode cX8_playable 5 = .ok (.aload_n 0, 1) := by decide +kernel
theorem dX8_playable_6 : decode cX8_playable 6 = .ok (.getfield 7, 3) := by decide +kernel
theorem dX8_playable_9 : decode cX8_playable 9 = .ok (.bipush 6, 2) := by decide +kernel
theorem dX8_playable_11 : decode cX8_playable 11 = .ok (.iaload, 1) := by decide +kernel
theorem dX8_playable_12 : decode cX8_playable 12 = .ok (.if_icmp .ge 23, 3) := by decide +kernel
theorem dX8_playable_15 : decode cX8_playable 15 = .ok (.iload_n 1, 1) := by decide +kernel
theorem dX8_playable_16 : decode cX8_playable 16 = .ok (.iconst 1, 1) := by decide +kernel
theorem dX8_playable_17 : decode cX8_playable 17 = .ok (.aload_n 0, 1) := by decide +kernel
theorem dX8_playable_18 : decode cX8_playable 18 = .ok (.getfield 7, 3) := by decide +kernel
theorem dX8_playable_21 : decode cX8_playable 21 = .ok (.bipush 7, 2) := by decide +kernel
theorem dX8_playable_23 : decode cX8_playable 23 = .ok (.iload_n 2, 1) := by decide +kernel
theorem dX8_playable_24 : decode cX8_playable 24 = .ok (.iadd, 1) := by decide +kernel
theorem dX8_playable_25 : decode cX8_playable 25 = .ok (.iaload, 1) := by decide +kernel
theorem dX8_playable_26 : decode cX8_playable 26 = .ok (.ishl, 1) := by decide +kernel
theorem dX8_playable_27 : decode cX8_playable 27 = .ok (.ior, 1) := by decide +kernel
theorem dX8_playable_28 : decode cX8_playable 28 = .ok (.istore_n 1, 1) := by decide +kernel
theorem dX8_playable_29 : decode cX8_playable 29 = .ok (.iinc 2 1, 3) := by decide +kernel
theorem dX8_playable_32 : decode cX8_playable 32 = .ok (.goto (-28), 3) := by decide +kernel
theorem dX8_playable_35 : decode cX8_playable 35 = .ok (.iconst 0, 1) := by decide +kernel
theorem dX8_playable_36 : decode cX8_playable 36 = .ok (.istore_n 2, 1) := by decide +kernel
theorem dX8_playable_37 : decode cX8_playable 37 = .ok (.iload_n 2, 1) := by decide +kernel
theorem dX8_playable_38 : decode cX8_playable 38 = .ok (.bipush 6, 2) := by decide +kernel
theorem dX8_playable_40 : decode cX8_playable 40 = .ok (.if_icmp .ge 102, 3) := by decide +kernel
theorem dX8_playable_43 : decode cX8_playable 43 = .ok (.iconst 0, 1) := by decide +kernel
theorem dX8_playable_44 : decode cX8_playable 44 = .ok (.istore_n 3, 1) := by decide +kernel
theorem dX8_playable_45 : decode cX8_playable 45 = .ok (.iload_n 3, 1) := by decide +kernel
theorem dX8_playable_46 : decode cX8_playable 46 = .ok (.bipush 6, 2) := by decide +kernel
theorem dX8_playable_48 : decode cX8_playable 48 = .ok (.if_icmp .ge 88, 3) := by decide +kernel
theorem dX8_playable_51 : decode cX8_playable 51 = .ok (.iload_n 3, 1) := by decide +kernel
theorem dX8_playable_52 : decode cX8_playable 52 = .ok (.iconst 0, 1) := by decide +kernel
theorem dX8_playable_53 : decode cX8_playable 53 = .ok (.iconst 0, 1) := by decide +kernel
theorem dX8_playable_54 : decode cX8_playable 54 = .ok (.invokestatic 39, 3) := by decide +kernel
theorem dX8_playable_57 : decode cX8_playable 57 = .ok (.istore 4, 2) := by decide +kernel
theorem dX8_playable_59 : decode cX8_playable 59 = .ok (.iconst 0, 1) := by decide +kernel
theorem dX8_playable_60 : decode cX8_playable 60 = .ok (.istore 5, 2) := by decide +kernel
theorem dX8_playable_62 : decode cX8_playable 62 = .ok (.iload 5, 2) := by decide +kernel
theorem dX8_playable_64 : decode cX8_playable 64 = .ok (.iconst 4, 1) := by decide +kernel
theorem dX8_playable_65 : decode cX8_playable 65 = .ok (.aload_n 0, 1) := by decide +kernel
theorem dX8_playable_66 : decode cX8_playable 66 = .ok (.getfield 7, 3) := by decide +kernel
theorem dX8_playable_69 : decode cX8_playable 69 = .ok (.bipush 15, 2) := by decide +kernel
theorem dX8_playable_71 : decode cX8_playable 71 = .ok (.iload_n 3, 1) := by decide +kernel
theorem dX8_playable_72 : decode cX8_playable 72 = .ok (.iadd, 1) := by decide +kernel
theorem dX8_playable_73 : decode cX8_playable 73 = .ok (.iaload, 1) := by decide +kernel
theorem dX8_playable_74 : decode cX8_playable 74 = .ok (.imul, 1) := by decide +kernel
theorem dX8_playable_75 : decode cX8_playable 75 = .ok (.if_icmp .ge 55, 3) := by decide +kernel
theorem dX8_playable_78 : decode cX8_playable 78 = .ok (.iload_n 1, 1) := by decide +kernel
theorem dX8_playable_79 : decode cX8_playable 79 = .ok (.iload_n 3, 1) := by decide +kernel
theorem dX8_playable_80 : decode cX8_playable 80 = .ok (.ishr, 1) := by decide +kernel
theorem dX8_playable_81 : decode cX8_playable 81 = .ok (.iconst 1, 1) := by decide +kernel
theorem dX8_playable_82 : decode cX8_playable 82 = .ok (.iand, 1) := by decide +kernel
theorem dX8_playable_83 : decode cX8_playable 83 = .ok (.iconst 1, 1) := by decide +kernel
theorem dX8_playable_84 : decode cX8_playable 84 = .ok (.if_icmp .ne 46, 3) := by decide +kernel
theorem dX8_playable_87 : decode cX8_playable 87 = .ok (.iload_n 1, 1) := by decide +kernel
theorem dX8_playable_88 : decode cX8_playable 88 = .ok (.aload_n 0, 1) := by decide +kernel
theorem dX8_playable_89 : decode cX8_playable 89 = .ok (.iload 4, 2) := by decide +kernel
theorem dX8_playable_91 : decode cX8_playable 91 = .ok (.iconst 4, 1) := by decide +kernel
theorem dX8_playable_92 : decode cX8_playable 92 = .ok (.iload 5, 2) := by decide +kernel
theorem dX8_playable_94 : decode cX8_playable 94 = .ok (.imul, 1) := by decide +kernel
theorem dX8_playable_95 : decode cX8_playable 95 = .ok (.iadd, 1) := by decide +kernel
theorem dX8_playable_96 : decode cX8_playable 96 = .ok (.invokevirtual 82, 3) := by decide +kernel
theorem dX8_playable_99 : decode cX8_playable 99 = .ok (.ifCond .eq 22, 3) := by decide +kernel
theorem dX8_playable_102 : decode cX8_playable 102 = .ok (.iconst 1, 1) := by decide +kernel
theorem dX8_playable_103 : decode cX8_playable 103 = .ok (.aload_n 0, 1) := by decide +kernel
theorem dX8_playable_104 : decode cX8_playable 104 = .ok (.getfield 7, 3) := by decide +kernel
theorem dX8_playable_107 : decode cX8_playable 107 = .ok (.iload 4, 2) := by decide +kernel
theorem dX8_playable_109 : decode cX8_playable 109 = .ok (.iconst 4, 1) := by decide +kernel
theorem dX8_playable_110 : decode cX8_playable 110 = .ok (.iload 5, 2) := by decide +kernel
theorem dX8_playable_112 : decode cX8_playable 112 = .ok (.imul, 1) := by decide +kernel
theorem dX8_playable_113 : decode cX8_playable 113 = .ok (.iadd, 1) := by decide +kernel
theorem dX8_playable_114 : decode cX8_playable 114 = .ok (.iconst 3, 1) := by decide +kernel
theorem dX8_playable_115 : decode cX8_playable 115 = .ok (.iadd, 1) := by decide +kernel
theorem dX8_playable_116 : decode cX8_playable 116 = .ok (.iaload, 1) := by decide +kernel
theorem dX8_playable_117 : decode cX8_playable 117 = .ok (.ishl, 1) := by decide +kernel
theorem dX8_playable_118 : decode cX8_playable 118 = .ok (.goto 4, 3) := by decide +kernel
theorem dX8_playable_121 : decode cX8_playable 121 = .ok (.iconst 0, 1) := by decide +kernel
theorem dX8_playable_122 : decode cX8_playable 122 = .ok (.ior, 1) := by decide +kernel
theorem dX8_playable_123 : decode cX8_playable 123 = .ok (.istore_n 1, 1) := by decide +kernel
theorem dX8_playable_124 : decode cX8_playable 124 = .ok (.iinc 5 1, 3) := by decide +kernel
theorem dX8_playable_127 : decode cX8_playable 127 = .ok (.goto (-65), 3) := by decide +kernel
theorem dX8_playable_130 : decode cX8_playable 130 = .ok (.iinc 3 1, 3) := by decide +kernel
theorem dX8_playable_133 : decode cX8_playable 133 = .ok (.goto (-88), 3) := by decide +kernel
theorem dX8_playable_136 : decode cX8_playable 136 = .ok (.iinc 2 1, 3) := by decide +kernel
theorem dX8_playable_139 : decode cX8_playable 139 = .ok (.goto (-102), 3) := by decide +kernel
theorem dX8_playable_142 : decode cX8_playable 142 = .ok (.iload_n 1, 1) := by decide +kernel
theorem dX8_playable_143 : decode cX8_playable 143 = .ok (.ireturn, 1) := by decide +kernel
set_option maxRecDepth 20000 in
theorem ggX8_cellsOf_X8_cellAt : GoodIn wsX8_cellsOf wsX8_cellAt := goodIn_r _ [6] (by decide +kernel) (by decide +kernel)
set_option maxRecDepth 20000 in
theorem gX8_cellsOf_X8_cellAt : GoodIn wsX8_cellsOf (va_wsS RX8 39 yX8_cellAt wsX8_cellAt) := goodIn_app (goodIn_of _ (by decide +kernel)) ggX8_cellsOf_X8_cellAt
set_option maxRecDepth 20000 in
theorem ggX8_cellsOf_X8_calls : GoodIn wsX8_cellsOf wsX8_calls := goodIn_r _ [10, 1, 14, 15, 16, 17, 18, 19, 20, 21, 22, 23, 24] (by decide +kernel) (by decide +kernel)
set_option maxRecDepth 20000 in
theorem gX8_cellsOf_X8_calls : GoodIn wsX8_cellsOf (wsV RX8 82 RX8 yX8_calls wsX8_calls) := goodIn_app (goodIn_of _ (by decide +kernel)) ggX8_cellsOf_X8_calls
set_option maxRecDepth 20000 in
theorem ggX8_cellsOf_X8_in : GoodIn wsX8_cellsOf wsX8_in := goodIn_r _ [13] (by decide +kernel) (by decide +kernel)
set_option maxRecDepth 20000 in
theorem gX8_cellsOf_X8_in : GoodIn wsX8_cellsOf (va_wsS RX8 45 yX8_in wsX8_in) := goodIn_app (goodIn_of _ (by decide +kernel)) ggX8_cellsOf_X8_in
theorem dX8_cellsOf_0 : decode cX8_cellsOf 0 = .ok (.iconst 0, 1) := by decide +kernel
theorem dX8_cellsOf_1 : decode cX8_cellsOf 1 = .ok (.istore_n 3, 1) := by decide +kernel
theorem dX8_cellsOf_2 : decode cX8_cellsOf 2 = .ok (.iload_n 1, 1) := by decide +kernel
theorem dX8_cellsOf_3 : decode cX8_cellsOf 3 = .ok (.iconst 0, 1) := by decide +kernel
theorem dX8_cellsOf_4 : decode cX8_cellsOf 4 = .ok (.iconst 0, 1) := by decide +kernel
theorem dX8_cellsOf_5 : decode cX8_cellsOf 5 = .ok (.invokestatic 39, 3) := by decide +kernel
theorem dX8_cellsOf_8 : decode cX8_cellsOf 8 = .ok (.istore 4, 2) := by decide +kernel
theorem dX8_cellsOf_10 : decode cX8_cellsOf 10 = .ok (.iconst 0, 1) := by decide +kernel
theorem dX8_cellsOf_11 : decode cX8_cellsOf 11 = .ok (.istore 5, 2) := by decide +kernel
theorem dX8_cellsOf_13 : decode cX8_cellsOf 13 = .ok (.iload 5, 2) := by decide +kernel
theorem dX8_cellsOf_15 : decode cX8_cellsOf 15 = .ok (.iconst 4, 1) := by decide +kernel
theorem dX8_cellsOf_16 : decode cX8_cellsOf 16 = .ok (.aload_n 0, 1) := by decide +kernel
theorem dX8_cellsOf_17 : decode cX8_cellsOf 17 = .ok (.getfield 7, 3) := by decide +kernel
theorem dX8_cellsOf_20 : decode cX8_cellsOf 20 = .ok (.bipush 15, 2) := by decide +kernel
theorem dX8_cellsOf_22 : decode cX8_cellsOf 22 = .ok (.iload_n 1, 1) := by decide +kernel
theorem dX8_cellsOf_23 : decode cX8_cellsOf 23 = .ok (.iadd, 1) := by decide +kernel
theorem dX8_cellsOf_24 : decode cX8_cellsOf 24 = .ok (.iaload, 1) := by decide +kernel
theorem dX8_cellsOf_25 : decode cX8_cellsOf 25 = .ok (.imul, 1) := by decide +kernel
theorem dX8_cellsOf_26 : decode cX8_cellsOf 26 = .ok (.if_icmp .ge 68, 3) := by decide +kernel
theorem dX8_cellsOf_29 : decode cX8_cellsOf 29 = .ok (.iload_n 3, 1) := by decide +kernel
theorem dX8_cellsOf_30 : decode cX8_cellsOf 30 = .ok (.iload_n 2, 1) := by decide +kernel
theorem dX8_cellsOf_31 : decode cX8_cellsOf 31 = .ok (.ifCond .eq 25, 3) := by decide +kernel
theorem dX8_cellsOf_34 : decode cX8_cellsOf 34 = .ok (.aload_n 0, 1) := by decide +kernel
theorem dX8_cellsOf_35 : decode cX8_cellsOf 35 = .ok (.iload 4, 2) := by decide +kernel
theorem dX8_cellsOf_37 : decode cX8_cellsOf 37 = .ok (.iconst 4, 1) := by decide +kernel
theorem dX8_cellsOf_38 : decode cX8_cellsOf 38 = .ok (.iload 5, 2) := by decide +kernel
theorem dX8_cellsOf_40 : decode cX8_cellsOf 40 = .ok (.imul, 1) := by decide +kernel
theorem dX8_cellsOf_41 : decode cX8_cellsOf 41 = .ok (.iadd, 1) := by decide +kernel
theorem dX8_cellsOf_42 : decode cX8_cellsOf 42 = .ok (.invokevirtual 82, 3) := by decide +kernel
theorem dX8_cellsOf_45 : decode cX8_cellsOf 45 = .ok (.ifCond .eq 7, 3) := by decide +kernel
theorem dX8_cellsOf_48 : decode cX8_cellsOf 48 = .ok (.iconst 1, 1) := by decide +kernel
theorem dX8_cellsOf_49 : decode cX8_cellsOf 49 = .ok (.goto 37, 3) := by decide +kernel
theorem dX8_cellsOf_52 : decode cX8_cellsOf 52 = .ok (.iconst 0, 1) := by decide +kernel
theorem dX8_cellsOf_53 : decode cX8_cellsOf 53 = .ok (.goto 33, 3) := by decide +kernel
theorem dX8_cellsOf_56 : decode cX8_cellsOf 56 = .ok (.aload_n 0, 1) := by decide +kernel
theorem dX8_cellsOf_57 : decode cX8_cellsOf 57 = .ok (.getfield 7, 3) := by decide +kernel
theorem dX8_cellsOf_60 : decode cX8_cellsOf 60 = .ok (.iload 4, 2) := by decide +kernel
theorem dX8_cellsOf_62 : decode cX8_cellsOf 62 = .ok (.iconst 4, 1) := by decide +kernel
theorem dX8_cellsOf_63 : decode cX8_cellsOf 63 = .ok (.iload 5, 2) := by decide +kernel
theorem dX8_cellsOf_65 : decode cX8_cellsOf 65 = .ok (.imul, 1) := by decide +kernel
theorem dX8_cellsOf_66 : decode cX8_cellsOf 66 = .ok (.iadd, 1) := by decide +kernel
theorem dX8_cellsOf_67 : decode cX8_cellsOf 67 = .ok (.iconst 0, 1) := by decide +kernel
theorem dX8_cellsOf_68 : decode cX8_cellsOf 68 = .ok (.iadd, 1) := by decide +kernel
theorem dX8_cellsOf_69 : decode cX8_cellsOf 69 = .ok (.iaload, 1) := by decide +kernel
theorem dX8_cellsOf_70 : decode cX8_cellsOf 70 = .ok (.i2l, 1) := by decide +kernel
theorem dX8_cellsOf_71 : decode cX8_cellsOf 71 = .ok (.lconst 1, 1) := by decide +kernel
theorem dX8_cellsOf_72 : decode cX8_cellsOf 72 = .ok (.ldc2_w 85, 3) := by decide +kernel
theorem dX8_cellsOf_75 : decode cX8_cellsOf 75 = .ok (.invokestatic 45, 3) := by decide +kernel
theorem dX8_cellsOf_78 : decode cX8_cellsOf 78 = .ok (.ifCond .eq 7, 3) := by decide +kernel
theorem dX8_cellsOf_81 : decode cX8_cellsOf 81 = .ok (.iconst 1, 1) := by decide +kernel
theorem dX8_cellsOf_82 : decode cX8_cellsOf 82 = .ok (.goto 4, 3) := by decide +kernel
theorem dX8_cellsOf_85 : decode cX8_cellsOf 85 = .ok (.iconst 0, 1) := by decide +kernel
theorem dX8_cellsOf_86 : decode cX8_cellsOf 86 = .ok (.iadd, 1) := by decide +kernel
theorem dX8_cellsOf_87 : decode cX8_cellsOf 87 = .ok (.istore_n 3, 1) := by decide +kernel
theorem dX8_cellsOf_88 : decode cX8_cellsOf 88 = .ok (.iinc 5 1, 3) := by decide +kernel
theorem dX8_cellsOf_91 : decode cX8_cellsOf 91 = .ok (.goto (-78), 3) := by decide +kernel
theorem dX8_cellsOf_94 : decode cX8_cellsOf 94 = .ok (.iload_n 3, 1) := by decide +kernel
theorem dX8_cellsOf_95 : decode cX8_cellsOf 95 = .ok (.ireturn, 1) := by decide +kernel
theorem dX8_inOrder_0 : decode cX8_inOrder 0 = .ok (.iconst 0, 1) := by decide +kernel
theorem dX8_inOrder_1 : decode cX8_inOrder 1 = .ok (.istore_n 2, 1) := by decide +kernel
theorem dX8_inOrder_2 : decode cX8_inOrder 2 = .ok (.iconst 0, 1) := by decide +kernel
theorem dX8_inOrder_3 : decode cX8_inOrder 3 = .ok (.istore_n 3, 1) := by decide +kernel
theorem dX8_inOrder_4 : decode cX8_inOrder 4 = .ok (.iload_n 3, 1) := by decide +kernel
theorem dX8_inOrder_5 : decode cX8_inOrder 5 = .ok (.aload_n 0, 1) := by decide +kernel
theorem dX8_inOrder_6 : decode cX8_inOrder 6 = .ok (.getfield 7, 3) := by decide +kernel
theorem dX8_inOrder_9 : decode cX8_inOrder 9 = .ok (.bipush 6, 2) := by decide +kernel
theorem dX8_inOrder_11 : decode cX8_inOrder 11 = .ok (.iaload, 1) := by decide +kernel
theorem dX8_inOrder_12 : decode cX8_inOrder 12 = .ok (.if_icmp .ge 30, 3) := by decide +kernel
theorem dX8_inOrder_15 : decode cX8_inOrder 15 = .ok (.iload_n 2, 1) := by decide +kernel
theorem dX8_inOrder_16 : decode cX8_inOrder 16 = .ok (.aload_n 0, 1) := by decide +kernel
theorem dX8_inOrder_17 : decode cX8_inOrder 17 = .ok (.getfield 7, 3) := by decide +kernel
theorem dX8_inOrder_20 : decode cX8_inOrder 20 = .ok (.bipush 7, 2) := by decide +kernel
theorem dX8_inOrder_22 : decode cX8_inOrder 22 = .ok (.iload_n 3, 1) := by decide +kernel
theorem dX8_inOrder_23 : decode cX8_inOrder 23 = .ok (.iadd, 1) := by decide +kernel
theorem dX8_inOrder_24 : decode cX8_inOrder 24 = .ok (.iaload, 1) := by decide +kernel
theorem dX8_inOrder_25 : decode cX8_inOrder 25 = .ok (.iload_n 1, 1) := by decide +kernel
theorem dX8_inOrder_26 : decode cX8_inOrder 26 = .ok (.if_icmp .ne 7, 3) := by decide +kernel
theorem dX8_inOrder_29 : decode cX8_inOrder 29 = .ok (.iconst 1, 1) := by decide +kernel
theorem dX8_inOrder_30 : decode cX8_inOrder 30 = .ok (.goto 4, 3) := by decide +kernel
theorem dX8_inOrder_33 : decode cX8_inOrder 33 = .ok (.iconst 0, 1) := by decide +kernel
theorem dX8_inOrder_34 : decode cX8_inOrder 34 = .ok (.iadd, 1) := by decide +kernel
theorem dX8_inOrder_35 : decode cX8_inOrder 35 = .ok (.istore_n 2, 1) := by decide +kernel
theorem dX8_inOrder_36 : decode cX8_inOrder 36 = .ok (.iinc 3 1, 3) := by decide +kernel
theorem dX8_inOrder_39 : decode cX8_inOrder 39 = .ok (.goto (-35), 3) := by decide +kernel
theorem dX8_inOrder_42 : decode cX8_inOrder 42 = .ok (.iload_n 2, 1) := by decide +kernel
theorem dX8_inOrder_43 : decode cX8_inOrder 43 = .ok (.ireturn, 1) := by decide +kernel
set_option maxRecDepth 20000 in
theorem ggX8_patternOf_X8_cellsOf : GoodIn wsX8_patternOf wsX8_cellsOf := goodIn_r _ [6, 1, 7, 8, 9, 5, 10, 11, 12, 13, 14, 15, 16, 17, 26, 27, 28, 29, 30, 31, 32, 33, 34, 35, 36] (by decide +kernel) (by decide +kernel)
set_option maxRecDepth 20000 in
theorem gX8_patternOf_X8_cellsOf : GoodIn wsX8_patternOf (wsV RX8 87 RX8 yX8_cellsOf wsX8_cellsOf) := goodIn_app (goodIn_of _ (by decide +kernel)) ggX8_patternOf_X8_cellsOf
set_option maxRecDepth 20000 in
theorem ggX8_patternOf_X8_inOrder : GoodIn wsX8_patternOf wsX8_inOrder := goodIn_r _ [21, 1, 26, 27, 28, 29, 30, 31, 32, 33, 34, 35, 36] (by decide +kernel) (by decide +kernel)
set_option maxRecDepth 20000 in
theorem gX8_patternOf_X8_inOrder : GoodIn wsX8_patternOf (wsV RX8 91 RX8 yX8_inOrder wsX8_inOrder) := goodIn_app (goodIn_of _ (by decide +kernel)) ggX8_patternOf_X8_inOrder
set_option maxRecDepth 20000 in
theorem ggX8_patternOf_X8_playable : GoodIn wsX8_patternOf wsX8_playable := goodIn_r _ [25, 1, 8, 9, 5, 10, 11, 12, 13, 14, 26, 27, 28, 29, 30, 31, 32, 33, 34, 35, 36] (by decide +kernel) (by decide +kernel)
set_option maxRecDepth 20000 in
theorem gX8_patternOf_X8_playable : GoodIn wsX8_patternOf (wsV RX8 94 RX8 yX8_playable wsX8_playable) := goodIn_app (goodIn_of _ (by decide +kernel)) ggX8_patternOf_X8_playable
theorem dX8_patternOf_0 : decode cX8_patternOf 0 = .ok (.iload_n 2, 1) := by decide +kernel
theorem dX8_patternOf_1 : decode cX8_patternOf 1 = .ok (.tableswitch 63 0 3 #[31, 41, 41, 57], 31) := by decide +kernel
theorem dX8_patternOf_32 : decode cX8_patternOf 32 = .ok (.aload_n 0, 1) := by decide +kernel
theorem dX8_patternOf_33 : decode cX8_patternOf 33 = .ok (.getfield 7, 3) := by decide +kernel
theorem dX8_patternOf_36 : decode cX8_patternOf 36 = .ok (.bipush 15, 2) := by decide +kernel
theorem dX8_patternOf_38 : decode cX8_patternOf 38 = .ok (.iload_n 1, 1) := by decide +kernel
theorem dX8_patternOf_39 : decode cX8_patternOf 39 = .ok (.iadd, 1) := by decide +kernel
theorem dX8_patternOf_40 : decode cX8_patternOf 40 = .ok (.iaload, 1) := by decide +kernel
theorem dX8_patternOf_41 : decode cX8_patternOf 41 = .ok (.ireturn, 1) := by decide +kernel
theorem dX8_patternOf_42 : decode cX8_patternOf 42 = .ok (.aload_n 0, 1) := by decide +kernel
theorem dX8_patternOf_43 : decode cX8_patternOf 43 = .ok (.iload_n 1, 1) := by decide +kernel
theorem dX8_patternOf_44 : decode cX8_patternOf 44 = .ok (.iload_n 2, 1) := by decide +kernel
theorem dX8_patternOf_45 : decode cX8_patternOf 45 = .ok (.iconst 2, 1) := by decide +kernel
theorem dX8_patternOf_46 : decode cX8_patternOf 46 = .ok (.if_icmp .ne 7, 3) := by decide +kernel
theorem dX8_patternOf_49 : decode cX8_patternOf 49 = .ok (.iconst 1, 1) := by decide +kernel
theorem dX8_patternOf_50 : decode cX8_patternOf 50 = .ok (.goto 4, 3) := by decide +kernel
theorem dX8_patternOf_53 : decode cX8_patternOf 53 = .ok (.iconst 0, 1) := by decide +kernel
theorem dX8_patternOf_54 : decode cX8_patternOf 54 = .ok (.invokevirtual 87, 3) := by decide +kernel
theorem dX8_patternOf_57 : decode cX8_patternOf 57 = .ok (.ireturn, 1) := by decide +kernel
theorem dX8_patternOf_58 : decode cX8_patternOf 58 = .ok (.aload_n 0, 1) := by decide +kernel
theorem dX8_patternOf_59 : decode cX8_patternOf 59 = .ok (.iload_n 1, 1) := by decide +kernel
theorem dX8_patternOf_60 : decode cX8_patternOf 60 = .ok (.invokevirtual 91, 3) := by decide +kernel
theorem dX8_patternOf_63 : decode cX8_patternOf 63 = .ok (.ireturn, 1) := by decide +kernel
theorem dX8_patternOf_64 : decode cX8_patternOf 64 = .ok (.aload_n 0, 1) := by decide +kernel
theorem dX8_patternOf_65 : decode cX8_patternOf 65 = .ok (.invokevirtual 94, 3) := by decide +kernel
theorem dX8_patternOf_68 : decode cX8_patternOf 68 = .ok (.iload_n 1, 1) := by decide +kernel
theorem dX8_patternOf_69 : decode cX8_patternOf 69 = .ok (.ishr, 1) := by decide +kernel
theorem dX8_patternOf_70 : decode cX8_patternOf 70 = .ok (.iconst 1, 1) := by decide +kernel
theorem dX8_patternOf_71 : decode cX8_patternOf 71 = .ok (.iand, 1) := by decide +kernel
theorem dX8_patternOf_72 : decode cX8_patternOf 72 = .ok (.ireturn, 1) := by decide +kernel
set_option maxRecDepth 20000 in
theorem ggX8_pattern_X8_isPattern : GoodIn wsX8_pattern wsX8_isPattern := goodIn_r _ [5, 6, 7, 8, 4, 9] (by decide +kernel) (by decide +kernel)
set_option maxRecDepth 20000 in
theorem gX8_pattern_X8_isPattern : GoodIn wsX8_pattern (va_wsS RX8 51 yX8_isPattern wsX8_isPattern) := goodIn_app (goodIn_of _ (by decide +kernel)) ggX8_pattern_X8_isPattern
set_option maxRecDepth 20000 in
theorem ggX8_pattern_X8_throwing : GoodIn wsX8_pattern wsX8_throwing := goodIn_r _ [13, 14, 44, 45, 46, 47, 48, 49, 50, 51, 52, 53, 54] (by decide +kernel) (by decide +kernel)
set_option maxRecDepth 20000 in
theorem gX8_pattern_X8_throwing : GoodIn wsX8_pattern (wsV RX8 64 RX8 yX8_throwing wsX8_throwing) := goodIn_app (goodIn_of _ (by decide +kernel)) ggX8_pattern_X8_throwing
set_option maxRecDepth 20000 in
theorem ggX8_pattern_X8_in : GoodIn wsX8_pattern wsX8_in := goodIn_r _ [9] (by decide +kernel) (by decide +kernel)
set_option maxRecDepth 20000 in
theorem gX8_pattern_X8_in : GoodIn wsX8_pattern (va_wsS RX8 45 yX8_in wsX8_in) := goodIn_app (goodIn_of _ (by decide +kernel)) ggX8_pattern_X8_in
set_option maxRecDepth 20000 in
theorem ggX8_pattern_X8_patternOf : GoodIn wsX8_pattern wsX8_patternOf := goodIn_r _ [18, 19, 20, 21, 22, 4, 23, 24, 25, 26, 27, 28, 29, 30, 31, 7, 8, 9, 32, 33, 34, 35, 36, 37, 38, 39, 44, 45, 46, 47, 48, 49, 50, 51, 52, 53, 54] (by decide +kernel) (by decide +kernel)
set_option maxRecDepth 20000 in
theorem gX8_pattern_X8_patternOf : GoodIn wsX8_pattern (wsV RX8 100 RX8 yX8_patternOf wsX8_patternOf) := goodIn_app (goodIn_of _ (by decide +kernel)) ggX8_pattern_X8_patternOf
set_option maxRecDepth 20000 in
theorem ggX8_pattern_X8_fine : GoodIn wsX8_pattern wsX8_fine := goodIn_r _ [43, 14, 44, 45, 46, 47, 48, 49, 50, 51, 52, 53, 54] (by decide +kernel) (by decide +kernel)
set_option maxRecDepth 20000 in
theorem gX8_pattern_X8_fine : GoodIn wsX8_pattern (wsV RX8 75 RX8 yX8_fine wsX8_fine) := goodIn_app (goodIn_of _ (by decide +kernel)) ggX8_pattern_X8_fine
theorem dX8_pattern_0 : decode cX8_pattern 0 = .ok (.iload_n 1, 1) := by decide +kernel
theorem dX8_pattern_1 : decode cX8_pattern 1 = .ok (.invokestatic 51, 3) := by decide +kernel
theorem dX8_pattern_4 : decode cX8_pattern 4 = .ok (.ifCond .ne 9, 3) := by decide +kernel
theorem dX8_pattern_7 : decode cX8_pattern 7 = .ok (.aload_n 0, 1) := by decide +kernel
theorem dX8_pattern_8 : decode cX8_pattern 8 = .ok (.iconst 1, 1) := by decide +kernel
theorem dX8_pattern_9 : decode cX8_pattern 9 = .ok (.invokevirtual 64, 3) := by decide +kernel
theorem dX8_pattern_12 : decode cX8_pattern 12 = .ok (.ireturn, 1) := by decide +kernel
theorem dX8_pattern_13 : decode cX8_pattern 13 = .ok (.iload_n 2, 1) := by decide +kernel
theorem dX8_pattern_14 : decode cX8_pattern 14 = .ok (.i2l, 1) := by decide +kernel
theorem dX8_pattern_15 : decode cX8_pattern 15 = .ok (.lconst 0, 1) := by decide +kernel
theorem dX8_pattern_16 : decode cX8_pattern 16 = .ok (.ldc2_w 98, 3) := by decide +kernel
theorem dX8_pattern_19 : decode cX8_pattern 19 = .ok (.invokestatic 45, 3) := by decide +kernel
theorem dX8_pattern_22 : decode cX8_pattern 22 = .ok (.ifCond .eq 16, 3) := by decide +kernel
theorem dX8_pattern_25 : decode cX8_pattern 25 = .ok (.aload_n 0, 1) := by decide +kernel
theorem dX8_pattern_26 : decode cX8_pattern 26 = .ok (.aload_n 0, 1) := by decide +kernel
theorem dX8_pattern_27 : decode cX8_pattern 27 = .ok (.iload_n 1, 1) := by decide +kernel
theorem dX8_pattern_28 : decode cX8_pattern 28 = .ok (.iload_n 2, 1) := by decide +kernel
theorem dX8_pattern_29 : decode cX8_pattern 29 = .ok (.invokevirtual 100, 3) := by decide +kernel
theorem dX8_pattern_32 : decode cX8_pattern 32 = .ok (.invokevirtual 75, 3) := by decide +kernel
theorem dX8_pattern_35 : decode cX8_pattern 35 = .ok (.goto 8, 3) := by decide +kernel
theorem dX8_pattern_38 : decode cX8_pattern 38 = .ok (.aload_n 0, 1) := by decide +kernel
theorem dX8_pattern_39 : decode cX8_pattern 39 = .ok (.iconst 2, 1) := by decide +kernel
theorem dX8_pattern_40 : decode cX8_pattern 40 = .ok (.invokevirtual 64, 3) := by decide +kernel
theorem dX8_pattern_43 : decode cX8_pattern 43 = .ok (.ireturn, 1) := by decide +kernel
set_option maxRecDepth 20000 in
theorem ggX8_order_X8_in : GoodIn wsX8_order wsX8_in := goodIn_r _ [5] (by decide +kernel) (by decide +kernel)
set_option maxRecDepth 20000 in
theorem gX8_order_X8_in : GoodIn wsX8_order (va_wsS RX8 45 yX8_in wsX8_in) := goodIn_app (goodIn_of _ (by decide +kernel)) ggX8_order_X8_in
set_option maxRecDepth 20000 in
theorem ggX8_order_X8_fine : GoodIn wsX8_order wsX8_fine := goodIn_r _ [9, 10, 15, 16, 17, 18, 19, 20, 21, 22, 23, 24, 25] (by decide +kernel) (by decide +kernel)
set_option maxRecDepth 20000 in
theorem gX8_order_X8_fine : GoodIn wsX8_order (wsV RX8 75 RX8 yX8_fine wsX8_fine) := goodIn_app (goodIn_of _ (by decide +kernel)) ggX8_order_X8_fine
set_option maxRecDepth 20000 in
theorem ggX8_order_X8_throwing : GoodIn wsX8_order wsX8_throwing := goodIn_r _ [14, 10, 15, 16, 17, 18, 19, 20, 21, 22, 23, 24, 25] (by decide +kernel) (by decide +kernel)
set_option maxRecDepth 20000 in
theorem gX8_order_X8_throwing : GoodIn wsX8_order (wsV RX8 64 RX8 yX8_throwing wsX8_throwing) := goodIn_app (goodIn_of _ (by decide +kernel)) ggX8_order_X8_throwing
theorem dX8_order_0 : decode cX8_order 0 = .ok (.iload_n 1, 1) := by decide +kernel
theorem dX8_order_1 : decode cX8_order 1 = .ok (.i2l, 1) := by decide +kernel
theorem dX8_order_2 : decode cX8_order 2 = .ok (.lconst 0, 1) := by decide +kernel
theorem dX8_order_3 : decode cX8_order 3 = .ok (.aload_n 0, 1) := by decide +kernel
theorem dX8_order_4 : decode cX8_order 4 = .ok (.getfield 7, 3) := by decide +kernel
theorem dX8_order_7 : decode cX8_order 7 = .ok (.bipush 6, 2) := by decide +kernel
theorem dX8_order_9 : decode cX8_order 9 = .ok (.iaload, 1) := by decide +kernel
theorem dX8_order_10 : decode cX8_order 10 = .ok (.i2l, 1) := by decide +kernel
theorem dX8_order_11 : decode cX8_order 11 = .ok (.lconst 1, 1) := by decide +kernel
theorem dX8_order_12 : decode cX8_order 12 = .ok (.lsub, 1) := by decide +kernel
theorem dX8_order_13 : decode cX8_order 13 = .ok (.invokestatic 45, 3) := by decide +kernel
theorem dX8_order_16 : decode cX8_order 16 = .ok (.ifCond .eq 19, 3) := by decide +kernel
theorem dX8_order_19 : decode cX8_order 19 = .ok (.aload_n 0, 1) := by decide +kernel
theorem dX8_order_20 : decode cX8_order 20 = .ok (.aload_n 0, 1) := by decide +kernel
theorem dX8_order_21 : decode cX8_order 21 = .ok (.getfield 7, 3) := by decide +kernel
theorem dX8_order_24 : decode cX8_order 24 = .ok (.bipush 7, 2) := by decide +kernel
theorem dX8_order_26 : decode cX8_order 26 = .ok (.iload_n 1, 1) := by decide +kernel
theorem dX8_order_27 : decode cX8_order 27 = .ok (.iadd, 1) := by decide +kernel
theorem dX8_order_28 : decode cX8_order 28 = .ok (.iaload, 1) := by decide +kernel
theorem dX8_order_29 : decode cX8_order 29 = .ok (.invokevirtual 75, 3) := by decide +kernel
theorem dX8_order_32 : decode cX8_order 32 = .ok (.goto 8, 3) := by decide +kernel
theorem dX8_order_35 : decode cX8_order 35 = .ok (.aload_n 0, 1) := by decide +kernel
theorem dX8_order_36 : decode cX8_order 36 = .ok (.iconst 1, 1) := by decide +kernel
theorem dX8_order_37 : decode cX8_order 37 = .ok (.invokevirtual 64, 3) := by decide +kernel
theorem dX8_order_40 : decode cX8_order 40 = .ok (.ireturn, 1) := by decide +kernel
theorem dX8_begins_0 : decode cX8_begins 0 = .ok (.iconst 0, 1) := by decide +kernel
theorem dX8_begins_1 : decode cX8_begins 1 = .ok (.istore_n 1, 1) := by decide +kernel
theorem dX8_begins_2 : decode cX8_begins 2 = .ok (.iload_n 1, 1) := by decide +kernel
theorem dX8_begins_3 : decode cX8_begins 3 = .ok (.bipush 6, 2) := by decide +kernel
theorem dX8_begins_5 : decode cX8_begins 5 = .ok (.if_icmp .ge 16, 3) := by decide +kernel
theorem dX8_begins_8 : decode cX8_begins 8 = .ok (.aload_n 0, 1) := by decide +kernel
theorem dX8_begins_9 : decode cX8_begins 9 = .ok (.getfield 7, 3) := by decide +kernel
theorem dX8_begins_12 : decode cX8_begins 12 = .ok (.iload_n 1, 1) := by decide +kernel
theorem dX8_begins_13 : decode cX8_begins 13 = .ok (.iconst 0, 1) := by decide +kernel
theorem dX8_begins_14 : decode cX8_begins 14 = .ok (.iastore, 1) := by decide +kernel
theorem dX8_begins_15 : decode cX8_begins 15 = .ok (.iinc 1 1, 3) := by decide +kernel
theorem dX8_begins_18 : decode cX8_begins 18 = .ok (.goto (-16), 3) := by decide +kernel
theorem dX8_begins_21 : decode cX8_begins 21 = .ok (.aload_n 0, 1) := by decide +kernel
theorem dX8_begins_22 : decode cX8_begins 22 = .ok (.getfield 7, 3) := by decide +kernel
theorem dX8_begins_25 : decode cX8_begins 25 = .ok (.iconst 3, 1) := by decide +kernel
theorem dX8_begins_26 : decode cX8_begins 26 = .ok (.iconst 3, 1) := by decide +kernel
theorem dX8_begins_27 : decode cX8_begins 27 = .ok (.iastore, 1) := by decide +kernel
theorem dX8_begins_28 : decode cX8_begins 28 = .ok (.iconst 0, 1) := by decide +kernel
theorem dX8_begins_29 : decode cX8_begins 29 = .ok (.istore_n 1, 1) := by decide +kernel
theorem dX8_begins_30 : decode cX8_begins 30 = .ok (.iload_n 1, 1) := by decide +kernel
theorem dX8_begins_31 : decode cX8_begins 31 = .ok (.bipush 64, 2) := by decide +kernel
theorem dX8_begins_33 : decode cX8_begins 33 = .ok (.if_icmp .ge 19, 3) := by decide +kernel
theorem dX8_begins_36 : decode cX8_begins 36 = .ok (.aload_n 0, 1) := by decide +kernel
theorem dX8_begins_37 : decode cX8_begins 37 = .ok (.getfield 7, 3) := by decide +kernel
theorem dX8_begins_40 : decode cX8_begins 40 = .ok (.bipush 21, 2) := by decide +kernel
theorem dX8_begins_42 : decode cX8_begins 42 = .ok (.iload_n 1, 1) := by decide +kernel
theorem dX8_begins_43 : decode cX8_begins 43 = .ok (.iadd, 1) := by decide +kernel
theorem dX8_begins_44 : decode cX8_begins 44 = .ok (.iconst 0, 1) := by decide +kernel
theorem dX8_begins_45 : decode cX8_begins 45 = .ok (.iastore, 1) := by decide +kernel
theorem dX8_begins_46 : decode cX8_begins 46 = .ok (.iinc 1 1, 3) := by decide +kernel
theorem dX8_begins_49 : decode cX8_begins 49 = .ok (.goto (-19), 3) := by decide +kernel
theorem dX8_begins_52 : decode cX8_begins 52 = .ok (.return_, 1) := by decide +kernel
theorem dX8_at_0 : decode cX8_at 0 = .ok (.bipush 21, 2) := by decide +kernel
theorem dX8_at_2 : decode cX8_at 2 = .ok (.bipush 16, 2) := by decide +kernel
theorem dX8_at_4 : decode cX8_at 4 = .ok (.iload_n 0, 1) := by decide +kernel
theorem dX8_at_5 : decode cX8_at 5 = .ok (.imul, 1) := by decide +kernel
theorem dX8_at_6 : decode cX8_at 6 = .ok (.iadd, 1) := by decide +kernel
theorem dX8_at_7 : decode cX8_at 7 = .ok (.iload_n 1, 1) := by decide +kernel
theorem dX8_at_8 : decode cX8_at 8 = .ok (.iadd, 1) := by decide +kernel
theorem dX8_at_9 : decode cX8_at 9 = .ok (.ireturn, 1) := by decide +kernel
set_option maxRecDepth 20000 in
theorem ggX8_of_X8_at : GoodIn wsX8_of wsX8_at := goodIn_r _ [5] (by decide +kernel) (by decide +kernel)
set_option maxRecDepth 20000 in
theorem gX8_of_X8_at : GoodIn wsX8_of (va_wsS RX8 104 yX8_at wsX8_at) := goodIn_app (goodIn_of _ (by decide +kernel)) ggX8_of_X8_at
theorem dX8_of_0 : decode cX8_of 0 = .ok (.aload_n 0, 1) := by decide +kernel
theorem dX8_of_1 : decode cX8_of 1 = .ok (.getfield 7, 3) := by decide +kernel
theorem dX8_of_4 : decode cX8_of 4 = .ok (.iload_n 1, 1) := by decide +kernel
theorem dX8_of_5 : decode cX8_of 5 = .ok (.iload_n 2, 1) := by decide +kernel
theorem dX8_of_6 : decode cX8_of 6 = .ok (.invokestatic 104, 3) := by decide +kernel
theorem dX8_of_9 : decode cX8_of 9 = .ok (.iaload, 1) := by decide +kernel
theorem dX8_of_10 : decode cX8_of 10 = .ok (.ireturn, 1) := by decide +kernel
theorem dX8_patternAtPlace_0 : decode cX8_patternAtPlace 0 = .ok (.aload_n 0, 1) := by decide +kernel
theorem dX8_patternAtPlace_1 : decode cX8_patternAtPlace 1 = .ok (.getfield 7, 3) := by decide +kernel
theorem dX8_patternAtPlace_4 : decode cX8_patternAtPlace 4 = .ok (.bipush 7, 2) := by decide +kernel
theorem dX8_patternAtPlace_6 : decode cX8_patternAtPlace 6 = .ok (.aload_n 0, 1) := by decide +kernel
theorem dX8_patternAtPlace_7 : decode cX8_patternAtPlace 7 = .ok (.getfield 7, 3) := by decide +kernel
theorem dX8_patternAtPlace_10 : decode cX8_patternAtPlace 10 = .ok (.iconst 0, 1) := by decide +kernel
theorem dX8_patternAtPlace_11 : decode cX8_patternAtPlace 11 = .ok (.iaload, 1) := by decide +kernel
theorem dX8_patternAtPlace_12 : decode cX8_patternAtPlace 12 = .ok (.iadd, 1) := by decide +kernel
theorem dX8_patternAtPlace_13 : decode cX8_patternAtPlace 13 = .ok (.iaload, 1) := by decide +kernel
theorem dX8_patternAtPlace_14 : decode cX8_patternAtPlace 14 = .ok (.ireturn, 1) := by decide +kernel
set_option maxRecDepth 20000 in
theorem ggX8_latest_X8_of : GoodIn wsX8_latest wsX8_of := goodIn_r _ [5, 6, 7, 8, 4, 9, 10, 11, 12, 13, 14, 15, 16, 17, 18, 19, 20] (by decide +kernel) (by decide +kernel)
set_option maxRecDepth 20000 in
theorem gX8_latest_X8_of : GoodIn wsX8_latest (wsV RX8 107 RX8 yX8_of wsX8_of) := goodIn_app (goodIn_of _ (by decide +kernel)) ggX8_latest_X8_of
set_option maxRecDepth 20000 in
theorem ggX8_latest_X8_at : GoodIn wsX8_latest wsX8_at := goodIn_r _ [9] (by decide +kernel) (by decide +kernel)
set_option maxRecDepth 20000 in
theorem gX8_latest_X8_at : GoodIn wsX8_latest (va_wsS RX8 104 yX8_at wsX8_at) := goodIn_app (goodIn_of _ (by decide +kernel)) ggX8_latest_X8_at
theorem dX8_latest_0 : decode cX8_latest 0 = .ok (.iload_n 1, 1) := by decide +kernel
theorem dX8_latest_1 : decode cX8_latest 1 = .ok (.iconst 5, 1) := by decide +kernel
theorem dX8_latest_2 : decode cX8_latest 2 = .ok (.iconst 2, 1) := by decide +kernel
theorem dX8_latest_3 : decode cX8_latest 3 = .ok (.aload_n 0, 1) := by decide +kernel
theorem dX8_latest_4 : decode cX8_latest 4 = .ok (.iload_n 1, 1) := by decide +kernel
theorem dX8_latest_5 : decode cX8_latest 5 = .ok (.iconst 4, 1) := by decide +kernel
theorem dX8_latest_6 : decode cX8_latest 6 = .ok (.invokevirtual 107, 3) := by decide +kernel
theorem dX8_latest_9 : decode cX8_latest 9 = .ok (.iconst 1, 1) := by decide +kernel
theorem dX8_latest_10 : decode cX8_latest 10 = .ok (.isub, 1) := by decide +kernel
theorem dX8_latest_11 : decode cX8_latest 11 = .ok (.imul, 1) := by decide +kernel
theorem dX8_latest_12 : decode cX8_latest 12 = .ok (.iadd, 1) := by decide +kernel
theorem dX8_latest_13 : decode cX8_latest 13 = .ok (.invokestatic 104, 3) := by decide +kernel
theorem dX8_latest_16 : decode cX8_latest 16 = .ok (.ireturn, 1) := by decide +kernel
set_option maxRecDepth 20000 in
theorem ggX8_begin_X8_of : GoodIn wsX8_begin wsX8_of := goodIn_r _ [7, 2, 8, 9, 6, 10, 14, 15, 16, 17, 18, 19, 20, 21, 22, 23, 24] (by decide +kernel) (by decide +kernel)
set_option maxRecDepth 20000 in
theorem gX8_begin_X8_of : GoodIn wsX8_begin (wsV RX8 107 RX8 yX8_of wsX8_of) := goodIn_app (goodIn_of _ (by decide +kernel)) ggX8_begin_X8_of
set_option maxRecDepth 20000 in
theorem ggX8_begin_X8_in : GoodIn wsX8_begin wsX8_in := goodIn_r _ [13] (by decide +kernel) (by decide +kernel)
set_option maxRecDepth 20000 in
theorem gX8_begin_X8_in : GoodIn wsX8_begin (va_wsS RX8 45 yX8_in wsX8_in) := goodIn_app (goodIn_of _ (by decide +kernel)) ggX8_begin_X8_in
set_option maxRecDepth 20000 in
theorem ggX8_begin_X8_at : GoodIn wsX8_begin wsX8_at := goodIn_r _ [10] (by decide +kernel) (by decide +kernel)
set_option maxRecDepth 20000 in
theorem gX8_begin_X8_at : GoodIn wsX8_begin (va_wsS RX8 104 yX8_at wsX8_at) := goodIn_app (goodIn_of _ (by decide +kernel)) ggX8_begin_X8_at
theorem dX8_begin_0 : decode cX8_begin 0 = .ok (.aload_n 0, 1) := by decide +kernel
theorem dX8_begin_1 : decode cX8_begin 1 = .ok (.iload_n 1, 1) := by decide +kernel
theorem dX8_begin_2 : decode cX8_begin 2 = .ok (.bipush 12, 2) := by decide +kernel
theorem dX8_begin_4 : decode cX8_begin 4 = .ok (.invokevirtual 107, 3) := by decide +kernel
theorem dX8_begin_7 : decode cX8_begin 7 = .ok (.istore_n 2, 1) := by decide +kernel
theorem dX8_begin_8 : decode cX8_begin 8 = .ok (.iload_n 2, 1) := by decide +kernel
theorem dX8_begin_9 : decode cX8_begin 9 = .ok (.i2l, 1) := by decide +kernel
theorem dX8_begin_10 : decode cX8_begin 10 = .ok (.lconst 1, 1) := by decide +kernel
theorem dX8_begin_11 : decode cX8_begin 11 = .ok (.ldc2_w 85, 3) := by decide +kernel
theorem dX8_begin_14 : decode cX8_begin 14 = .ok (.invokestatic 45, 3) := by decide +kernel
theorem dX8_begin_17 : decode cX8_begin 17 = .ok (.ifCond .eq 34, 3) := by decide +kernel
theorem dX8_begin_20 : decode cX8_begin 20 = .ok (.aload_n 0, 1) := by decide +kernel
theorem dX8_begin_21 : decode cX8_begin 21 = .ok (.getfield 7, 3) := by decide +kernel
theorem dX8_begin_24 : decode cX8_begin 24 = .ok (.iload_n 1, 1) := by decide +kernel
theorem dX8_begin_25 : decode cX8_begin 25 = .ok (.iconst 0, 1) := by decide +kernel
theorem dX8_begin_26 : decode cX8_begin 26 = .ok (.invokestatic 104, 3) := by decide +kernel
theorem dX8_begin_29 : decode cX8_begin 29 = .ok (.bipush 16, 2) := by decide +kernel
theorem dX8_begin_31 : decode cX8_begin 31 = .ok (.iload_n 2, 1) := by decide +kernel
theorem dX8_begin_32 : decode cX8_begin 32 = .ok (.imul, 1) := by decide +kernel
theorem dX8_begin_33 : decode cX8_begin 33 = .ok (.iastore, 1) := by decide +kernel
theorem dX8_begin_34 : decode cX8_begin 34 = .ok (.aload_n 0, 1) := by decide +kernel
theorem dX8_begin_35 : decode cX8_begin 35 = .ok (.getfield 7, 3) := by decide +kernel
theorem dX8_begin_38 : decode cX8_begin 38 = .ok (.iload_n 1, 1) := by decide +kernel
theorem dX8_begin_39 : decode cX8_begin 39 = .ok (.iconst 1, 1) := by decide +kernel
theorem dX8_begin_40 : decode cX8_begin 40 = .ok (.invokestatic 104, 3) := by decide +kernel
theorem dX8_begin_43 : decode cX8_begin 43 = .ok (.aload_n 0, 1) := by decide +kernel
theorem dX8_begin_44 : decode cX8_begin 44 = .ok (.iload_n 1, 1) := by decide +kernel
theorem dX8_begin_45 : decode cX8_begin 45 = .ok (.bipush 13, 2) := by decide +kernel
theorem dX8_begin_47 : decode cX8_begin 47 = .ok (.invokevirtual 107, 3) := by decide +kernel
theorem dX8_begin_50 : decode cX8_begin 50 = .ok (.iastore, 1) := by decide +kernel
theorem dX8_begin_51 : decode cX8_begin 51 = .ok (.iload_n 2, 1) := by decide +kernel
theorem dX8_begin_52 : decode cX8_begin 52 = .ok (.bipush 61, 2) := by decide +kernel
theorem dX8_begin_54 : decode cX8_begin 54 = .ok (.if_icmp .ne 14, 3) := by decide +kernel
theorem dX8_begin_57 : decode cX8_begin 57 = .ok (.aload_n 0, 1) := by decide +kernel
theorem dX8_begin_58 : decode cX8_begin 58 = .ok (.getfield 7, 3) := by decide +kernel
theorem dX8_begin_61 : decode cX8_begin 61 = .ok (.iload_n 1, 1) := by decide +kernel
theorem dX8_begin_62 : decode cX8_begin 62 = .ok (.iconst 1, 1) := by decide +kernel
theorem dX8_begin_63 : decode cX8_begin 63 = .ok (.invokestatic 104, 3) := by decide +kernel
theorem dX8_begin_66 : decode cX8_begin 66 = .ok (.iconst 0, 1) := by decide +kernel
theorem dX8_begin_67 : decode cX8_begin 67 = .ok (.iastore, 1) := by decide +kernel
theorem dX8_begin_68 : decode cX8_begin 68 = .ok (.return_, 1) := by decide +kernel
set_option maxRecDepth 20000 in
theorem ggX8_reads_X8_of : GoodIn wsX8_reads wsX8_of := goodIn_r _ [7, 1, 8, 9, 6, 10, 30, 31, 32, 33, 34, 35, 36, 37, 38, 39, 40] (by decide +kernel) (by decide +kernel)
set_option maxRecDepth 20000 in
theorem gX8_reads_X8_of : GoodIn wsX8_reads (wsV RX8 107 RX8 yX8_of wsX8_of) := goodIn_app (goodIn_of _ (by decide +kernel)) ggX8_reads_X8_of
set_option maxRecDepth 20000 in
theorem ggX8_reads_X8_latest : GoodIn wsX8_reads wsX8_latest := goodIn_r _ [14, 3, 4, 5, 6, 7, 1, 8, 9, 10, 30, 31, 32, 33, 34, 35, 36, 37, 38, 39, 40] (by decide +kernel) (by decide +kernel)
set_option maxRecDepth 20000 in
theorem gX8_reads_X8_latest : GoodIn wsX8_reads (wsV RX8 110 RX8 yX8_latest wsX8_latest) := goodIn_app (goodIn_of _ (by decide +kernel)) ggX8_reads_X8_latest
set_option maxRecDepth 20000 in
theorem ggX8_reads_X8_cellAt : GoodIn wsX8_reads wsX8_cellAt := goodIn_r _ [17] (by decide +kernel) (by decide +kernel)
set_option maxRecDepth 20000 in
theorem gX8_reads_X8_cellAt : GoodIn wsX8_reads (va_wsS RX8 39 yX8_cellAt wsX8_cellAt) := goodIn_app (goodIn_of _ (by decide +kernel)) ggX8_reads_X8_cellAt
set_option maxRecDepth 20000 in
theorem ggX8_reads_X8_patternAtPlace : GoodIn wsX8_reads wsX8_patternAtPlace := goodIn_r _ [21, 1, 30, 31, 32, 33, 34, 35, 36, 37, 38, 39, 40] (by decide +kernel) (by decide +kernel)
set_option maxRecDepth 20000 in
theorem gX8_reads_X8_patternAtPlace : GoodIn wsX8_reads (wsV RX8 113 RX8 yX8_patternAtPlace wsX8_patternAtPlace) := goodIn_app (goodIn_of _ (by decide +kernel)) ggX8_reads_X8_patternAtPlace
set_option maxRecDepth 20000 in
theorem ggX8_reads_X8_at : GoodIn wsX8_reads wsX8_at := goodIn_r _ [10] (by decide +kernel) (by decide +kernel)
set_option maxRecDepth 20000 in
theorem gX8_reads_X8_at : GoodIn wsX8_reads (va_wsS RX8 104 yX8_at wsX8_at) := goodIn_app (goodIn_of _ (by decide +kernel)) ggX8_reads_X8_at
set_option maxRecDepth 20000 in
theorem ggX8_reads_X8_in : GoodIn wsX8_reads wsX8_in := goodIn_r _ [24] (by decide +kernel) (by decide +kernel)
set_option maxRecDepth 20000 in
theorem gX8_reads_X8_in : GoodIn wsX8_reads (va_wsS RX8 45 yX8_in wsX8_in) := goodIn_app (goodIn_of _ (by decide +kernel)) ggX8_reads_X8_in
set_option maxRecDepth 20000 in
theorem ggX8_reads_X8_begin : GoodIn wsX8_reads wsX8_begin := goodIn_r _ [28, 29, 1, 3, 4, 5, 6, 7, 8, 9, 10, 22, 23, 24, 30, 31, 32, 33, 34, 35, 36, 37, 38, 39, 40] (by decide +kernel) (by decide +kernel)
set_option maxRecDepth 20000 in
theorem gX8_reads_X8_begin : GoodIn wsX8_reads (wsV RX8 116 RX8 yX8_begin wsX8_begin) := goodIn_app (goodIn_of _ (by decide +kernel)) ggX8_reads_X8_begin
theorem dX8_reads_0 : decode cX8_reads 0 = .ok (.aload_n 0, 1) := by decide +kernel
theorem dX8_reads_1 : decode cX8_reads 1 = .ok (.iload_n 1, 1) := by decide +kernel
theorem dX8_reads_2 : decode cX8_reads 2 = .ok (.iconst 4, 1) := by decide +kernel
theorem dX8_reads_3 : decode cX8_reads 3 = .ok (.invokevirtual 107, 3) := by decide +kernel
theorem dX8_reads_6 : decode cX8_reads 6 = .ok (.ifCond .le 7, 3) := by decide +kernel
theorem dX8_reads_9 : decode cX8_reads 9 = .ok (.iconst 1, 1) := by decide +kernel
theorem dX8_reads_10 : decode cX8_reads 10 = .ok (.goto 4, 3) := by decide +kernel
theorem dX8_reads_13 : decode cX8_reads 13 = .ok (.iconst 0, 1) := by decide +kernel
theorem dX8_reads_14 : decode cX8_reads 14 = .ok (.istore_n 2, 1) := by decide +kernel
theorem dX8_reads_15 : decode cX8_reads 15 = .ok (.iload_n 2, 1) := by decide +kernel
theorem dX8_reads_16 : decode cX8_reads 16 = .ok (.ifCond .eq 32, 3) := by decide +kernel
theorem dX8_reads_19 : decode cX8_reads 19 = .ok (.aload_n 0, 1) := by decide +kernel
theorem dX8_reads_20 : decode cX8_reads 20 = .ok (.getfield 7, 3) := by decide +kernel
theorem dX8_reads_23 : decode cX8_reads 23 = .ok (.aload_n 0, 1) := by decide +kernel
theorem dX8_reads_24 : decode cX8_reads 24 = .ok (.iload_n 1, 1) := by decide +kernel
theorem dX8_reads_25 : decode cX8_reads 25 = .ok (.invokevirtual 110, 3) := by decide +kernel
theorem dX8_reads_28 : decode cX8_reads 28 = .ok (.iaload, 1) := by decide +kernel
theorem dX8_reads_29 : decode cX8_reads 29 = .ok (.aload_n 0, 1) := by decide +kernel
theorem dX8_reads_30 : decode cX8_reads 30 = .ok (.getfield 7, 3) := by decide +kernel
theorem dX8_reads_33 : decode cX8_reads 33 = .ok (.aload_n 0, 1) := by decide +kernel
theorem dX8_reads_34 : decode cX8_reads 34 = .ok (.iload_n 1, 1) := by decide +kernel
theorem dX8_reads_35 : decode cX8_reads 35 = .ok (.invokevirtual 110, 3) := by decide +kernel
theorem dX8_reads_38 : decode cX8_reads 38 = .ok (.iconst 1, 1) := by decide +kernel
theorem dX8_reads_39 : decode cX8_reads 39 = .ok (.iadd, 1) := by decide +kernel
theorem dX8_reads_40 : decode cX8_reads 40 = .ok (.iaload, 1) := by decide +kernel
theorem dX8_reads_41 : decode cX8_reads 41 = .ok (.iload_n 1, 1) := by decide +kernel
theorem dX8_reads_42 : decode cX8_reads 42 = .ok (.invokestatic 39, 3) := by decide +kernel
theorem dX8_reads_45 : decode cX8_reads 45 = .ok (.goto 17, 3) := by decide +kernel
theorem dX8_reads_48 : decode cX8_reads 48 = .ok (.aload_n 0, 1) := by decide +kernel
theorem dX8_reads_49 : decode cX8_reads 49 = .ok (.invokevirtual 113, 3) := by decide +kernel
theorem dX8_reads_52 : decode cX8_reads 52 = .ok (.aload_n 0, 1) := by decide +kernel
theorem dX8_reads_53 : decode cX8_reads 53 = .ok (.getfield 7, 3) := by decide +kernel
theorem dX8_reads_56 : decode cX8_reads 56 = .ok (.iconst 1, 1) := by decide +kernel
theorem dX8_reads_57 : decode cX8_reads 57 = .ok (.iaload, 1) := by decide +kernel
theorem dX8_reads_58 : decode cX8_reads 58 = .ok (.iload_n 1, 1) := by decide +kernel
theorem dX8_reads_59 : decode cX8_reads 59 = .ok (.invokestatic 39, 3) := by decide +kernel
theorem dX8_reads_62 : decode cX8_reads 62 = .ok (.istore_n 3, 1) := by decide +kernel
theorem dX8_reads_63 : decode cX8_reads 63 = .ok (.iconst 0, 1) := by decide +kernel
theorem dX8_reads_64 : decode cX8_reads 64 = .ok (.istore 4, 2) := by decide +kernel
theorem dX8_reads_66 : decode cX8_reads 66 = .ok (.iload 4, 2) := by decide +kernel
theorem dX8_reads_68 : decode cX8_reads 68 = .ok (.iconst 4, 1) := by decide +kernel
theorem dX8_reads_69 : decode cX8_reads 69 = .ok (.if_icmp .ge 32, 3) := by decide +kernel
theorem dX8_reads_72 : decode cX8_reads 72 = .ok (.aload_n 0, 1) := by decide +kernel
theorem dX8_reads_73 : decode cX8_reads 73 = .ok (.getfield 7, 3) := by decide +kernel
theorem dX8_reads_76 : decode cX8_reads 76 = .ok (.iload_n 1, 1) := by decide +kernel
theorem dX8_reads_77 : decode cX8_reads 77 = .ok (.bipush 12, 2) := by decide +kernel
theorem dX8_reads_79 : decode cX8_reads 79 = .ok (.iload 4, 2) := by decide +kernel
theorem dX8_reads_81 : decode cX8_reads 81 = .ok (.iadd, 1) := by decide +kernel
theorem dX8_reads_82 : decode cX8_reads 82 = .ok (.invokestatic 104, 3) := by decide +kernel
theorem dX8_reads_85 : decode cX8_reads 85 = .ok (.aload_n 0, 1) := by decide +kernel
theorem dX8_reads_86 : decode cX8_reads 86 = .ok (.getfield 7, 3) := by decide +kernel
theorem dX8_reads_89 : decode cX8_reads 89 = .ok (.iload_n 3, 1) := by decide +kernel
theorem dX8_reads_90 : decode cX8_reads 90 = .ok (.iload 4, 2) := by decide +kernel
theorem dX8_reads_92 : decode cX8_reads 92 = .ok (.iadd, 1) := by decide +kernel
theorem dX8_reads_93 : decode cX8_reads 93 = .ok (.iaload, 1) := by decide +kernel
theorem dX8_reads_94 : decode cX8_reads 94 = .ok (.iastore, 1) := by decide +kernel
theorem dX8_reads_95 : decode cX8_reads 95 = .ok (.iinc 4 1, 3) := by decide +kernel
theorem dX8_reads_98 : decode cX8_reads 98 = .ok (.goto (-32), 3) := by decide +kernel
theorem dX8_reads_101 : decode cX8_reads 101 = .ok (.aload_n 0, 1) := by decide +kernel
theorem dX8_reads_102 : decode cX8_reads 102 = .ok (.iload_n 1, 1) := by decide +kernel
theorem dX8_reads_103 : decode cX8_reads 103 = .ok (.bipush 14, 2) := by decide +kernel
theorem dX8_reads_105 : decode cX8_reads 105 = .ok (.invokevirtual 107, 3) := by decide +kernel
theorem dX8_reads_108 : decode cX8_reads 108 = .ok (.istore 4, 2) := by decide +kernel
theorem dX8_reads_110 : decode cX8_reads 110 = .ok (.aload_n 0, 1) := by decide +kernel
theorem dX8_reads_111 : decode cX8_reads 111 = .ok (.iload_n 1, 1) := by decide +kernel
theorem dX8_reads_112 : decode cX8_reads 112 = .ok (.bipush 15, 2) := by decide +kernel
theorem dX8_reads_114 : decode cX8_reads 114 = .ok (.invokevirtual 107, 3) := by decide +kernel
theorem dX8_reads_117 : decode cX8_reads 117 = .ok (.istore 5, 2) := by decide +kernel
theorem dX8_reads_119 : decode cX8_reads 119 = .ok (.iload 4, 2) := by decide +kernel
theorem dX8_reads_121 : decode cX8_reads 121 = .ok (.bipush 7, 2) := by decide +kernel
theorem dX8_reads_123 : decode cX8_reads 123 = .ok (.if_icmp .ne 24, 3) := by decide +kernel
theorem dX8_reads_126 : decode cX8_reads 126 = .ok (.iload 5, 2) := by decide +kernel
theorem dX8_reads_128 : decode cX8_reads 128 = .ok (.i2l, 1) := by decide +kernel
theorem dX8_reads_129 : decode cX8_reads 129 = .ok (.lconst 1, 1) := by decide +kernel
theorem dX8_reads_130 : decode cX8_reads 130 = .ok (.ldc2_w 80, 3) := by decide +kernel
theorem dX8_reads_133 : decode cX8_reads 133 = .ok (.invokestatic 45, 3) := by decide +kernel
theorem dX8_reads_136 : decode cX8_reads 136 = .ok (.ifCond .eq 11, 3) := by decide +kernel
theorem dX8_reads_139 : decode cX8_reads 139 = .ok (.aload_n 0, 1) := by decide +kernel
theorem dX8_reads_140 : decode cX8_reads 140 = .ok (.getfield 7, 3) := by decide +kernel
theorem dX8_reads_143 : decode cX8_reads 143 = .ok (.iconst 3, 1) := by decide +kernel
theorem dX8_reads_144 : decode cX8_reads 144 = .ok (.iload 5, 2) := by decide +kernel
theorem dX8_reads_146 : decode cX8_reads 146 = .ok (.iastore, 1) := by decide +kernel
theorem dX8_reads_147 : decode cX8_reads 147 = .ok (.iload 4, 2) := by decide +kernel
theorem dX8_reads_149 : decode cX8_reads 149 = .ok (.bipush 6, 2) := by decide +kernel
theorem dX8_reads_151 : decode cX8_reads 151 = .ok (.if_icmp .ne 8, 3) := by decide +kernel
theorem dX8_reads_154 : decode cX8_reads 154 = .ok (.iload 5, 2) := by decide +kernel
theorem dX8_reads_156 : decode cX8_reads 156 = .ok (.ifCond .ne 8, 3) := by decide +kernel
theorem dX8_reads_159 : decode cX8_reads 159 = .ok (.aload_n 0, 1) := by decide +kernel
theorem dX8_reads_160 : decode cX8_reads 160 = .ok (.iload_n 1, 1) := by decide +kernel
theorem dX8_reads_161 : decode cX8_reads 161 = .ok (.invokevirtual 116, 3) := by decide +kernel
theorem dX8_reads_164 : decode cX8_reads 164 = .ok (.return_, 1) := by decide +kernel
set_option maxRecDepth 20000 in
theorem ggX8_goesOn_X8_of : GoodIn wsX8_goesOn wsX8_of := goodIn_r _ [6, 1, 7, 8, 5, 9, 18, 19, 20, 21, 22, 23, 24, 25, 26, 27, 28] (by decide +kernel) (by decide +kernel)
set_option maxRecDepth 20000 in
theorem gX8_goesOn_X8_of : GoodIn wsX8_goesOn (wsV RX8 107 RX8 yX8_of wsX8_of) := goodIn_app (goodIn_of _ (by decide +kernel)) ggX8_goesOn_X8_of
set_option maxRecDepth 20000 in
theorem ggX8_goesOn_X8_at : GoodIn wsX8_goesOn wsX8_at := goodIn_r _ [9] (by decide +kernel) (by decide +kernel)
set_option maxRecDepth 20000 in
theorem gX8_goesOn_X8_at : GoodIn wsX8_goesOn (va_wsS RX8 104 yX8_at wsX8_at) := goodIn_app (goodIn_of _ (by decide +kernel)) ggX8_goesOn_X8_at
set_option maxRecDepth 20000 in
theorem ggX8_goesOn_X8_begin : GoodIn wsX8_goesOn wsX8_begin := goodIn_r _ [13, 14, 1, 2, 3, 4, 5, 6, 7, 8, 9, 15, 16, 17, 18, 19, 20, 21, 22, 23, 24, 25, 26, 27, 28] (by decide +kernel) (by decide +kernel)
set_option maxRecDepth 20000 in
theorem gX8_goesOn_X8_begin : GoodIn wsX8_goesOn (wsV RX8 116 RX8 yX8_begin wsX8_begin) := goodIn_app (goodIn_of _ (by decide +kernel)) ggX8_goesOn_X8_begin
theorem dX8_goesOn_0 : decode cX8_goesOn 0 = .ok (.aload_n 0, 1) := by decide +kernel
theorem dX8_goesOn_1 : decode cX8_goesOn 1 = .ok (.iload_n 1, 1) := by decide +kernel
theorem dX8_goesOn_2 : decode cX8_goesOn 2 = .ok (.bipush 15, 2) := by decide +kernel
theorem dX8_goesOn_4 : decode cX8_goesOn 4 = .ok (.invokevirtual 107, 3) := by decide +kernel
theorem dX8_goesOn_7 : decode cX8_goesOn 7 = .ok (.istore_n 2, 1) := by decide +kernel
theorem dX8_goesOn_8 : decode cX8_goesOn 8 = .ok (.aload_n 0, 1) := by decide +kernel
theorem dX8_goesOn_9 : decode cX8_goesOn 9 = .ok (.iload_n 1, 1) := by decide +kernel
theorem dX8_goesOn_10 : decode cX8_goesOn 10 = .ok (.iconst 0, 1) := by decide +kernel
theorem dX8_goesOn_11 : decode cX8_goesOn 11 = .ok (.invokevirtual 107, 3) := by decide +kernel
theorem dX8_goesOn_14 : decode cX8_goesOn 14 = .ok (.istore_n 3, 1) := by decide +kernel
theorem dX8_goesOn_15 : decode cX8_goesOn 15 = .ok (.aload_n 0, 1) := by decide +kernel
theorem dX8_goesOn_16 : decode cX8_goesOn 16 = .ok (.iload_n 1, 1) := by decide +kernel
theorem dX8_goesOn_17 : decode cX8_goesOn 17 = .ok (.iconst 1, 1) := by decide +kernel
theorem dX8_goesOn_18 : decode cX8_goesOn 18 = .ok (.invokevirtual 107, 3) := by decide +kernel
theorem dX8_goesOn_21 : decode cX8_goesOn 21 = .ok (.istore 4, 2) := by decide +kernel
theorem dX8_goesOn_23 : decode cX8_goesOn 23 = .ok (.aload_n 0, 1) := by decide +kernel
theorem dX8_goesOn_24 : decode cX8_goesOn 24 = .ok (.iload_n 1, 1) := by decide +kernel
theorem dX8_goesOn_25 : decode cX8_goesOn 25 = .ok (.bipush 14, 2) := by decide +kernel
theorem dX8_goesOn_27 : decode cX8_goesOn 27 = .ok (.invokevirtual 107, 3) := by decide +kernel
theorem dX8_goesOn_30 : decode cX8_goesOn 30 = .ok (.tableswitch 170 1 6 #[38, 69, 94, 125, 170, 152], 38) := by decide +kernel
theorem dX8_goesOn_68 : decode cX8_goesOn 68 = .ok (.aload_n 0, 1) := by decide +kernel
theorem dX8_goesOn_69 : decode cX8_goesOn 69 = .ok (.getfield 7, 3) := by decide +kernel
theorem dX8_goesOn_72 : decode cX8_goesOn 72 = .ok (.iload_n 1, 1) := by decide +kernel
theorem dX8_goesOn_73 : decode cX8_goesOn 73 = .ok (.iconst 0, 1) := by decide +kernel
theorem dX8_goesOn_74 : decode cX8_goesOn 74 = .ok (.invokestatic 104, 3) := by decide +kernel
theorem dX8_goesOn_77 : decode cX8_goesOn 77 = .ok (.iload_n 3, 1) := by decide +kernel
theorem dX8_goesOn_78 : decode cX8_goesOn 78 = .ok (.iload_n 2, 1) := by decide +kernel
theorem dX8_goesOn_79 : decode cX8_goesOn 79 = .ok (.iadd, 1) := by decide +kernel
theorem dX8_goesOn_80 : decode cX8_goesOn 80 = .ok (.sipush 999, 3) := by decide +kernel
theorem dX8_goesOn_83 : decode cX8_goesOn 83 = .ok (.if_icmp .le 9, 3) := by decide +kernel
theorem dX8_goesOn_86 : decode cX8_goesOn 86 = .ok (.sipush 999, 3) := by decide +kernel
theorem dX8_goesOn_89 : decode cX8_goesOn 89 = .ok (.goto 6, 3) := by decide +kernel
theorem dX8_goesOn_92 : decode cX8_goesOn 92 = .ok (.iload_n 3, 1) := by decide +kernel
theorem dX8_goesOn_93 : decode cX8_goesOn 93 = .ok (.iload_n 2, 1) := by decide +kernel
theorem dX8_goesOn_94 : decode cX8_goesOn 94 = .ok (.iadd, 1) := by decide +kernel
theorem dX8_goesOn_95 : decode cX8_goesOn 95 = .ok (.iastore, 1) := by decide +kernel
theorem dX8_goesOn_96 : decode cX8_goesOn 96 = .ok (.goto 104, 3) := by decide +kernel
theorem dX8_goesOn_99 : decode cX8_goesOn 99 = .ok (.aload_n 0, 1) := by decide +kernel
theorem dX8_goesOn_100 : decode cX8_goesOn 100 = .ok (.getfield 7, 3) := by decide +kernel
theorem dX8_goesOn_103 : decode cX8_goesOn 103 = .ok (.iload_n 1, 1) := by decide +kernel
theorem dX8_goesOn_104 : decode cX8_goesOn 104 = .ok (.iconst 0, 1) := by decide +kernel
theorem dX8_goesOn_105 : decode cX8_goesOn 105 = .ok (.invokestatic 104, 3) := by decide +kernel
theorem dX8_goesOn_108 : decode cX8_goesOn 108 = .ok (.iload_n 3, 1) := by decide +kernel
theorem dX8_goesOn_109 : decode cX8_goesOn 109 = .ok (.iload_n 2, 1) := by decide +kernel
theorem dX8_goesOn_110 : decode cX8_goesOn 110 = .ok (.if_icmp .ge 7, 3) := by decide +kernel
theorem dX8_goesOn_113 : decode cX8_goesOn 113 = .ok (.iconst 0, 1) := by decide +kernel
theorem dX8_goesOn_114 : decode cX8_goesOn 114 = .ok (.goto 6, 3) := by decide +kernel
theorem dX8_goesOn_117 : decode cX8_goesOn 117 = .ok (.iload_n 3, 1) := by decide +kernel
theorem dX8_goesOn_118 : decode cX8_goesOn 118 = .ok (.iload_n 2, 1) := by decide +kernel
theorem dX8_goesOn_119 : decode cX8_goesOn 119 = .ok (.isub, 1) := by decide +kernel
theorem dX8_goesOn_120 : decode cX8_goesOn 120 = .ok (.iastore, 1) := by decide +kernel
theorem dX8_goesOn_121 : decode cX8_goesOn 121 = .ok (.goto 79, 3) := by decide +kernel
theorem dX8_goesOn_124 : decode cX8_goesOn 124 = .ok (.aload_n 0, 1) := by decide +kernel
theorem dX8_goesOn_125 : decode cX8_goesOn 125 = .ok (.getfield 7, 3) := by decide +kernel
theorem dX8_goesOn_128 : decode cX8_goesOn 128 = .ok (.iload_n 1, 1) := by decide +kernel
theorem dX8_goesOn_129 : decode cX8_goesOn 129 = .ok (.iconst 1, 1) := by decide +kernel
theorem dX8_goesOn_130 : decode cX8_goesOn 130 = .ok (.invokestatic 104, 3) := by decide +kernel
theorem dX8_goesOn_133 : decode cX8_goesOn 133 = .ok (.iload 4, 2) := by decide +kernel
theorem dX8_goesOn_135 : decode cX8_goesOn 135 = .ok (.iload_n 2, 1) := by decide +kernel
theorem dX8_goesOn_136 : decode cX8_goesOn 136 = .ok (.iadd, 1) := by decide +kernel
theorem dX8_goesOn_137 : decode cX8_goesOn 137 = .ok (.bipush 15, 2) := by decide +kernel
theorem dX8_goesOn_139 : decode cX8_goesOn 139 = .ok (.if_icmp .le 8, 3) := by decide +kernel
theorem dX8_goesOn_142 : decode cX8_goesOn 142 = .ok (.bipush 15, 2) := by decide +kernel
theorem dX8_goesOn_144 : decode cX8_goesOn 144 = .ok (.goto 7, 3) := by decide +kernel
theorem dX8_goesOn_147 : decode cX8_goesOn 147 = .ok (.iload 4, 2) := by decide +kernel
theorem dX8_goesOn_149 : decode cX8_goesOn 149 = .ok (.iload_n 2, 1) := by decide +kernel
theorem dX8_goesOn_150 : decode cX8_goesOn 150 = .ok (.iadd, 1) := by decide +kernel
theorem dX8_goesOn_151 : decode cX8_goesOn 151 = .ok (.iastore, 1) := by decide +kernel
theorem dX8_goesOn_152 : decode cX8_goesOn 152 = .ok (.goto 48, 3) := by decide +kernel
theorem dX8_goesOn_155 : decode cX8_goesOn 155 = .ok (.aload_n 0, 1) := by decide +kernel
theorem dX8_goesOn_156 : decode cX8_goesOn 156 = .ok (.getfield 7, 3) := by decide +kernel
theorem dX8_goesOn_159 : decode cX8_goesOn 159 = .ok (.iload_n 1, 1) := by decide +kernel
theorem dX8_goesOn_160 : decode cX8_goesOn 160 = .ok (.iconst 1, 1) := by decide +kernel
theorem dX8_goesOn_161 : decode cX8_goesOn 161 = .ok (.invokestatic 104, 3) := by decide +kernel
theorem dX8_goesOn_164 : decode cX8_goesOn 164 = .ok (.iload 4, 2) := by decide +kernel
theorem dX8_goesOn_166 : decode cX8_goesOn 166 = .ok (.iload_n 2, 1) := by decide +kernel
theorem dX8_goesOn_167 : decode cX8_goesOn 167 = .ok (.if_icmp .ge 7, 3) := by decide +kernel
theorem dX8_goesOn_170 : decode cX8_goesOn 170 = .ok (.iconst 0, 1) := by decide +kernel
theorem dX8_goesOn_171 : decode cX8_goesOn 171 = .ok (.goto 7, 3) := by decide +kernel
theorem dX8_goesOn_174 : decode cX8_goesOn 174 = .ok (.iload 4, 2) := by decide +kernel
theorem dX8_goesOn_176 : decode cX8_goesOn 176 = .ok (.iload_n 2, 1) := by decide +kernel
theorem dX8_goesOn_177 : decode cX8_goesOn 177 = .ok (.isub, 1) := by decide +kernel
theorem dX8_goesOn_178 : decode cX8_goesOn 178 = .ok (.iastore, 1) := by decide +kernel
theorem dX8_goesOn_179 : decode cX8_goesOn 179 = .ok (.goto 21, 3) := by decide +kernel
theorem dX8_goesOn_182 : decode cX8_goesOn 182 = .ok (.iload_n 2, 1) := by decide +kernel
theorem dX8_goesOn_183 : decode cX8_goesOn 183 = .ok (.aload_n 0, 1) := by decide +kernel
theorem dX8_goesOn_184 : decode cX8_goesOn 184 = .ok (.getfield 7, 3) := by decide +kernel
theorem dX8_goesOn_187 : decode cX8_goesOn 187 = .ok (.iconst 2, 1) := by decide +kernel
theorem dX8_goesOn_188 : decode cX8_goesOn 188 = .ok (.iaload, 1) := by decide +kernel
theorem dX8_goesOn_189 : decode cX8_goesOn 189 = .ok (.if_icmp .ne 11, 3) := by decide +kernel
theorem dX8_goesOn_192 : decode cX8_goesOn 192 = .ok (.aload_n 0, 1) := by decide +kernel
theorem dX8_goesOn_193 : decode cX8_goesOn 193 = .ok (.iload_n 1, 1) := by decide +kernel
theorem dX8_goesOn_194 : decode cX8_goesOn 194 = .ok (.invokevirtual 116, 3) := by decide +kernel
theorem dX8_goesOn_197 : decode cX8_goesOn 197 = .ok (.goto 3, 3) := by decide +kernel
theorem dX8_goesOn_200 : decode cX8_goesOn 200 = .ok (.return_, 1) := by decide +kernel
theorem dX8_heardBy_0 : decode cX8_heardBy 0 = .ok (.bipush 16, 2) := by decide +kernel
theorem dX8_heardBy_2 : decode cX8_heardBy 2 = .ok (.bipush 16, 2) := by decide +kernel
theorem dX8_heardBy_4 : decode cX8_heardBy 4 = .ok (.iload_n 0, 1) := by decide +kernel
theorem dX8_heardBy_5 : decode cX8_heardBy 5 = .ok (.imul, 1) := by decide +kernel
theorem dX8_heardBy_6 : decode cX8_heardBy 6 = .ok (.imul, 1) := by decide +kernel
theorem dX8_heardBy_7 : decode cX8_heardBy 7 = .ok (.bipush 15, 2) := by decide +kernel
theorem dX8_heardBy_9 : decode cX8_heardBy 9 = .ok (.iadd, 1) := by decide +kernel
theorem dX8_heardBy_10 : decode cX8_heardBy 10 = .ok (.ireturn, 1) := by decide +kernel
set_option maxRecDepth 20000 in
theorem ggX8_hears_X8_of : GoodIn wsX8_hears wsX8_of := goodIn_r _ [6, 1, 7, 8, 5, 9, 13, 14, 15, 16, 17, 18, 19, 20, 21, 22, 23] (by decide +kernel) (by decide +kernel)
set_option maxRecDepth 20000 in
theorem gX8_hears_X8_of : GoodIn wsX8_hears (wsV RX8 107 RX8 yX8_of wsX8_of) := goodIn_app (goodIn_of _ (by decide +kernel)) ggX8_hears_X8_of
set_option maxRecDepth 20000 in
theorem ggX8_hears_X8_at : GoodIn wsX8_hears wsX8_at := goodIn_r _ [9] (by decide +kernel) (by decide +kernel)
set_option maxRecDepth 20000 in
theorem gX8_hears_X8_at : GoodIn wsX8_hears (va_wsS RX8 104 yX8_at wsX8_at) := goodIn_app (goodIn_of _ (by decide +kernel)) ggX8_hears_X8_at
set_option maxRecDepth 20000 in
theorem ggX8_hears_X8_heardBy : GoodIn wsX8_hears wsX8_heardBy := goodIn_r _ [12] (by decide +kernel) (by decide +kernel)
set_option maxRecDepth 20000 in
theorem gX8_hears_X8_heardBy : GoodIn wsX8_hears (va_wsS RX8 119 yX8_heardBy wsX8_heardBy) := goodIn_app (goodIn_of _ (by decide +kernel)) ggX8_hears_X8_heardBy
theorem dX8_hears_0 : decode cX8_hears 0 = .ok (.aload_n 0, 1) := by decide +kernel
theorem dX8_hears_1 : decode cX8_hears 1 = .ok (.iload_n 1, 1) := by decide +kernel
theorem dX8_hears_2 : decode cX8_hears 2 = .ok (.iconst 2, 1) := by decide +kernel
theorem dX8_hears_3 : decode cX8_hears 3 = .ok (.invokevirtual 107, 3) := by decide +kernel
theorem dX8_hears_6 : decode cX8_hears 6 = .ok (.ifCond .le 40, 3) := by decide +kernel
theorem dX8_hears_9 : decode cX8_hears 9 = .ok (.aload_n 0, 1) := by decide +kernel
theorem dX8_hears_10 : decode cX8_hears 10 = .ok (.getfield 7, 3) := by decide +kernel
theorem dX8_hears_13 : decode cX8_hears 13 = .ok (.iload_n 1, 1) := by decide +kernel
theorem dX8_hears_14 : decode cX8_hears 14 = .ok (.bipush 11, 2) := by decide +kernel
theorem dX8_hears_16 : decode cX8_hears 16 = .ok (.invokestatic 104, 3) := by decide +kernel
theorem dX8_hears_19 : decode cX8_hears 19 = .ok (.aload_n 0, 1) := by decide +kernel
theorem dX8_hears_20 : decode cX8_hears 20 = .ok (.iload_n 1, 1) := by decide +kernel
theorem dX8_hears_21 : decode cX8_hears 21 = .ok (.iconst 3, 1) := by decide +kernel
theorem dX8_hears_22 : decode cX8_hears 22 = .ok (.invokevirtual 107, 3) := by decide +kernel
theorem dX8_hears_25 : decode cX8_hears 25 = .ok (.invokestatic 119, 3) := by decide +kernel
theorem dX8_hears_28 : decode cX8_hears 28 = .ok (.iastore, 1) := by decide +kernel
theorem dX8_hears_29 : decode cX8_hears 29 = .ok (.aload_n 0, 1) := by decide +kernel
theorem dX8_hears_30 : decode cX8_hears 30 = .ok (.getfield 7, 3) := by decide +kernel
theorem dX8_hears_33 : decode cX8_hears 33 = .ok (.iload_n 1, 1) := by decide +kernel
theorem dX8_hears_34 : decode cX8_hears 34 = .ok (.iconst 2, 1) := by decide +kernel
theorem dX8_hears_35 : decode cX8_hears 35 = .ok (.invokestatic 104, 3) := by decide +kernel
theorem dX8_hears_38 : decode cX8_hears 38 = .ok (.dup2, 1) := by decide +kernel
theorem dX8_hears_39 : decode cX8_hears 39 = .ok (.iaload, 1) := by decide +kernel
theorem dX8_hears_40 : decode cX8_hears 40 = .ok (.iconst 1, 1) := by decide +kernel
theorem dX8_hears_41 : decode cX8_hears 41 = .ok (.isub, 1) := by decide +kernel
theorem dX8_hears_42 : decode cX8_hears 42 = .ok (.iastore, 1) := by decide +kernel
theorem dX8_hears_43 : decode cX8_hears 43 = .ok (.goto 43, 3) := by decide +kernel
theorem dX8_hears_46 : decode cX8_hears 46 = .ok (.aload_n 0, 1) := by decide +kernel
theorem dX8_hears_47 : decode cX8_hears 47 = .ok (.getfield 7, 3) := by decide +kernel
theorem dX8_hears_50 : decode cX8_hears 50 = .ok (.iload_n 1, 1) := by decide +kernel
theorem dX8_hears_51 : decode cX8_hears 51 = .ok (.bipush 11, 2) := by decide +kernel
theorem dX8_hears_53 : decode cX8_hears 53 = .ok (.invokestatic 104, 3) := by decide +kernel
theorem dX8_hears_56 : decode cX8_hears 56 = .ok (.aload_n 0, 1) := by decide +kernel
theorem dX8_hears_57 : decode cX8_hears 57 = .ok (.iload_n 1, 1) := by decide +kernel
theorem dX8_hears_58 : decode cX8_hears 58 = .ok (.iconst 1, 1) := by decide +kernel
theorem dX8_hears_59 : decode cX8_hears 59 = .ok (.invokevirtual 107, 3) := by decide +kernel
theorem dX8_hears_62 : decode cX8_hears 62 = .ok (.ifCond .ne 7, 3) := by decide +kernel
theorem dX8_hears_65 : decode cX8_hears 65 = .ok (.iconst 0, 1) := by decide +kernel
theorem dX8_hears_66 : decode cX8_hears 66 = .ok (.goto 19, 3) := by decide +kernel
theorem dX8_hears_69 : decode cX8_hears 69 = .ok (.bipush 16, 2) := by decide +kernel
theorem dX8_hears_71 : decode cX8_hears 71 = .ok (.aload_n 0, 1) := by decide +kernel
theorem dX8_hears_72 : decode cX8_hears 72 = .ok (.iload_n 1, 1) := by decide +kernel
theorem dX8_hears_73 : decode cX8_hears 73 = .ok (.iconst 0, 1) := by decide +kernel
theorem dX8_hears_74 : decode cX8_hears 74 = .ok (.invokevirtual 107, 3) := by decide +kernel
theorem dX8_hears_77 : decode cX8_hears 77 = .ok (.imul, 1) := by decide +kernel
theorem dX8_hears_78 : decode cX8_hears 78 = .ok (.aload_n 0, 1) := by decide +kernel
theorem dX8_hears_79 : decode cX8_hears 79 = .ok (.iload_n 1, 1) := by decide +kernel
theorem dX8_hears_80 : decode cX8_hears 80 = .ok (.iconst 1, 1) := by decide +kernel
theorem dX8_hears_81 : decode cX8_hears 81 = .ok (.invokevirtual 107, 3) := by decide +kernel
theorem dX8_hears_84 : decode cX8_hears 84 = .ok (.iadd, 1) := by decide +kernel
theorem dX8_hears_85 : decode cX8_hears 85 = .ok (.iastore, 1) := by decide +kernel
theorem dX8_hears_86 : decode cX8_hears 86 = .ok (.return_, 1) := by decide +kernel
set_option maxRecDepth 20000 in
theorem ggX8_endsRow_X8_of : GoodIn wsX8_endsRow wsX8_of := goodIn_r _ [6, 1, 7, 8, 5, 9, 18, 19, 20, 21, 22, 23, 24, 25, 26, 27, 28] (by decide +kernel) (by decide +kernel)
set_option maxRecDepth 20000 in
theorem gX8_endsRow_X8_of : GoodIn wsX8_endsRow (wsV RX8 107 RX8 yX8_of wsX8_of) := goodIn_app (goodIn_of _ (by decide +kernel)) ggX8_endsRow_X8_of
set_option maxRecDepth 20000 in
theorem ggX8_endsRow_X8_latest : GoodIn wsX8_endsRow wsX8_latest := goodIn_r _ [13, 2, 3, 4, 5, 6, 1, 7, 8, 9, 18, 19, 20, 21, 22, 23, 24, 25, 26, 27, 28] (by decide +kernel) (by decide +kernel)
set_option maxRecDepth 20000 in
theorem gX8_endsRow_X8_latest : GoodIn wsX8_endsRow (wsV RX8 110 RX8 yX8_latest wsX8_latest) := goodIn_app (goodIn_of _ (by decide +kernel)) ggX8_endsRow_X8_latest
set_option maxRecDepth 20000 in
theorem ggX8_endsRow_X8_at : GoodIn wsX8_endsRow wsX8_at := goodIn_r _ [9] (by decide +kernel) (by decide +kernel)
set_option maxRecDepth 20000 in
theorem gX8_endsRow_X8_at : GoodIn wsX8_endsRow (va_wsS RX8 104 yX8_at wsX8_at) := goodIn_app (goodIn_of _ (by decide +kernel)) ggX8_endsRow_X8_at
set_option maxRecDepth 20000 in
theorem ggX8_endsRow_X8_calls : GoodIn wsX8_endsRow wsX8_calls := goodIn_r _ [17, 1, 18, 19, 20, 21, 22, 23, 24, 25, 26, 27, 28] (by decide +kernel) (by decide +kernel)
set_option maxRecDepth 20000 in
theorem gX8_endsRow_X8_calls : GoodIn wsX8_endsRow (wsV RX8 82 RX8 yX8_calls wsX8_calls) := goodIn_app (goodIn_of _ (by decide +kernel)) ggX8_endsRow_X8_calls
theorem dX8_endsRow_0 : decode cX8_endsRow 0 = .ok (.aload_n 0, 1) := by decide +kernel
theorem dX8_endsRow_1 : decode cX8_endsRow 1 = .ok (.iload_n 1, 1) := by decide +kernel
theorem dX8_endsRow_2 : decode cX8_endsRow 2 = .ok (.iconst 4, 1) := by decide +kernel
theorem dX8_endsRow_3 : decode cX8_endsRow 3 = .ok (.invokevirtual 107, 3) := by decide +kernel
theorem dX8_endsRow_6 : decode cX8_endsRow 6 = .ok (.ifCond .le 64, 3) := by decide +kernel
theorem dX8_endsRow_9 : decode cX8_endsRow 9 = .ok (.aload_n 0, 1) := by decide +kernel
theorem dX8_endsRow_10 : decode cX8_endsRow 10 = .ok (.iload_n 1, 1) := by decide +kernel
theorem dX8_endsRow_11 : decode cX8_endsRow 11 = .ok (.invokevirtual 110, 3) := by decide +kernel
theorem dX8_endsRow_14 : decode cX8_endsRow 14 = .ok (.istore_n 2, 1) := by decide +kernel
theorem dX8_endsRow_15 : decode cX8_endsRow 15 = .ok (.aload_n 0, 1) := by decide +kernel
theorem dX8_endsRow_16 : decode cX8_endsRow 16 = .ok (.getfield 7, 3) := by decide +kernel
theorem dX8_endsRow_19 : decode cX8_endsRow 19 = .ok (.iload_n 2, 1) := by decide +kernel
theorem dX8_endsRow_20 : decode cX8_endsRow 20 = .ok (.iconst 1, 1) := by decide +kernel
theorem dX8_endsRow_21 : decode cX8_endsRow 21 = .ok (.iadd, 1) := by decide +kernel
theorem dX8_endsRow_22 : decode cX8_endsRow 22 = .ok (.dup2, 1) := by decide +kernel
theorem dX8_endsRow_23 : decode cX8_endsRow 23 = .ok (.iaload, 1) := by decide +kernel
theorem dX8_endsRow_24 : decode cX8_endsRow 24 = .ok (.iconst 1, 1) := by decide +kernel
theorem dX8_endsRow_25 : decode cX8_endsRow 25 = .ok (.iadd, 1) := by decide +kernel
theorem dX8_endsRow_26 : decode cX8_endsRow 26 = .ok (.iastore, 1) := by decide +kernel
theorem dX8_endsRow_27 : decode cX8_endsRow 27 = .ok (.aload_n 0, 1) := by decide +kernel
theorem dX8_endsRow_28 : decode cX8_endsRow 28 = .ok (.getfield 7, 3) := by decide +kernel
theorem dX8_endsRow_31 : decode cX8_endsRow 31 = .ok (.iload_n 1, 1) := by decide +kernel
theorem dX8_endsRow_32 : decode cX8_endsRow 32 = .ok (.iconst 4, 1) := by decide +kernel
theorem dX8_endsRow_33 : decode cX8_endsRow 33 = .ok (.invokestatic 104, 3) := by decide +kernel
theorem dX8_endsRow_36 : decode cX8_endsRow 36 = .ok (.dup2, 1) := by decide +kernel
theorem dX8_endsRow_37 : decode cX8_endsRow 37 = .ok (.iaload, 1) := by decide +kernel
theorem dX8_endsRow_38 : decode cX8_endsRow 38 = .ok (.aload_n 0, 1) := by decide +kernel
theorem dX8_endsRow_39 : decode cX8_endsRow 39 = .ok (.getfield 7, 3) := by decide +kernel
theorem dX8_endsRow_42 : decode cX8_endsRow 42 = .ok (.iload_n 2, 1) := by decide +kernel
theorem dX8_endsRow_43 : decode cX8_endsRow 43 = .ok (.iconst 1, 1) := by decide +kernel
theorem dX8_endsRow_44 : decode cX8_endsRow 44 = .ok (.iadd, 1) := by decide +kernel
theorem dX8_endsRow_45 : decode cX8_endsRow 45 = .ok (.iaload, 1) := by decide +kernel
theorem dX8_endsRow_46 : decode cX8_endsRow 46 = .ok (.aload_n 0, 1) := by decide +kernel
theorem dX8_endsRow_47 : decode cX8_endsRow 47 = .ok (.getfield 7, 3) := by decide +kernel
theorem dX8_endsRow_50 : decode cX8_endsRow 50 = .ok (.bipush 15, 2) := by decide +kernel
theorem dX8_endsRow_52 : decode cX8_endsRow 52 = .ok (.aload_n 0, 1) := by decide +kernel
theorem dX8_endsRow_53 : decode cX8_endsRow 53 = .ok (.getfield 7, 3) := by decide +kernel
theorem dX8_endsRow_56 : decode cX8_endsRow 56 = .ok (.iload_n 2, 1) := by decide +kernel
theorem dX8_endsRow_57 : decode cX8_endsRow 57 = .ok (.iaload, 1) := by decide +kernel
theorem dX8_endsRow_58 : decode cX8_endsRow 58 = .ok (.iadd, 1) := by decide +kernel
theorem dX8_endsRow_59 : decode cX8_endsRow 59 = .ok (.iaload, 1) := by decide +kernel
theorem dX8_endsRow_60 : decode cX8_endsRow 60 = .ok (.if_icmp .lt 7, 3) := by decide +kernel
theorem dX8_endsRow_63 : decode cX8_endsRow 63 = .ok (.iconst 1, 1) := by decide +kernel
theorem dX8_endsRow_64 : decode cX8_endsRow 64 = .ok (.goto 4, 3) := by decide +kernel
theorem dX8_endsRow_67 : decode cX8_endsRow 67 = .ok (.iconst 0, 1) := by decide +kernel
theorem dX8_endsRow_68 : decode cX8_endsRow 68 = .ok (.isub, 1) := by decide +kernel
theorem dX8_endsRow_69 : decode cX8_endsRow 69 = .ok (.iastore, 1) := by decide +kernel
theorem dX8_endsRow_70 : decode cX8_endsRow 70 = .ok (.aload_n 0, 1) := by decide +kernel
theorem dX8_endsRow_71 : decode cX8_endsRow 71 = .ok (.iload_n 1, 1) := by decide +kernel
theorem dX8_endsRow_72 : decode cX8_endsRow 72 = .ok (.bipush 12, 2) := by decide +kernel
theorem dX8_endsRow_74 : decode cX8_endsRow 74 = .ok (.invokestatic 104, 3) := by decide +kernel
theorem dX8_endsRow_77 : decode cX8_endsRow 77 = .ok (.invokevirtual 82, 3) := by decide +kernel
theorem dX8_endsRow_80 : decode cX8_endsRow 80 = .ok (.ifCond .eq 57, 3) := by decide +kernel
theorem dX8_endsRow_83 : decode cX8_endsRow 83 = .ok (.aload_n 0, 1) := by decide +kernel
theorem dX8_endsRow_84 : decode cX8_endsRow 84 = .ok (.iload_n 1, 1) := by decide +kernel
theorem dX8_endsRow_85 : decode cX8_endsRow 85 = .ok (.iconst 4, 1) := by decide +kernel
theorem dX8_endsRow_86 : decode cX8_endsRow 86 = .ok (.invokevirtual 107, 3) := by decide +kernel
theorem dX8_endsRow_89 : decode cX8_endsRow 89 = .ok (.iconst 3, 1) := by decide +kernel
theorem dX8_endsRow_90 : decode cX8_endsRow 90 = .ok (.if_icmp .ge 47, 3) := by decide +kernel
theorem dX8_endsRow_93 : decode cX8_endsRow 93 = .ok (.aload_n 0, 1) := by decide +kernel
theorem dX8_endsRow_94 : decode cX8_endsRow 94 = .ok (.getfield 7, 3) := by decide +kernel
theorem dX8_endsRow_97 : decode cX8_endsRow 97 = .ok (.iload_n 1, 1) := by decide +kernel
theorem dX8_endsRow_98 : decode cX8_endsRow 98 = .ok (.iconst 4, 1) := by decide +kernel
theorem dX8_endsRow_99 : decode cX8_endsRow 99 = .ok (.invokestatic 104, 3) := by decide +kernel
theorem dX8_endsRow_102 : decode cX8_endsRow 102 = .ok (.dup2, 1) := by decide +kernel
theorem dX8_endsRow_103 : decode cX8_endsRow 103 = .ok (.iaload, 1) := by decide +kernel
theorem dX8_endsRow_104 : decode cX8_endsRow 104 = .ok (.iconst 1, 1) := by decide +kernel
theorem dX8_endsRow_105 : decode cX8_endsRow 105 = .ok (.iadd, 1) := by decide +kernel
theorem dX8_endsRow_106 : decode cX8_endsRow 106 = .ok (.iastore, 1) := by decide +kernel
theorem dX8_endsRow_107 : decode cX8_endsRow 107 = .ok (.aload_n 0, 1) := by decide +kernel
theorem dX8_endsRow_108 : decode cX8_endsRow 108 = .ok (.getfield 7, 3) := by decide +kernel
theorem dX8_endsRow_111 : decode cX8_endsRow 111 = .ok (.aload_n 0, 1) := by decide +kernel
theorem dX8_endsRow_112 : decode cX8_endsRow 112 = .ok (.iload_n 1, 1) := by decide +kernel
theorem dX8_endsRow_113 : decode cX8_endsRow 113 = .ok (.invokevirtual 110, 3) := by decide +kernel
theorem dX8_endsRow_116 : decode cX8_endsRow 116 = .ok (.aload_n 0, 1) := by decide +kernel
theorem dX8_endsRow_117 : decode cX8_endsRow 117 = .ok (.iload_n 1, 1) := by decide +kernel
theorem dX8_endsRow_118 : decode cX8_endsRow 118 = .ok (.bipush 15, 2) := by decide +kernel
theorem dX8_endsRow_120 : decode cX8_endsRow 120 = .ok (.invokevirtual 107, 3) := by decide +kernel
theorem dX8_endsRow_123 : decode cX8_endsRow 123 = .ok (.iastore, 1) := by decide +kernel
theorem dX8_endsRow_124 : decode cX8_endsRow 124 = .ok (.aload_n 0, 1) := by decide +kernel
theorem dX8_endsRow_125 : decode cX8_endsRow 125 = .ok (.getfield 7, 3) := by decide +kernel
theorem dX8_endsRow_128 : decode cX8_endsRow 128 = .ok (.aload_n 0, 1) := by decide +kernel
theorem dX8_endsRow_129 : decode cX8_endsRow 129 = .ok (.iload_n 1, 1) := by decide +kernel
theorem dX8_endsRow_130 : decode cX8_endsRow 130 = .ok (.invokevirtual 110, 3) := by decide +kernel
theorem dX8_endsRow_133 : decode cX8_endsRow 133 = .ok (.iconst 1, 1) := by decide +kernel
theorem dX8_endsRow_134 : decode cX8_endsRow 134 = .ok (.iadd, 1) := by decide +kernel
theorem dX8_endsRow_135 : decode cX8_endsRow 135 = .ok (.iconst 0, 1) := by decide +kernel
theorem dX8_endsRow_136 : decode cX8_endsRow 136 = .ok (.iastore, 1) := by decide +kernel
theorem dX8_endsRow_137 : decode cX8_endsRow 137 = .ok (.return_, 1) := by decide +kernel
set_option maxRecDepth 20000 in
theorem ggX8_tick_X8_reads : GoodIn wsX8_tick wsX8_reads := goodIn_r _ [6, 1, 7, 8, 9, 10, 5, 11, 12, 13, 14, 15, 16, 17, 18, 19, 20, 21, 22, 23, 24, 25, 26, 27, 28, 29, 30, 31, 32, 33, 53, 54, 55, 56, 57, 58, 59, 60, 61, 62, 63] (by decide +kernel) (by decide +kernel)
set_option maxRecDepth 20000 in
theorem gX8_tick_X8_reads : GoodIn wsX8_tick (wsV RX8 122 RX8 yX8_reads wsX8_reads) := goodIn_app (goodIn_of _ (by decide +kernel)) ggX8_tick_X8_reads
set_option maxRecDepth 20000 in
theorem ggX8_tick_X8_goesOn : GoodIn wsX8_tick wsX8_goesOn := goodIn_r _ [37, 1, 8, 9, 10, 5, 11, 12, 13, 14, 29, 30, 31, 32, 33, 26, 27, 28, 53, 54, 55, 56, 57, 58, 59, 60, 61, 62, 63] (by decide +kernel) (by decide +kernel)
set_option maxRecDepth 20000 in
theorem gX8_tick_X8_goesOn : GoodIn wsX8_tick (wsV RX8 125 RX8 yX8_goesOn wsX8_goesOn) := goodIn_app (goodIn_of _ (by decide +kernel)) ggX8_tick_X8_goesOn
set_option maxRecDepth 20000 in
theorem ggX8_tick_X8_hears : GoodIn wsX8_tick wsX8_hears := goodIn_r _ [41, 1, 8, 9, 10, 5, 11, 12, 13, 14, 42, 43, 44, 53, 54, 55, 56, 57, 58, 59, 60, 61, 62, 63] (by decide +kernel) (by decide +kernel)
set_option maxRecDepth 20000 in
theorem gX8_tick_X8_hears : GoodIn wsX8_tick (wsV RX8 128 RX8 yX8_hears wsX8_hears) := goodIn_app (goodIn_of _ (by decide +kernel)) ggX8_tick_X8_hears
set_option maxRecDepth 20000 in
theorem ggX8_tick_X8_endsRow : GoodIn wsX8_tick wsX8_endsRow := goodIn_r _ [48, 1, 8, 9, 10, 5, 11, 12, 13, 14, 15, 16, 17, 18, 49, 50, 51, 52, 53, 54, 55, 56, 57, 58, 59, 60, 61, 62, 63] (by decide +kernel) (by decide +kernel)
set_option maxRecDepth 20000 in
theorem gX8_tick_X8_endsRow : GoodIn wsX8_tick (wsV RX8 131 RX8 yX8_endsRow wsX8_endsRow) := goodIn_app (goodIn_of _ (by decide +kernel)) ggX8_tick_X8_endsRow
set_option maxRecDepth 20000 in
theorem ggX8_tick_X8_patternAtPlace : GoodIn wsX8_tick wsX8_patternAtPlace := goodIn_r _ [25, 1, 53, 54, 55, 56, 57, 58, 59, 60, 61, 62, 63] (by decide +kernel) (by decide +kernel)
set_option maxRecDepth 20000 in
theorem gX8_tick_X8_patternAtPlace : GoodIn wsX8_tick (wsV RX8 113 RX8 yX8_patternAtPlace wsX8_patternAtPlace) := goodIn_app (goodIn_of _ (by decide +kernel)) ggX8_tick_X8_patternAtPlace
theorem dX8_tick_0 : decode cX8_tick 0 = .ok (.iconst 0, 1) := by decide +kernel
theorem dX8_tick_1 : decode cX8_tick 1 = .ok (.istore_n 1, 1) := by decide +kernel
theorem dX8_tick_2 : decode cX8_tick 2 = .ok (.iconst 0, 1) := by decide +kernel
theorem dX8_tick_3 : decode cX8_tick 3 = .ok (.istore_n 2, 1) := by decide +kernel
theorem dX8_tick_4 : decode cX8_tick 4 = .ok (.iload_n 2, 1) := by decide +kernel
theorem dX8_tick_5 : decode cX8_tick 5 = .ok (.iconst 4, 1) := by decide +kernel
theorem dX8_tick_6 : decode cX8_tick 6 = .ok (.if_icmp .ge 31, 3) := by decide +kernel
theorem dX8_tick_9 : decode cX8_tick 9 = .ok (.aload_n 0, 1) := by decide +kernel
theorem dX8_tick_10 : decode cX8_tick 10 = .ok (.getfield 7, 3) := by decide +kernel
theorem dX8_tick_13 : decode cX8_tick 13 = .ok (.iconst 2, 1) := by decide +kernel
theorem dX8_tick_14 : decode cX8_tick 14 = .ok (.iaload, 1) := by decide +kernel
theorem dX8_tick_15 : decode cX8_tick 15 = .ok (.ifCond .ne 11, 3) := by decide +kernel
theorem dX8_tick_18 : decode cX8_tick 18 = .ok (.aload_n 0, 1) := by decide +kernel
theorem dX8_tick_19 : decode cX8_tick 19 = .ok (.iload_n 2, 1) := by decide +kernel
theorem dX8_tick_20 : decode cX8_tick 20 = .ok (.invokevirtual 122, 3) := by decide +kernel
theorem dX8_tick_23 : decode cX8_tick 23 = .ok (.goto 8, 3) := by decide +kernel
theorem dX8_tick_26 : decode cX8_tick 26 = .ok (.aload_n 0, 1) := by decide +kernel
theorem dX8_tick_27 : decode cX8_tick 27 = .ok (.iload_n 2, 1) := by decide +kernel
theorem dX8_tick_28 : decode cX8_tick 28 = .ok (.invokevirtual 125, 3) := by decide +kernel
theorem dX8_tick_31 : decode cX8_tick 31 = .ok (.iinc 2 1, 3) := by decide +kernel
theorem dX8_tick_34 : decode cX8_tick 34 = .ok (.goto (-30), 3) := by decide +kernel
theorem dX8_tick_37 : decode cX8_tick 37 = .ok (.iconst 0, 1) := by decide +kernel
theorem dX8_tick_38 : decode cX8_tick 38 = .ok (.istore_n 2, 1) := by decide +kernel
theorem dX8_tick_39 : decode cX8_tick 39 = .ok (.iload_n 2, 1) := by decide +kernel
theorem dX8_tick_40 : decode cX8_tick 40 = .ok (.iconst 4, 1) := by decide +kernel
theorem dX8_tick_41 : decode cX8_tick 41 = .ok (.if_icmp .ge 14, 3) := by decide +kernel
theorem dX8_tick_44 : decode cX8_tick 44 = .ok (.aload_n 0, 1) := by decide +kernel
theorem dX8_tick_45 : decode cX8_tick 45 = .ok (.iload_n 2, 1) := by decide +kernel
theorem dX8_tick_46 : decode cX8_tick 46 = .ok (.invokevirtual 128, 3) := by decide +kernel
theorem dX8_tick_49 : decode cX8_tick 49 = .ok (.iinc 2 1, 3) := by decide +kernel
theorem dX8_tick_52 : decode cX8_tick 52 = .ok (.goto (-13), 3) := by decide +kernel
theorem dX8_tick_55 : decode cX8_tick 55 = .ok (.aload_n 0, 1) := by decide +kernel
theorem dX8_tick_56 : decode cX8_tick 56 = .ok (.getfield 7, 3) := by decide +kernel
theorem dX8_tick_59 : decode cX8_tick 59 = .ok (.iconst 2, 1) := by decide +kernel
theorem dX8_tick_60 : decode cX8_tick 60 = .ok (.dup2, 1) := by decide +kernel
theorem dX8_tick_61 : decode cX8_tick 61 = .ok (.iaload, 1) := by decide +kernel
theorem dX8_tick_62 : decode cX8_tick 62 = .ok (.iconst 1, 1) := by decide +kernel
theorem dX8_tick_63 : decode cX8_tick 63 = .ok (.iadd, 1) := by decide +kernel
theorem dX8_tick_64 : decode cX8_tick 64 = .ok (.iastore, 1) := by decide +kernel
theorem dX8_tick_65 : decode cX8_tick 65 = .ok (.aload_n 0, 1) := by decide +kernel
theorem dX8_tick_66 : decode cX8_tick 66 = .ok (.getfield 7, 3) := by decide +kernel
theorem dX8_tick_69 : decode cX8_tick 69 = .ok (.iconst 4, 1) := by decide +kernel
theorem dX8_tick_70 : decode cX8_tick 70 = .ok (.dup2, 1) := by decide +kernel
theorem dX8_tick_71 : decode cX8_tick 71 = .ok (.iaload, 1) := by decide +kernel
theorem dX8_tick_72 : decode cX8_tick 72 = .ok (.iconst 1, 1) := by decide +kernel
theorem dX8_tick_73 : decode cX8_tick 73 = .ok (.iadd, 1) := by decide +kernel
theorem dX8_tick_74 : decode cX8_tick 74 = .ok (.iastore, 1) := by decide +kernel
theorem dX8_tick_75 : decode cX8_tick 75 = .ok (.aload_n 0, 1) := by decide +kernel
theorem dX8_tick_76 : decode cX8_tick 76 = .ok (.getfield 7, 3) := by decide +kernel
theorem dX8_tick_79 : decode cX8_tick 79 = .ok (.iconst 2, 1) := by decide +kernel
theorem dX8_tick_80 : decode cX8_tick 80 = .ok (.iaload, 1) := by decide +kernel
theorem dX8_tick_81 : decode cX8_tick 81 = .ok (.aload_n 0, 1) := by decide +kernel
theorem dX8_tick_82 : decode cX8_tick 82 = .ok (.getfield 7, 3) := by decide +kernel
theorem dX8_tick_85 : decode cX8_tick 85 = .ok (.iconst 3, 1) := by decide +kernel
theorem dX8_tick_86 : decode cX8_tick 86 = .ok (.iaload, 1) := by decide +kernel
theorem dX8_tick_87 : decode cX8_tick 87 = .ok (.if_icmp .lt 136, 3) := by decide +kernel
theorem dX8_tick_90 : decode cX8_tick 90 = .ok (.iconst 0, 1) := by decide +kernel
theorem dX8_tick_91 : decode cX8_tick 91 = .ok (.istore_n 2, 1) := by decide +kernel
theorem dX8_tick_92 : decode cX8_tick 92 = .ok (.iload_n 2, 1) := by decide +kernel
theorem dX8_tick_93 : decode cX8_tick 93 = .ok (.iconst 4, 1) := by decide +kernel
theorem dX8_tick_94 : decode cX8_tick 94 = .ok (.if_icmp .ge 14, 3) := by decide +kernel
theorem dX8_tick_97 : decode cX8_tick 97 = .ok (.aload_n 0, 1) := by decide +kernel
theorem dX8_tick_98 : decode cX8_tick 98 = .ok (.iload_n 2, 1) := by decide +kernel
theorem dX8_tick_99 : decode cX8_tick 99 = .ok (.invokevirtual 131, 3) := by decide +kernel
theorem dX8_tick_102 : decode cX8_tick 102 = .ok (.iinc 2 1, 3) := by decide +kernel
theorem dX8_tick_105 : decode cX8_tick 105 = .ok (.goto (-13), 3) := by decide +kernel
theorem dX8_tick_108 : decode cX8_tick 108 = .ok (.aload_n 0, 1) := by decide +kernel
theorem dX8_tick_109 : decode cX8_tick 109 = .ok (.getfield 7, 3) := by decide +kernel
theorem dX8_tick_112 : decode cX8_tick 112 = .ok (.iconst 2, 1) := by decide +kernel
theorem dX8_tick_113 : decode cX8_tick 113 = .ok (.iconst 0, 1) := by decide +kernel
theorem dX8_tick_114 : decode cX8_tick 114 = .ok (.iastore, 1) := by decide +kernel
theorem dX8_tick_115 : decode cX8_tick 115 = .ok (.aload_n 0, 1) := by decide +kernel
theorem dX8_tick_116 : decode cX8_tick 116 = .ok (.getfield 7, 3) := by decide +kernel
theorem dX8_tick_119 : decode cX8_tick 119 = .ok (.iconst 1, 1) := by decide +kernel
theorem dX8_tick_120 : decode cX8_tick 120 = .ok (.dup2, 1) := by decide +kernel
theorem dX8_tick_121 : decode cX8_tick 121 = .ok (.iaload, 1) := by decide +kernel
theorem dX8_tick_122 : decode cX8_tick 122 = .ok (.iconst 1, 1) := by decide +kernel
theorem dX8_tick_123 : decode cX8_tick 123 = .ok (.iadd, 1) := by decide +kernel
theorem dX8_tick_124 : decode cX8_tick 124 = .ok (.iastore, 1) := by decide +kernel
theorem dX8_tick_125 : decode cX8_tick 125 = .ok (.aload_n 0, 1) := by decide +kernel
theorem dX8_tick_126 : decode cX8_tick 126 = .ok (.getfield 7, 3) := by decide +kernel
theorem dX8_tick_129 : decode cX8_tick 129 = .ok (.iconst 1, 1) := by decide +kernel
theorem dX8_tick_130 : decode cX8_tick 130 = .ok (.iaload, 1) := by decide +kernel
theorem dX8_tick_131 : decode cX8_tick 131 = .ok (.aload_n 0, 1) := by decide +kernel
theorem dX8_tick_132 : decode cX8_tick 132 = .ok (.getfield 7, 3) := by decide +kernel
theorem dX8_tick_135 : decode cX8_tick 135 = .ok (.bipush 15, 2) := by decide +kernel
theorem dX8_tick_137 : decode cX8_tick 137 = .ok (.aload_n 0, 1) := by decide +kernel
theorem dX8_tick_138 : decode cX8_tick 138 = .ok (.invokevirtual 113, 3) := by decide +kernel
theorem dX8_tick_141 : decode cX8_tick 141 = .ok (.iadd, 1) := by decide +kernel
theorem dX8_tick_142 : decode cX8_tick 142 = .ok (.iaload, 1) := by decide +kernel
theorem dX8_tick_143 : decode cX8_tick 143 = .ok (.if_icmp .lt 80, 3) := by decide +kernel
theorem dX8_tick_146 : decode cX8_tick 146 = .ok (.aload_n 0, 1) := by decide +kernel
theorem dX8_tick_147 : decode cX8_tick 147 = .ok (.getfield 7, 3) := by decide +kernel
theorem dX8_tick_150 : decode cX8_tick 150 = .ok (.iconst 1, 1) := by decide +kernel
theorem dX8_tick_151 : decode cX8_tick 151 = .ok (.iconst 0, 1) := by decide +kernel
theorem dX8_tick_152 : decode cX8_tick 152 = .ok (.iastore, 1) := by decide +kernel
theorem dX8_tick_153 : decode cX8_tick 153 = .ok (.aload_n 0, 1) := by decide +kernel
theorem dX8_tick_154 : decode cX8_tick 154 = .ok (.getfield 7, 3) := by decide +kernel
theorem dX8_tick_157 : decode cX8_tick 157 = .ok (.iconst 0, 1) := by decide +kernel
theorem dX8_tick_158 : decode cX8_tick 158 = .ok (.dup2, 1) := by decide +kernel
theorem dX8_tick_159 : decode cX8_tick 159 = .ok (.iaload, 1) := by decide +kernel
theorem dX8_tick_160 : decode cX8_tick 160 = .ok (.iconst 1, 1) := by decide +kernel
theorem dX8_tick_161 : decode cX8_tick 161 = .ok (.iadd, 1) := by decide +kernel
theorem dX8_tick_162 : decode cX8_tick 162 = .ok (.iastore, 1) := by decide +kernel
theorem dX8_tick_163 : decode cX8_tick 163 = .ok (.aload_n 0, 1) := by decide +kernel
theorem dX8_tick_164 : decode cX8_tick 164 = .ok (.getfield 7, 3) := by decide +kernel
theorem dX8_tick_167 : decode cX8_tick 167 = .ok (.iconst 0, 1) := by decide +kernel
theorem dX8_tick_168 : decode cX8_tick 168 = .ok (.iaload, 1) := by decide +kernel
theorem dX8_tick_169 : decode cX8_tick 169 = .ok (.aload_n 0, 1) := by decide +kernel
theorem dX8_tick_170 : decode cX8_tick 170 = .ok (.getfield 7, 3) := by decide +kernel
theorem dX8_tick_173 : decode cX8_tick 173 = .ok (.bipush 6, 2) := by decide +kernel
theorem dX8_tick_175 : decode cX8_tick 175 = .ok (.iaload, 1) := by decide +kernel
theorem dX8_tick_176 : decode cX8_tick 176 = .ok (.if_icmp .ne 7, 3) := by decide +kernel
theorem dX8_tick_179 : decode cX8_tick 179 = .ok (.iconst 1, 1) := by decide +kernel
theorem dX8_tick_180 : decode cX8_tick 180 = .ok (.goto 4, 3) := by decide +kernel
theorem dX8_tick_183 : decode cX8_tick 183 = .ok (.iconst 0, 1) := by decide +kernel
theorem dX8_tick_184 : decode cX8_tick 184 = .ok (.istore_n 1, 1) := by decide +kernel
theorem dX8_tick_185 : decode cX8_tick 185 = .ok (.aload_n 0, 1) := by decide +kernel
theorem dX8_tick_186 : decode cX8_tick 186 = .ok (.getfield 7, 3) := by decide +kernel
theorem dX8_tick_189 : decode cX8_tick 189 = .ok (.iconst 0, 1) := by decide +kernel
theorem dX8_tick_190 : decode cX8_tick 190 = .ok (.iload_n 1, 1) := by decide +kernel
theorem dX8_tick_191 : decode cX8_tick 191 = .ok (.ifCond .eq 7, 3) := by decide +kernel
theorem dX8_tick_194 : decode cX8_tick 194 = .ok (.iconst 0, 1) := by decide +kernel
theorem dX8_tick_195 : decode cX8_tick 195 = .ok (.goto 9, 3) := by decide +kernel
theorem dX8_tick_198 : decode cX8_tick 198 = .ok (.aload_n 0, 1) := by decide +kernel
theorem dX8_tick_199 : decode cX8_tick 199 = .ok (.getfield 7, 3) := by decide +kernel
theorem dX8_tick_202 : decode cX8_tick 202 = .ok (.iconst 0, 1) := by decide +kernel
theorem dX8_tick_203 : decode cX8_tick 203 = .ok (.iaload, 1) := by decide +kernel
theorem dX8_tick_204 : decode cX8_tick 204 = .ok (.iastore, 1) := by decide +kernel
theorem dX8_tick_205 : decode cX8_tick 205 = .ok (.aload_n 0, 1) := by decide +kernel
theorem dX8_tick_206 : decode cX8_tick 206 = .ok (.getfield 7, 3) := by decide +kernel
theorem dX8_tick_209 : decode cX8_tick 209 = .ok (.iconst 5, 1) := by decide +kernel
theorem dX8_tick_210 : decode cX8_tick 210 = .ok (.dup2, 1) := by decide +kernel
theorem dX8_tick_211 : decode cX8_tick 211 = .ok (.iaload, 1) := by decide +kernel
theorem dX8_tick_212 : decode cX8_tick 212 = .ok (.iload_n 1, 1) := by decide +kernel
theorem dX8_tick_213 : decode cX8_tick 213 = .ok (.ifCond .eq 7, 3) := by decide +kernel
theorem dX8_tick_216 : decode cX8_tick 216 = .ok (.iconst 1, 1) := by decide +kernel
theorem dX8_tick_217 : decode cX8_tick 217 = .ok (.goto 4, 3) := by decide +kernel
theorem dX8_tick_220 : decode cX8_tick 220 = .ok (.iconst 0, 1) := by decide +kernel
theorem dX8_tick_221 : decode cX8_tick 221 = .ok (.iadd, 1) := by decide +kernel
theorem dX8_tick_222 : decode cX8_tick 222 = .ok (.iastore, 1) := by decide +kernel
theorem dX8_tick_223 : decode cX8_tick 223 = .ok (.iload_n 1, 1) := by decide +kernel
theorem dX8_tick_224 : decode cX8_tick 224 = .ok (.ireturn, 1) := by decide +kernel
set_option maxRecDepth 20000 in
theorem ggX8_plays_X8_tick : GoodIn wsX8_plays wsX8_tick := goodIn_r _ [5, 6, 7, 8, 9, 4, 10, 11, 12, 13, 14, 15, 16, 17, 18, 19, 20, 21, 22, 23, 24, 25, 26, 27, 28, 29, 30, 31, 32, 33, 34, 35, 36, 37, 38, 39, 40, 41, 42, 43, 44, 45, 46, 47, 48, 49, 50, 51, 52, 53, 54, 55, 56, 57, 58, 59, 60, 61, 62, 63, 64, 65, 66, 67] (by decide +kernel) (by decide +kernel)
set_option maxRecDepth 20000 in
theorem gX8_plays_X8_tick : GoodIn wsX8_plays (wsV RX8 134 RX8 yX8_tick wsX8_tick) := goodIn_app (goodIn_of _ (by decide +kernel)) ggX8_plays_X8_tick
set_option maxRecDepth 20000 in
theorem ggX8_plays_X8_of : GoodIn wsX8_plays wsX8_of := goodIn_r _ [15, 6, 16, 17, 4, 18, 57, 58, 59, 60, 61, 62, 63, 64, 65, 66, 67] (by decide +kernel) (by decide +kernel)
set_option maxRecDepth 20000 in
theorem gX8_plays_X8_of : GoodIn wsX8_plays (wsV RX8 107 RX8 yX8_of wsX8_of) := goodIn_app (goodIn_of _ (by decide +kernel)) ggX8_plays_X8_of
