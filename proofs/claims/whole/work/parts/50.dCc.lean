set_option maxRecDepth 20000 in
theorem ggX9_setDead_X9_asked : GoodIn wsX9_setDead wsX9_asked := goodIn_r _ [14, 15, 16, 17, 18, 19, 20, 21, 22, 23, 24, 25, 26, 27, 28, 29, 30, 31, 32, 33, 34, 35, 36, 37, 38, 39, 40, 41, 42, 43, 44, 45, 46, 47, 48, 49, 50, 51, 52] (by decide +kernel) (by decide +kernel)
set_option maxRecDepth 20000 in
theorem gX9_setDead_X9_asked : GoodIn wsX9_setDead (wsV RX9 162 RX9 yX9_asked wsX9_asked) := goodIn_app (goodIn_of _ (by decide +kernel)) ggX9_setDead_X9_asked
theorem dX9_setDead_0 : decode cX9_setDead 0 = .ok (.aload_n 0, 1) := by decide +kernel
theorem dX9_setDead_1 : decode cX9_setDead 1 = .ok (.aload_n 0, 1) := by decide +kernel
theorem dX9_setDead_2 : decode cX9_setDead 2 = .ok (.iload_n 1, 1) := by decide +kernel
theorem dX9_setDead_3 : decode cX9_setDead 3 = .ok (.invokevirtual 159, 3) := by decide +kernel
theorem dX9_setDead_6 : decode cX9_setDead 6 = .ok (.invokevirtual 162, 3) := by decide +kernel
theorem dX9_setDead_9 : decode cX9_setDead 9 = .ok (.ifCond .eq 10, 3) := by decide +kernel
theorem dX9_setDead_12 : decode cX9_setDead 12 = .ok (.aload_n 0, 1) := by decide +kernel
theorem dX9_setDead_13 : decode cX9_setDead 13 = .ok (.getfield 26, 3) := by decide +kernel
theorem dX9_setDead_16 : decode cX9_setDead 16 = .ok (.iload_n 1, 1) := by decide +kernel
theorem dX9_setDead_17 : decode cX9_setDead 17 = .ok (.iload_n 2, 1) := by decide +kernel
theorem dX9_setDead_18 : decode cX9_setDead 18 = .ok (.bastore, 1) := by decide +kernel
theorem dX9_setDead_19 : decode cX9_setDead 19 = .ok (.return_, 1) := by decide +kernel
theorem dX9_least_0 : decode cX9_least 0 = .ok (.iload_n 1, 1) := by decide +kernel
theorem dX9_least_1 : decode cX9_least 1 = .ok (.iload_n 2, 1) := by decide +kernel
theorem dX9_least_2 : decode cX9_least 2 = .ok (.if_icmp .ge 7, 3) := by decide +kernel
theorem dX9_least_5 : decode cX9_least 5 = .ok (.iload_n 1, 1) := by decide +kernel
theorem dX9_least_6 : decode cX9_least 6 = .ok (.goto 4, 3) := by decide +kernel
theorem dX9_least_9 : decode cX9_least 9 = .ok (.iload_n 2, 1) := by decide +kernel
theorem dX9_least_10 : decode cX9_least 10 = .ok (.ireturn, 1) := by decide +kernel
set_option maxRecDepth 20000 in
theorem ggX9_cutAbove_X9_isUnder : GoodIn wsX9_cutAbove wsX9_isUnder := goodIn_r _ [7, 8, 9, 6, 10, 11, 12, 13, 14, 15, 16] (by decide +kernel) (by decide +kernel)
set_option maxRecDepth 20000 in
theorem gX9_cutAbove_X9_isUnder : GoodIn wsX9_cutAbove (va_wsS RX9 124 yX9_isUnder wsX9_isUnder) := goodIn_app (goodIn_of _ (by decide +kernel)) ggX9_cutAbove_X9_isUnder
set_option maxRecDepth 20000 in
theorem ggX9_cutAbove_X9_figures : GoodIn wsX9_cutAbove wsX9_figures := goodIn_r _ [10] (by decide +kernel) (by decide +kernel)
set_option maxRecDepth 20000 in
theorem gX9_cutAbove_X9_figures : GoodIn wsX9_cutAbove (va_wsS RX9 113 yX9_figures wsX9_figures) := goodIn_app (goodIn_of _ (by decide +kernel)) ggX9_cutAbove_X9_figures
theorem dX9_cutAbove_0 : decode cX9_cutAbove 0 = .ok (.iconst (-1), 1) := by decide +kernel
theorem dX9_cutAbove_1 : decode cX9_cutAbove 1 = .ok (.istore_n 3, 1) := by decide +kernel
theorem dX9_cutAbove_2 : decode cX9_cutAbove 2 = .ok (.bipush 32, 2) := by decide +kernel
theorem dX9_cutAbove_4 : decode cX9_cutAbove 4 = .ok (.iload_n 1, 1) := by decide +kernel
theorem dX9_cutAbove_5 : decode cX9_cutAbove 5 = .ok (.imul, 1) := by decide +kernel
theorem dX9_cutAbove_6 : decode cX9_cutAbove 6 = .ok (.istore 4, 2) := by decide +kernel
theorem dX9_cutAbove_8 : decode cX9_cutAbove 8 = .ok (.iload 4, 2) := by decide +kernel
theorem dX9_cutAbove_10 : decode cX9_cutAbove 10 = .ok (.bipush 32, 2) := by decide +kernel
theorem dX9_cutAbove_12 : decode cX9_cutAbove 12 = .ok (.iload_n 1, 1) := by decide +kernel
theorem dX9_cutAbove_13 : decode cX9_cutAbove 13 = .ok (.imul, 1) := by decide +kernel
theorem dX9_cutAbove_14 : decode cX9_cutAbove 14 = .ok (.aload_n 0, 1) := by decide +kernel
theorem dX9_cutAbove_15 : decode cX9_cutAbove 15 = .ok (.getfield 42, 3) := by decide +kernel
theorem dX9_cutAbove_18 : decode cX9_cutAbove 18 = .ok (.iload_n 1, 1) := by decide +kernel
theorem dX9_cutAbove_19 : decode cX9_cutAbove 19 = .ok (.iaload, 1) := by decide +kernel
theorem dX9_cutAbove_20 : decode cX9_cutAbove 20 = .ok (.iadd, 1) := by decide +kernel
theorem dX9_cutAbove_21 : decode cX9_cutAbove 21 = .ok (.if_icmp .ge 80, 3) := by decide +kernel
theorem dX9_cutAbove_24 : decode cX9_cutAbove 24 = .ok (.aload_n 0, 1) := by decide +kernel
theorem dX9_cutAbove_25 : decode cX9_cutAbove 25 = .ok (.getfield 48, 3) := by decide +kernel
theorem dX9_cutAbove_28 : decode cX9_cutAbove 28 = .ok (.iload 4, 2) := by decide +kernel
theorem dX9_cutAbove_30 : decode cX9_cutAbove 30 = .ok (.iaload, 1) := by decide +kernel
theorem dX9_cutAbove_31 : decode cX9_cutAbove 31 = .ok (.iconst 3, 1) := by decide +kernel
theorem dX9_cutAbove_32 : decode cX9_cutAbove 32 = .ok (.if_icmp .ne 21, 3) := by decide +kernel
theorem dX9_cutAbove_35 : decode cX9_cutAbove 35 = .ok (.iload_n 2, 1) := by decide +kernel
theorem dX9_cutAbove_36 : decode cX9_cutAbove 36 = .ok (.aload_n 0, 1) := by decide +kernel
theorem dX9_cutAbove_37 : decode cX9_cutAbove 37 = .ok (.getfield 45, 3) := by decide +kernel
theorem dX9_cutAbove_40 : decode cX9_cutAbove 40 = .ok (.iload 4, 2) := by decide +kernel
theorem dX9_cutAbove_42 : decode cX9_cutAbove 42 = .ok (.iaload, 1) := by decide +kernel
theorem dX9_cutAbove_43 : decode cX9_cutAbove 43 = .ok (.invokestatic 124, 3) := by decide +kernel
theorem dX9_cutAbove_46 : decode cX9_cutAbove 46 = .ok (.ifCond .eq 7, 3) := by decide +kernel
theorem dX9_cutAbove_49 : decode cX9_cutAbove 49 = .ok (.iconst 1, 1) := by decide +kernel
theorem dX9_cutAbove_50 : decode cX9_cutAbove 50 = .ok (.goto 4, 3) := by decide +kernel
theorem dX9_cutAbove_53 : decode cX9_cutAbove 53 = .ok (.iconst 0, 1) := by decide +kernel
theorem dX9_cutAbove_54 : decode cX9_cutAbove 54 = .ok (.istore 5, 2) := by decide +kernel
theorem dX9_cutAbove_56 : decode cX9_cutAbove 56 = .ok (.iload 5, 2) := by decide +kernel
theorem dX9_cutAbove_58 : decode cX9_cutAbove 58 = .ok (.ifCond .eq 35, 3) := by decide +kernel
theorem dX9_cutAbove_61 : decode cX9_cutAbove 61 = .ok (.iload_n 3, 1) := by decide +kernel
theorem dX9_cutAbove_62 : decode cX9_cutAbove 62 = .ok (.iconst (-1), 1) := by decide +kernel
theorem dX9_cutAbove_63 : decode cX9_cutAbove 63 = .ok (.if_icmp .eq 25, 3) := by decide +kernel
theorem dX9_cutAbove_66 : decode cX9_cutAbove 66 = .ok (.aload_n 0, 1) := by decide +kernel
theorem dX9_cutAbove_67 : decode cX9_cutAbove 67 = .ok (.getfield 45, 3) := by decide +kernel
theorem dX9_cutAbove_70 : decode cX9_cutAbove 70 = .ok (.iload 4, 2) := by decide +kernel
theorem dX9_cutAbove_72 : decode cX9_cutAbove 72 = .ok (.iaload, 1) := by decide +kernel
theorem dX9_cutAbove_73 : decode cX9_cutAbove 73 = .ok (.invokestatic 113, 3) := by decide +kernel
theorem dX9_cutAbove_76 : decode cX9_cutAbove 76 = .ok (.aload_n 0, 1) := by decide +kernel
theorem dX9_cutAbove_77 : decode cX9_cutAbove 77 = .ok (.getfield 45, 3) := by decide +kernel
theorem dX9_cutAbove_80 : decode cX9_cutAbove 80 = .ok (.iload_n 3, 1) := by decide +kernel
theorem dX9_cutAbove_81 : decode cX9_cutAbove 81 = .ok (.iaload, 1) := by decide +kernel
theorem dX9_cutAbove_82 : decode cX9_cutAbove 82 = .ok (.invokestatic 113, 3) := by decide +kernel
theorem dX9_cutAbove_85 : decode cX9_cutAbove 85 = .ok (.if_icmp .ge 8, 3) := by decide +kernel
theorem dX9_cutAbove_88 : decode cX9_cutAbove 88 = .ok (.iload 4, 2) := by decide +kernel
theorem dX9_cutAbove_90 : decode cX9_cutAbove 90 = .ok (.goto 4, 3) := by decide +kernel
theorem dX9_cutAbove_93 : decode cX9_cutAbove 93 = .ok (.iload_n 3, 1) := by decide +kernel
theorem dX9_cutAbove_94 : decode cX9_cutAbove 94 = .ok (.istore_n 3, 1) := by decide +kernel
theorem dX9_cutAbove_95 : decode cX9_cutAbove 95 = .ok (.iinc 4 1, 3) := by decide +kernel
theorem dX9_cutAbove_98 : decode cX9_cutAbove 98 = .ok (.goto (-90), 3) := by decide +kernel
theorem dX9_cutAbove_101 : decode cX9_cutAbove 101 = .ok (.iload_n 3, 1) := by decide +kernel
theorem dX9_cutAbove_102 : decode cX9_cutAbove 102 = .ok (.ireturn, 1) := by decide +kernel
set_option maxRecDepth 20000 in
theorem ggX9_treeAbove_X9_isStrictly : GoodIn wsX9_treeAbove wsX9_isStrictly := goodIn_r _ [7, 8, 9, 6, 10, 11, 12, 13, 14, 15, 16, 17, 18, 19] (by decide +kernel) (by decide +kernel)
set_option maxRecDepth 20000 in
theorem gX9_treeAbove_X9_isStrictly : GoodIn wsX9_treeAbove (va_wsS RX9 187 yX9_isStrictly wsX9_isStrictly) := goodIn_app (goodIn_of _ (by decide +kernel)) ggX9_treeAbove_X9_isStrictly
theorem dX9_treeAbove_0 : decode cX9_treeAbove 0 = .ok (.iconst (-1), 1) := by decide +kernel
theorem dX9_treeAbove_1 : decode cX9_treeAbove 1 = .ok (.istore_n 3, 1) := by decide +kernel
theorem dX9_treeAbove_2 : decode cX9_treeAbove 2 = .ok (.bipush 32, 2) := by decide +kernel
theorem dX9_treeAbove_4 : decode cX9_treeAbove 4 = .ok (.iload_n 1, 1) := by decide +kernel
theorem dX9_treeAbove_5 : decode cX9_treeAbove 5 = .ok (.imul, 1) := by decide +kernel
theorem dX9_treeAbove_6 : decode cX9_treeAbove 6 = .ok (.istore 4, 2) := by decide +kernel
theorem dX9_treeAbove_8 : decode cX9_treeAbove 8 = .ok (.iload 4, 2) := by decide +kernel
theorem dX9_treeAbove_10 : decode cX9_treeAbove 10 = .ok (.bipush 32, 2) := by decide +kernel
theorem dX9_treeAbove_12 : decode cX9_treeAbove 12 = .ok (.iload_n 1, 1) := by decide +kernel
theorem dX9_treeAbove_13 : decode cX9_treeAbove 13 = .ok (.imul, 1) := by decide +kernel
theorem dX9_treeAbove_14 : decode cX9_treeAbove 14 = .ok (.aload_n 0, 1) := by decide +kernel
theorem dX9_treeAbove_15 : decode cX9_treeAbove 15 = .ok (.getfield 42, 3) := by decide +kernel
theorem dX9_treeAbove_18 : decode cX9_treeAbove 18 = .ok (.iload_n 1, 1) := by decide +kernel
theorem dX9_treeAbove_19 : decode cX9_treeAbove 19 = .ok (.iaload, 1) := by decide +kernel
theorem dX9_treeAbove_20 : decode cX9_treeAbove 20 = .ok (.iadd, 1) := by decide +kernel
theorem dX9_treeAbove_21 : decode cX9_treeAbove 21 = .ok (.if_icmp .ge 41, 3) := by decide +kernel
theorem dX9_treeAbove_24 : decode cX9_treeAbove 24 = .ok (.aload_n 0, 1) := by decide +kernel
theorem dX9_treeAbove_25 : decode cX9_treeAbove 25 = .ok (.getfield 48, 3) := by decide +kernel
theorem dX9_treeAbove_28 : decode cX9_treeAbove 28 = .ok (.iload 4, 2) := by decide +kernel
theorem dX9_treeAbove_30 : decode cX9_treeAbove 30 = .ok (.iaload, 1) := by decide +kernel
theorem dX9_treeAbove_31 : decode cX9_treeAbove 31 = .ok (.iconst 2, 1) := by decide +kernel
theorem dX9_treeAbove_32 : decode cX9_treeAbove 32 = .ok (.if_icmp .ne 22, 3) := by decide +kernel
theorem dX9_treeAbove_35 : decode cX9_treeAbove 35 = .ok (.iload_n 2, 1) := by decide +kernel
theorem dX9_treeAbove_36 : decode cX9_treeAbove 36 = .ok (.aload_n 0, 1) := by decide +kernel
theorem dX9_treeAbove_37 : decode cX9_treeAbove 37 = .ok (.getfield 45, 3) := by decide +kernel
theorem dX9_treeAbove_40 : decode cX9_treeAbove 40 = .ok (.iload 4, 2) := by decide +kernel
theorem dX9_treeAbove_42 : decode cX9_treeAbove 42 = .ok (.iaload, 1) := by decide +kernel
theorem dX9_treeAbove_43 : decode cX9_treeAbove 43 = .ok (.invokestatic 187, 3) := by decide +kernel
theorem dX9_treeAbove_46 : decode cX9_treeAbove 46 = .ok (.ifCond .eq 8, 3) := by decide +kernel
theorem dX9_treeAbove_49 : decode cX9_treeAbove 49 = .ok (.iload 4, 2) := by decide +kernel
theorem dX9_treeAbove_51 : decode cX9_treeAbove 51 = .ok (.goto 4, 3) := by decide +kernel
theorem dX9_treeAbove_54 : decode cX9_treeAbove 54 = .ok (.iload_n 3, 1) := by decide +kernel
theorem dX9_treeAbove_55 : decode cX9_treeAbove 55 = .ok (.istore_n 3, 1) := by decide +kernel
theorem dX9_treeAbove_56 : decode cX9_treeAbove 56 = .ok (.iinc 4 1, 3) := by decide +kernel
theorem dX9_treeAbove_59 : decode cX9_treeAbove 59 = .ok (.goto (-51), 3) := by decide +kernel
theorem dX9_treeAbove_62 : decode cX9_treeAbove 62 = .ok (.iload_n 3, 1) := by decide +kernel
theorem dX9_treeAbove_63 : decode cX9_treeAbove 63 = .ok (.ireturn, 1) := by decide +kernel
set_option maxRecDepth 20000 in
theorem ggX9_joined_X9_figures : GoodIn wsX9_joined wsX9_figures := goodIn_r _ [4] (by decide +kernel) (by decide +kernel)
set_option maxRecDepth 20000 in
theorem gX9_joined_X9_figures : GoodIn wsX9_joined (va_wsS RX9 113 yX9_figures wsX9_figures) := goodIn_app (goodIn_of _ (by decide +kernel)) ggX9_joined_X9_figures
set_option maxRecDepth 20000 in
theorem ggX9_joined_X9_ten : GoodIn wsX9_joined wsX9_ten := goodIn_r _ [7] (by decide +kernel) (by decide +kernel)
set_option maxRecDepth 20000 in
theorem gX9_joined_X9_ten : GoodIn wsX9_joined (va_wsS RX9 117 yX9_ten wsX9_ten) := goodIn_app (goodIn_of _ (by decide +kernel)) ggX9_joined_X9_ten
theorem dX9_joined_0 : decode cX9_joined 0 = .ok (.iload_n 1, 1) := by decide +kernel
theorem dX9_joined_1 : decode cX9_joined 1 = .ok (.invokestatic 113, 3) := by decide +kernel
theorem dX9_joined_4 : decode cX9_joined 4 = .ok (.iload_n 2, 1) := by decide +kernel
theorem dX9_joined_5 : decode cX9_joined 5 = .ok (.isub, 1) := by decide +kernel
theorem dX9_joined_6 : decode cX9_joined 6 = .ok (.istore_n 3, 1) := by decide +kernel
theorem dX9_joined_7 : decode cX9_joined 7 = .ok (.iload_n 1, 1) := by decide +kernel
theorem dX9_joined_8 : decode cX9_joined 8 = .ok (.iload_n 3, 1) := by decide +kernel
theorem dX9_joined_9 : decode cX9_joined 9 = .ok (.invokestatic 117, 3) := by decide +kernel
theorem dX9_joined_12 : decode cX9_joined 12 = .ok (.irem, 1) := by decide +kernel
theorem dX9_joined_13 : decode cX9_joined 13 = .ok (.istore 4, 2) := by decide +kernel
theorem dX9_joined_15 : decode cX9_joined 15 = .ok (.iload_n 0, 1) := by decide +kernel
theorem dX9_joined_16 : decode cX9_joined 16 = .ok (.invokestatic 113, 3) := by decide +kernel
theorem dX9_joined_19 : decode cX9_joined 19 = .ok (.iload_n 3, 1) := by decide +kernel
theorem dX9_joined_20 : decode cX9_joined 20 = .ok (.iadd, 1) := by decide +kernel
theorem dX9_joined_21 : decode cX9_joined 21 = .ok (.iconst 4, 1) := by decide +kernel
theorem dX9_joined_22 : decode cX9_joined 22 = .ok (.if_icmp .le 7, 3) := by decide +kernel
theorem dX9_joined_25 : decode cX9_joined 25 = .ok (.iconst (-1), 1) := by decide +kernel
theorem dX9_joined_26 : decode cX9_joined 26 = .ok (.goto 12, 3) := by decide +kernel
theorem dX9_joined_29 : decode cX9_joined 29 = .ok (.iload_n 0, 1) := by decide +kernel
theorem dX9_joined_30 : decode cX9_joined 30 = .ok (.iload_n 3, 1) := by decide +kernel
theorem dX9_joined_31 : decode cX9_joined 31 = .ok (.invokestatic 117, 3) := by decide +kernel
theorem dX9_joined_34 : decode cX9_joined 34 = .ok (.imul, 1) := by decide +kernel
theorem dX9_joined_35 : decode cX9_joined 35 = .ok (.iload 4, 2) := by decide +kernel
theorem dX9_joined_37 : decode cX9_joined 37 = .ok (.iadd, 1) := by decide +kernel
theorem dX9_joined_38 : decode cX9_joined 38 = .ok (.ireturn, 1) := by decide +kernel
set_option maxRecDepth 20000 in
theorem ggX9_asks_X9_cutAbove : GoodIn wsX9_asks wsX9_cutAbove := goodIn_r _ [13, 14, 15, 3, 16, 17, 12, 18, 19, 20, 21, 22, 23, 24, 25, 26, 27, 61, 62, 63, 64, 65, 66, 67, 68, 69, 70, 71, 72, 73, 74, 75, 76, 77, 78, 79, 80, 81, 82, 83, 84, 85, 86, 87, 88, 89, 90, 91, 92, 93, 94, 95, 96, 97] (by decide +kernel) (by decide +kernel)
set_option maxRecDepth 20000 in
theorem gX9_asks_X9_cutAbove : GoodIn wsX9_asks (wsV RX9 196 RX9 yX9_cutAbove wsX9_cutAbove) := goodIn_app (goodIn_of _ (by decide +kernel)) ggX9_asks_X9_cutAbove
set_option maxRecDepth 20000 in
theorem ggX9_asks_X9_treeAbove : GoodIn wsX9_asks wsX9_treeAbove := goodIn_r _ [31, 14, 15, 3, 32, 33, 12, 34, 16, 17, 18, 19, 20, 21, 22, 23, 24, 25, 26, 27, 61, 62, 63, 64, 65, 66, 67, 68, 69, 70, 71, 72, 73, 74, 75, 76, 77, 78, 79, 80, 81, 82, 83, 84, 85, 86, 87, 88, 89, 90, 91, 92, 93, 94, 95, 96, 97] (by decide +kernel) (by decide +kernel)
set_option maxRecDepth 20000 in
theorem gX9_asks_X9_treeAbove : GoodIn wsX9_asks (wsV RX9 202 RX9 yX9_treeAbove wsX9_treeAbove) := goodIn_app (goodIn_of _ (by decide +kernel)) ggX9_asks_X9_treeAbove
set_option maxRecDepth 20000 in
theorem ggX9_asks_X9_figures : GoodIn wsX9_asks wsX9_figures := goodIn_r _ [21] (by decide +kernel) (by decide +kernel)
set_option maxRecDepth 20000 in
theorem gX9_asks_X9_figures : GoodIn wsX9_asks (va_wsS RX9 113 yX9_figures wsX9_figures) := goodIn_app (goodIn_of _ (by decide +kernel)) ggX9_asks_X9_figures
set_option maxRecDepth 20000 in
theorem ggX9_asks_X9_joined : GoodIn wsX9_asks wsX9_joined := goodIn_r _ [37, 19, 20, 12, 21, 25, 26, 27] (by decide +kernel) (by decide +kernel)
set_option maxRecDepth 20000 in
theorem gX9_asks_X9_joined : GoodIn wsX9_asks (va_wsS RX9 205 yX9_joined wsX9_joined) := goodIn_app (goodIn_of _ (by decide +kernel)) ggX9_asks_X9_joined
set_option maxRecDepth 20000 in
theorem ggX9_asks_X9_isThere : GoodIn wsX9_asks wsX9_isThere := goodIn_r _ [41, 14, 3, 42, 43, 12, 44, 16, 17, 18, 19, 20, 21, 22, 23, 24, 25, 26, 27, 61, 62, 63, 64, 65, 66, 67, 68, 69, 70, 71, 72, 73, 74, 75, 76, 77, 78, 79, 80, 81, 82, 83, 84, 85, 86, 87, 88, 89, 90, 91, 92, 93, 94, 95, 96, 97] (by decide +kernel) (by decide +kernel)
set_option maxRecDepth 20000 in
theorem gX9_asks_X9_isThere : GoodIn wsX9_asks (wsV RX9 208 RX9 yX9_isThere wsX9_isThere) := goodIn_app (goodIn_of _ (by decide +kernel)) ggX9_asks_X9_isThere
set_option maxRecDepth 20000 in
theorem ggX9_asks_X9_encloser : GoodIn wsX9_asks wsX9_encloser := goodIn_r _ [48, 8, 19, 20, 12, 21, 22, 23, 24, 25, 26, 27, 38, 39, 40, 41, 14, 3, 42, 43, 44, 16, 17, 18, 61, 62, 63, 64, 65, 66, 67, 68, 69, 70, 71, 72, 73, 74, 75, 76, 77, 78, 79, 80, 81, 82, 83, 84, 85, 86, 87, 88, 89, 90, 91, 92, 93, 94, 95, 96, 97] (by decide +kernel) (by decide +kernel)
set_option maxRecDepth 20000 in
theorem gX9_asks_X9_encloser : GoodIn wsX9_asks (wsV RX9 211 RX9 yX9_encloser wsX9_encloser) := goodIn_app (goodIn_of _ (by decide +kernel)) ggX9_asks_X9_encloser
set_option maxRecDepth 20000 in
theorem ggX9_asks_X9_find : GoodIn wsX9_asks wsX9_find := goodIn_r _ [52, 14, 3, 15, 61, 62, 63, 64, 65, 66, 67, 68, 69, 70, 71, 72, 73, 74, 75, 76, 77, 78, 79, 80, 81, 82, 83, 84, 85, 86, 87, 88, 89, 90, 91, 92, 93, 94, 95, 96, 97] (by decide +kernel) (by decide +kernel)
set_option maxRecDepth 20000 in
theorem gX9_asks_X9_find : GoodIn wsX9_asks (wsV RX9 135 RX9 yX9_find wsX9_find) := goodIn_app (goodIn_of _ (by decide +kernel)) ggX9_asks_X9_find
set_option maxRecDepth 20000 in
theorem ggX9_asks_X9_least : GoodIn wsX9_asks wsX9_least := goodIn_r _ [56] (by decide +kernel) (by decide +kernel)
set_option maxRecDepth 20000 in
theorem gX9_asks_X9_least : GoodIn wsX9_asks (wsV RX9 214 RX9 yX9_least wsX9_least) := goodIn_app (goodIn_of _ (by decide +kernel)) ggX9_asks_X9_least
set_option maxRecDepth 20000 in
theorem ggX9_asks_X9_isStarThere : GoodIn wsX9_asks wsX9_isStarThere := goodIn_r _ [60, 14, 3, 61, 62, 63, 64, 65, 66, 67, 68, 69, 70, 71, 72, 73, 74, 75, 76, 77, 78, 79, 80, 81, 82, 83, 84, 85, 86, 87, 88, 89, 90, 91, 92, 93, 94, 95, 96, 97] (by decide +kernel) (by decide +kernel)
set_option maxRecDepth 20000 in
theorem gX9_asks_X9_isStarThere : GoodIn wsX9_asks (wsV RX9 217 RX9 yX9_isStarThere wsX9_isStarThere) := goodIn_app (goodIn_of _ (by decide +kernel)) ggX9_asks_X9_isStarThere
set_option maxRecDepth 20000 in
theorem ggX9_asks_X9_isUnder : GoodIn wsX9_asks wsX9_isUnder := goodIn_r _ [18, 19, 20, 12, 21, 22, 23, 24, 25, 26, 27] (by decide +kernel) (by decide +kernel)
set_option maxRecDepth 20000 in
theorem gX9_asks_X9_isUnder : GoodIn wsX9_asks (va_wsS RX9 124 yX9_isUnder wsX9_isUnder) := goodIn_app (goodIn_of _ (by decide +kernel)) ggX9_asks_X9_isUnder
theorem dX9_asks_0 : decode cX9_asks 0 = .ok (.aload_n 0, 1) := by decide +kernel
theorem dX9_asks_1 : decode cX9_asks 1 = .ok (.iload_n 3, 1) := by decide +kernel
theorem dX9_asks_2 : decode cX9_asks 2 = .ok (.putfield 190, 3) := by decide +kernel
theorem dX9_asks_5 : decode cX9_asks 5 = .ok (.aload_n 0, 1) := by decide +kernel
theorem dX9_asks_6 : decode cX9_asks 6 = .ok (.iconst (-1), 1) := by decide +kernel
theorem dX9_asks_7 : decode cX9_asks 7 = .ok (.putfield 193, 3) := by decide +kernel
theorem dX9_asks_10 : decode cX9_asks 10 = .ok (.sipush 1000, 3) := by decide +kernel
theorem dX9_asks_13 : decode cX9_asks 13 = .ok (.istore 5, 2) := by decide +kernel
theorem dX9_asks_15 : decode cX9_asks 15 = .ok (.iconst 0, 1) := by decide +kernel
theorem dX9_asks_16 : decode cX9_asks 16 = .ok (.istore 6, 2) := by decide +kernel
theorem dX9_asks_18 : decode cX9_asks 18 = .ok (.aload_n 0, 1) := by decide +kernel
theorem dX9_asks_19 : decode cX9_asks 19 = .ok (.iload_n 1, 1) := by decide +kernel
theorem dX9_asks_20 : decode cX9_asks 20 = .ok (.aload_n 0, 1) := by decide +kernel
theorem dX9_asks_21 : decode cX9_asks 21 = .ok (.getfield 190, 3) := by decide +kernel
theorem dX9_asks_24 : decode cX9_asks 24 = .ok (.invokevirtual 196, 3) := by decide +kernel
theorem dX9_asks_27 : decode cX9_asks 27 = .ok (.istore 7, 2) := by decide +kernel
theorem dX9_asks_29 : decode cX9_asks 29 = .ok (.iload 7, 2) := by decide +kernel
theorem dX9_asks_31 : decode cX9_asks 31 = .ok (.iconst (-1), 1) := by decide +kernel
theorem dX9_asks_32 : decode cX9_asks 32 = .ok (.if_icmp .eq 95, 3) := by decide +kernel
theorem dX9_asks_35 : decode cX9_asks 35 = .ok (.aload_n 0, 1) := by decide +kernel
theorem dX9_asks_36 : decode cX9_asks 36 = .ok (.getfield 45, 3) := by decide +kernel
theorem dX9_asks_39 : decode cX9_asks 39 = .ok (.iload 7, 2) := by decide +kernel
theorem dX9_asks_41 : decode cX9_asks 41 = .ok (.iaload, 1) := by decide +kernel
theorem dX9_asks_42 : decode cX9_asks 42 = .ok (.aload_n 0, 1) := by decide +kernel
theorem dX9_asks_43 : decode cX9_asks 43 = .ok (.getfield 190, 3) := by decide +kernel
theorem dX9_asks_46 : decode cX9_asks 46 = .ok (.if_icmp .ne 15, 3) := by decide +kernel
theorem dX9_asks_49 : decode cX9_asks 49 = .ok (.iload 4, 2) := by decide +kernel
theorem dX9_asks_51 : decode cX9_asks 51 = .ok (.iconst 3, 1) := by decide +kernel
theorem dX9_asks_52 : decode cX9_asks 52 = .ok (.if_icmp .eq 75, 3) := by decide +kernel
theorem dX9_asks_55 : decode cX9_asks 55 = .ok (.iload 4, 2) := by decide +kernel
theorem dX9_asks_57 : decode cX9_asks 57 = .ok (.iconst 4, 1) := by decide +kernel
theorem dX9_asks_58 : decode cX9_asks 58 = .ok (.if_icmp .eq 69, 3) := by decide +kernel
theorem dX9_asks_61 : decode cX9_asks 61 = .ok (.aload_n 0, 1) := by decide +kernel
theorem dX9_asks_62 : decode cX9_asks 62 = .ok (.iload 6, 2) := by decide +kernel
theorem dX9_asks_64 : decode cX9_asks 64 = .ok (.ifCond .le 8, 3) := by decide +kernel
theorem dX9_asks_67 : decode cX9_asks 67 = .ok (.iload 5, 2) := by decide +kernel
theorem dX9_asks_69 : decode cX9_asks 69 = .ok (.goto 10, 3) := by decide +kernel
theorem dX9_asks_72 : decode cX9_asks 72 = .ok (.aload_n 0, 1) := by decide +kernel
theorem dX9_asks_73 : decode cX9_asks 73 = .ok (.getfield 54, 3) := by decide +kernel
theorem dX9_asks_76 : decode cX9_asks 76 = .ok (.iload 7, 2) := by decide +kernel
theorem dX9_asks_78 : decode cX9_asks 78 = .ok (.iaload, 1) := by decide +kernel
theorem dX9_asks_79 : decode cX9_asks 79 = .ok (.putfield 199, 3) := by decide +kernel
theorem dX9_asks_82 : decode cX9_asks 82 = .ok (.aload_n 0, 1) := by decide +kernel
theorem dX9_asks_83 : decode cX9_asks 83 = .ok (.aload_n 0, 1) := by decide +kernel
theorem dX9_asks_84 : decode cX9_asks 84 = .ok (.getfield 51, 3) := by decide +kernel
theorem dX9_asks_87 : decode cX9_asks 87 = .ok (.iload 7, 2) := by decide +kernel
theorem dX9_asks_89 : decode cX9_asks 89 = .ok (.iaload, 1) := by decide +kernel
theorem dX9_asks_90 : decode cX9_asks 90 = .ok (.putfield 193, 3) := by decide +kernel
theorem dX9_asks_93 : decode cX9_asks 93 = .ok (.aload_n 0, 1) := by decide +kernel
theorem dX9_asks_94 : decode cX9_asks 94 = .ok (.iload 6, 2) := by decide +kernel
theorem dX9_asks_96 : decode cX9_asks 96 = .ok (.ifCond .le 10, 3) := by decide +kernel
theorem dX9_asks_99 : decode cX9_asks 99 = .ok (.aload_n 0, 1) := by decide +kernel
theorem dX9_asks_100 : decode cX9_asks 100 = .ok (.getfield 190, 3) := by decide +kernel
theorem dX9_asks_103 : decode cX9_asks 103 = .ok (.goto 10, 3) := by decide +kernel
theorem dX9_asks_106 : decode cX9_asks 106 = .ok (.aload_n 0, 1) := by decide +kernel
theorem dX9_asks_107 : decode cX9_asks 107 = .ok (.getfield 45, 3) := by decide +kernel
theorem dX9_asks_110 : decode cX9_asks 110 = .ok (.iload 7, 2) := by decide +kernel
theorem dX9_asks_112 : decode cX9_asks 112 = .ok (.iaload, 1) := by decide +kernel
theorem dX9_asks_113 : decode cX9_asks 113 = .ok (.putfield 190, 3) := by decide +kernel
theorem dX9_asks_116 : decode cX9_asks 116 = .ok (.iload 6, 2) := by decide +kernel
theorem dX9_asks_118 : decode cX9_asks 118 = .ok (.ifCond .le 7, 3) := by decide +kernel
theorem dX9_asks_121 : decode cX9_asks 121 = .ok (.iconst 4, 1) := by decide +kernel
theorem dX9_asks_122 : decode cX9_asks 122 = .ok (.goto 4, 3) := by decide +kernel
theorem dX9_asks_125 : decode cX9_asks 125 = .ok (.iconst 3, 1) := by decide +kernel
theorem dX9_asks_126 : decode cX9_asks 126 = .ok (.ireturn, 1) := by decide +kernel
theorem dX9_asks_127 : decode cX9_asks 127 = .ok (.aload_n 0, 1) := by decide +kernel
theorem dX9_asks_128 : decode cX9_asks 128 = .ok (.iload_n 1, 1) := by decide +kernel
theorem dX9_asks_129 : decode cX9_asks 129 = .ok (.aload_n 0, 1) := by decide +kernel
theorem dX9_asks_130 : decode cX9_asks 130 = .ok (.getfield 190, 3) := by decide +kernel
theorem dX9_asks_133 : decode cX9_asks 133 = .ok (.invokevirtual 202, 3) := by decide +kernel
theorem dX9_asks_136 : decode cX9_asks 136 = .ok (.istore 8, 2) := by decide +kernel
theorem dX9_asks_138 : decode cX9_asks 138 = .ok (.iconst (-1), 1) := by decide +kernel
theorem dX9_asks_139 : decode cX9_asks 139 = .ok (.istore 9, 2) := by decide +kernel
theorem dX9_asks_141 : decode cX9_asks 141 = .ok (.iconst (-1), 1) := by decide +kernel
theorem dX9_asks_142 : decode cX9_asks 142 = .ok (.istore 10, 2) := by decide +kernel
theorem dX9_asks_144 : decode cX9_asks 144 = .ok (.iload 8, 2) := by decide +kernel
theorem dX9_asks_146 : decode cX9_asks 146 = .ok (.iconst (-1), 1) := by decide +kernel
theorem dX9_asks_147 : decode cX9_asks 147 = .ok (.if_icmp .eq 36, 3) := by decide +kernel
theorem dX9_asks_150 : decode cX9_asks 150 = .ok (.aload_n 0, 1) := by decide +kernel
theorem dX9_asks_151 : decode cX9_asks 151 = .ok (.getfield 51, 3) := by decide +kernel
theorem dX9_asks_154 : decode cX9_asks 154 = .ok (.iload 8, 2) := by decide +kernel
theorem dX9_asks_156 : decode cX9_asks 156 = .ok (.iaload, 1) := by decide +kernel
theorem dX9_asks_157 : decode cX9_asks 157 = .ok (.aload_n 0, 1) := by decide +kernel
theorem dX9_asks_158 : decode cX9_asks 158 = .ok (.getfield 190, 3) := by decide +kernel
theorem dX9_asks_161 : decode cX9_asks 161 = .ok (.aload_n 0, 1) := by decide +kernel
theorem dX9_asks_162 : decode cX9_asks 162 = .ok (.getfield 45, 3) := by decide +kernel
theorem dX9_asks_165 : decode cX9_asks 165 = .ok (.iload 8, 2) := by decide +kernel
theorem dX9_asks_167 : decode cX9_asks 167 = .ok (.iaload, 1) := by decide +kernel
theorem dX9_asks_168 : decode cX9_asks 168 = .ok (.invokestatic 113, 3) := by decide +kernel
theorem dX9_asks_171 : decode cX9_asks 171 = .ok (.invokestatic 205, 3) := by decide +kernel
theorem dX9_asks_174 : decode cX9_asks 174 = .ok (.istore 9, 2) := by decide +kernel
theorem dX9_asks_176 : decode cX9_asks 176 = .ok (.iload 8, 2) := by decide +kernel
theorem dX9_asks_178 : decode cX9_asks 178 = .ok (.istore 10, 2) := by decide +kernel
theorem dX9_asks_180 : decode cX9_asks 180 = .ok (.goto 173, 3) := by decide +kernel
theorem dX9_asks_183 : decode cX9_asks 183 = .ok (.aload_n 0, 1) := by decide +kernel
theorem dX9_asks_184 : decode cX9_asks 184 = .ok (.iload_n 1, 1) := by decide +kernel
theorem dX9_asks_185 : decode cX9_asks 185 = .ok (.aload_n 0, 1) := by decide +kernel
theorem dX9_asks_186 : decode cX9_asks 186 = .ok (.getfield 190, 3) := by decide +kernel
theorem dX9_asks_189 : decode cX9_asks 189 = .ok (.invokevirtual 208, 3) := by decide +kernel
theorem dX9_asks_192 : decode cX9_asks 192 = .ok (.istore 11, 2) := by decide +kernel
theorem dX9_asks_194 : decode cX9_asks 194 = .ok (.iload 11, 2) := by decide +kernel
theorem dX9_asks_196 : decode cX9_asks 196 = .ok (.ifCond .eq 10, 3) := by decide +kernel
theorem dX9_asks_199 : decode cX9_asks 199 = .ok (.aload_n 0, 1) := by decide +kernel
theorem dX9_asks_200 : decode cX9_asks 200 = .ok (.getfield 190, 3) := by decide +kernel
theorem dX9_asks_203 : decode cX9_asks 203 = .ok (.goto 16, 3) := by decide +kernel
theorem dX9_asks_206 : decode cX9_asks 206 = .ok (.bipush 10, 2) := by decide +kernel
theorem dX9_asks_208 : decode cX9_asks 208 = .ok (.aload_n 0, 1) := by decide +kernel
theorem dX9_asks_209 : decode cX9_asks 209 = .ok (.iload_n 1, 1) := by decide +kernel
theorem dX9_asks_210 : decode cX9_asks 210 = .ok (.iload_n 2, 1) := by decide +kernel
theorem dX9_asks_211 : decode cX9_asks 211 = .ok (.aload_n 0, 1) := by decide +kernel
theorem dX9_asks_212 : decode cX9_asks 212 = .ok (.getfield 190, 3) := by decide +kernel
theorem dX9_asks_215 : decode cX9_asks 215 = .ok (.invokevirtual 211, 3) := by decide +kernel
theorem dX9_asks_218 : decode cX9_asks 218 = .ok (.imul, 1) := by decide +kernel
theorem dX9_asks_219 : decode cX9_asks 219 = .ok (.istore 12, 2) := by decide +kernel
theorem dX9_asks_221 : decode cX9_asks 221 = .ok (.aload_n 0, 1) := by decide +kernel
theorem dX9_asks_222 : decode cX9_asks 222 = .ok (.iload_n 1, 1) := by decide +kernel
theorem dX9_asks_223 : decode cX9_asks 223 = .ok (.iload 12, 2) := by decide +kernel
theorem dX9_asks_225 : decode cX9_asks 225 = .ok (.iload 4, 2) := by decide +kernel
theorem dX9_asks_227 : decode cX9_asks 227 = .ok (.invokevirtual 135, 3) := by decide +kernel
theorem dX9_asks_230 : decode cX9_asks 230 = .ok (.istore 13, 2) := by decide +kernel
theorem dX9_asks_232 : decode cX9_asks 232 = .ok (.aload_n 0, 1) := by decide +kernel
theorem dX9_asks_233 : decode cX9_asks 233 = .ok (.iload_n 1, 1) := by decide +kernel
theorem dX9_asks_234 : decode cX9_asks 234 = .ok (.iload 12, 2) := by decide +kernel
theorem dX9_asks_236 : decode cX9_asks 236 = .ok (.iconst 1, 1) := by decide +kernel
theorem dX9_asks_237 : decode cX9_asks 237 = .ok (.invokevirtual 135, 3) := by decide +kernel
theorem dX9_asks_240 : decode cX9_asks 240 = .ok (.istore 14, 2) := by decide +kernel
theorem dX9_asks_242 : decode cX9_asks 242 = .ok (.iload 12, 2) := by decide +kernel
theorem dX9_asks_244 : decode cX9_asks 244 = .ok (.ifCond .gt 8, 3) := by decide +kernel
theorem dX9_asks_247 : decode cX9_asks 247 = .ok (.iload 11, 2) := by decide +kernel
theorem dX9_asks_249 : decode cX9_asks 249 = .ok (.ifCond .eq 58, 3) := by decide +kernel
theorem dX9_asks_252 : decode cX9_asks 252 = .ok (.iload 13, 2) := by decide +kernel
theorem dX9_asks_254 : decode cX9_asks 254 = .ok (.iconst (-1), 1) := by decide +kernel
theorem dX9_asks_255 : decode cX9_asks 255 = .ok (.if_icmp .eq 33, 3) := by decide +kernel
theorem dX9_asks_258 : decode cX9_asks 258 = .ok (.aload_n 0, 1) := by decide +kernel
theorem dX9_asks_259 : decode cX9_asks 259 = .ok (.aload_n 0, 1) := by decide +kernel
theorem dX9_asks_260 : decode cX9_asks 260 = .ok (.getfield 51, 3) := by decide +kernel
theorem dX9_asks_263 : decode cX9_asks 263 = .ok (.iload 13, 2) := by decide +kernel
theorem dX9_asks_265 : decode cX9_asks 265 = .ok (.iaload, 1) := by decide +kernel
theorem dX9_asks_266 : decode cX9_asks 266 = .ok (.putfield 193, 3) := by decide +kernel
theorem dX9_asks_269 : decode cX9_asks 269 = .ok (.aload_n 0, 1) := by decide +kernel
theorem dX9_asks_270 : decode cX9_asks 270 = .ok (.aload_n 0, 1) := by decide +kernel
theorem dX9_asks_271 : decode cX9_asks 271 = .ok (.iload 5, 2) := by decide +kernel
theorem dX9_asks_273 : decode cX9_asks 273 = .ok (.aload_n 0, 1) := by decide +kernel
theorem dX9_asks_274 : decode cX9_asks 274 = .ok (.getfield 54, 3) := by decide +kernel
theorem dX9_asks_277 : decode cX9_asks 277 = .ok (.iload 13, 2) := by decide +kernel
theorem dX9_asks_279 : decode cX9_asks 279 = .ok (.iaload, 1) := by decide +kernel
theorem dX9_asks_280 : decode cX9_asks 280 = .ok (.invokevirtual 214, 3) := by decide +kernel
theorem dX9_asks_283 : decode cX9_asks 283 = .ok (.putfield 199, 3) := by decide +kernel
theorem dX9_asks_286 : decode cX9_asks 286 = .ok (.iconst 0, 1) := by decide +kernel
theorem dX9_asks_287 : decode cX9_asks 287 = .ok (.ireturn, 1) := by decide +kernel
theorem dX9_asks_288 : decode cX9_asks 288 = .ok (.iload 14, 2) := by decide +kernel
theorem dX9_asks_290 : decode cX9_asks 290 = .ok (.iconst (-1), 1) := by decide +kernel
theorem dX9_asks_291 : decode cX9_asks 291 = .ok (.if_icmp .eq 16, 3) := by decide +kernel
theorem dX9_asks_294 : decode cX9_asks 294 = .ok (.iload 14, 2) := by decide +kernel
theorem dX9_asks_296 : decode cX9_asks 296 = .ok (.istore 10, 2) := by decide +kernel
theorem dX9_asks_298 : decode cX9_asks 298 = .ok (.aload_n 0, 1) := by decide +kernel
theorem dX9_asks_299 : decode cX9_asks 299 = .ok (.getfield 51, 3) := by decide +kernel
theorem dX9_asks_302 : decode cX9_asks 302 = .ok (.iload 14, 2) := by decide +kernel
theorem dX9_asks_304 : decode cX9_asks 304 = .ok (.iaload, 1) := by decide +kernel
theorem dX9_asks_305 : decode cX9_asks 305 = .ok (.istore 9, 2) := by decide +kernel
theorem dX9_asks_307 : decode cX9_asks 307 = .ok (.iload 10, 2) := by decide +kernel
theorem dX9_asks_309 : decode cX9_asks 309 = .ok (.iconst (-1), 1) := by decide +kernel
theorem dX9_asks_310 : decode cX9_asks 310 = .ok (.if_icmp .ne 43, 3) := by decide +kernel
theorem dX9_asks_313 : decode cX9_asks 313 = .ok (.aload_n 0, 1) := by decide +kernel
theorem dX9_asks_314 : decode cX9_asks 314 = .ok (.aload_n 0, 1) := by decide +kernel
theorem dX9_asks_315 : decode cX9_asks 315 = .ok (.iload 5, 2) := by decide +kernel
theorem dX9_asks_317 : decode cX9_asks 317 = .ok (.aload_n 0, 1) := by decide +kernel
theorem dX9_asks_318 : decode cX9_asks 318 = .ok (.getfield 17, 3) := by decide +kernel
theorem dX9_asks_321 : decode cX9_asks 321 = .ok (.iload_n 2, 1) := by decide +kernel
theorem dX9_asks_322 : decode cX9_asks 322 = .ok (.iaload, 1) := by decide +kernel
theorem dX9_asks_323 : decode cX9_asks 323 = .ok (.invokevirtual 214, 3) := by decide +kernel
theorem dX9_asks_326 : decode cX9_asks 326 = .ok (.putfield 199, 3) := by decide +kernel
theorem dX9_asks_329 : decode cX9_asks 329 = .ok (.iload 11, 2) := by decide +kernel
theorem dX9_asks_331 : decode cX9_asks 331 = .ok (.ifCond .ne 16, 3) := by decide +kernel
theorem dX9_asks_334 : decode cX9_asks 334 = .ok (.aload_n 0, 1) := by decide +kernel
theorem dX9_asks_335 : decode cX9_asks 335 = .ok (.iload_n 1, 1) := by decide +kernel
theorem dX9_asks_336 : decode cX9_asks 336 = .ok (.iload 12, 2) := by decide +kernel
theorem dX9_asks_338 : decode cX9_asks 338 = .ok (.bipush 10, 2) := by decide +kernel
theorem dX9_asks_340 : decode cX9_asks 340 = .ok (.idiv, 1) := by decide +kernel
theorem dX9_asks_341 : decode cX9_asks 341 = .ok (.invokevirtual 217, 3) := by decide +kernel
theorem dX9_asks_344 : decode cX9_asks 344 = .ok (.ifCond .eq 7, 3) := by decide +kernel
theorem dX9_asks_347 : decode cX9_asks 347 = .ok (.iconst 1, 1) := by decide +kernel
theorem dX9_asks_348 : decode cX9_asks 348 = .ok (.goto 4, 3) := by decide +kernel
theorem dX9_asks_351 : decode cX9_asks 351 = .ok (.iconst 2, 1) := by decide +kernel
theorem dX9_asks_352 : decode cX9_asks 352 = .ok (.ireturn, 1) := by decide +kernel
theorem dX9_asks_353 : decode cX9_asks 353 = .ok (.aload_n 0, 1) := by decide +kernel
theorem dX9_asks_354 : decode cX9_asks 354 = .ok (.iload 5, 2) := by decide +kernel
theorem dX9_asks_356 : decode cX9_asks 356 = .ok (.aload_n 0, 1) := by decide +kernel
theorem dX9_asks_357 : decode cX9_asks 357 = .ok (.getfield 54, 3) := by decide +kernel
theorem dX9_asks_360 : decode cX9_asks 360 = .ok (.iload 10, 2) := by decide +kernel
theorem dX9_asks_362 : decode cX9_asks 362 = .ok (.iaload, 1) := by decide +kernel
theorem dX9_asks_363 : decode cX9_asks 363 = .ok (.invokevirtual 214, 3) := by decide +kernel
theorem dX9_asks_366 : decode cX9_asks 366 = .ok (.istore 5, 2) := by decide +kernel
theorem dX9_asks_368 : decode cX9_asks 368 = .ok (.iinc 6 1, 3) := by decide +kernel
theorem dX9_asks_371 : decode cX9_asks 371 = .ok (.aload_n 0, 1) := by decide +kernel
theorem dX9_asks_372 : decode cX9_asks 372 = .ok (.iload 5, 2) := by decide +kernel
theorem dX9_asks_374 : decode cX9_asks 374 = .ok (.putfield 199, 3) := by decide +kernel
theorem dX9_asks_377 : decode cX9_asks 377 = .ok (.iload 9, 2) := by decide +kernel
theorem dX9_asks_379 : decode cX9_asks 379 = .ok (.iconst (-1), 1) := by decide +kernel
theorem dX9_asks_380 : decode cX9_asks 380 = .ok (.if_icmp .eq 10, 3) := by decide +kernel
theorem dX9_asks_383 : decode cX9_asks 383 = .ok (.iload 6, 2) := by decide +kernel
theorem dX9_asks_385 : decode cX9_asks 385 = .ok (.bipush 8, 2) := by decide +kernel
theorem dX9_asks_387 : decode cX9_asks 387 = .ok (.if_icmp .le 15, 3) := by decide +kernel
theorem dX9_asks_390 : decode cX9_asks 390 = .ok (.aload_n 0, 1) := by decide +kernel
theorem dX9_asks_391 : decode cX9_asks 391 = .ok (.iconst (-1), 1) := by decide +kernel
theorem dX9_asks_392 : decode cX9_asks 392 = .ok (.putfield 190, 3) := by decide +kernel
theorem dX9_asks_395 : decode cX9_asks 395 = .ok (.aload_n 0, 1) := by decide +kernel
theorem dX9_asks_396 : decode cX9_asks 396 = .ok (.iconst 0, 1) := by decide +kernel
theorem dX9_asks_397 : decode cX9_asks 397 = .ok (.putfield 199, 3) := by decide +kernel
theorem dX9_asks_400 : decode cX9_asks 400 = .ok (.iconst 5, 1) := by decide +kernel
theorem dX9_asks_401 : decode cX9_asks 401 = .ok (.ireturn, 1) := by decide +kernel
theorem dX9_asks_402 : decode cX9_asks 402 = .ok (.aload_n 0, 1) := by decide +kernel
theorem dX9_asks_403 : decode cX9_asks 403 = .ok (.iload 9, 2) := by decide +kernel
theorem dX9_asks_405 : decode cX9_asks 405 = .ok (.putfield 190, 3) := by decide +kernel
theorem dX9_asks_408 : decode cX9_asks 408 = .ok (.iload 9, 2) := by decide +kernel
theorem dX9_asks_410 : decode cX9_asks 410 = .ok (.aload_n 0, 1) := by decide +kernel
theorem dX9_asks_411 : decode cX9_asks 411 = .ok (.getfield 13, 3) := by decide +kernel
theorem dX9_asks_414 : decode cX9_asks 414 = .ok (.iload_n 2, 1) := by decide +kernel
theorem dX9_asks_415 : decode cX9_asks 415 = .ok (.iaload, 1) := by decide +kernel
theorem dX9_asks_416 : decode cX9_asks 416 = .ok (.invokestatic 124, 3) := by decide +kernel
theorem dX9_asks_419 : decode cX9_asks 419 = .ok (.ifCond .ne 5, 3) := by decide +kernel
theorem dX9_asks_422 : decode cX9_asks 422 = .ok (.iconst 4, 1) := by decide +kernel
theorem dX9_asks_423 : decode cX9_asks 423 = .ok (.ireturn, 1) := by decide +kernel
theorem dX9_asks_424 : decode cX9_asks 424 = .ok (.goto (-406), 3) := by decide +kernel
set_option maxRecDepth 20000 in
theorem ggX9_encloser_X9_figures : GoodIn wsX9_encloser wsX9_figures := goodIn_r _ [5] (by decide +kernel) (by decide +kernel)
set_option maxRecDepth 20000 in
theorem gX9_encloser_X9_figures : GoodIn wsX9_encloser (va_wsS RX9 113 yX9_figures wsX9_figures) := goodIn_app (goodIn_of _ (by decide +kernel)) ggX9_encloser_X9_figures
set_option maxRecDepth 20000 in
theorem ggX9_encloser_X9_head : GoodIn wsX9_encloser wsX9_head := goodIn_r _ [8, 2, 3, 4, 5, 9, 10, 11] (by decide +kernel) (by decide +kernel)
set_option maxRecDepth 20000 in
theorem gX9_encloser_X9_head : GoodIn wsX9_encloser (va_wsS RX9 120 yX9_head wsX9_head) := goodIn_app (goodIn_of _ (by decide +kernel)) ggX9_encloser_X9_head
set_option maxRecDepth 20000 in
theorem ggX9_encloser_X9_isThere : GoodIn wsX9_encloser wsX9_isThere := goodIn_r _ [15, 16, 17, 18, 19, 4, 20, 21, 22, 23, 2, 3, 5, 6, 7, 8, 9, 10, 11, 24, 25, 26, 27, 28, 29, 30, 31, 32, 33, 34, 35, 36, 37, 38, 39, 40, 41, 42, 43, 44, 45, 46, 47, 48, 49, 50, 51, 52, 53, 54, 55, 56, 57, 58, 59, 60] (by decide +kernel) (by decide +kernel)
set_option maxRecDepth 20000 in
theorem gX9_encloser_X9_isThere : GoodIn wsX9_encloser (wsV RX9 208 RX9 yX9_isThere wsX9_isThere) := goodIn_app (goodIn_of _ (by decide +kernel)) ggX9_encloser_X9_isThere
theorem dX9_encloser_0 : decode cX9_encloser 0 = .ok (.iload_n 3, 1) := by decide +kernel
theorem dX9_encloser_1 : decode cX9_encloser 1 = .ok (.invokestatic 113, 3) := by decide +kernel
theorem dX9_encloser_4 : decode cX9_encloser 4 = .ok (.istore 4, 2) := by decide +kernel
theorem dX9_encloser_6 : decode cX9_encloser 6 = .ok (.iload 4, 2) := by decide +kernel
theorem dX9_encloser_8 : decode cX9_encloser 8 = .ok (.aload_n 0, 1) := by decide +kernel
theorem dX9_encloser_9 : decode cX9_encloser 9 = .ok (.getfield 13, 3) := by decide +kernel
theorem dX9_encloser_12 : decode cX9_encloser 12 = .ok (.iload_n 2, 1) := by decide +kernel
theorem dX9_encloser_13 : decode cX9_encloser 13 = .ok (.iaload, 1) := by decide +kernel
theorem dX9_encloser_14 : decode cX9_encloser 14 = .ok (.invokestatic 113, 3) := by decide +kernel
theorem dX9_encloser_17 : decode cX9_encloser 17 = .ok (.if_icmp .le 30, 3) := by decide +kernel
theorem dX9_encloser_20 : decode cX9_encloser 20 = .ok (.aload_n 0, 1) := by decide +kernel
theorem dX9_encloser_21 : decode cX9_encloser 21 = .ok (.iload_n 1, 1) := by decide +kernel
theorem dX9_encloser_22 : decode cX9_encloser 22 = .ok (.iload_n 3, 1) := by decide +kernel
theorem dX9_encloser_23 : decode cX9_encloser 23 = .ok (.iload 4, 2) := by decide +kernel
theorem dX9_encloser_25 : decode cX9_encloser 25 = .ok (.invokestatic 120, 3) := by decide +kernel
theorem dX9_encloser_28 : decode cX9_encloser 28 = .ok (.invokevirtual 208, 3) := by decide +kernel
theorem dX9_encloser_31 : decode cX9_encloser 31 = .ok (.ifCond .eq 10, 3) := by decide +kernel
theorem dX9_encloser_34 : decode cX9_encloser 34 = .ok (.iload_n 3, 1) := by decide +kernel
theorem dX9_encloser_35 : decode cX9_encloser 35 = .ok (.iload 4, 2) := by decide +kernel
theorem dX9_encloser_37 : decode cX9_encloser 37 = .ok (.invokestatic 120, 3) := by decide +kernel
theorem dX9_encloser_40 : decode cX9_encloser 40 = .ok (.ireturn, 1) := by decide +kernel
theorem dX9_encloser_41 : decode cX9_encloser 41 = .ok (.iinc 4 (-1), 3) := by decide +kernel
theorem dX9_encloser_44 : decode cX9_encloser 44 = .ok (.goto (-38), 3) := by decide +kernel
theorem dX9_encloser_47 : decode cX9_encloser 47 = .ok (.aload_n 0, 1) := by decide +kernel
theorem dX9_encloser_48 : decode cX9_encloser 48 = .ok (.getfield 13, 3) := by decide +kernel
theorem dX9_encloser_51 : decode cX9_encloser 51 = .ok (.iload_n 2, 1) := by decide +kernel
theorem dX9_encloser_52 : decode cX9_encloser 52 = .ok (.iaload, 1) := by decide +kernel
theorem dX9_encloser_53 : decode cX9_encloser 53 = .ok (.ireturn, 1) := by decide +kernel
theorem dX9_tell_0 : decode cX9_tell 0 = .ok (.aload_n 0, 1) := by decide +kernel
theorem dX9_tell_1 : decode cX9_tell 1 = .ok (.getfield 96, 3) := by decide +kernel
theorem dX9_tell_4 : decode cX9_tell 4 = .ok (.iconst 0, 1) := by decide +kernel
theorem dX9_tell_5 : decode cX9_tell 5 = .ok (.iload_n 1, 1) := by decide +kernel
theorem dX9_tell_6 : decode cX9_tell 6 = .ok (.iastore, 1) := by decide +kernel
theorem dX9_tell_7 : decode cX9_tell 7 = .ok (.aload_n 0, 1) := by decide +kernel
theorem dX9_tell_8 : decode cX9_tell 8 = .ok (.getfield 96, 3) := by decide +kernel
theorem dX9_tell_11 : decode cX9_tell 11 = .ok (.iconst 1, 1) := by decide +kernel
theorem dX9_tell_12 : decode cX9_tell 12 = .ok (.iload_n 2, 1) := by decide +kernel
theorem dX9_tell_13 : decode cX9_tell 13 = .ok (.iastore, 1) := by decide +kernel
theorem dX9_tell_14 : decode cX9_tell 14 = .ok (.aload_n 0, 1) := by decide +kernel
theorem dX9_tell_15 : decode cX9_tell 15 = .ok (.getfield 96, 3) := by decide +kernel
theorem dX9_tell_18 : decode cX9_tell 18 = .ok (.iconst 2, 1) := by decide +kernel
theorem dX9_tell_19 : decode cX9_tell 19 = .ok (.iload_n 3, 1) := by decide +kernel
theorem dX9_tell_20 : decode cX9_tell 20 = .ok (.iastore, 1) := by decide +kernel
theorem dX9_tell_21 : decode cX9_tell 21 = .ok (.aload_n 0, 1) := by decide +kernel
theorem dX9_tell_22 : decode cX9_tell 22 = .ok (.getfield 96, 3) := by decide +kernel
theorem dX9_tell_25 : decode cX9_tell 25 = .ok (.iconst 3, 1) := by decide +kernel
theorem dX9_tell_26 : decode cX9_tell 26 = .ok (.iload 4, 2) := by decide +kernel
theorem dX9_tell_28 : decode cX9_tell 28 = .ok (.iastore, 1) := by decide +kernel
theorem dX9_tell_29 : decode cX9_tell 29 = .ok (.aload_n 0, 1) := by decide +kernel
theorem dX9_tell_30 : decode cX9_tell 30 = .ok (.getfield 96, 3) := by decide +kernel
theorem dX9_tell_33 : decode cX9_tell 33 = .ok (.iconst 4, 1) := by decide +kernel
theorem dX9_tell_34 : decode cX9_tell 34 = .ok (.iload 5, 2) := by decide +kernel
theorem dX9_tell_36 : decode cX9_tell 36 = .ok (.iastore, 1) := by decide +kernel
theorem dX9_tell_37 : decode cX9_tell 37 = .ok (.return_, 1) := by decide +kernel
set_option maxRecDepth 20000 in
theorem ggX9_ask_X9_isName : GoodIn wsX9_ask wsX9_isName := goodIn_r _ [8, 9, 10, 7, 11] (by decide +kernel) (by decide +kernel)
set_option maxRecDepth 20000 in
theorem gX9_ask_X9_isName : GoodIn wsX9_ask (va_wsS RX9 106 yX9_isName wsX9_isName) := goodIn_app (goodIn_of _ (by decide +kernel)) ggX9_ask_X9_isName
set_option maxRecDepth 20000 in
theorem ggX9_ask_X9_in : GoodIn wsX9_ask wsX9_in := goodIn_r _ [11] (by decide +kernel) (by decide +kernel)
set_option maxRecDepth 20000 in
theorem gX9_ask_X9_in : GoodIn wsX9_ask (va_wsS RX9 102 yX9_in wsX9_in) := goodIn_app (goodIn_of _ (by decide +kernel)) ggX9_ask_X9_in
set_option maxRecDepth 20000 in
theorem ggX9_ask_X9_isZone : GoodIn wsX9_ask wsX9_isZone := goodIn_r _ [15, 16, 9, 10, 7, 11, 86, 87, 88, 89, 90, 91, 92, 93, 94, 95, 96, 97, 98, 99, 100, 101, 102, 103, 104, 105, 106, 107, 108, 109, 110, 111, 112, 113, 114, 115, 116, 117, 118, 119, 120, 121, 122] (by decide +kernel) (by decide +kernel)
set_option maxRecDepth 20000 in
theorem gX9_ask_X9_isZone : GoodIn wsX9_ask (wsV RX9 159 RX9 yX9_isZone wsX9_isZone) := goodIn_app (goodIn_of _ (by decide +kernel)) ggX9_ask_X9_isZone
set_option maxRecDepth 20000 in
theorem ggX9_ask_X9_isUnder : GoodIn wsX9_ask wsX9_isUnder := goodIn_r _ [19, 20, 21, 7, 22, 23, 24, 25, 26, 27, 28] (by decide +kernel) (by decide +kernel)
set_option maxRecDepth 20000 in
theorem gX9_ask_X9_isUnder : GoodIn wsX9_ask (va_wsS RX9 124 yX9_isUnder wsX9_isUnder) := goodIn_app (goodIn_of _ (by decide +kernel)) ggX9_ask_X9_isUnder
set_option maxRecDepth 20000 in
theorem ggX9_ask_X9_asked__ : GoodIn wsX9_ask wsX9_asked__ := goodIn_r _ [32, 33, 86, 87, 88, 89, 90, 91, 92, 93, 94, 95, 96, 97, 98, 99, 100, 101, 102, 103, 104, 105, 106, 107, 108, 109, 110, 111, 112, 113, 114, 115, 116, 117, 118, 119, 120, 121, 122] (by decide +kernel) (by decide +kernel)
set_option maxRecDepth 20000 in
theorem gX9_ask_X9_asked__ : GoodIn wsX9_ask (wsV RX9 220 RX9 yX9_asked__ wsX9_asked__) := goodIn_app (goodIn_of _ (by decide +kernel)) ggX9_ask_X9_asked__
set_option maxRecDepth 20000 in
theorem ggX9_ask_X9_asks : GoodIn wsX9_ask wsX9_asks := goodIn_r _ [37, 3, 2, 38, 39, 4, 40, 41, 1, 42, 43, 44, 7, 45, 46, 47, 17, 18, 19, 20, 21, 22, 23, 24, 25, 26, 27, 28, 48, 49, 50, 51, 52, 53, 54, 55, 56, 57, 58, 59, 60, 61, 62, 63, 64, 65, 66, 67, 68, 69, 70, 71, 72, 73, 74, 75, 76, 77, 78, 79, 80, 86, 87, 88, 89, 90, 91, 92, 93, 94, 95, 96, 97, 98, 99, 100, 101, 102, 103, 104, 105, 106, 107, 108, 109, 110, 111, 112, 113, 114, 115, 116, 117, 118, 119, 120, 121, 122] rfl (by decide +kernel)
set_option maxRecDepth 20000 in
theorem gX9_ask_X9_asks : GoodIn wsX9_ask (wsV RX9 223 RX9 yX9_asks wsX9_asks) := goodIn_app (goodIn_of _ (by decide +kernel)) ggX9_ask_X9_asks
set_option maxRecDepth 20000 in
theorem ggX9_ask_X9_tell : GoodIn wsX9_ask wsX9_tell := goodIn_r _ [84, 85, 86, 87, 88, 89, 90, 91, 92, 93, 94, 95, 96, 97, 98, 99, 100, 101, 102, 103, 104, 105, 106, 107, 108, 109, 110, 111, 112, 113, 114, 115, 116, 117, 118, 119, 120, 121, 122] (by decide +kernel) (by decide +kernel)
set_option maxRecDepth 20000 in
theorem gX9_ask_X9_tell : GoodIn wsX9_ask (wsV RX9 227 RX9 yX9_tell wsX9_tell) := goodIn_app (goodIn_of _ (by decide +kernel)) ggX9_ask_X9_tell
theorem dX9_ask_0 : decode cX9_ask 0 = .ok (.iload_n 2, 1) := by decide +kernel
theorem dX9_ask_1 : decode cX9_ask 1 = .ok (.invokestatic 106, 3) := by decide +kernel
theorem dX9_ask_4 : decode cX9_ask 4 = .ok (.ifCond .eq 16, 3) := by decide +kernel
theorem dX9_ask_7 : decode cX9_ask 7 = .ok (.iload_n 3, 1) := by decide +kernel
theorem dX9_ask_8 : decode cX9_ask 8 = .ok (.iconst 0, 1) := by decide +kernel
theorem dX9_ask_9 : decode cX9_ask 9 = .ok (.iconst 4, 1) := by decide +kernel
theorem dX9_ask_10 : decode cX9_ask 10 = .ok (.invokestatic 102, 3) := by decide +kernel
theorem dX9_ask_13 : decode cX9_ask 13 = .ok (.ifCond .eq 7, 3) := by decide +kernel
theorem dX9_ask_16 : decode cX9_ask 16 = .ok (.iconst 1, 1) := by decide +kernel
theorem dX9_ask_17 : decode cX9_ask 17 = .ok (.goto 4, 3) := by decide +kernel
theorem dX9_ask_20 : decode cX9_ask 20 = .ok (.iconst 0, 1) := by decide +kernel
theorem dX9_ask_21 : decode cX9_ask 21 = .ok (.istore 4, 2) := by decide +kernel
theorem dX9_ask_23 : decode cX9_ask 23 = .ok (.aload_n 0, 1) := by decide +kernel
theorem dX9_ask_24 : decode cX9_ask 24 = .ok (.aload_n 0, 1) := by decide +kernel
theorem dX9_ask_25 : decode cX9_ask 25 = .ok (.iload_n 1, 1) := by decide +kernel
theorem dX9_ask_26 : decode cX9_ask 26 = .ok (.invokevirtual 159, 3) := by decide +kernel
theorem dX9_ask_29 : decode cX9_ask 29 = .ok (.iload 4, 2) := by decide +kernel
theorem dX9_ask_31 : decode cX9_ask 31 = .ok (.aload_n 0, 1) := by decide +kernel
theorem dX9_ask_32 : decode cX9_ask 32 = .ok (.iload_n 1, 1) := by decide +kernel
theorem dX9_ask_33 : decode cX9_ask 33 = .ok (.invokevirtual 159, 3) := by decide +kernel
theorem dX9_ask_36 : decode cX9_ask 36 = .ok (.ifCond .eq 25, 3) := by decide +kernel
theorem dX9_ask_39 : decode cX9_ask 39 = .ok (.iload 4, 2) := by decide +kernel
theorem dX9_ask_41 : decode cX9_ask 41 = .ok (.ifCond .eq 20, 3) := by decide +kernel
theorem dX9_ask_44 : decode cX9_ask 44 = .ok (.iload_n 2, 1) := by decide +kernel
theorem dX9_ask_45 : decode cX9_ask 45 = .ok (.aload_n 0, 1) := by decide +kernel
theorem dX9_ask_46 : decode cX9_ask 46 = .ok (.getfield 13, 3) := by decide +kernel
theorem dX9_ask_49 : decode cX9_ask 49 = .ok (.iload_n 1, 1) := by decide +kernel
theorem dX9_ask_50 : decode cX9_ask 50 = .ok (.iaload, 1) := by decide +kernel
theorem dX9_ask_51 : decode cX9_ask 51 = .ok (.invokestatic 124, 3) := by decide +kernel
theorem dX9_ask_54 : decode cX9_ask 54 = .ok (.ifCond .eq 7, 3) := by decide +kernel
theorem dX9_ask_57 : decode cX9_ask 57 = .ok (.iconst 1, 1) := by decide +kernel
theorem dX9_ask_58 : decode cX9_ask 58 = .ok (.goto 4, 3) := by decide +kernel
theorem dX9_ask_61 : decode cX9_ask 61 = .ok (.iconst 0, 1) := by decide +kernel
theorem dX9_ask_62 : decode cX9_ask 62 = .ok (.invokevirtual 220, 3) := by decide +kernel
theorem dX9_ask_65 : decode cX9_ask 65 = .ok (.ifCond .ne 5, 3) := by decide +kernel
theorem dX9_ask_68 : decode cX9_ask 68 = .ok (.iconst 0, 1) := by decide +kernel
theorem dX9_ask_69 : decode cX9_ask 69 = .ok (.ireturn, 1) := by decide +kernel
theorem dX9_ask_70 : decode cX9_ask 70 = .ok (.aload_n 0, 1) := by decide +kernel
theorem dX9_ask_71 : decode cX9_ask 71 = .ok (.iload_n 1, 1) := by decide +kernel
theorem dX9_ask_72 : decode cX9_ask 72 = .ok (.iload_n 1, 1) := by decide +kernel
theorem dX9_ask_73 : decode cX9_ask 73 = .ok (.iload_n 2, 1) := by decide +kernel
theorem dX9_ask_74 : decode cX9_ask 74 = .ok (.iload_n 3, 1) := by decide +kernel
theorem dX9_ask_75 : decode cX9_ask 75 = .ok (.invokevirtual 223, 3) := by decide +kernel
theorem dX9_ask_78 : decode cX9_ask 78 = .ok (.istore 5, 2) := by decide +kernel
theorem dX9_ask_80 : decode cX9_ask 80 = .ok (.aload_n 0, 1) := by decide +kernel
theorem dX9_ask_81 : decode cX9_ask 81 = .ok (.iload 5, 2) := by decide +kernel
theorem dX9_ask_83 : decode cX9_ask 83 = .ok (.ifCond .ne 10, 3) := by decide +kernel
theorem dX9_ask_86 : decode cX9_ask 86 = .ok (.aload_n 0, 1) := by decide +kernel
theorem dX9_ask_87 : decode cX9_ask 87 = .ok (.getfield 193, 3) := by decide +kernel
theorem dX9_ask_90 : decode cX9_ask 90 = .ok (.goto 4, 3) := by decide +kernel
theorem dX9_ask_93 : decode cX9_ask 93 = .ok (.iconst (-1), 1) := by decide +kernel
theorem dX9_ask_94 : decode cX9_ask 94 = .ok (.aload_n 0, 1) := by decide +kernel
theorem dX9_ask_95 : decode cX9_ask 95 = .ok (.getfield 190, 3) := by decide +kernel
theorem dX9_ask_98 : decode cX9_ask 98 = .ok (.aload_n 0, 1) := by decide +kernel
theorem dX9_ask_99 : decode cX9_ask 99 = .ok (.getfield 199, 3) := by decide +kernel
theorem dX9_ask_102 : decode cX9_ask 102 = .ok (.iconst 1, 1) := by decide +kernel
theorem dX9_ask_103 : decode cX9_ask 103 = .ok (.iconst 0, 1) := by decide +kernel
theorem dX9_ask_104 : decode cX9_ask 104 = .ok (.invokevirtual 227, 3) := by decide +kernel
theorem dX9_ask_107 : decode cX9_ask 107 = .ok (.iload 5, 2) := by decide +kernel
theorem dX9_ask_109 : decode cX9_ask 109 = .ok (.ireturn, 1) := by decide +kernel
set_option maxRecDepth 20000 in
theorem ggX9_told_X9_in : GoodIn wsX9_told wsX9_in := goodIn_r _ [5] (by decide +kernel) (by decide +kernel)
set_option maxRecDepth 20000 in
theorem gX9_told_X9_in : GoodIn wsX9_told (va_wsS RX9 102 yX9_in wsX9_in) := goodIn_app (goodIn_of _ (by decide +kernel)) ggX9_told_X9_in
set_option maxRecDepth 20000 in
theorem ggX9_told_X9_asked : GoodIn wsX9_told wsX9_asked := goodIn_r _ [9, 10, 11, 12, 13, 14, 15, 16, 17, 18, 19, 20, 21, 22, 23, 24, 25, 26, 27, 28, 29, 30, 31, 32, 33, 34, 35, 36, 37, 38, 39, 40, 41, 42, 43, 44, 45, 46, 47] (by decide +kernel) (by decide +kernel)
set_option maxRecDepth 20000 in
theorem gX9_told_X9_asked : GoodIn wsX9_told (wsV RX9 162 RX9 yX9_asked wsX9_asked) := goodIn_app (goodIn_of _ (by decide +kernel)) ggX9_told_X9_asked
theorem dX9_told_0 : decode cX9_told 0 = .ok (.aload_n 0, 1) := by decide +kernel
theorem dX9_told_1 : decode cX9_told 1 = .ok (.iload_n 1, 1) := by decide +kernel
theorem dX9_told_2 : decode cX9_told 2 = .ok (.iconst 0, 1) := by decide +kernel
theorem dX9_told_3 : decode cX9_told 3 = .ok (.iconst 4, 1) := by decide +kernel
theorem dX9_told_4 : decode cX9_told 4 = .ok (.invokestatic 102, 3) := by decide +kernel
theorem dX9_told_7 : decode cX9_told 7 = .ok (.invokevirtual 162, 3) := by decide +kernel
theorem dX9_told_10 : decode cX9_told 10 = .ok (.ifCond .eq 12, 3) := by decide +kernel
theorem dX9_told_13 : decode cX9_told 13 = .ok (.aload_n 0, 1) := by decide +kernel
theorem dX9_told_14 : decode cX9_told 14 = .ok (.getfield 96, 3) := by decide +kernel
theorem dX9_told_17 : decode cX9_told 17 = .ok (.iload_n 1, 1) := by decide +kernel
theorem dX9_told_18 : decode cX9_told 18 = .ok (.iaload, 1) := by decide +kernel
theorem dX9_told_19 : decode cX9_told 19 = .ok (.goto 4, 3) := by decide +kernel
theorem dX9_told_22 : decode cX9_told 22 = .ok (.iconst 0, 1) := by decide +kernel
theorem dX9_told_23 : decode cX9_told 23 = .ok (.ireturn, 1) := by decide +kernel
set_option maxRecDepth 20000 in
theorem ggX9_neighbour_X9_isZone : GoodIn wsX9_neighbour wsX9_isZone := goodIn_r _ [8, 9, 10, 11, 7, 12, 54, 55, 56, 57, 58, 59, 60, 61, 62, 63, 64, 65, 66, 67, 68, 69, 70, 71, 72, 73, 74, 75, 76, 77, 78, 79, 80, 81, 82, 83, 84, 85, 86, 87, 88, 89, 90] (by decide +kernel) (by decide +kernel)
set_option maxRecDepth 20000 in
theorem gX9_neighbour_X9_isZone : GoodIn wsX9_neighbour (wsV RX9 159 RX9 yX9_isZone wsX9_isZone) := goodIn_app (goodIn_of _ (by decide +kernel)) ggX9_neighbour_X9_isZone
set_option maxRecDepth 20000 in
theorem ggX9_neighbour_X9_isPlace : GoodIn wsX9_neighbour wsX9_isPlace := goodIn_r _ [15, 16, 17, 7, 18, 10, 11, 12, 19, 20, 21] (by decide +kernel) (by decide +kernel)
set_option maxRecDepth 20000 in
theorem gX9_neighbour_X9_isPlace : GoodIn wsX9_neighbour (va_wsS RX9 146 yX9_isPlace wsX9_isPlace) := goodIn_app (goodIn_of _ (by decide +kernel)) ggX9_neighbour_X9_isPlace
set_option maxRecDepth 20000 in
theorem ggX9_neighbour_X9_asked_ : GoodIn wsX9_neighbour wsX9_asked_ := goodIn_r _ [25, 26, 54, 55, 56, 57, 58, 59, 60, 61, 62, 63, 64, 65, 66, 67, 68, 69, 70, 71, 72, 73, 74, 75, 76, 77, 78, 79, 80, 81, 82, 83, 84, 85, 86, 87, 88, 89, 90] (by decide +kernel) (by decide +kernel)
set_option maxRecDepth 20000 in
theorem gX9_neighbour_X9_asked_ : GoodIn wsX9_neighbour (wsV RX9 142 RX9 yX9_asked_ wsX9_asked_) := goodIn_app (goodIn_of _ (by decide +kernel)) ggX9_neighbour_X9_asked_
set_option maxRecDepth 20000 in
theorem ggX9_neighbour_X9_figures : GoodIn wsX9_neighbour wsX9_figures := goodIn_r _ [29] (by decide +kernel) (by decide +kernel)
set_option maxRecDepth 20000 in
theorem gX9_neighbour_X9_figures : GoodIn wsX9_neighbour (va_wsS RX9 113 yX9_figures wsX9_figures) := goodIn_app (goodIn_of _ (by decide +kernel)) ggX9_neighbour_X9_figures
set_option maxRecDepth 20000 in
theorem ggX9_neighbour_X9_base : GoodIn wsX9_neighbour wsX9_base := goodIn_r _ [32] (by decide +kernel) (by decide +kernel)
set_option maxRecDepth 20000 in
theorem gX9_neighbour_X9_base : GoodIn wsX9_neighbour (va_wsS RX9 128 yX9_base wsX9_base) := goodIn_app (goodIn_of _ (by decide +kernel)) ggX9_neighbour_X9_base
set_option maxRecDepth 20000 in
theorem ggX9_neighbour_X9_head : GoodIn wsX9_neighbour wsX9_head := goodIn_r _ [35, 27, 28, 7, 29, 36, 37, 38] (by decide +kernel) (by decide +kernel)
set_option maxRecDepth 20000 in
theorem gX9_neighbour_X9_head : GoodIn wsX9_neighbour (va_wsS RX9 120 yX9_head wsX9_head) := goodIn_app (goodIn_of _ (by decide +kernel)) ggX9_neighbour_X9_head
set_option maxRecDepth 20000 in
theorem ggX9_neighbour_X9_nearer : GoodIn wsX9_neighbour wsX9_nearer := goodIn_r _ [42, 43, 44, 45, 7, 46, 1, 47, 3, 30, 31, 32, 48, 49, 50, 27, 28, 29, 33, 34, 35, 36, 37, 38, 51, 52, 53, 54, 55, 56, 57, 58, 59, 60, 61, 62, 63, 64, 65, 66, 67, 68, 69, 70, 71, 72, 73, 74, 75, 76, 77, 78, 79, 80, 81, 82, 83, 84, 85, 86, 87, 88, 89, 90] (by decide +kernel) (by decide +kernel)
set_option maxRecDepth 20000 in
theorem gX9_neighbour_X9_nearer : GoodIn wsX9_neighbour (wsV RX9 231 RX9 yX9_nearer wsX9_nearer) := goodIn_app (goodIn_of _ (by decide +kernel)) ggX9_neighbour_X9_nearer
theorem dX9_neighbour_0 : decode cX9_neighbour 0 = .ok (.aload_n 0, 1) := by decide +kernel
theorem dX9_neighbour_1 : decode cX9_neighbour 1 = .ok (.aload_n 0, 1) := by decide +kernel
theorem dX9_neighbour_2 : decode cX9_neighbour 2 = .ok (.iload_n 1, 1) := by decide +kernel
theorem dX9_neighbour_3 : decode cX9_neighbour 3 = .ok (.invokevirtual 159, 3) := by decide +kernel
theorem dX9_neighbour_6 : decode cX9_neighbour 6 = .ok (.iload_n 2, 1) := by decide +kernel
theorem dX9_neighbour_7 : decode cX9_neighbour 7 = .ok (.invokestatic 146, 3) := by decide +kernel
theorem dX9_neighbour_10 : decode cX9_neighbour 10 = .ok (.invokevirtual 142, 3) := by decide +kernel
theorem dX9_neighbour_13 : decode cX9_neighbour 13 = .ok (.ifCond .ne 5, 3) := by decide +kernel
theorem dX9_neighbour_16 : decode cX9_neighbour 16 = .ok (.iconst 0, 1) := by decide +kernel
theorem dX9_neighbour_17 : decode cX9_neighbour 17 = .ok (.ireturn, 1) := by decide +kernel
theorem dX9_neighbour_18 : decode cX9_neighbour 18 = .ok (.iconst (-1), 1) := by decide +kernel
theorem dX9_neighbour_19 : decode cX9_neighbour 19 = .ok (.istore 4, 2) := by decide +kernel
theorem dX9_neighbour_21 : decode cX9_neighbour 21 = .ok (.bipush 32, 2) := by decide +kernel
theorem dX9_neighbour_23 : decode cX9_neighbour 23 = .ok (.iload_n 1, 1) := by decide +kernel
theorem dX9_neighbour_24 : decode cX9_neighbour 24 = .ok (.imul, 1) := by decide +kernel
theorem dX9_neighbour_25 : decode cX9_neighbour 25 = .ok (.istore 5, 2) := by decide +kernel
theorem dX9_neighbour_27 : decode cX9_neighbour 27 = .ok (.iload 5, 2) := by decide +kernel
theorem dX9_neighbour_29 : decode cX9_neighbour 29 = .ok (.bipush 32, 2) := by decide +kernel
theorem dX9_neighbour_31 : decode cX9_neighbour 31 = .ok (.iload_n 1, 1) := by decide +kernel
theorem dX9_neighbour_32 : decode cX9_neighbour 32 = .ok (.imul, 1) := by decide +kernel
theorem dX9_neighbour_33 : decode cX9_neighbour 33 = .ok (.aload_n 0, 1) := by decide +kernel
theorem dX9_neighbour_34 : decode cX9_neighbour 34 = .ok (.getfield 42, 3) := by decide +kernel
theorem dX9_neighbour_37 : decode cX9_neighbour 37 = .ok (.iload_n 1, 1) := by decide +kernel
theorem dX9_neighbour_38 : decode cX9_neighbour 38 = .ok (.iaload, 1) := by decide +kernel
theorem dX9_neighbour_39 : decode cX9_neighbour 39 = .ok (.iadd, 1) := by decide +kernel
theorem dX9_neighbour_40 : decode cX9_neighbour 40 = .ok (.if_icmp .ge 88, 3) := by decide +kernel
theorem dX9_neighbour_43 : decode cX9_neighbour 43 = .ok (.aload_n 0, 1) := by decide +kernel
theorem dX9_neighbour_44 : decode cX9_neighbour 44 = .ok (.getfield 13, 3) := by decide +kernel
theorem dX9_neighbour_47 : decode cX9_neighbour 47 = .ok (.iload_n 1, 1) := by decide +kernel
theorem dX9_neighbour_48 : decode cX9_neighbour 48 = .ok (.iaload, 1) := by decide +kernel
theorem dX9_neighbour_49 : decode cX9_neighbour 49 = .ok (.invokestatic 113, 3) := by decide +kernel
theorem dX9_neighbour_52 : decode cX9_neighbour 52 = .ok (.istore 6, 2) := by decide +kernel
theorem dX9_neighbour_54 : decode cX9_neighbour 54 = .ok (.iload 6, 2) := by decide +kernel
theorem dX9_neighbour_56 : decode cX9_neighbour 56 = .ok (.aload_n 0, 1) := by decide +kernel
theorem dX9_neighbour_57 : decode cX9_neighbour 57 = .ok (.getfield 45, 3) := by decide +kernel
theorem dX9_neighbour_60 : decode cX9_neighbour 60 = .ok (.iload 5, 2) := by decide +kernel
theorem dX9_neighbour_62 : decode cX9_neighbour 62 = .ok (.iaload, 1) := by decide +kernel
theorem dX9_neighbour_63 : decode cX9_neighbour 63 = .ok (.invokestatic 128, 3) := by decide +kernel
theorem dX9_neighbour_66 : decode cX9_neighbour 66 = .ok (.invokestatic 113, 3) := by decide +kernel
theorem dX9_neighbour_69 : decode cX9_neighbour 69 = .ok (.if_icmp .gt 35, 3) := by decide +kernel
theorem dX9_neighbour_72 : decode cX9_neighbour 72 = .ok (.aload_n 0, 1) := by decide +kernel
theorem dX9_neighbour_73 : decode cX9_neighbour 73 = .ok (.iload_n 1, 1) := by decide +kernel
theorem dX9_neighbour_74 : decode cX9_neighbour 74 = .ok (.iload_n 2, 1) := by decide +kernel
theorem dX9_neighbour_75 : decode cX9_neighbour 75 = .ok (.iload_n 3, 1) := by decide +kernel
theorem dX9_neighbour_76 : decode cX9_neighbour 76 = .ok (.aload_n 0, 1) := by decide +kernel
theorem dX9_neighbour_77 : decode cX9_neighbour 77 = .ok (.getfield 45, 3) := by decide +kernel
theorem dX9_neighbour_80 : decode cX9_neighbour 80 = .ok (.iload 5, 2) := by decide +kernel
theorem dX9_neighbour_82 : decode cX9_neighbour 82 = .ok (.iaload, 1) := by decide +kernel
theorem dX9_neighbour_83 : decode cX9_neighbour 83 = .ok (.invokestatic 128, 3) := by decide +kernel
theorem dX9_neighbour_86 : decode cX9_neighbour 86 = .ok (.iload 6, 2) := by decide +kernel
theorem dX9_neighbour_88 : decode cX9_neighbour 88 = .ok (.invokestatic 120, 3) := by decide +kernel
theorem dX9_neighbour_91 : decode cX9_neighbour 91 = .ok (.iload 4, 2) := by decide +kernel
theorem dX9_neighbour_93 : decode cX9_neighbour 93 = .ok (.invokevirtual 231, 3) := by decide +kernel
theorem dX9_neighbour_96 : decode cX9_neighbour 96 = .ok (.istore 4, 2) := by decide +kernel
theorem dX9_neighbour_98 : decode cX9_neighbour 98 = .ok (.iinc 6 1, 3) := by decide +kernel
theorem dX9_neighbour_101 : decode cX9_neighbour 101 = .ok (.goto (-47), 3) := by decide +kernel
theorem dX9_neighbour_104 : decode cX9_neighbour 104 = .ok (.aload_n 0, 1) := by decide +kernel
theorem dX9_neighbour_105 : decode cX9_neighbour 105 = .ok (.iload_n 1, 1) := by decide +kernel
theorem dX9_neighbour_106 : decode cX9_neighbour 106 = .ok (.iload_n 2, 1) := by decide +kernel
theorem dX9_neighbour_107 : decode cX9_neighbour 107 = .ok (.iload_n 3, 1) := by decide +kernel
theorem dX9_neighbour_108 : decode cX9_neighbour 108 = .ok (.aload_n 0, 1) := by decide +kernel
theorem dX9_neighbour_109 : decode cX9_neighbour 109 = .ok (.getfield 45, 3) := by decide +kernel
theorem dX9_neighbour_112 : decode cX9_neighbour 112 = .ok (.iload 5, 2) := by decide +kernel
theorem dX9_neighbour_114 : decode cX9_neighbour 114 = .ok (.iaload, 1) := by decide +kernel
theorem dX9_neighbour_115 : decode cX9_neighbour 115 = .ok (.iload 4, 2) := by decide +kernel
theorem dX9_neighbour_117 : decode cX9_neighbour 117 = .ok (.invokevirtual 231, 3) := by decide +kernel
theorem dX9_neighbour_120 : decode cX9_neighbour 120 = .ok (.istore 4, 2) := by decide +kernel
theorem dX9_neighbour_122 : decode cX9_neighbour 122 = .ok (.iinc 5 1, 3) := by decide +kernel
theorem dX9_neighbour_125 : decode cX9_neighbour 125 = .ok (.goto (-98), 3) := by decide +kernel
theorem dX9_neighbour_128 : decode cX9_neighbour 128 = .ok (.iload 4, 2) := by decide +kernel
theorem dX9_neighbour_130 : decode cX9_neighbour 130 = .ok (.ireturn, 1) := by decide +kernel
set_option maxRecDepth 20000 in
theorem ggX9_nearer_X9_isOwn : GoodIn wsX9_nearer wsX9_isOwn := goodIn_r _ [5, 6, 7, 8, 9, 10, 4, 11, 12, 13, 14, 15, 16, 17, 18, 19, 20, 21, 22, 23, 27, 28, 29, 30, 31, 32, 33, 34, 35, 36, 37, 38, 39, 40, 41, 42, 43, 44, 45, 46, 47, 48, 49, 50, 51, 52, 53, 54, 55, 56, 57, 58, 59, 60, 61, 62, 63] (by decide +kernel) (by decide +kernel)
set_option maxRecDepth 20000 in
theorem gX9_nearer_X9_isOwn : GoodIn wsX9_nearer (wsV RX9 175 RX9 yX9_isOwn wsX9_isOwn) := goodIn_app (goodIn_of _ (by decide +kernel)) ggX9_nearer_X9_isOwn
set_option maxRecDepth 20000 in
theorem ggX9_nearer_X9_order : GoodIn wsX9_nearer wsX9_order := goodIn_r _ [26, 15, 16, 4, 17, 21, 22, 23] (by decide +kernel) (by decide +kernel)
set_option maxRecDepth 20000 in
theorem gX9_nearer_X9_order : GoodIn wsX9_nearer (va_wsS RX9 235 yX9_order wsX9_order) := goodIn_app (goodIn_of _ (by decide +kernel)) ggX9_nearer_X9_order
theorem dX9_nearer_0 : decode cX9_nearer 0 = .ok (.aload_n 0, 1) := by decide +kernel
theorem dX9_nearer_1 : decode cX9_nearer 1 = .ok (.iload_n 1, 1) := by decide +kernel
theorem dX9_nearer_2 : decode cX9_nearer 2 = .ok (.iload 4, 2) := by decide +kernel
theorem dX9_nearer_4 : decode cX9_nearer 4 = .ok (.invokevirtual 175, 3) := by decide +kernel
theorem dX9_nearer_7 : decode cX9_nearer 7 = .ok (.ifCond .eq 28, 3) := by decide +kernel
theorem dX9_nearer_10 : decode cX9_nearer 10 = .ok (.iload 4, 2) := by decide +kernel
theorem dX9_nearer_12 : decode cX9_nearer 12 = .ok (.invokestatic 235, 3) := by decide +kernel
theorem dX9_nearer_15 : decode cX9_nearer 15 = .ok (.iload_n 2, 1) := by decide +kernel
theorem dX9_nearer_16 : decode cX9_nearer 16 = .ok (.invokestatic 235, 3) := by decide +kernel
theorem dX9_nearer_19 : decode cX9_nearer 19 = .ok (.if_icmp .le 7, 3) := by decide +kernel
theorem dX9_nearer_22 : decode cX9_nearer 22 = .ok (.iconst 1, 1) := by decide +kernel
theorem dX9_nearer_23 : decode cX9_nearer 23 = .ok (.goto 4, 3) := by decide +kernel
theorem dX9_nearer_26 : decode cX9_nearer 26 = .ok (.iconst 0, 1) := by decide +kernel
theorem dX9_nearer_27 : decode cX9_nearer 27 = .ok (.iload_n 3, 1) := by decide +kernel
theorem dX9_nearer_28 : decode cX9_nearer 28 = .ok (.if_icmp .ne 7, 3) := by decide +kernel
theorem dX9_nearer_31 : decode cX9_nearer 31 = .ok (.iconst 1, 1) := by decide +kernel
theorem dX9_nearer_32 : decode cX9_nearer 32 = .ok (.goto 4, 3) := by decide +kernel
theorem dX9_nearer_35 : decode cX9_nearer 35 = .ok (.iconst 0, 1) := by decide +kernel
theorem dX9_nearer_36 : decode cX9_nearer 36 = .ok (.istore 6, 2) := by decide +kernel
theorem dX9_nearer_38 : decode cX9_nearer 38 = .ok (.iload 6, 2) := by decide +kernel
theorem dX9_nearer_40 : decode cX9_nearer 40 = .ok (.ifCond .eq 36, 3) := by decide +kernel
theorem dX9_nearer_43 : decode cX9_nearer 43 = .ok (.iload 5, 2) := by decide +kernel
theorem dX9_nearer_45 : decode cX9_nearer 45 = .ok (.iconst (-1), 1) := by decide +kernel
theorem dX9_nearer_46 : decode cX9_nearer 46 = .ok (.if_icmp .eq 25, 3) := by decide +kernel
theorem dX9_nearer_49 : decode cX9_nearer 49 = .ok (.iload 4, 2) := by decide +kernel
theorem dX9_nearer_51 : decode cX9_nearer 51 = .ok (.invokestatic 235, 3) := by decide +kernel
theorem dX9_nearer_54 : decode cX9_nearer 54 = .ok (.iload 5, 2) := by decide +kernel
theorem dX9_nearer_56 : decode cX9_nearer 56 = .ok (.invokestatic 235, 3) := by decide +kernel
theorem dX9_nearer_59 : decode cX9_nearer 59 = .ok (.if_icmp .ge 7, 3) := by decide +kernel
theorem dX9_nearer_62 : decode cX9_nearer 62 = .ok (.iconst 1, 1) := by decide +kernel
theorem dX9_nearer_63 : decode cX9_nearer 63 = .ok (.goto 4, 3) := by decide +kernel
theorem dX9_nearer_66 : decode cX9_nearer 66 = .ok (.iconst 0, 1) := by decide +kernel
theorem dX9_nearer_67 : decode cX9_nearer 67 = .ok (.iload_n 3, 1) := by decide +kernel
theorem dX9_nearer_68 : decode cX9_nearer 68 = .ok (.if_icmp .ne 8, 3) := by decide +kernel
theorem dX9_nearer_71 : decode cX9_nearer 71 = .ok (.iload 4, 2) := by decide +kernel
theorem dX9_nearer_73 : decode cX9_nearer 73 = .ok (.goto 5, 3) := by decide +kernel
theorem dX9_nearer_76 : decode cX9_nearer 76 = .ok (.iload 5, 2) := by decide +kernel
theorem dX9_nearer_78 : decode cX9_nearer 78 = .ok (.ireturn, 1) := by decide +kernel
theorem dX9_keptOf_0 : decode cX9_keptOf 0 = .ok (.iconst 0, 1) := by decide +kernel
theorem dX9_keptOf_1 : decode cX9_keptOf 1 = .ok (.istore_n 3, 1) := by decide +kernel
theorem dX9_keptOf_2 : decode cX9_keptOf 2 = .ok (.iload_n 3, 1) := by decide +kernel
theorem dX9_keptOf_3 : decode cX9_keptOf 3 = .ok (.aload_n 0, 1) := by decide +kernel
theorem dX9_keptOf_4 : decode cX9_keptOf 4 = .ok (.getfield 238, 3) := by decide +kernel
theorem dX9_keptOf_7 : decode cX9_keptOf 7 = .ok (.if_icmp .ge 31, 3) := by decide +kernel
theorem dX9_keptOf_10 : decode cX9_keptOf 10 = .ok (.aload_n 0, 1) := by decide +kernel
theorem dX9_keptOf_11 : decode cX9_keptOf 11 = .ok (.getfield 75, 3) := by decide +kernel
theorem dX9_keptOf_14 : decode cX9_keptOf 14 = .ok (.iload_n 3, 1) := by decide +kernel
theorem dX9_keptOf_15 : decode cX9_keptOf 15 = .ok (.iaload, 1) := by decide +kernel
theorem dX9_keptOf_16 : decode cX9_keptOf 16 = .ok (.iload_n 1, 1) := by decide +kernel
theorem dX9_keptOf_17 : decode cX9_keptOf 17 = .ok (.if_icmp .ne 15, 3) := by decide +kernel
theorem dX9_keptOf_20 : decode cX9_keptOf 20 = .ok (.aload_n 0, 1) := by decide +kernel
theorem dX9_keptOf_21 : decode cX9_keptOf 21 = .ok (.getfield 78, 3) := by decide +kernel
theorem dX9_keptOf_24 : decode cX9_keptOf 24 = .ok (.iload_n 3, 1) := by decide +kernel
theorem dX9_keptOf_25 : decode cX9_keptOf 25 = .ok (.iaload, 1) := by decide +kernel
theorem dX9_keptOf_26 : decode cX9_keptOf 26 = .ok (.iload_n 2, 1) := by decide +kernel
theorem dX9_keptOf_27 : decode cX9_keptOf 27 = .ok (.if_icmp .ne 5, 3) := by decide +kernel
theorem dX9_keptOf_30 : decode cX9_keptOf 30 = .ok (.iload_n 3, 1) := by decide +kernel
theorem dX9_keptOf_31 : decode cX9_keptOf 31 = .ok (.ireturn, 1) := by decide +kernel
theorem dX9_keptOf_32 : decode cX9_keptOf 32 = .ok (.iinc 3 1, 3) := by decide +kernel
theorem dX9_keptOf_35 : decode cX9_keptOf 35 = .ok (.goto (-33), 3) := by decide +kernel
theorem dX9_keptOf_38 : decode cX9_keptOf 38 = .ok (.iconst (-1), 1) := by decide +kernel
theorem dX9_keptOf_39 : decode cX9_keptOf 39 = .ok (.ireturn, 1) := by decide +kernel
theorem dX9_shifts_0 : decode cX9_shifts 0 = .ok (.aload_n 0, 1) := by decide +kernel
theorem dX9_shifts_1 : decode cX9_shifts 1 = .ok (.dup, 1) := by decide +kernel
theorem dX9_shifts_2 : decode cX9_shifts 2 = .ok (.getfield 238, 3) := by decide +kernel
theorem dX9_shifts_5 : decode cX9_shifts 5 = .ok (.iconst 1, 1) := by decide +kernel
theorem dX9_shifts_6 : decode cX9_shifts 6 = .ok (.isub, 1) := by decide +kernel
theorem dX9_shifts_7 : decode cX9_shifts 7 = .ok (.putfield 238, 3) := by decide +kernel
theorem dX9_shifts_10 : decode cX9_shifts 10 = .ok (.iload_n 1, 1) := by decide +kernel
theorem dX9_shifts_11 : decode cX9_shifts 11 = .ok (.istore_n 2, 1) := by decide +kernel
theorem dX9_shifts_12 : decode cX9_shifts 12 = .ok (.iload_n 2, 1) := by decide +kernel
theorem dX9_shifts_13 : decode cX9_shifts 13 = .ok (.aload_n 0, 1) := by decide +kernel
theorem dX9_shifts_14 : decode cX9_shifts 14 = .ok (.getfield 238, 3) := by decide +kernel
theorem dX9_shifts_17 : decode cX9_shifts 17 = .ok (.if_icmp .ge 107, 3) := by decide +kernel
theorem dX9_shifts_20 : decode cX9_shifts 20 = .ok (.aload_n 0, 1) := by decide +kernel
theorem dX9_shifts_21 : decode cX9_shifts 21 = .ok (.getfield 75, 3) := by decide +kernel
theorem dX9_shifts_24 : decode cX9_shifts 24 = .ok (.iload_n 2, 1) := by decide +kernel
theorem dX9_shifts_25 : decode cX9_shifts 25 = .ok (.aload_n 0, 1) := by decide +kernel
theorem dX9_shifts_26 : decode cX9_shifts 26 = .ok (.getfield 75, 3) := by decide +kernel
theorem dX9_shifts_29 : decode cX9_shifts 29 = .ok (.iload_n 2, 1) := by decide +kernel
theorem dX9_shifts_30 : decode cX9_shifts 30 = .ok (.iconst 1, 1) := by decide +kernel
theorem dX9_shifts_31 : decode cX9_shifts 31 = .ok (.iadd, 1) := by decide +kernel
theorem dX9_shifts_32 : decode cX9_shifts 32 = .ok (.iaload, 1) := by decide +kernel
theorem dX9_shifts_33 : decode cX9_shifts 33 = .ok (.iastore, 1) := by decide +kernel
theorem dX9_shifts_34 : decode cX9_shifts 34 = .ok (.aload_n 0, 1) := by decide +kernel
theorem dX9_shifts_35 : decode cX9_shifts 35 = .ok (.getfield 78, 3) := by decide +kernel
theorem dX9_shifts_38 : decode cX9_shifts 38 = .ok (.iload_n 2, 1) := by decide +kernel
theorem dX9_shifts_39 : decode cX9_shifts 39 = .ok (.aload_n 0, 1) := by decide +kernel
theorem dX9_shifts_40 : decode cX9_shifts 40 = .ok (.getfield 78, 3) := by decide +kernel
theorem dX9_shifts_43 : decode cX9_shifts 43 = .ok (.iload_n 2, 1) := by decide +kernel
theorem dX9_shifts_44 : decode cX9_shifts 44 = .ok (.iconst 1, 1) := by decide +kernel
theorem dX9_shifts_45 : decode cX9_shifts 45 = .ok (.iadd, 1) := by decide +kernel
theorem dX9_shifts_46 : decode cX9_shifts 46 = .ok (.iaload, 1) := by decide +kernel
theorem dX9_shifts_47 : decode cX9_shifts 47 = .ok (.iastore, 1) := by decide +kernel
theorem dX9_shifts_48 : decode cX9_shifts 48 = .ok (.aload_n 0, 1) := by decide +kernel
theorem dX9_shifts_49 : decode cX9_shifts 49 = .ok (.getfield 81, 3) := by decide +kernel
theorem dX9_shifts_52 : decode cX9_shifts 52 = .ok (.iload_n 2, 1) := by decide +kernel
theorem dX9_shifts_53 : decode cX9_shifts 53 = .ok (.aload_n 0, 1) := by decide +kernel
theorem dX9_shifts_54 : decode cX9_shifts 54 = .ok (.getfield 81, 3) := by decide +kernel
theorem dX9_shifts_57 : decode cX9_shifts 57 = .ok (.iload_n 2, 1) := by decide +kernel
theorem dX9_shifts_58 : decode cX9_shifts 58 = .ok (.iconst 1, 1) := by decide +kernel
theorem dX9_shifts_59 : decode cX9_shifts 59 = .ok (.iadd, 1) := by decide +kernel
theorem dX9_shifts_60 : decode cX9_shifts 60 = .ok (.iaload, 1) := by decide +kernel
theorem dX9_shifts_61 : decode cX9_shifts 61 = .ok (.iastore, 1) := by decide +kernel
theorem dX9_shifts_62 : decode cX9_shifts 62 = .ok (.aload_n 0, 1) := by decide +kernel
theorem dX9_shifts_63 : decode cX9_shifts 63 = .ok (.getfield 84, 3) := by decide +kernel
theorem dX9_shifts_66 : decode cX9_shifts 66 = .ok (.iload_n 2, 1) := by decide +kernel
theorem dX9_shifts_67 : decode cX9_shifts 67 = .ok (.aload_n 0, 1) := by decide +kernel
theorem dX9_shifts_68 : decode cX9_shifts 68 = .ok (.getfield 84, 3) := by decide +kernel
theorem dX9_shifts_71 : decode cX9_shifts 71 = .ok (.iload_n 2, 1) := by decide +kernel
theorem dX9_shifts_72 : decode cX9_shifts 72 = .ok (.iconst 1, 1) := by decide +kernel
theorem dX9_shifts_73 : decode cX9_shifts 73 = .ok (.iadd, 1) := by decide +kernel
theorem dX9_shifts_74 : decode cX9_shifts 74 = .ok (.iaload, 1) := by decide +kernel
theorem dX9_shifts_75 : decode cX9_shifts 75 = .ok (.iastore, 1) := by decide +kernel
theorem dX9_shifts_76 : decode cX9_shifts 76 = .ok (.aload_n 0, 1) := by decide +kernel
theorem dX9_shifts_77 : decode cX9_shifts 77 = .ok (.getfield 87, 3) := by decide +kernel
theorem dX9_shifts_80 : decode cX9_shifts 80 = .ok (.iload_n 2, 1) := by decide +kernel
theorem dX9_shifts_81 : decode cX9_shifts 81 = .ok (.aload_n 0, 1) := by decide +kernel
theorem dX9_shifts_82 : decode cX9_shifts 82 = .ok (.getfield 87, 3) := by decide +kernel
theorem dX9_shifts_85 : decode cX9_shifts 85 = .ok (.iload_n 2, 1) := by decide +kernel
theorem dX9_shifts_86 : decode cX9_shifts 86 = .ok (.iconst 1, 1) := by decide +kernel
theorem dX9_shifts_87 : decode cX9_shifts 87 = .ok (.iadd, 1) := by decide +kernel
theorem dX9_shifts_88 : decode cX9_shifts 88 = .ok (.iaload, 1) := by decide +kernel
theorem dX9_shifts_89 : decode cX9_shifts 89 = .ok (.iastore, 1) := by decide +kernel
theorem dX9_shifts_90 : decode cX9_shifts 90 = .ok (.aload_n 0, 1) := by decide +kernel
theorem dX9_shifts_91 : decode cX9_shifts 91 = .ok (.getfield 90, 3) := by decide +kernel
theorem dX9_shifts_94 : decode cX9_shifts 94 = .ok (.iload_n 2, 1) := by decide +kernel
theorem dX9_shifts_95 : decode cX9_shifts 95 = .ok (.aload_n 0, 1) := by decide +kernel
theorem dX9_shifts_96 : decode cX9_shifts 96 = .ok (.getfield 90, 3) := by decide +kernel
theorem dX9_shifts_99 : decode cX9_shifts 99 = .ok (.iload_n 2, 1) := by decide +kernel
theorem dX9_shifts_100 : decode cX9_shifts 100 = .ok (.iconst 1, 1) := by decide +kernel
theorem dX9_shifts_101 : decode cX9_shifts 101 = .ok (.iadd, 1) := by decide +kernel
theorem dX9_shifts_102 : decode cX9_shifts 102 = .ok (.iaload, 1) := by decide +kernel
theorem dX9_shifts_103 : decode cX9_shifts 103 = .ok (.iastore, 1) := by decide +kernel
theorem dX9_shifts_104 : decode cX9_shifts 104 = .ok (.aload_n 0, 1) := by decide +kernel
theorem dX9_shifts_105 : decode cX9_shifts 105 = .ok (.getfield 93, 3) := by decide +kernel
theorem dX9_shifts_108 : decode cX9_shifts 108 = .ok (.iload_n 2, 1) := by decide +kernel
theorem dX9_shifts_109 : decode cX9_shifts 109 = .ok (.aload_n 0, 1) := by decide +kernel
theorem dX9_shifts_110 : decode cX9_shifts 110 = .ok (.getfield 93, 3) := by decide +kernel
theorem dX9_shifts_113 : decode cX9_shifts 113 = .ok (.iload_n 2, 1) := by decide +kernel
theorem dX9_shifts_114 : decode cX9_shifts 114 = .ok (.iconst 1, 1) := by decide +kernel
theorem dX9_shifts_115 : decode cX9_shifts 115 = .ok (.iadd, 1) := by decide +kernel
theorem dX9_shifts_116 : decode cX9_shifts 116 = .ok (.iaload, 1) := by decide +kernel
theorem dX9_shifts_117 : decode cX9_shifts 117 = .ok (.iastore, 1) := by decide +kernel
theorem dX9_shifts_118 : decode cX9_shifts 118 = .ok (.iinc 2 1, 3) := by decide +kernel
theorem dX9_shifts_121 : decode cX9_shifts 121 = .ok (.goto (-109), 3) := by decide +kernel
theorem dX9_shifts_124 : decode cX9_shifts 124 = .ok (.return_, 1) := by decide +kernel
set_option maxRecDepth 20000 in
theorem ggX9_keeps_X9_keptOf : GoodIn wsX9_keeps wsX9_keptOf := goodIn_r _ [17, 2, 1, 3, 22, 23, 24, 25, 26, 27, 28, 29, 30, 31, 32, 33, 34, 35, 36, 37, 38, 39, 40, 41, 42, 43, 44, 45, 46, 47, 48, 49, 50, 51, 52, 53, 54, 55, 56, 57, 58] (by decide +kernel) (by decide +kernel)
set_option maxRecDepth 20000 in
theorem gX9_keeps_X9_keptOf : GoodIn wsX9_keeps (wsV RX9 241 RX9 yX9_keptOf wsX9_keptOf) := goodIn_app (goodIn_of _ (by decide +kernel)) ggX9_keeps_X9_keptOf
set_option maxRecDepth 20000 in
theorem ggX9_keeps_X9_shifts : GoodIn wsX9_keeps wsX9_shifts := goodIn_r _ [21, 2, 1, 3, 4, 5, 7, 9, 11, 22, 23, 24, 25, 26, 27, 28, 29, 30, 31, 32, 33, 34, 35, 36, 37, 38, 39, 40, 41, 42, 43, 44, 45, 46, 47, 48, 49, 50, 51, 52, 53, 54, 55, 56, 57, 58] (by decide +kernel) (by decide +kernel)
set_option maxRecDepth 20000 in
theorem gX9_keeps_X9_shifts : GoodIn wsX9_keeps (wsV RX9 244 RX9 yX9_shifts wsX9_shifts) := goodIn_app (goodIn_of _ (by decide +kernel)) ggX9_keeps_X9_shifts
theorem dX9_keeps_0 : decode cX9_keeps 0 = .ok (.aload_n 0, 1) := by decide +kernel
theorem dX9_keeps_1 : decode cX9_keeps 1 = .ok (.iload_n 1, 1) := by decide +kernel
theorem dX9_keeps_2 : decode cX9_keeps 2 = .ok (.iload_n 2, 1) := by decide +kernel
theorem dX9_keeps_3 : decode cX9_keeps 3 = .ok (.invokevirtual 241, 3) := by decide +kernel
theorem dX9_keeps_6 : decode cX9_keeps 6 = .ok (.istore 4, 2) := by decide +kernel
theorem dX9_keeps_8 : decode cX9_keeps 8 = .ok (.iload 4, 2) := by decide +kernel
theorem dX9_keeps_10 : decode cX9_keeps 10 = .ok (.iconst (-1), 1) := by decide +kernel
theorem dX9_keeps_11 : decode cX9_keeps 11 = .ok (.if_icmp .eq 9, 3) := by decide +kernel
theorem dX9_keeps_14 : decode cX9_keeps 14 = .ok (.aload_n 0, 1) := by decide +kernel
theorem dX9_keeps_15 : decode cX9_keeps 15 = .ok (.iload 4, 2) := by decide +kernel
theorem dX9_keeps_17 : decode cX9_keeps 17 = .ok (.invokevirtual 244, 3) := by decide +kernel
theorem dX9_keeps_20 : decode cX9_keeps 20 = .ok (.aload_n 0, 1) := by decide +kernel
theorem dX9_keeps_21 : decode cX9_keeps 21 = .ok (.getfield 75, 3) := by decide +kernel
theorem dX9_keeps_24 : decode cX9_keeps 24 = .ok (.aload_n 0, 1) := by decide +kernel
theorem dX9_keeps_25 : decode cX9_keeps 25 = .ok (.getfield 238, 3) := by decide +kernel
theorem dX9_keeps_28 : decode cX9_keeps 28 = .ok (.iload_n 1, 1) := by decide +kernel
theorem dX9_keeps_29 : decode cX9_keeps 29 = .ok (.iastore, 1) := by decide +kernel
theorem dX9_keeps_30 : decode cX9_keeps 30 = .ok (.aload_n 0, 1) := by decide +kernel
theorem dX9_keeps_31 : decode cX9_keeps 31 = .ok (.getfield 78, 3) := by decide +kernel
theorem dX9_keeps_34 : decode cX9_keeps 34 = .ok (.aload_n 0, 1) := by decide +kernel
theorem dX9_keeps_35 : decode cX9_keeps 35 = .ok (.getfield 238, 3) := by decide +kernel
theorem dX9_keeps_38 : decode cX9_keeps 38 = .ok (.iload_n 2, 1) := by decide +kernel
theorem dX9_keeps_39 : decode cX9_keeps 39 = .ok (.iastore, 1) := by decide +kernel
theorem dX9_keeps_40 : decode cX9_keeps 40 = .ok (.aload_n 0, 1) := by decide +kernel
theorem dX9_keeps_41 : decode cX9_keeps 41 = .ok (.getfield 81, 3) := by decide +kernel
theorem dX9_keeps_44 : decode cX9_keeps 44 = .ok (.aload_n 0, 1) := by decide +kernel
theorem dX9_keeps_45 : decode cX9_keeps 45 = .ok (.getfield 238, 3) := by decide +kernel
theorem dX9_keeps_48 : decode cX9_keeps 48 = .ok (.iload_n 3, 1) := by decide +kernel
theorem dX9_keeps_49 : decode cX9_keeps 49 = .ok (.iastore, 1) := by decide +kernel
theorem dX9_keeps_50 : decode cX9_keeps 50 = .ok (.aload_n 0, 1) := by decide +kernel
theorem dX9_keeps_51 : decode cX9_keeps 51 = .ok (.getfield 84, 3) := by decide +kernel
theorem dX9_keeps_54 : decode cX9_keeps 54 = .ok (.aload_n 0, 1) := by decide +kernel
theorem dX9_keeps_55 : decode cX9_keeps 55 = .ok (.getfield 238, 3) := by decide +kernel
theorem dX9_keeps_58 : decode cX9_keeps 58 = .ok (.iload_n 3, 1) := by decide +kernel
theorem dX9_keeps_59 : decode cX9_keeps 59 = .ok (.ifCond .ne 10, 3) := by decide +kernel
theorem dX9_keeps_62 : decode cX9_keeps 62 = .ok (.aload_n 0, 1) := by decide +kernel
