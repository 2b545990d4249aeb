set_option maxRecDepth 20000 in
theorem ggX9_isZone_X9_in : GoodIn wsX9_isZone wsX9_in := goodIn_r _ [5] (by decide +kernel) (by decide +kernel)
set_option maxRecDepth 20000 in
theorem gX9_isZone_X9_in : GoodIn wsX9_isZone (va_wsS RX9 102 yX9_in wsX9_in) := goodIn_app (goodIn_of _ (by decide +kernel)) ggX9_isZone_X9_in
theorem dX9_isZone_0 : decode cX9_isZone 0 = .ok (.iload_n 1, 1) := by decide +kernel
theorem dX9_isZone_1 : decode cX9_isZone 1 = .ok (.iconst 0, 1) := by decide +kernel
theorem dX9_isZone_2 : decode cX9_isZone 2 = .ok (.aload_n 0, 1) := by decide +kernel
theorem dX9_isZone_3 : decode cX9_isZone 3 = .ok (.getfield 7, 3) := by decide +kernel
theorem dX9_isZone_6 : decode cX9_isZone 6 = .ok (.iconst 1, 1) := by decide +kernel
theorem dX9_isZone_7 : decode cX9_isZone 7 = .ok (.isub, 1) := by decide +kernel
theorem dX9_isZone_8 : decode cX9_isZone 8 = .ok (.invokestatic 102, 3) := by decide +kernel
theorem dX9_isZone_11 : decode cX9_isZone 11 = .ok (.ireturn, 1) := by decide +kernel
set_option maxRecDepth 20000 in
theorem ggX9_zone_X9_isName : GoodIn wsX9_zone wsX9_isName := goodIn_r _ [7, 8, 9, 6, 10] (by decide +kernel) (by decide +kernel)
set_option maxRecDepth 20000 in
theorem gX9_zone_X9_isName : GoodIn wsX9_zone (va_wsS RX9 106 yX9_isName wsX9_isName) := goodIn_app (goodIn_of _ (by decide +kernel)) ggX9_zone_X9_isName
set_option maxRecDepth 20000 in
theorem ggX9_zone_X9_in : GoodIn wsX9_zone wsX9_in := goodIn_r _ [10] (by decide +kernel) (by decide +kernel)
set_option maxRecDepth 20000 in
theorem gX9_zone_X9_in : GoodIn wsX9_zone (va_wsS RX9 102 yX9_in wsX9_in) := goodIn_app (goodIn_of _ (by decide +kernel)) ggX9_zone_X9_in
set_option maxRecDepth 20000 in
theorem ggX9_zone_X9_asked_ : GoodIn wsX9_zone wsX9_asked_ := goodIn_r _ [14, 15, 16, 17, 18, 19, 20, 21, 22, 23, 24, 25, 26, 27, 28, 29, 30, 31, 32, 33, 34, 35, 36, 37, 38, 39, 40, 41, 42, 43, 44, 45, 46, 47, 48, 49, 50, 51, 52] (by decide +kernel) (by decide +kernel)
set_option maxRecDepth 20000 in
theorem gX9_zone_X9_asked_ : GoodIn wsX9_zone (wsV RX9 142 RX9 yX9_asked_ wsX9_asked_) := goodIn_app (goodIn_of _ (by decide +kernel)) ggX9_zone_X9_asked_
theorem dX9_zone_0 : decode cX9_zone 0 = .ok (.aload_n 0, 1) := by decide +kernel
theorem dX9_zone_1 : decode cX9_zone 1 = .ok (.getfield 7, 3) := by decide +kernel
theorem dX9_zone_4 : decode cX9_zone 4 = .ok (.bipush 6, 2) := by decide +kernel
theorem dX9_zone_6 : decode cX9_zone 6 = .ok (.if_icmp .ge 7, 3) := by decide +kernel
theorem dX9_zone_9 : decode cX9_zone 9 = .ok (.iconst 1, 1) := by decide +kernel
theorem dX9_zone_10 : decode cX9_zone 10 = .ok (.goto 4, 3) := by decide +kernel
theorem dX9_zone_13 : decode cX9_zone 13 = .ok (.iconst 0, 1) := by decide +kernel
theorem dX9_zone_14 : decode cX9_zone 14 = .ok (.istore_n 3, 1) := by decide +kernel
theorem dX9_zone_15 : decode cX9_zone 15 = .ok (.iconst 0, 1) := by decide +kernel
theorem dX9_zone_16 : decode cX9_zone 16 = .ok (.istore 4, 2) := by decide +kernel
theorem dX9_zone_18 : decode cX9_zone 18 = .ok (.iload 4, 2) := by decide +kernel
theorem dX9_zone_20 : decode cX9_zone 20 = .ok (.aload_n 0, 1) := by decide +kernel
theorem dX9_zone_21 : decode cX9_zone 21 = .ok (.getfield 7, 3) := by decide +kernel
theorem dX9_zone_24 : decode cX9_zone 24 = .ok (.if_icmp .ge 28, 3) := by decide +kernel
theorem dX9_zone_27 : decode cX9_zone 27 = .ok (.iload_n 3, 1) := by decide +kernel
theorem dX9_zone_28 : decode cX9_zone 28 = .ok (.aload_n 0, 1) := by decide +kernel
theorem dX9_zone_29 : decode cX9_zone 29 = .ok (.getfield 13, 3) := by decide +kernel
theorem dX9_zone_32 : decode cX9_zone 32 = .ok (.iload 4, 2) := by decide +kernel
theorem dX9_zone_34 : decode cX9_zone 34 = .ok (.iaload, 1) := by decide +kernel
theorem dX9_zone_35 : decode cX9_zone 35 = .ok (.iload_n 1, 1) := by decide +kernel
theorem dX9_zone_36 : decode cX9_zone 36 = .ok (.if_icmp .eq 7, 3) := by decide +kernel
theorem dX9_zone_39 : decode cX9_zone 39 = .ok (.iconst 1, 1) := by decide +kernel
theorem dX9_zone_40 : decode cX9_zone 40 = .ok (.goto 4, 3) := by decide +kernel
theorem dX9_zone_43 : decode cX9_zone 43 = .ok (.iconst 0, 1) := by decide +kernel
theorem dX9_zone_44 : decode cX9_zone 44 = .ok (.iand, 1) := by decide +kernel
theorem dX9_zone_45 : decode cX9_zone 45 = .ok (.istore_n 3, 1) := by decide +kernel
theorem dX9_zone_46 : decode cX9_zone 46 = .ok (.iinc 4 1, 3) := by decide +kernel
theorem dX9_zone_49 : decode cX9_zone 49 = .ok (.goto (-31), 3) := by decide +kernel
theorem dX9_zone_52 : decode cX9_zone 52 = .ok (.aload_n 0, 1) := by decide +kernel
theorem dX9_zone_53 : decode cX9_zone 53 = .ok (.iload_n 1, 1) := by decide +kernel
theorem dX9_zone_54 : decode cX9_zone 54 = .ok (.invokestatic 106, 3) := by decide +kernel
theorem dX9_zone_57 : decode cX9_zone 57 = .ok (.ifCond .eq 21, 3) := by decide +kernel
theorem dX9_zone_60 : decode cX9_zone 60 = .ok (.iload_n 1, 1) := by decide +kernel
theorem dX9_zone_61 : decode cX9_zone 61 = .ok (.ifCond .le 17, 3) := by decide +kernel
theorem dX9_zone_64 : decode cX9_zone 64 = .ok (.iload_n 2, 1) := by decide +kernel
theorem dX9_zone_65 : decode cX9_zone 65 = .ok (.iconst 1, 1) := by decide +kernel
theorem dX9_zone_66 : decode cX9_zone 66 = .ok (.bipush 50, 2) := by decide +kernel
theorem dX9_zone_68 : decode cX9_zone 68 = .ok (.invokestatic 102, 3) := by decide +kernel
theorem dX9_zone_71 : decode cX9_zone 71 = .ok (.ifCond .eq 7, 3) := by decide +kernel
theorem dX9_zone_74 : decode cX9_zone 74 = .ok (.iconst 1, 1) := by decide +kernel
theorem dX9_zone_75 : decode cX9_zone 75 = .ok (.goto 4, 3) := by decide +kernel
theorem dX9_zone_78 : decode cX9_zone 78 = .ok (.iconst 0, 1) := by decide +kernel
theorem dX9_zone_79 : decode cX9_zone 79 = .ok (.iload_n 3, 1) := by decide +kernel
theorem dX9_zone_80 : decode cX9_zone 80 = .ok (.invokevirtual 142, 3) := by decide +kernel
theorem dX9_zone_83 : decode cX9_zone 83 = .ok (.ifCond .ne 5, 3) := by decide +kernel
theorem dX9_zone_86 : decode cX9_zone 86 = .ok (.iconst 0, 1) := by decide +kernel
theorem dX9_zone_87 : decode cX9_zone 87 = .ok (.ireturn, 1) := by decide +kernel
theorem dX9_zone_88 : decode cX9_zone 88 = .ok (.aload_n 0, 1) := by decide +kernel
theorem dX9_zone_89 : decode cX9_zone 89 = .ok (.getfield 13, 3) := by decide +kernel
theorem dX9_zone_92 : decode cX9_zone 92 = .ok (.aload_n 0, 1) := by decide +kernel
theorem dX9_zone_93 : decode cX9_zone 93 = .ok (.getfield 7, 3) := by decide +kernel
theorem dX9_zone_96 : decode cX9_zone 96 = .ok (.iload_n 1, 1) := by decide +kernel
theorem dX9_zone_97 : decode cX9_zone 97 = .ok (.iastore, 1) := by decide +kernel
theorem dX9_zone_98 : decode cX9_zone 98 = .ok (.aload_n 0, 1) := by decide +kernel
theorem dX9_zone_99 : decode cX9_zone 99 = .ok (.getfield 17, 3) := by decide +kernel
theorem dX9_zone_102 : decode cX9_zone 102 = .ok (.aload_n 0, 1) := by decide +kernel
theorem dX9_zone_103 : decode cX9_zone 103 = .ok (.getfield 7, 3) := by decide +kernel
theorem dX9_zone_106 : decode cX9_zone 106 = .ok (.iload_n 2, 1) := by decide +kernel
theorem dX9_zone_107 : decode cX9_zone 107 = .ok (.iastore, 1) := by decide +kernel
theorem dX9_zone_108 : decode cX9_zone 108 = .ok (.aload_n 0, 1) := by decide +kernel
theorem dX9_zone_109 : decode cX9_zone 109 = .ok (.dup, 1) := by decide +kernel
theorem dX9_zone_110 : decode cX9_zone 110 = .ok (.getfield 7, 3) := by decide +kernel
theorem dX9_zone_113 : decode cX9_zone 113 = .ok (.iconst 1, 1) := by decide +kernel
theorem dX9_zone_114 : decode cX9_zone 114 = .ok (.iadd, 1) := by decide +kernel
theorem dX9_zone_115 : decode cX9_zone 115 = .ok (.putfield 7, 3) := by decide +kernel
theorem dX9_zone_118 : decode cX9_zone 118 = .ok (.aload_n 0, 1) := by decide +kernel
theorem dX9_zone_119 : decode cX9_zone 119 = .ok (.getfield 7, 3) := by decide +kernel
theorem dX9_zone_122 : decode cX9_zone 122 = .ok (.iconst 1, 1) := by decide +kernel
theorem dX9_zone_123 : decode cX9_zone 123 = .ok (.isub, 1) := by decide +kernel
theorem dX9_zone_124 : decode cX9_zone 124 = .ok (.ireturn, 1) := by decide +kernel
set_option maxRecDepth 20000 in
theorem ggX9_tells_X9_isPlace : GoodIn wsX9_tells wsX9_isPlace := goodIn_r _ [10, 11, 12, 9, 13, 14, 15, 16, 17, 18, 19] (by decide +kernel) (by decide +kernel)
set_option maxRecDepth 20000 in
theorem gX9_tells_X9_isPlace : GoodIn wsX9_tells (va_wsS RX9 146 yX9_isPlace wsX9_isPlace) := goodIn_app (goodIn_of _ (by decide +kernel)) ggX9_tells_X9_isPlace
set_option maxRecDepth 20000 in
theorem ggX9_tells_X9_in : GoodIn wsX9_tells wsX9_in := goodIn_r _ [16] (by decide +kernel) (by decide +kernel)
set_option maxRecDepth 20000 in
theorem gX9_tells_X9_in : GoodIn wsX9_tells (va_wsS RX9 102 yX9_in wsX9_in) := goodIn_app (goodIn_of _ (by decide +kernel)) ggX9_tells_X9_in
set_option maxRecDepth 20000 in
theorem ggX9_tells_X9_asked_ : GoodIn wsX9_tells wsX9_asked_ := goodIn_r _ [23, 24, 25, 26, 27, 28, 29, 30, 31, 32, 33, 34, 35, 36, 37, 38, 39, 40, 41, 42, 43, 44, 45, 46, 47, 48, 49, 50, 51, 52, 53, 54, 55, 56, 57, 58, 59, 60, 61] (by decide +kernel) (by decide +kernel)
set_option maxRecDepth 20000 in
theorem gX9_tells_X9_asked_ : GoodIn wsX9_tells (wsV RX9 142 RX9 yX9_asked_ wsX9_asked_) := goodIn_app (goodIn_of _ (by decide +kernel)) ggX9_tells_X9_asked_
theorem dX9_tells_0 : decode cX9_tells 0 = .ok (.aload_n 0, 1) := by decide +kernel
theorem dX9_tells_1 : decode cX9_tells 1 = .ok (.iload_n 1, 1) := by decide +kernel
theorem dX9_tells_2 : decode cX9_tells 2 = .ok (.ifCond .eq 24, 3) := by decide +kernel
theorem dX9_tells_5 : decode cX9_tells 5 = .ok (.iload_n 3, 1) := by decide +kernel
theorem dX9_tells_6 : decode cX9_tells 6 = .ok (.invokestatic 146, 3) := by decide +kernel
theorem dX9_tells_9 : decode cX9_tells 9 = .ok (.ifCond .eq 17, 3) := by decide +kernel
theorem dX9_tells_12 : decode cX9_tells 12 = .ok (.iload 4, 2) := by decide +kernel
theorem dX9_tells_14 : decode cX9_tells 14 = .ok (.iconst 0, 1) := by decide +kernel
theorem dX9_tells_15 : decode cX9_tells 15 = .ok (.iconst 4, 1) := by decide +kernel
theorem dX9_tells_16 : decode cX9_tells 16 = .ok (.invokestatic 102, 3) := by decide +kernel
theorem dX9_tells_19 : decode cX9_tells 19 = .ok (.ifCond .eq 7, 3) := by decide +kernel
theorem dX9_tells_22 : decode cX9_tells 22 = .ok (.iconst 1, 1) := by decide +kernel
theorem dX9_tells_23 : decode cX9_tells 23 = .ok (.goto 4, 3) := by decide +kernel
theorem dX9_tells_26 : decode cX9_tells 26 = .ok (.iconst 0, 1) := by decide +kernel
theorem dX9_tells_27 : decode cX9_tells 27 = .ok (.aload_n 0, 1) := by decide +kernel
theorem dX9_tells_28 : decode cX9_tells 28 = .ok (.getfield 149, 3) := by decide +kernel
theorem dX9_tells_31 : decode cX9_tells 31 = .ok (.bipush 10, 2) := by decide +kernel
theorem dX9_tells_33 : decode cX9_tells 33 = .ok (.if_icmp .ge 7, 3) := by decide +kernel
theorem dX9_tells_36 : decode cX9_tells 36 = .ok (.iconst 1, 1) := by decide +kernel
theorem dX9_tells_37 : decode cX9_tells 37 = .ok (.goto 4, 3) := by decide +kernel
theorem dX9_tells_40 : decode cX9_tells 40 = .ok (.iconst 0, 1) := by decide +kernel
theorem dX9_tells_41 : decode cX9_tells 41 = .ok (.invokevirtual 142, 3) := by decide +kernel
theorem dX9_tells_44 : decode cX9_tells 44 = .ok (.ifCond .ne 5, 3) := by decide +kernel
theorem dX9_tells_47 : decode cX9_tells 47 = .ok (.iconst 0, 1) := by decide +kernel
theorem dX9_tells_48 : decode cX9_tells 48 = .ok (.ireturn, 1) := by decide +kernel
theorem dX9_tells_49 : decode cX9_tells 49 = .ok (.aload_n 0, 1) := by decide +kernel
theorem dX9_tells_50 : decode cX9_tells 50 = .ok (.getfield 57, 3) := by decide +kernel
theorem dX9_tells_53 : decode cX9_tells 53 = .ok (.aload_n 0, 1) := by decide +kernel
theorem dX9_tells_54 : decode cX9_tells 54 = .ok (.getfield 149, 3) := by decide +kernel
theorem dX9_tells_57 : decode cX9_tells 57 = .ok (.iload_n 2, 1) := by decide +kernel
theorem dX9_tells_58 : decode cX9_tells 58 = .ok (.iastore, 1) := by decide +kernel
theorem dX9_tells_59 : decode cX9_tells 59 = .ok (.aload_n 0, 1) := by decide +kernel
theorem dX9_tells_60 : decode cX9_tells 60 = .ok (.getfield 60, 3) := by decide +kernel
theorem dX9_tells_63 : decode cX9_tells 63 = .ok (.aload_n 0, 1) := by decide +kernel
theorem dX9_tells_64 : decode cX9_tells 64 = .ok (.getfield 149, 3) := by decide +kernel
theorem dX9_tells_67 : decode cX9_tells 67 = .ok (.iload_n 3, 1) := by decide +kernel
theorem dX9_tells_68 : decode cX9_tells 68 = .ok (.iastore, 1) := by decide +kernel
theorem dX9_tells_69 : decode cX9_tells 69 = .ok (.aload_n 0, 1) := by decide +kernel
theorem dX9_tells_70 : decode cX9_tells 70 = .ok (.getfield 63, 3) := by decide +kernel
theorem dX9_tells_73 : decode cX9_tells 73 = .ok (.aload_n 0, 1) := by decide +kernel
theorem dX9_tells_74 : decode cX9_tells 74 = .ok (.getfield 149, 3) := by decide +kernel
theorem dX9_tells_77 : decode cX9_tells 77 = .ok (.iload 4, 2) := by decide +kernel
theorem dX9_tells_79 : decode cX9_tells 79 = .ok (.iastore, 1) := by decide +kernel
theorem dX9_tells_80 : decode cX9_tells 80 = .ok (.aload_n 0, 1) := by decide +kernel
theorem dX9_tells_81 : decode cX9_tells 81 = .ok (.getfield 66, 3) := by decide +kernel
theorem dX9_tells_84 : decode cX9_tells 84 = .ok (.aload_n 0, 1) := by decide +kernel
theorem dX9_tells_85 : decode cX9_tells 85 = .ok (.getfield 149, 3) := by decide +kernel
theorem dX9_tells_88 : decode cX9_tells 88 = .ok (.iload 5, 2) := by decide +kernel
theorem dX9_tells_90 : decode cX9_tells 90 = .ok (.iastore, 1) := by decide +kernel
theorem dX9_tells_91 : decode cX9_tells 91 = .ok (.aload_n 0, 1) := by decide +kernel
theorem dX9_tells_92 : decode cX9_tells 92 = .ok (.getfield 69, 3) := by decide +kernel
theorem dX9_tells_95 : decode cX9_tells 95 = .ok (.aload_n 0, 1) := by decide +kernel
theorem dX9_tells_96 : decode cX9_tells 96 = .ok (.getfield 149, 3) := by decide +kernel
theorem dX9_tells_99 : decode cX9_tells 99 = .ok (.iload 6, 2) := by decide +kernel
theorem dX9_tells_101 : decode cX9_tells 101 = .ok (.iastore, 1) := by decide +kernel
theorem dX9_tells_102 : decode cX9_tells 102 = .ok (.aload_n 0, 1) := by decide +kernel
theorem dX9_tells_103 : decode cX9_tells 103 = .ok (.dup, 1) := by decide +kernel
theorem dX9_tells_104 : decode cX9_tells 104 = .ok (.getfield 149, 3) := by decide +kernel
theorem dX9_tells_107 : decode cX9_tells 107 = .ok (.iconst 1, 1) := by decide +kernel
theorem dX9_tells_108 : decode cX9_tells 108 = .ok (.iadd, 1) := by decide +kernel
theorem dX9_tells_109 : decode cX9_tells 109 = .ok (.putfield 149, 3) := by decide +kernel
theorem dX9_tells_112 : decode cX9_tells 112 = .ok (.aload_n 0, 1) := by decide +kernel
theorem dX9_tells_113 : decode cX9_tells 113 = .ok (.getfield 149, 3) := by decide +kernel
theorem dX9_tells_116 : decode cX9_tells 116 = .ok (.ireturn, 1) := by decide +kernel
set_option maxRecDepth 20000 in
theorem ggX9_need_X9_tells : GoodIn wsX9_need wsX9_tells := goodIn_r _ [5, 6, 7, 8, 9, 10, 11, 12, 13, 4, 14, 15, 16, 17, 18, 19, 20, 21, 22, 23, 24, 25, 26, 27, 28, 29, 30, 31, 32, 33, 34, 35, 36, 37, 38, 39, 40, 41, 42, 43, 44, 45, 46, 47, 48, 49, 50, 51, 52, 53, 54, 55, 56, 57, 58, 59, 60, 61, 62, 63, 64, 65] (by decide +kernel) (by decide +kernel)
set_option maxRecDepth 20000 in
theorem gX9_need_X9_tells : GoodIn wsX9_need (wsV RX9 152 RX9 yX9_tells wsX9_tells) := goodIn_app (goodIn_of _ (by decide +kernel)) ggX9_need_X9_tells
theorem dX9_need_0 : decode cX9_need 0 = .ok (.aload_n 0, 1) := by decide +kernel
theorem dX9_need_1 : decode cX9_need 1 = .ok (.iconst 1, 1) := by decide +kernel
theorem dX9_need_2 : decode cX9_need 2 = .ok (.iload_n 3, 1) := by decide +kernel
theorem dX9_need_3 : decode cX9_need 3 = .ok (.ifCond .eq 7, 3) := by decide +kernel
theorem dX9_need_6 : decode cX9_need 6 = .ok (.iconst 0, 1) := by decide +kernel
theorem dX9_need_7 : decode cX9_need 7 = .ok (.goto 4, 3) := by decide +kernel
theorem dX9_need_10 : decode cX9_need 10 = .ok (.iconst 1, 1) := by decide +kernel
theorem dX9_need_11 : decode cX9_need 11 = .ok (.iload_n 1, 1) := by decide +kernel
theorem dX9_need_12 : decode cX9_need 12 = .ok (.iload_n 2, 1) := by decide +kernel
theorem dX9_need_13 : decode cX9_need 13 = .ok (.iconst 0, 1) := by decide +kernel
theorem dX9_need_14 : decode cX9_need 14 = .ok (.iconst 0, 1) := by decide +kernel
theorem dX9_need_15 : decode cX9_need 15 = .ok (.invokevirtual 152, 3) := by decide +kernel
theorem dX9_need_18 : decode cX9_need 18 = .ok (.ireturn, 1) := by decide +kernel
set_option maxRecDepth 20000 in
theorem ggX9_isNumber_X9_in : GoodIn wsX9_isNumber wsX9_in := goodIn_r _ [4] (by decide +kernel) (by decide +kernel)
set_option maxRecDepth 20000 in
theorem gX9_isNumber_X9_in : GoodIn wsX9_isNumber (va_wsS RX9 102 yX9_in wsX9_in) := goodIn_app (goodIn_of _ (by decide +kernel)) ggX9_isNumber_X9_in
set_option maxRecDepth 20000 in
theorem ggX9_isNumber_X9_isName : GoodIn wsX9_isNumber wsX9_isName := goodIn_r _ [7, 1, 2, 3, 4] (by decide +kernel) (by decide +kernel)
set_option maxRecDepth 20000 in
theorem gX9_isNumber_X9_isName : GoodIn wsX9_isNumber (va_wsS RX9 106 yX9_isName wsX9_isName) := goodIn_app (goodIn_of _ (by decide +kernel)) ggX9_isNumber_X9_isName
theorem dX9_isNumber_0 : decode cX9_isNumber 0 = .ok (.iload_n 0, 1) := by decide +kernel
theorem dX9_isNumber_1 : decode cX9_isNumber 1 = .ok (.ifCond .ne 13, 3) := by decide +kernel
theorem dX9_isNumber_4 : decode cX9_isNumber 4 = .ok (.iload_n 1, 1) := by decide +kernel
theorem dX9_isNumber_5 : decode cX9_isNumber 5 = .ok (.iconst 0, 1) := by decide +kernel
theorem dX9_isNumber_6 : decode cX9_isNumber 6 = .ok (.bipush 99, 2) := by decide +kernel
theorem dX9_isNumber_8 : decode cX9_isNumber 8 = .ok (.invokestatic 102, 3) := by decide +kernel
theorem dX9_isNumber_11 : decode cX9_isNumber 11 = .ok (.goto 37, 3) := by decide +kernel
theorem dX9_isNumber_14 : decode cX9_isNumber 14 = .ok (.iload_n 0, 1) := by decide +kernel
theorem dX9_isNumber_15 : decode cX9_isNumber 15 = .ok (.iconst 3, 1) := by decide +kernel
theorem dX9_isNumber_16 : decode cX9_isNumber 16 = .ok (.if_icmp .ne 12, 3) := by decide +kernel
theorem dX9_isNumber_19 : decode cX9_isNumber 19 = .ok (.iload_n 1, 1) := by decide +kernel
theorem dX9_isNumber_20 : decode cX9_isNumber 20 = .ok (.iconst 0, 1) := by decide +kernel
theorem dX9_isNumber_21 : decode cX9_isNumber 21 = .ok (.iconst 5, 1) := by decide +kernel
theorem dX9_isNumber_22 : decode cX9_isNumber 22 = .ok (.invokestatic 102, 3) := by decide +kernel
theorem dX9_isNumber_25 : decode cX9_isNumber 25 = .ok (.goto 23, 3) := by decide +kernel
theorem dX9_isNumber_28 : decode cX9_isNumber 28 = .ok (.iload_n 0, 1) := by decide +kernel
theorem dX9_isNumber_29 : decode cX9_isNumber 29 = .ok (.iconst 4, 1) := by decide +kernel
theorem dX9_isNumber_30 : decode cX9_isNumber 30 = .ok (.if_icmp .ne 14, 3) := by decide +kernel
theorem dX9_isNumber_33 : decode cX9_isNumber 33 = .ok (.iload_n 1, 1) := by decide +kernel
theorem dX9_isNumber_34 : decode cX9_isNumber 34 = .ok (.iconst 0, 1) := by decide +kernel
theorem dX9_isNumber_35 : decode cX9_isNumber 35 = .ok (.sipush 996, 3) := by decide +kernel
theorem dX9_isNumber_38 : decode cX9_isNumber 38 = .ok (.invokestatic 102, 3) := by decide +kernel
theorem dX9_isNumber_41 : decode cX9_isNumber 41 = .ok (.goto 7, 3) := by decide +kernel
theorem dX9_isNumber_44 : decode cX9_isNumber 44 = .ok (.iload_n 1, 1) := by decide +kernel
theorem dX9_isNumber_45 : decode cX9_isNumber 45 = .ok (.invokestatic 106, 3) := by decide +kernel
theorem dX9_isNumber_48 : decode cX9_isNumber 48 = .ok (.ireturn, 1) := by decide +kernel
set_option maxRecDepth 20000 in
theorem ggX9_put_X9_isNumber : GoodIn wsX9_put wsX9_isNumber := goodIn_r _ [4, 5, 6, 3, 7, 8, 9, 10] (by decide +kernel) (by decide +kernel)
set_option maxRecDepth 20000 in
theorem gX9_put_X9_isNumber : GoodIn wsX9_put (va_wsS RX9 156 yX9_isNumber wsX9_isNumber) := goodIn_app (goodIn_of _ (by decide +kernel)) ggX9_put_X9_isNumber
set_option maxRecDepth 20000 in
theorem ggX9_put_X9_in : GoodIn wsX9_put wsX9_in := goodIn_r _ [7] (by decide +kernel) (by decide +kernel)
set_option maxRecDepth 20000 in
theorem gX9_put_X9_in : GoodIn wsX9_put (va_wsS RX9 102 yX9_in wsX9_in) := goodIn_app (goodIn_of _ (by decide +kernel)) ggX9_put_X9_in
set_option maxRecDepth 20000 in
theorem ggX9_put_X9_tells : GoodIn wsX9_put wsX9_tells := goodIn_r _ [14, 15, 16, 17, 18, 19, 20, 21, 22, 3, 23, 8, 9, 10, 5, 6, 7, 24, 25, 26, 27, 28, 29, 30, 31, 32, 33, 34, 35, 36, 37, 38, 39, 40, 41, 42, 43, 44, 45, 46, 47, 48, 49, 50, 51, 52, 53, 54, 55, 56, 57, 58, 59, 60, 61, 62, 63, 64, 65, 66, 67, 68] (by decide +kernel) (by decide +kernel)
set_option maxRecDepth 20000 in
theorem gX9_put_X9_tells : GoodIn wsX9_put (wsV RX9 152 RX9 yX9_tells wsX9_tells) := goodIn_app (goodIn_of _ (by decide +kernel)) ggX9_put_X9_tells
theorem dX9_put_0 : decode cX9_put 0 = .ok (.aload_n 0, 1) := by decide +kernel
theorem dX9_put_1 : decode cX9_put 1 = .ok (.iload_n 2, 1) := by decide +kernel
theorem dX9_put_2 : decode cX9_put 2 = .ok (.iload_n 3, 1) := by decide +kernel
theorem dX9_put_3 : decode cX9_put 3 = .ok (.invokestatic 156, 3) := by decide +kernel
theorem dX9_put_6 : decode cX9_put 6 = .ok (.ifCond .eq 18, 3) := by decide +kernel
theorem dX9_put_9 : decode cX9_put 9 = .ok (.iload 4, 2) := by decide +kernel
theorem dX9_put_11 : decode cX9_put 11 = .ok (.iconst 1, 1) := by decide +kernel
theorem dX9_put_12 : decode cX9_put 12 = .ok (.bipush 50, 2) := by decide +kernel
theorem dX9_put_14 : decode cX9_put 14 = .ok (.invokestatic 102, 3) := by decide +kernel
theorem dX9_put_17 : decode cX9_put 17 = .ok (.ifCond .eq 7, 3) := by decide +kernel
theorem dX9_put_20 : decode cX9_put 20 = .ok (.iconst 1, 1) := by decide +kernel
theorem dX9_put_21 : decode cX9_put 21 = .ok (.goto 4, 3) := by decide +kernel
theorem dX9_put_24 : decode cX9_put 24 = .ok (.iconst 0, 1) := by decide +kernel
theorem dX9_put_25 : decode cX9_put 25 = .ok (.iconst 2, 1) := by decide +kernel
theorem dX9_put_26 : decode cX9_put 26 = .ok (.iload_n 1, 1) := by decide +kernel
theorem dX9_put_27 : decode cX9_put 27 = .ok (.iload_n 2, 1) := by decide +kernel
theorem dX9_put_28 : decode cX9_put 28 = .ok (.iload_n 3, 1) := by decide +kernel
theorem dX9_put_29 : decode cX9_put 29 = .ok (.iload 4, 2) := by decide +kernel
theorem dX9_put_31 : decode cX9_put 31 = .ok (.invokevirtual 152, 3) := by decide +kernel
theorem dX9_put_34 : decode cX9_put 34 = .ok (.ireturn, 1) := by decide +kernel
set_option maxRecDepth 20000 in
theorem ggX9_drop_X9_tells : GoodIn wsX9_drop wsX9_tells := goodIn_r _ [5, 6, 7, 8, 9, 10, 11, 12, 13, 4, 14, 15, 16, 17, 18, 19, 20, 21, 22, 23, 24, 25, 26, 27, 28, 29, 30, 31, 32, 33, 34, 35, 36, 37, 38, 39, 40, 41, 42, 43, 44, 45, 46, 47, 48, 49, 50, 51, 52, 53, 54, 55, 56, 57, 58, 59, 60, 61, 62, 63, 64, 65] (by decide +kernel) (by decide +kernel)
set_option maxRecDepth 20000 in
theorem gX9_drop_X9_tells : GoodIn wsX9_drop (wsV RX9 152 RX9 yX9_tells wsX9_tells) := goodIn_app (goodIn_of _ (by decide +kernel)) ggX9_drop_X9_tells
theorem dX9_drop_0 : decode cX9_drop 0 = .ok (.aload_n 0, 1) := by decide +kernel
theorem dX9_drop_1 : decode cX9_drop 1 = .ok (.iconst 1, 1) := by decide +kernel
theorem dX9_drop_2 : decode cX9_drop 2 = .ok (.iconst 3, 1) := by decide +kernel
theorem dX9_drop_3 : decode cX9_drop 3 = .ok (.iload_n 1, 1) := by decide +kernel
theorem dX9_drop_4 : decode cX9_drop 4 = .ok (.iload_n 2, 1) := by decide +kernel
theorem dX9_drop_5 : decode cX9_drop 5 = .ok (.iconst 0, 1) := by decide +kernel
theorem dX9_drop_6 : decode cX9_drop 6 = .ok (.iconst 0, 1) := by decide +kernel
theorem dX9_drop_7 : decode cX9_drop 7 = .ok (.invokevirtual 152, 3) := by decide +kernel
theorem dX9_drop_10 : decode cX9_drop 10 = .ok (.ireturn, 1) := by decide +kernel
set_option maxRecDepth 20000 in
theorem ggX9_does_X9_find : GoodIn wsX9_does wsX9_find := goodIn_r _ [15, 4, 7, 8, 20, 21, 22, 23, 24, 25, 26, 27, 28, 29, 30, 31, 32, 33, 34, 35, 36, 37, 38, 39, 40, 41, 42, 43, 44, 45, 46, 47, 48, 49, 50, 51, 52, 53, 54, 55, 56] (by decide +kernel) (by decide +kernel)
set_option maxRecDepth 20000 in
theorem gX9_does_X9_find : GoodIn wsX9_does (wsV RX9 135 RX9 yX9_find wsX9_find) := goodIn_app (goodIn_of _ (by decide +kernel)) ggX9_does_X9_find
set_option maxRecDepth 20000 in
theorem ggX9_does_X9_lays : GoodIn wsX9_does wsX9_lays := goodIn_r _ [19, 7, 8, 9, 10, 20, 21, 22, 23, 24, 25, 26, 27, 28, 29, 30, 31, 32, 33, 34, 35, 36, 37, 38, 39, 40, 41, 42, 43, 44, 45, 46, 47, 48, 49, 50, 51, 52, 53, 54, 55, 56] (by decide +kernel) (by decide +kernel)
set_option maxRecDepth 20000 in
theorem gX9_does_X9_lays : GoodIn wsX9_does (wsV RX9 131 RX9 yX9_lays wsX9_lays) := goodIn_app (goodIn_of _ (by decide +kernel)) ggX9_does_X9_lays
theorem dX9_does_0 : decode cX9_does 0 = .ok (.aload_n 0, 1) := by decide +kernel
theorem dX9_does_1 : decode cX9_does 1 = .ok (.getfield 57, 3) := by decide +kernel
theorem dX9_does_4 : decode cX9_does 4 = .ok (.iload_n 2, 1) := by decide +kernel
theorem dX9_does_5 : decode cX9_does 5 = .ok (.iaload, 1) := by decide +kernel
theorem dX9_does_6 : decode cX9_does 6 = .ok (.iconst 2, 1) := by decide +kernel
theorem dX9_does_7 : decode cX9_does 7 = .ok (.if_icmp .ge 52, 3) := by decide +kernel
theorem dX9_does_10 : decode cX9_does 10 = .ok (.aload_n 0, 1) := by decide +kernel
theorem dX9_does_11 : decode cX9_does 11 = .ok (.iload_n 1, 1) := by decide +kernel
theorem dX9_does_12 : decode cX9_does 12 = .ok (.aload_n 0, 1) := by decide +kernel
theorem dX9_does_13 : decode cX9_does 13 = .ok (.getfield 60, 3) := by decide +kernel
theorem dX9_does_16 : decode cX9_does 16 = .ok (.iload_n 2, 1) := by decide +kernel
theorem dX9_does_17 : decode cX9_does 17 = .ok (.iaload, 1) := by decide +kernel
theorem dX9_does_18 : decode cX9_does 18 = .ok (.aload_n 0, 1) := by decide +kernel
theorem dX9_does_19 : decode cX9_does 19 = .ok (.getfield 63, 3) := by decide +kernel
theorem dX9_does_22 : decode cX9_does 22 = .ok (.iload_n 2, 1) := by decide +kernel
theorem dX9_does_23 : decode cX9_does 23 = .ok (.iaload, 1) := by decide +kernel
theorem dX9_does_24 : decode cX9_does 24 = .ok (.invokevirtual 135, 3) := by decide +kernel
theorem dX9_does_27 : decode cX9_does 27 = .ok (.iconst (-1), 1) := by decide +kernel
theorem dX9_does_28 : decode cX9_does 28 = .ok (.if_icmp .eq 7, 3) := by decide +kernel
theorem dX9_does_31 : decode cX9_does 31 = .ok (.iconst 1, 1) := by decide +kernel
theorem dX9_does_32 : decode cX9_does 32 = .ok (.goto 4, 3) := by decide +kernel
theorem dX9_does_35 : decode cX9_does 35 = .ok (.iconst 0, 1) := by decide +kernel
theorem dX9_does_36 : decode cX9_does 36 = .ok (.aload_n 0, 1) := by decide +kernel
theorem dX9_does_37 : decode cX9_does 37 = .ok (.getfield 57, 3) := by decide +kernel
theorem dX9_does_40 : decode cX9_does 40 = .ok (.iload_n 2, 1) := by decide +kernel
theorem dX9_does_41 : decode cX9_does 41 = .ok (.iaload, 1) := by decide +kernel
theorem dX9_does_42 : decode cX9_does 42 = .ok (.ifCond .ne 7, 3) := by decide +kernel
theorem dX9_does_45 : decode cX9_does 45 = .ok (.iconst 1, 1) := by decide +kernel
theorem dX9_does_46 : decode cX9_does 46 = .ok (.goto 4, 3) := by decide +kernel
theorem dX9_does_49 : decode cX9_does 49 = .ok (.iconst 0, 1) := by decide +kernel
theorem dX9_does_50 : decode cX9_does 50 = .ok (.if_icmp .ne 7, 3) := by decide +kernel
theorem dX9_does_53 : decode cX9_does 53 = .ok (.iconst 1, 1) := by decide +kernel
theorem dX9_does_54 : decode cX9_does 54 = .ok (.goto 4, 3) := by decide +kernel
theorem dX9_does_57 : decode cX9_does 57 = .ok (.iconst 0, 1) := by decide +kernel
theorem dX9_does_58 : decode cX9_does 58 = .ok (.ireturn, 1) := by decide +kernel
theorem dX9_does_59 : decode cX9_does 59 = .ok (.aload_n 0, 1) := by decide +kernel
theorem dX9_does_60 : decode cX9_does 60 = .ok (.bipush 12, 2) := by decide +kernel
theorem dX9_does_62 : decode cX9_does 62 = .ok (.aload_n 0, 1) := by decide +kernel
theorem dX9_does_63 : decode cX9_does 63 = .ok (.getfield 60, 3) := by decide +kernel
theorem dX9_does_66 : decode cX9_does 66 = .ok (.iload_n 2, 1) := by decide +kernel
theorem dX9_does_67 : decode cX9_does 67 = .ok (.iaload, 1) := by decide +kernel
theorem dX9_does_68 : decode cX9_does 68 = .ok (.aload_n 0, 1) := by decide +kernel
theorem dX9_does_69 : decode cX9_does 69 = .ok (.getfield 63, 3) := by decide +kernel
theorem dX9_does_72 : decode cX9_does 72 = .ok (.iload_n 2, 1) := by decide +kernel
theorem dX9_does_73 : decode cX9_does 73 = .ok (.iaload, 1) := by decide +kernel
theorem dX9_does_74 : decode cX9_does 74 = .ok (.invokevirtual 135, 3) := by decide +kernel
theorem dX9_does_77 : decode cX9_does 77 = .ok (.istore_n 3, 1) := by decide +kernel
theorem dX9_does_78 : decode cX9_does 78 = .ok (.aload_n 0, 1) := by decide +kernel
theorem dX9_does_79 : decode cX9_does 79 = .ok (.getfield 57, 3) := by decide +kernel
theorem dX9_does_82 : decode cX9_does 82 = .ok (.iload_n 2, 1) := by decide +kernel
theorem dX9_does_83 : decode cX9_does 83 = .ok (.iaload, 1) := by decide +kernel
theorem dX9_does_84 : decode cX9_does 84 = .ok (.iconst 2, 1) := by decide +kernel
theorem dX9_does_85 : decode cX9_does 85 = .ok (.if_icmp .ne 79, 3) := by decide +kernel
theorem dX9_does_88 : decode cX9_does 88 = .ok (.iload_n 3, 1) := by decide +kernel
theorem dX9_does_89 : decode cX9_does 89 = .ok (.iconst (-1), 1) := by decide +kernel
theorem dX9_does_90 : decode cX9_does 90 = .ok (.if_icmp .ne 13, 3) := by decide +kernel
theorem dX9_does_93 : decode cX9_does 93 = .ok (.aload_n 0, 1) := by decide +kernel
theorem dX9_does_94 : decode cX9_does 94 = .ok (.getfield 42, 3) := by decide +kernel
theorem dX9_does_97 : decode cX9_does 97 = .ok (.bipush 12, 2) := by decide +kernel
theorem dX9_does_99 : decode cX9_does 99 = .ok (.iaload, 1) := by decide +kernel
theorem dX9_does_100 : decode cX9_does 100 = .ok (.goto 8, 3) := by decide +kernel
theorem dX9_does_103 : decode cX9_does 103 = .ok (.iload_n 3, 1) := by decide +kernel
theorem dX9_does_104 : decode cX9_does 104 = .ok (.sipush 384, 3) := by decide +kernel
theorem dX9_does_107 : decode cX9_does 107 = .ok (.isub, 1) := by decide +kernel
theorem dX9_does_108 : decode cX9_does 108 = .ok (.istore 4, 2) := by decide +kernel
theorem dX9_does_110 : decode cX9_does 110 = .ok (.aload_n 0, 1) := by decide +kernel
theorem dX9_does_111 : decode cX9_does 111 = .ok (.bipush 12, 2) := by decide +kernel
theorem dX9_does_113 : decode cX9_does 113 = .ok (.iload 4, 2) := by decide +kernel
theorem dX9_does_115 : decode cX9_does 115 = .ok (.aload_n 0, 1) := by decide +kernel
theorem dX9_does_116 : decode cX9_does 116 = .ok (.getfield 60, 3) := by decide +kernel
theorem dX9_does_119 : decode cX9_does 119 = .ok (.iload_n 2, 1) := by decide +kernel
theorem dX9_does_120 : decode cX9_does 120 = .ok (.iaload, 1) := by decide +kernel
theorem dX9_does_121 : decode cX9_does 121 = .ok (.aload_n 0, 1) := by decide +kernel
theorem dX9_does_122 : decode cX9_does 122 = .ok (.getfield 63, 3) := by decide +kernel
theorem dX9_does_125 : decode cX9_does 125 = .ok (.iload_n 2, 1) := by decide +kernel
theorem dX9_does_126 : decode cX9_does 126 = .ok (.iaload, 1) := by decide +kernel
theorem dX9_does_127 : decode cX9_does 127 = .ok (.aload_n 0, 1) := by decide +kernel
theorem dX9_does_128 : decode cX9_does 128 = .ok (.getfield 66, 3) := by decide +kernel
theorem dX9_does_131 : decode cX9_does 131 = .ok (.iload_n 2, 1) := by decide +kernel
theorem dX9_does_132 : decode cX9_does 132 = .ok (.iaload, 1) := by decide +kernel
theorem dX9_does_133 : decode cX9_does 133 = .ok (.aload_n 0, 1) := by decide +kernel
theorem dX9_does_134 : decode cX9_does 134 = .ok (.getfield 69, 3) := by decide +kernel
theorem dX9_does_137 : decode cX9_does 137 = .ok (.iload_n 2, 1) := by decide +kernel
theorem dX9_does_138 : decode cX9_does 138 = .ok (.iaload, 1) := by decide +kernel
theorem dX9_does_139 : decode cX9_does 139 = .ok (.invokevirtual 131, 3) := by decide +kernel
theorem dX9_does_142 : decode cX9_does 142 = .ok (.aload_n 0, 1) := by decide +kernel
theorem dX9_does_143 : decode cX9_does 143 = .ok (.getfield 42, 3) := by decide +kernel
theorem dX9_does_146 : decode cX9_does 146 = .ok (.bipush 12, 2) := by decide +kernel
theorem dX9_does_148 : decode cX9_does 148 = .ok (.dup2, 1) := by decide +kernel
theorem dX9_does_149 : decode cX9_does 149 = .ok (.iaload, 1) := by decide +kernel
theorem dX9_does_150 : decode cX9_does 150 = .ok (.iload_n 3, 1) := by decide +kernel
theorem dX9_does_151 : decode cX9_does 151 = .ok (.iconst (-1), 1) := by decide +kernel
theorem dX9_does_152 : decode cX9_does 152 = .ok (.if_icmp .ne 7, 3) := by decide +kernel
theorem dX9_does_155 : decode cX9_does 155 = .ok (.iconst 1, 1) := by decide +kernel
theorem dX9_does_156 : decode cX9_does 156 = .ok (.goto 4, 3) := by decide +kernel
theorem dX9_does_159 : decode cX9_does 159 = .ok (.iconst 0, 1) := by decide +kernel
theorem dX9_does_160 : decode cX9_does 160 = .ok (.iadd, 1) := by decide +kernel
theorem dX9_does_161 : decode cX9_does 161 = .ok (.iastore, 1) := by decide +kernel
theorem dX9_does_162 : decode cX9_does 162 = .ok (.iconst 1, 1) := by decide +kernel
theorem dX9_does_163 : decode cX9_does 163 = .ok (.ireturn, 1) := by decide +kernel
theorem dX9_does_164 : decode cX9_does 164 = .ok (.iload_n 3, 1) := by decide +kernel
theorem dX9_does_165 : decode cX9_does 165 = .ok (.iconst (-1), 1) := by decide +kernel
theorem dX9_does_166 : decode cX9_does 166 = .ok (.if_icmp .eq 68, 3) := by decide +kernel
theorem dX9_does_169 : decode cX9_does 169 = .ok (.sipush 384, 3) := by decide +kernel
theorem dX9_does_172 : decode cX9_does 172 = .ok (.aload_n 0, 1) := by decide +kernel
theorem dX9_does_173 : decode cX9_does 173 = .ok (.getfield 42, 3) := by decide +kernel
theorem dX9_does_176 : decode cX9_does 176 = .ok (.bipush 12, 2) := by decide +kernel
theorem dX9_does_178 : decode cX9_does 178 = .ok (.iaload, 1) := by decide +kernel
theorem dX9_does_179 : decode cX9_does 179 = .ok (.iadd, 1) := by decide +kernel
theorem dX9_does_180 : decode cX9_does 180 = .ok (.iconst 1, 1) := by decide +kernel
theorem dX9_does_181 : decode cX9_does 181 = .ok (.isub, 1) := by decide +kernel
theorem dX9_does_182 : decode cX9_does 182 = .ok (.istore 4, 2) := by decide +kernel
theorem dX9_does_184 : decode cX9_does 184 = .ok (.aload_n 0, 1) := by decide +kernel
theorem dX9_does_185 : decode cX9_does 185 = .ok (.bipush 12, 2) := by decide +kernel
theorem dX9_does_187 : decode cX9_does 187 = .ok (.iload_n 3, 1) := by decide +kernel
theorem dX9_does_188 : decode cX9_does 188 = .ok (.sipush 384, 3) := by decide +kernel
theorem dX9_does_191 : decode cX9_does 191 = .ok (.isub, 1) := by decide +kernel
theorem dX9_does_192 : decode cX9_does 192 = .ok (.aload_n 0, 1) := by decide +kernel
theorem dX9_does_193 : decode cX9_does 193 = .ok (.getfield 45, 3) := by decide +kernel
theorem dX9_does_196 : decode cX9_does 196 = .ok (.iload 4, 2) := by decide +kernel
theorem dX9_does_198 : decode cX9_does 198 = .ok (.iaload, 1) := by decide +kernel
theorem dX9_does_199 : decode cX9_does 199 = .ok (.aload_n 0, 1) := by decide +kernel
theorem dX9_does_200 : decode cX9_does 200 = .ok (.getfield 48, 3) := by decide +kernel
theorem dX9_does_203 : decode cX9_does 203 = .ok (.iload 4, 2) := by decide +kernel
theorem dX9_does_205 : decode cX9_does 205 = .ok (.iaload, 1) := by decide +kernel
theorem dX9_does_206 : decode cX9_does 206 = .ok (.aload_n 0, 1) := by decide +kernel
theorem dX9_does_207 : decode cX9_does 207 = .ok (.getfield 51, 3) := by decide +kernel
theorem dX9_does_210 : decode cX9_does 210 = .ok (.iload 4, 2) := by decide +kernel
theorem dX9_does_212 : decode cX9_does 212 = .ok (.iaload, 1) := by decide +kernel
theorem dX9_does_213 : decode cX9_does 213 = .ok (.aload_n 0, 1) := by decide +kernel
theorem dX9_does_214 : decode cX9_does 214 = .ok (.getfield 54, 3) := by decide +kernel
theorem dX9_does_217 : decode cX9_does 217 = .ok (.iload 4, 2) := by decide +kernel
theorem dX9_does_219 : decode cX9_does 219 = .ok (.iaload, 1) := by decide +kernel
theorem dX9_does_220 : decode cX9_does 220 = .ok (.invokevirtual 131, 3) := by decide +kernel
theorem dX9_does_223 : decode cX9_does 223 = .ok (.aload_n 0, 1) := by decide +kernel
theorem dX9_does_224 : decode cX9_does 224 = .ok (.getfield 42, 3) := by decide +kernel
theorem dX9_does_227 : decode cX9_does 227 = .ok (.bipush 12, 2) := by decide +kernel
theorem dX9_does_229 : decode cX9_does 229 = .ok (.dup2, 1) := by decide +kernel
theorem dX9_does_230 : decode cX9_does 230 = .ok (.iaload, 1) := by decide +kernel
theorem dX9_does_231 : decode cX9_does 231 = .ok (.iconst 1, 1) := by decide +kernel
theorem dX9_does_232 : decode cX9_does 232 = .ok (.isub, 1) := by decide +kernel
theorem dX9_does_233 : decode cX9_does 233 = .ok (.iastore, 1) := by decide +kernel
theorem dX9_does_234 : decode cX9_does 234 = .ok (.iload_n 3, 1) := by decide +kernel
theorem dX9_does_235 : decode cX9_does 235 = .ok (.iconst (-1), 1) := by decide +kernel
theorem dX9_does_236 : decode cX9_does 236 = .ok (.if_icmp .eq 7, 3) := by decide +kernel
theorem dX9_does_239 : decode cX9_does 239 = .ok (.iconst 1, 1) := by decide +kernel
theorem dX9_does_240 : decode cX9_does 240 = .ok (.goto 4, 3) := by decide +kernel
theorem dX9_does_243 : decode cX9_does 243 = .ok (.iconst 0, 1) := by decide +kernel
theorem dX9_does_244 : decode cX9_does 244 = .ok (.ireturn, 1) := by decide +kernel
set_option maxRecDepth 20000 in
theorem ggX9_update_X9_isZone : GoodIn wsX9_update wsX9_isZone := goodIn_r _ [7, 8, 9, 10, 6, 11, 67, 68, 69, 70, 71, 72, 73, 74, 75, 76, 77, 78, 79, 80, 81, 82, 83, 84, 85, 86, 87, 88, 89, 90, 91, 92, 93, 94, 95, 96, 97, 98, 99, 100, 101, 102, 103] (by decide +kernel) (by decide +kernel)
set_option maxRecDepth 20000 in
theorem gX9_update_X9_isZone : GoodIn wsX9_update (wsV RX9 159 RX9 yX9_isZone wsX9_isZone) := goodIn_app (goodIn_of _ (by decide +kernel)) ggX9_update_X9_isZone
set_option maxRecDepth 20000 in
theorem ggX9_update_X9_asked : GoodIn wsX9_update wsX9_asked := goodIn_r _ [15, 16, 67, 68, 69, 70, 71, 72, 73, 74, 75, 76, 77, 78, 79, 80, 81, 82, 83, 84, 85, 86, 87, 88, 89, 90, 91, 92, 93, 94, 95, 96, 97, 98, 99, 100, 101, 102, 103] (by decide +kernel) (by decide +kernel)
set_option maxRecDepth 20000 in
theorem gX9_update_X9_asked : GoodIn wsX9_update (wsV RX9 162 RX9 yX9_asked wsX9_asked) := goodIn_app (goodIn_of _ (by decide +kernel)) ggX9_update_X9_asked
set_option maxRecDepth 20000 in
theorem ggX9_update_X9_copies : GoodIn wsX9_update wsX9_copies := goodIn_r _ [20, 21, 22, 23, 24, 25, 26, 27, 28, 6, 29, 67, 68, 69, 70, 71, 72, 73, 74, 75, 76, 77, 78, 79, 80, 81, 82, 83, 84, 85, 86, 87, 88, 89, 90, 91, 92, 93, 94, 95, 96, 97, 98, 99, 100, 101, 102, 103] (by decide +kernel) (by decide +kernel)
set_option maxRecDepth 20000 in
theorem gX9_update_X9_copies : GoodIn wsX9_update (wsV RX9 165 RX9 yX9_copies wsX9_copies) := goodIn_app (goodIn_of _ (by decide +kernel)) ggX9_update_X9_copies
set_option maxRecDepth 20000 in
theorem ggX9_update_X9_does : GoodIn wsX9_update wsX9_does := goodIn_r _ [33, 34, 35, 36, 21, 37, 38, 22, 23, 24, 25, 39, 40, 41, 6, 42, 26, 27, 28, 29, 67, 68, 69, 70, 71, 72, 73, 74, 75, 76, 77, 78, 79, 80, 81, 82, 83, 84, 85, 86, 87, 88, 89, 90, 91, 92, 93, 94, 95, 96, 97, 98, 99, 100, 101, 102, 103] (by decide +kernel) (by decide +kernel)
set_option maxRecDepth 20000 in
theorem gX9_update_X9_does : GoodIn wsX9_update (wsV RX9 169 RX9 yX9_does wsX9_does) := goodIn_app (goodIn_of _ (by decide +kernel)) ggX9_update_X9_does
set_option maxRecDepth 20000 in
theorem ggX9_update_X9_fits : GoodIn wsX9_update wsX9_fits := goodIn_r _ [46, 21, 47, 48, 49, 6, 50, 22, 51, 23, 24, 8, 52, 53, 54, 55, 56, 57, 58, 59, 60, 61, 62, 63, 64, 65, 66, 39, 40, 41, 42, 67, 68, 69, 70, 71, 72, 73, 74, 75, 76, 77, 78, 79, 80, 81, 82, 83, 84, 85, 86, 87, 88, 89, 90, 91, 92, 93, 94, 95, 96, 97, 98, 99, 100, 101, 102, 103] (by decide +kernel) (by decide +kernel)
set_option maxRecDepth 20000 in
theorem gX9_update_X9_fits : GoodIn wsX9_update (wsV RX9 172 RX9 yX9_fits wsX9_fits) := goodIn_app (goodIn_of _ (by decide +kernel)) ggX9_update_X9_fits
theorem dX9_update_0 : decode cX9_update 0 = .ok (.aload_n 0, 1) := by decide +kernel
theorem dX9_update_1 : decode cX9_update 1 = .ok (.aload_n 0, 1) := by decide +kernel
theorem dX9_update_2 : decode cX9_update 2 = .ok (.iload_n 1, 1) := by decide +kernel
theorem dX9_update_3 : decode cX9_update 3 = .ok (.invokevirtual 159, 3) := by decide +kernel
theorem dX9_update_6 : decode cX9_update 6 = .ok (.invokevirtual 162, 3) := by decide +kernel
theorem dX9_update_9 : decode cX9_update 9 = .ok (.ifCond .ne 5, 3) := by decide +kernel
theorem dX9_update_12 : decode cX9_update 12 = .ok (.iconst 0, 1) := by decide +kernel
theorem dX9_update_13 : decode cX9_update 13 = .ok (.ireturn, 1) := by decide +kernel
theorem dX9_update_14 : decode cX9_update 14 = .ok (.aload_n 0, 1) := by decide +kernel
theorem dX9_update_15 : decode cX9_update 15 = .ok (.iload_n 1, 1) := by decide +kernel
theorem dX9_update_16 : decode cX9_update 16 = .ok (.bipush 12, 2) := by decide +kernel
theorem dX9_update_18 : decode cX9_update 18 = .ok (.invokevirtual 165, 3) := by decide +kernel
theorem dX9_update_21 : decode cX9_update 21 = .ok (.iconst 1, 1) := by decide +kernel
theorem dX9_update_22 : decode cX9_update 22 = .ok (.istore_n 2, 1) := by decide +kernel
theorem dX9_update_23 : decode cX9_update 23 = .ok (.iconst 0, 1) := by decide +kernel
theorem dX9_update_24 : decode cX9_update 24 = .ok (.istore_n 3, 1) := by decide +kernel
theorem dX9_update_25 : decode cX9_update 25 = .ok (.iload_n 3, 1) := by decide +kernel
theorem dX9_update_26 : decode cX9_update 26 = .ok (.aload_n 0, 1) := by decide +kernel
theorem dX9_update_27 : decode cX9_update 27 = .ok (.getfield 149, 3) := by decide +kernel
theorem dX9_update_30 : decode cX9_update 30 = .ok (.if_icmp .ge 20, 3) := by decide +kernel
theorem dX9_update_33 : decode cX9_update 33 = .ok (.iload_n 2, 1) := by decide +kernel
theorem dX9_update_34 : decode cX9_update 34 = .ok (.ifCond .eq 16, 3) := by decide +kernel
theorem dX9_update_37 : decode cX9_update 37 = .ok (.aload_n 0, 1) := by decide +kernel
theorem dX9_update_38 : decode cX9_update 38 = .ok (.iload_n 1, 1) := by decide +kernel
theorem dX9_update_39 : decode cX9_update 39 = .ok (.iload_n 3, 1) := by decide +kernel
theorem dX9_update_40 : decode cX9_update 40 = .ok (.invokevirtual 169, 3) := by decide +kernel
theorem dX9_update_43 : decode cX9_update 43 = .ok (.istore_n 2, 1) := by decide +kernel
theorem dX9_update_44 : decode cX9_update 44 = .ok (.iinc 3 1, 3) := by decide +kernel
theorem dX9_update_47 : decode cX9_update 47 = .ok (.goto (-22), 3) := by decide +kernel
theorem dX9_update_50 : decode cX9_update 50 = .ok (.aload_n 0, 1) := by decide +kernel
theorem dX9_update_51 : decode cX9_update 51 = .ok (.iconst 0, 1) := by decide +kernel
theorem dX9_update_52 : decode cX9_update 52 = .ok (.putfield 149, 3) := by decide +kernel
theorem dX9_update_55 : decode cX9_update 55 = .ok (.iload_n 2, 1) := by decide +kernel
theorem dX9_update_56 : decode cX9_update 56 = .ok (.ifCond .eq 15, 3) := by decide +kernel
theorem dX9_update_59 : decode cX9_update 59 = .ok (.aload_n 0, 1) := by decide +kernel
theorem dX9_update_60 : decode cX9_update 60 = .ok (.iload_n 1, 1) := by decide +kernel
theorem dX9_update_61 : decode cX9_update 61 = .ok (.invokevirtual 172, 3) := by decide +kernel
theorem dX9_update_64 : decode cX9_update 64 = .ok (.ifCond .eq 7, 3) := by decide +kernel
theorem dX9_update_67 : decode cX9_update 67 = .ok (.iconst 1, 1) := by decide +kernel
theorem dX9_update_68 : decode cX9_update 68 = .ok (.goto 4, 3) := by decide +kernel
theorem dX9_update_71 : decode cX9_update 71 = .ok (.iconst 0, 1) := by decide +kernel
theorem dX9_update_72 : decode cX9_update 72 = .ok (.istore_n 2, 1) := by decide +kernel
theorem dX9_update_73 : decode cX9_update 73 = .ok (.iload_n 2, 1) := by decide +kernel
theorem dX9_update_74 : decode cX9_update 74 = .ok (.ifCond .eq 27, 3) := by decide +kernel
theorem dX9_update_77 : decode cX9_update 77 = .ok (.aload_n 0, 1) := by decide +kernel
theorem dX9_update_78 : decode cX9_update 78 = .ok (.bipush 12, 2) := by decide +kernel
theorem dX9_update_80 : decode cX9_update 80 = .ok (.iload_n 1, 1) := by decide +kernel
theorem dX9_update_81 : decode cX9_update 81 = .ok (.invokevirtual 165, 3) := by decide +kernel
theorem dX9_update_84 : decode cX9_update 84 = .ok (.aload_n 0, 1) := by decide +kernel
theorem dX9_update_85 : decode cX9_update 85 = .ok (.getfield 20, 3) := by decide +kernel
theorem dX9_update_88 : decode cX9_update 88 = .ok (.iload_n 1, 1) := by decide +kernel
theorem dX9_update_89 : decode cX9_update 89 = .ok (.aload_n 0, 1) := by decide +kernel
theorem dX9_update_90 : decode cX9_update 90 = .ok (.getfield 20, 3) := by decide +kernel
theorem dX9_update_93 : decode cX9_update 93 = .ok (.iload_n 1, 1) := by decide +kernel
theorem dX9_update_94 : decode cX9_update 94 = .ok (.iaload, 1) := by decide +kernel
theorem dX9_update_95 : decode cX9_update 95 = .ok (.iconst 1, 1) := by decide +kernel
theorem dX9_update_96 : decode cX9_update 96 = .ok (.iadd, 1) := by decide +kernel
theorem dX9_update_97 : decode cX9_update 97 = .ok (.bipush 16, 2) := by decide +kernel
theorem dX9_update_99 : decode cX9_update 99 = .ok (.irem, 1) := by decide +kernel
theorem dX9_update_100 : decode cX9_update 100 = .ok (.iastore, 1) := by decide +kernel
theorem dX9_update_101 : decode cX9_update 101 = .ok (.iload_n 2, 1) := by decide +kernel
theorem dX9_update_102 : decode cX9_update 102 = .ok (.ireturn, 1) := by decide +kernel
set_option maxRecDepth 20000 in
theorem ggX9_names_X9_figures : GoodIn wsX9_names wsX9_figures := goodIn_r _ [7] (by decide +kernel) (by decide +kernel)
set_option maxRecDepth 20000 in
theorem gX9_names_X9_figures : GoodIn wsX9_names (va_wsS RX9 113 yX9_figures wsX9_figures) := goodIn_app (goodIn_of _ (by decide +kernel)) ggX9_names_X9_figures
set_option maxRecDepth 20000 in
theorem ggX9_names_X9_base : GoodIn wsX9_names wsX9_base := goodIn_r _ [10] (by decide +kernel) (by decide +kernel)
set_option maxRecDepth 20000 in
theorem gX9_names_X9_base : GoodIn wsX9_names (va_wsS RX9 128 yX9_base wsX9_base) := goodIn_app (goodIn_of _ (by decide +kernel)) ggX9_names_X9_base
set_option maxRecDepth 20000 in
theorem ggX9_names_X9_head : GoodIn wsX9_names wsX9_head := goodIn_r _ [13, 4, 5, 6, 7, 14, 15, 16] (by decide +kernel) (by decide +kernel)
set_option maxRecDepth 20000 in
theorem gX9_names_X9_head : GoodIn wsX9_names (va_wsS RX9 120 yX9_head wsX9_head) := goodIn_app (goodIn_of _ (by decide +kernel)) ggX9_names_X9_head
set_option maxRecDepth 20000 in
theorem ggX9_names_X9_isOwn : GoodIn wsX9_names wsX9_isOwn := goodIn_r _ [20, 1, 21, 3, 8, 9, 6, 10, 22, 23, 24, 4, 5, 7, 11, 12, 13, 14, 15, 16, 29, 30, 31, 32, 33, 34, 35, 36, 37, 38, 39, 40, 41, 42, 43, 44, 45, 46, 47, 48, 49, 50, 51, 52, 53, 54, 55, 56, 57, 58, 59, 60, 61, 62, 63, 64, 65] (by decide +kernel) (by decide +kernel)
set_option maxRecDepth 20000 in
theorem gX9_names_X9_isOwn : GoodIn wsX9_names (wsV RX9 175 RX9 yX9_isOwn wsX9_isOwn) := goodIn_app (goodIn_of _ (by decide +kernel)) ggX9_names_X9_isOwn
set_option maxRecDepth 20000 in
theorem ggX9_names_X9_wasAhead : GoodIn wsX9_names wsX9_wasAhead := goodIn_r _ [28, 3, 8, 9, 6, 10, 22, 23, 24, 4, 5, 7, 11, 12, 13, 14, 15, 16, 29, 30, 31, 32, 33, 34, 35, 36, 37, 38, 39, 40, 41, 42, 43, 44, 45, 46, 47, 48, 49, 50, 51, 52, 53, 54, 55, 56, 57, 58, 59, 60, 61, 62, 63, 64, 65] (by decide +kernel) (by decide +kernel)
set_option maxRecDepth 20000 in
theorem gX9_names_X9_wasAhead : GoodIn wsX9_names (wsV RX9 178 RX9 yX9_wasAhead wsX9_wasAhead) := goodIn_app (goodIn_of _ (by decide +kernel)) ggX9_names_X9_wasAhead
theorem dX9_names_0 : decode cX9_names 0 = .ok (.iconst 0, 1) := by decide +kernel
theorem dX9_names_1 : decode cX9_names 1 = .ok (.istore_n 2, 1) := by decide +kernel
theorem dX9_names_2 : decode cX9_names 2 = .ok (.bipush 32, 2) := by decide +kernel
theorem dX9_names_4 : decode cX9_names 4 = .ok (.iload_n 1, 1) := by decide +kernel
theorem dX9_names_5 : decode cX9_names 5 = .ok (.imul, 1) := by decide +kernel
theorem dX9_names_6 : decode cX9_names 6 = .ok (.istore_n 3, 1) := by decide +kernel
theorem dX9_names_7 : decode cX9_names 7 = .ok (.iload_n 3, 1) := by decide +kernel
theorem dX9_names_8 : decode cX9_names 8 = .ok (.bipush 32, 2) := by decide +kernel
theorem dX9_names_10 : decode cX9_names 10 = .ok (.iload_n 1, 1) := by decide +kernel
theorem dX9_names_11 : decode cX9_names 11 = .ok (.imul, 1) := by decide +kernel
theorem dX9_names_12 : decode cX9_names 12 = .ok (.aload_n 0, 1) := by decide +kernel
theorem dX9_names_13 : decode cX9_names 13 = .ok (.getfield 42, 3) := by decide +kernel
theorem dX9_names_16 : decode cX9_names 16 = .ok (.iload_n 1, 1) := by decide +kernel
theorem dX9_names_17 : decode cX9_names 17 = .ok (.iaload, 1) := by decide +kernel
theorem dX9_names_18 : decode cX9_names 18 = .ok (.iadd, 1) := by decide +kernel
theorem dX9_names_19 : decode cX9_names 19 = .ok (.if_icmp .ge 88, 3) := by decide +kernel
theorem dX9_names_22 : decode cX9_names 22 = .ok (.aload_n 0, 1) := by decide +kernel
theorem dX9_names_23 : decode cX9_names 23 = .ok (.getfield 13, 3) := by decide +kernel
theorem dX9_names_26 : decode cX9_names 26 = .ok (.iload_n 1, 1) := by decide +kernel
theorem dX9_names_27 : decode cX9_names 27 = .ok (.iaload, 1) := by decide +kernel
theorem dX9_names_28 : decode cX9_names 28 = .ok (.invokestatic 113, 3) := by decide +kernel
theorem dX9_names_31 : decode cX9_names 31 = .ok (.istore 4, 2) := by decide +kernel
theorem dX9_names_33 : decode cX9_names 33 = .ok (.iload 4, 2) := by decide +kernel
theorem dX9_names_35 : decode cX9_names 35 = .ok (.aload_n 0, 1) := by decide +kernel
theorem dX9_names_36 : decode cX9_names 36 = .ok (.getfield 45, 3) := by decide +kernel
theorem dX9_names_39 : decode cX9_names 39 = .ok (.iload_n 3, 1) := by decide +kernel
theorem dX9_names_40 : decode cX9_names 40 = .ok (.iaload, 1) := by decide +kernel
theorem dX9_names_41 : decode cX9_names 41 = .ok (.invokestatic 128, 3) := by decide +kernel
theorem dX9_names_44 : decode cX9_names 44 = .ok (.invokestatic 113, 3) := by decide +kernel
theorem dX9_names_47 : decode cX9_names 47 = .ok (.if_icmp .gt 54, 3) := by decide +kernel
theorem dX9_names_50 : decode cX9_names 50 = .ok (.aload_n 0, 1) := by decide +kernel
theorem dX9_names_51 : decode cX9_names 51 = .ok (.getfield 45, 3) := by decide +kernel
theorem dX9_names_54 : decode cX9_names 54 = .ok (.iload_n 3, 1) := by decide +kernel
theorem dX9_names_55 : decode cX9_names 55 = .ok (.iaload, 1) := by decide +kernel
theorem dX9_names_56 : decode cX9_names 56 = .ok (.invokestatic 128, 3) := by decide +kernel
theorem dX9_names_59 : decode cX9_names 59 = .ok (.iload 4, 2) := by decide +kernel
theorem dX9_names_61 : decode cX9_names 61 = .ok (.invokestatic 120, 3) := by decide +kernel
theorem dX9_names_64 : decode cX9_names 64 = .ok (.istore 5, 2) := by decide +kernel
theorem dX9_names_66 : decode cX9_names 66 = .ok (.iload_n 2, 1) := by decide +kernel
theorem dX9_names_67 : decode cX9_names 67 = .ok (.aload_n 0, 1) := by decide +kernel
theorem dX9_names_68 : decode cX9_names 68 = .ok (.iload_n 1, 1) := by decide +kernel
theorem dX9_names_69 : decode cX9_names 69 = .ok (.iload 5, 2) := by decide +kernel
theorem dX9_names_71 : decode cX9_names 71 = .ok (.invokevirtual 175, 3) := by decide +kernel
theorem dX9_names_74 : decode cX9_names 74 = .ok (.ifCond .eq 18, 3) := by decide +kernel
theorem dX9_names_77 : decode cX9_names 77 = .ok (.aload_n 0, 1) := by decide +kernel
theorem dX9_names_78 : decode cX9_names 78 = .ok (.iload_n 1, 1) := by decide +kernel
theorem dX9_names_79 : decode cX9_names 79 = .ok (.iload_n 3, 1) := by decide +kernel
theorem dX9_names_80 : decode cX9_names 80 = .ok (.iload 5, 2) := by decide +kernel
theorem dX9_names_82 : decode cX9_names 82 = .ok (.invokevirtual 178, 3) := by decide +kernel
theorem dX9_names_85 : decode cX9_names 85 = .ok (.ifCond .ne 7, 3) := by decide +kernel
theorem dX9_names_88 : decode cX9_names 88 = .ok (.iconst 1, 1) := by decide +kernel
theorem dX9_names_89 : decode cX9_names 89 = .ok (.goto 4, 3) := by decide +kernel
theorem dX9_names_92 : decode cX9_names 92 = .ok (.iconst 0, 1) := by decide +kernel
theorem dX9_names_93 : decode cX9_names 93 = .ok (.iadd, 1) := by decide +kernel
theorem dX9_names_94 : decode cX9_names 94 = .ok (.istore_n 2, 1) := by decide +kernel
theorem dX9_names_95 : decode cX9_names 95 = .ok (.iinc 4 1, 3) := by decide +kernel
theorem dX9_names_98 : decode cX9_names 98 = .ok (.goto (-65), 3) := by decide +kernel
theorem dX9_names_101 : decode cX9_names 101 = .ok (.iinc 3 1, 3) := by decide +kernel
theorem dX9_names_104 : decode cX9_names 104 = .ok (.goto (-97), 3) := by decide +kernel
theorem dX9_names_107 : decode cX9_names 107 = .ok (.iload_n 2, 1) := by decide +kernel
theorem dX9_names_108 : decode cX9_names 108 = .ok (.ireturn, 1) := by decide +kernel
set_option maxRecDepth 20000 in
theorem ggX9_wasAhead_X9_base : GoodIn wsX9_wasAhead wsX9_base := goodIn_r _ [5] (by decide +kernel) (by decide +kernel)
set_option maxRecDepth 20000 in
theorem gX9_wasAhead_X9_base : GoodIn wsX9_wasAhead (va_wsS RX9 128 yX9_base wsX9_base) := goodIn_app (goodIn_of _ (by decide +kernel)) ggX9_wasAhead_X9_base
set_option maxRecDepth 20000 in
theorem ggX9_wasAhead_X9_isUnder : GoodIn wsX9_wasAhead wsX9_isUnder := goodIn_r _ [8, 9, 10, 4, 11, 12, 13, 14, 15, 16, 17] (by decide +kernel) (by decide +kernel)
set_option maxRecDepth 20000 in
theorem gX9_wasAhead_X9_isUnder : GoodIn wsX9_wasAhead (va_wsS RX9 124 yX9_isUnder wsX9_isUnder) := goodIn_app (goodIn_of _ (by decide +kernel)) ggX9_wasAhead_X9_isUnder
theorem dX9_wasAhead_0 : decode cX9_wasAhead 0 = .ok (.iconst 0, 1) := by decide +kernel
theorem dX9_wasAhead_1 : decode cX9_wasAhead 1 = .ok (.istore 4, 2) := by decide +kernel
theorem dX9_wasAhead_3 : decode cX9_wasAhead 3 = .ok (.bipush 32, 2) := by decide +kernel
theorem dX9_wasAhead_5 : decode cX9_wasAhead 5 = .ok (.iload_n 1, 1) := by decide +kernel
theorem dX9_wasAhead_6 : decode cX9_wasAhead 6 = .ok (.imul, 1) := by decide +kernel
theorem dX9_wasAhead_7 : decode cX9_wasAhead 7 = .ok (.istore 5, 2) := by decide +kernel
theorem dX9_wasAhead_9 : decode cX9_wasAhead 9 = .ok (.iload 5, 2) := by decide +kernel
theorem dX9_wasAhead_11 : decode cX9_wasAhead 11 = .ok (.iload_n 2, 1) := by decide +kernel
theorem dX9_wasAhead_12 : decode cX9_wasAhead 12 = .ok (.if_icmp .ge 28, 3) := by decide +kernel
theorem dX9_wasAhead_15 : decode cX9_wasAhead 15 = .ok (.iload 4, 2) := by decide +kernel
theorem dX9_wasAhead_17 : decode cX9_wasAhead 17 = .ok (.aload_n 0, 1) := by decide +kernel
theorem dX9_wasAhead_18 : decode cX9_wasAhead 18 = .ok (.getfield 45, 3) := by decide +kernel
theorem dX9_wasAhead_21 : decode cX9_wasAhead 21 = .ok (.iload 5, 2) := by decide +kernel
theorem dX9_wasAhead_23 : decode cX9_wasAhead 23 = .ok (.iaload, 1) := by decide +kernel
theorem dX9_wasAhead_24 : decode cX9_wasAhead 24 = .ok (.invokestatic 128, 3) := by decide +kernel
theorem dX9_wasAhead_27 : decode cX9_wasAhead 27 = .ok (.iload_n 3, 1) := by decide +kernel
theorem dX9_wasAhead_28 : decode cX9_wasAhead 28 = .ok (.invokestatic 124, 3) := by decide +kernel
theorem dX9_wasAhead_31 : decode cX9_wasAhead 31 = .ok (.ior, 1) := by decide +kernel
theorem dX9_wasAhead_32 : decode cX9_wasAhead 32 = .ok (.istore 4, 2) := by decide +kernel
theorem dX9_wasAhead_34 : decode cX9_wasAhead 34 = .ok (.iinc 5 1, 3) := by decide +kernel
theorem dX9_wasAhead_37 : decode cX9_wasAhead 37 = .ok (.goto (-28), 3) := by decide +kernel
theorem dX9_wasAhead_40 : decode cX9_wasAhead 40 = .ok (.iload 4, 2) := by decide +kernel
theorem dX9_wasAhead_42 : decode cX9_wasAhead 42 = .ok (.ireturn, 1) := by decide +kernel
set_option maxRecDepth 20000 in
theorem ggX9_zoneHas_X9_isZone : GoodIn wsX9_zoneHas wsX9_isZone := goodIn_r _ [9, 10, 11, 12, 8, 13, 48, 49, 50, 51, 52, 53, 54, 55, 56, 57, 58, 59, 60, 61, 62, 63, 64, 65, 66, 67, 68, 69, 70, 71, 72, 73, 74, 75, 76, 77, 78, 79, 80, 81, 82, 83, 84] (by decide +kernel) (by decide +kernel)
set_option maxRecDepth 20000 in
theorem gX9_zoneHas_X9_isZone : GoodIn wsX9_zoneHas (wsV RX9 159 RX9 yX9_isZone wsX9_isZone) := goodIn_app (goodIn_of _ (by decide +kernel)) ggX9_zoneHas_X9_isZone
set_option maxRecDepth 20000 in
theorem ggX9_zoneHas_X9_in : GoodIn wsX9_zoneHas wsX9_in := goodIn_r _ [13] (by decide +kernel) (by decide +kernel)
set_option maxRecDepth 20000 in
theorem gX9_zoneHas_X9_in : GoodIn wsX9_zoneHas (va_wsS RX9 102 yX9_in wsX9_in) := goodIn_app (goodIn_of _ (by decide +kernel)) ggX9_zoneHas_X9_in
set_option maxRecDepth 20000 in
theorem ggX9_zoneHas_X9_asked_ : GoodIn wsX9_zoneHas wsX9_asked_ := goodIn_r _ [17, 18, 48, 49, 50, 51, 52, 53, 54, 55, 56, 57, 58, 59, 60, 61, 62, 63, 64, 65, 66, 67, 68, 69, 70, 71, 72, 73, 74, 75, 76, 77, 78, 79, 80, 81, 82, 83, 84] (by decide +kernel) (by decide +kernel)
set_option maxRecDepth 20000 in
theorem gX9_zoneHas_X9_asked_ : GoodIn wsX9_zoneHas (wsV RX9 142 RX9 yX9_asked_ wsX9_asked_) := goodIn_app (goodIn_of _ (by decide +kernel)) ggX9_zoneHas_X9_asked_
set_option maxRecDepth 20000 in
theorem ggX9_zoneHas_X9_names : GoodIn wsX9_zoneHas wsX9_names := goodIn_r _ [22, 3, 1, 23, 24, 25, 8, 26, 27, 28, 29, 30, 31, 32, 33, 34, 35, 36, 37, 38, 39, 40, 41, 42, 43, 44, 45, 46, 47, 48, 49, 50, 51, 52, 53, 54, 55, 56, 57, 58, 59, 60, 61, 62, 63, 64, 65, 66, 67, 68, 69, 70, 71, 72, 73, 74, 75, 76, 77, 78, 79, 80, 81, 82, 83, 84] (by decide +kernel) (by decide +kernel)
set_option maxRecDepth 20000 in
theorem gX9_zoneHas_X9_names : GoodIn wsX9_zoneHas (wsV RX9 181 RX9 yX9_names wsX9_names) := goodIn_app (goodIn_of _ (by decide +kernel)) ggX9_zoneHas_X9_names
theorem dX9_zoneHas_0 : decode cX9_zoneHas 0 = .ok (.aload_n 0, 1) := by decide +kernel
theorem dX9_zoneHas_1 : decode cX9_zoneHas 1 = .ok (.aload_n 0, 1) := by decide +kernel
theorem dX9_zoneHas_2 : decode cX9_zoneHas 2 = .ok (.iload_n 1, 1) := by decide +kernel
theorem dX9_zoneHas_3 : decode cX9_zoneHas 3 = .ok (.invokevirtual 159, 3) := by decide +kernel
theorem dX9_zoneHas_6 : decode cX9_zoneHas 6 = .ok (.iload_n 2, 1) := by decide +kernel
theorem dX9_zoneHas_7 : decode cX9_zoneHas 7 = .ok (.iconst 0, 1) := by decide +kernel
theorem dX9_zoneHas_8 : decode cX9_zoneHas 8 = .ok (.iconst 4, 1) := by decide +kernel
theorem dX9_zoneHas_9 : decode cX9_zoneHas 9 = .ok (.invokestatic 102, 3) := by decide +kernel
theorem dX9_zoneHas_12 : decode cX9_zoneHas 12 = .ok (.invokevirtual 142, 3) := by decide +kernel
theorem dX9_zoneHas_15 : decode cX9_zoneHas 15 = .ok (.ifCond .ne 5, 3) := by decide +kernel
theorem dX9_zoneHas_18 : decode cX9_zoneHas 18 = .ok (.iconst 0, 1) := by decide +kernel
theorem dX9_zoneHas_19 : decode cX9_zoneHas 19 = .ok (.ireturn, 1) := by decide +kernel
theorem dX9_zoneHas_20 : decode cX9_zoneHas 20 = .ok (.iload_n 2, 1) := by decide +kernel
theorem dX9_zoneHas_21 : decode cX9_zoneHas 21 = .ok (.ifCond .ne 12, 3) := by decide +kernel
theorem dX9_zoneHas_24 : decode cX9_zoneHas 24 = .ok (.aload_n 0, 1) := by decide +kernel
theorem dX9_zoneHas_25 : decode cX9_zoneHas 25 = .ok (.getfield 13, 3) := by decide +kernel
theorem dX9_zoneHas_28 : decode cX9_zoneHas 28 = .ok (.iload_n 1, 1) := by decide +kernel
theorem dX9_zoneHas_29 : decode cX9_zoneHas 29 = .ok (.iaload, 1) := by decide +kernel
theorem dX9_zoneHas_30 : decode cX9_zoneHas 30 = .ok (.goto 50, 3) := by decide +kernel
theorem dX9_zoneHas_33 : decode cX9_zoneHas 33 = .ok (.iload_n 2, 1) := by decide +kernel
theorem dX9_zoneHas_34 : decode cX9_zoneHas 34 = .ok (.iconst 1, 1) := by decide +kernel
theorem dX9_zoneHas_35 : decode cX9_zoneHas 35 = .ok (.if_icmp .ne 12, 3) := by decide +kernel
theorem dX9_zoneHas_38 : decode cX9_zoneHas 38 = .ok (.aload_n 0, 1) := by decide +kernel
theorem dX9_zoneHas_39 : decode cX9_zoneHas 39 = .ok (.getfield 20, 3) := by decide +kernel
theorem dX9_zoneHas_42 : decode cX9_zoneHas 42 = .ok (.iload_n 1, 1) := by decide +kernel
theorem dX9_zoneHas_43 : decode cX9_zoneHas 43 = .ok (.iaload, 1) := by decide +kernel
theorem dX9_zoneHas_44 : decode cX9_zoneHas 44 = .ok (.goto 36, 3) := by decide +kernel
theorem dX9_zoneHas_47 : decode cX9_zoneHas 47 = .ok (.iload_n 2, 1) := by decide +kernel
theorem dX9_zoneHas_48 : decode cX9_zoneHas 48 = .ok (.iconst 2, 1) := by decide +kernel
theorem dX9_zoneHas_49 : decode cX9_zoneHas 49 = .ok (.if_icmp .ne 12, 3) := by decide +kernel
theorem dX9_zoneHas_52 : decode cX9_zoneHas 52 = .ok (.aload_n 0, 1) := by decide +kernel
theorem dX9_zoneHas_53 : decode cX9_zoneHas 53 = .ok (.getfield 42, 3) := by decide +kernel
theorem dX9_zoneHas_56 : decode cX9_zoneHas 56 = .ok (.iload_n 1, 1) := by decide +kernel
theorem dX9_zoneHas_57 : decode cX9_zoneHas 57 = .ok (.iaload, 1) := by decide +kernel
theorem dX9_zoneHas_58 : decode cX9_zoneHas 58 = .ok (.goto 22, 3) := by decide +kernel
theorem dX9_zoneHas_61 : decode cX9_zoneHas 61 = .ok (.iload_n 2, 1) := by decide +kernel
theorem dX9_zoneHas_62 : decode cX9_zoneHas 62 = .ok (.iconst 3, 1) := by decide +kernel
theorem dX9_zoneHas_63 : decode cX9_zoneHas 63 = .ok (.if_icmp .ne 12, 3) := by decide +kernel
theorem dX9_zoneHas_66 : decode cX9_zoneHas 66 = .ok (.aload_n 0, 1) := by decide +kernel
theorem dX9_zoneHas_67 : decode cX9_zoneHas 67 = .ok (.getfield 23, 3) := by decide +kernel
theorem dX9_zoneHas_70 : decode cX9_zoneHas 70 = .ok (.iload_n 1, 1) := by decide +kernel
theorem dX9_zoneHas_71 : decode cX9_zoneHas 71 = .ok (.iaload, 1) := by decide +kernel
theorem dX9_zoneHas_72 : decode cX9_zoneHas 72 = .ok (.goto 8, 3) := by decide +kernel
theorem dX9_zoneHas_75 : decode cX9_zoneHas 75 = .ok (.aload_n 0, 1) := by decide +kernel
theorem dX9_zoneHas_76 : decode cX9_zoneHas 76 = .ok (.iload_n 1, 1) := by decide +kernel
theorem dX9_zoneHas_77 : decode cX9_zoneHas 77 = .ok (.invokevirtual 181, 3) := by decide +kernel
theorem dX9_zoneHas_80 : decode cX9_zoneHas 80 = .ok (.ireturn, 1) := by decide +kernel
set_option maxRecDepth 20000 in
theorem ggX9_record_X9_isZone : GoodIn wsX9_record wsX9_isZone := goodIn_r _ [6, 7, 8, 9, 5, 10, 32, 33, 34, 35, 36, 37, 38, 39, 40, 41, 42, 43, 44, 45, 46, 47, 48, 49, 50, 51, 52, 53, 54, 55, 56, 57, 58, 59, 60, 61, 62, 63, 64, 65, 66, 67, 68] (by decide +kernel) (by decide +kernel)
set_option maxRecDepth 20000 in
theorem gX9_record_X9_isZone : GoodIn wsX9_record (wsV RX9 159 RX9 yX9_isZone wsX9_isZone) := goodIn_app (goodIn_of _ (by decide +kernel)) ggX9_record_X9_isZone
set_option maxRecDepth 20000 in
theorem ggX9_record_X9_isPlace : GoodIn wsX9_record wsX9_isPlace := goodIn_r _ [13, 14, 15, 5, 16, 8, 9, 10, 17, 18, 19] (by decide +kernel) (by decide +kernel)
set_option maxRecDepth 20000 in
theorem gX9_record_X9_isPlace : GoodIn wsX9_record (va_wsS RX9 146 yX9_isPlace wsX9_isPlace) := goodIn_app (goodIn_of _ (by decide +kernel)) ggX9_record_X9_isPlace
set_option maxRecDepth 20000 in
theorem ggX9_record_X9_in : GoodIn wsX9_record wsX9_in := goodIn_r _ [10] (by decide +kernel) (by decide +kernel)
set_option maxRecDepth 20000 in
theorem gX9_record_X9_in : GoodIn wsX9_record (va_wsS RX9 102 yX9_in wsX9_in) := goodIn_app (goodIn_of _ (by decide +kernel)) ggX9_record_X9_in
set_option maxRecDepth 20000 in
theorem ggX9_record_X9_asked_ : GoodIn wsX9_record wsX9_asked_ := goodIn_r _ [23, 24, 32, 33, 34, 35, 36, 37, 38, 39, 40, 41, 42, 43, 44, 45, 46, 47, 48, 49, 50, 51, 52, 53, 54, 55, 56, 57, 58, 59, 60, 61, 62, 63, 64, 65, 66, 67, 68] (by decide +kernel) (by decide +kernel)
set_option maxRecDepth 20000 in
theorem gX9_record_X9_asked_ : GoodIn wsX9_record (wsV RX9 142 RX9 yX9_asked_ wsX9_asked_) := goodIn_app (goodIn_of _ (by decide +kernel)) ggX9_record_X9_asked_
set_option maxRecDepth 20000 in
theorem ggX9_record_X9_find : GoodIn wsX9_record wsX9_find := goodIn_r _ [28, 29, 30, 31, 32, 33, 34, 35, 36, 37, 38, 39, 40, 41, 42, 43, 44, 45, 46, 47, 48, 49, 50, 51, 52, 53, 54, 55, 56, 57, 58, 59, 60, 61, 62, 63, 64, 65, 66, 67, 68] (by decide +kernel) (by decide +kernel)
set_option maxRecDepth 20000 in
theorem gX9_record_X9_find : GoodIn wsX9_record (wsV RX9 135 RX9 yX9_find wsX9_find) := goodIn_app (goodIn_of _ (by decide +kernel)) ggX9_record_X9_find
theorem dX9_record_0 : decode cX9_record 0 = .ok (.aload_n 0, 1) := by decide +kernel
theorem dX9_record_1 : decode cX9_record 1 = .ok (.aload_n 0, 1) := by decide +kernel
theorem dX9_record_2 : decode cX9_record 2 = .ok (.iload_n 1, 1) := by decide +kernel
theorem dX9_record_3 : decode cX9_record 3 = .ok (.invokevirtual 159, 3) := by decide +kernel
theorem dX9_record_6 : decode cX9_record 6 = .ok (.iload_n 2, 1) := by decide +kernel
theorem dX9_record_7 : decode cX9_record 7 = .ok (.invokestatic 146, 3) := by decide +kernel
theorem dX9_record_10 : decode cX9_record 10 = .ok (.ifCond .eq 16, 3) := by decide +kernel
theorem dX9_record_13 : decode cX9_record 13 = .ok (.iload_n 3, 1) := by decide +kernel
theorem dX9_record_14 : decode cX9_record 14 = .ok (.iconst 0, 1) := by decide +kernel
theorem dX9_record_15 : decode cX9_record 15 = .ok (.iconst 4, 1) := by decide +kernel
theorem dX9_record_16 : decode cX9_record 16 = .ok (.invokestatic 102, 3) := by decide +kernel
theorem dX9_record_19 : decode cX9_record 19 = .ok (.ifCond .eq 7, 3) := by decide +kernel
theorem dX9_record_22 : decode cX9_record 22 = .ok (.iconst 1, 1) := by decide +kernel
theorem dX9_record_23 : decode cX9_record 23 = .ok (.goto 4, 3) := by decide +kernel
theorem dX9_record_26 : decode cX9_record 26 = .ok (.iconst 0, 1) := by decide +kernel
theorem dX9_record_27 : decode cX9_record 27 = .ok (.invokevirtual 142, 3) := by decide +kernel
theorem dX9_record_30 : decode cX9_record 30 = .ok (.ifCond .ne 5, 3) := by decide +kernel
theorem dX9_record_33 : decode cX9_record 33 = .ok (.iconst 0, 1) := by decide +kernel
theorem dX9_record_34 : decode cX9_record 34 = .ok (.ireturn, 1) := by decide +kernel
theorem dX9_record_35 : decode cX9_record 35 = .ok (.aload_n 0, 1) := by decide +kernel
theorem dX9_record_36 : decode cX9_record 36 = .ok (.iload_n 1, 1) := by decide +kernel
theorem dX9_record_37 : decode cX9_record 37 = .ok (.iload_n 2, 1) := by decide +kernel
theorem dX9_record_38 : decode cX9_record 38 = .ok (.iload_n 3, 1) := by decide +kernel
theorem dX9_record_39 : decode cX9_record 39 = .ok (.invokevirtual 135, 3) := by decide +kernel
theorem dX9_record_42 : decode cX9_record 42 = .ok (.istore 4, 2) := by decide +kernel
theorem dX9_record_44 : decode cX9_record 44 = .ok (.iload 4, 2) := by decide +kernel
theorem dX9_record_46 : decode cX9_record 46 = .ok (.iconst (-1), 1) := by decide +kernel
theorem dX9_record_47 : decode cX9_record 47 = .ok (.if_icmp .ne 7, 3) := by decide +kernel
theorem dX9_record_50 : decode cX9_record 50 = .ok (.iconst (-1), 1) := by decide +kernel
theorem dX9_record_51 : decode cX9_record 51 = .ok (.goto 10, 3) := by decide +kernel
theorem dX9_record_54 : decode cX9_record 54 = .ok (.aload_n 0, 1) := by decide +kernel
theorem dX9_record_55 : decode cX9_record 55 = .ok (.getfield 51, 3) := by decide +kernel
theorem dX9_record_58 : decode cX9_record 58 = .ok (.iload 4, 2) := by decide +kernel
theorem dX9_record_60 : decode cX9_record 60 = .ok (.iaload, 1) := by decide +kernel
theorem dX9_record_61 : decode cX9_record 61 = .ok (.ireturn, 1) := by decide +kernel
set_option maxRecDepth 20000 in
theorem ggX9_unlike_X9_find : GoodIn wsX9_unlike wsX9_find := goodIn_r _ [10, 1, 2, 3, 11, 12, 13, 14, 15, 16, 17, 18, 19, 20, 21, 22, 23, 24, 25, 26, 27, 28, 29, 30, 31, 32, 33, 34, 35, 36, 37, 38, 39, 40, 41, 42, 43, 44, 45, 46, 47] (by decide +kernel) (by decide +kernel)
set_option maxRecDepth 20000 in
theorem gX9_unlike_X9_find : GoodIn wsX9_unlike (wsV RX9 135 RX9 yX9_find wsX9_find) := goodIn_app (goodIn_of _ (by decide +kernel)) ggX9_unlike_X9_find
theorem dX9_unlike_0 : decode cX9_unlike 0 = .ok (.iconst 0, 1) := by decide +kernel
theorem dX9_unlike_1 : decode cX9_unlike 1 = .ok (.istore_n 3, 1) := by decide +kernel
theorem dX9_unlike_2 : decode cX9_unlike 2 = .ok (.bipush 32, 2) := by decide +kernel
theorem dX9_unlike_4 : decode cX9_unlike 4 = .ok (.iload_n 1, 1) := by decide +kernel
theorem dX9_unlike_5 : decode cX9_unlike 5 = .ok (.imul, 1) := by decide +kernel
theorem dX9_unlike_6 : decode cX9_unlike 6 = .ok (.istore 4, 2) := by decide +kernel
theorem dX9_unlike_8 : decode cX9_unlike 8 = .ok (.iload 4, 2) := by decide +kernel
theorem dX9_unlike_10 : decode cX9_unlike 10 = .ok (.bipush 32, 2) := by decide +kernel
theorem dX9_unlike_12 : decode cX9_unlike 12 = .ok (.iload_n 1, 1) := by decide +kernel
theorem dX9_unlike_13 : decode cX9_unlike 13 = .ok (.imul, 1) := by decide +kernel
theorem dX9_unlike_14 : decode cX9_unlike 14 = .ok (.aload_n 0, 1) := by decide +kernel
theorem dX9_unlike_15 : decode cX9_unlike 15 = .ok (.getfield 42, 3) := by decide +kernel
theorem dX9_unlike_18 : decode cX9_unlike 18 = .ok (.iload_n 1, 1) := by decide +kernel
theorem dX9_unlike_19 : decode cX9_unlike 19 = .ok (.iaload, 1) := by decide +kernel
theorem dX9_unlike_20 : decode cX9_unlike 20 = .ok (.iadd, 1) := by decide +kernel
theorem dX9_unlike_21 : decode cX9_unlike 21 = .ok (.if_icmp .ge 78, 3) := by decide +kernel
theorem dX9_unlike_24 : decode cX9_unlike 24 = .ok (.aload_n 0, 1) := by decide +kernel
theorem dX9_unlike_25 : decode cX9_unlike 25 = .ok (.iload_n 2, 1) := by decide +kernel
theorem dX9_unlike_26 : decode cX9_unlike 26 = .ok (.aload_n 0, 1) := by decide +kernel
theorem dX9_unlike_27 : decode cX9_unlike 27 = .ok (.getfield 45, 3) := by decide +kernel
theorem dX9_unlike_30 : decode cX9_unlike 30 = .ok (.iload 4, 2) := by decide +kernel
theorem dX9_unlike_32 : decode cX9_unlike 32 = .ok (.iaload, 1) := by decide +kernel
theorem dX9_unlike_33 : decode cX9_unlike 33 = .ok (.aload_n 0, 1) := by decide +kernel
theorem dX9_unlike_34 : decode cX9_unlike 34 = .ok (.getfield 48, 3) := by decide +kernel
theorem dX9_unlike_37 : decode cX9_unlike 37 = .ok (.iload 4, 2) := by decide +kernel
theorem dX9_unlike_39 : decode cX9_unlike 39 = .ok (.iaload, 1) := by decide +kernel
theorem dX9_unlike_40 : decode cX9_unlike 40 = .ok (.invokevirtual 135, 3) := by decide +kernel
theorem dX9_unlike_43 : decode cX9_unlike 43 = .ok (.istore 5, 2) := by decide +kernel
theorem dX9_unlike_45 : decode cX9_unlike 45 = .ok (.iload_n 3, 1) := by decide +kernel
theorem dX9_unlike_46 : decode cX9_unlike 46 = .ok (.iload 5, 2) := by decide +kernel
theorem dX9_unlike_48 : decode cX9_unlike 48 = .ok (.iconst (-1), 1) := by decide +kernel
theorem dX9_unlike_49 : decode cX9_unlike 49 = .ok (.if_icmp .eq 37, 3) := by decide +kernel
theorem dX9_unlike_52 : decode cX9_unlike 52 = .ok (.aload_n 0, 1) := by decide +kernel
theorem dX9_unlike_53 : decode cX9_unlike 53 = .ok (.getfield 51, 3) := by decide +kernel
theorem dX9_unlike_56 : decode cX9_unlike 56 = .ok (.iload 5, 2) := by decide +kernel
theorem dX9_unlike_58 : decode cX9_unlike 58 = .ok (.iaload, 1) := by decide +kernel
theorem dX9_unlike_59 : decode cX9_unlike 59 = .ok (.aload_n 0, 1) := by decide +kernel
theorem dX9_unlike_60 : decode cX9_unlike 60 = .ok (.getfield 51, 3) := by decide +kernel
theorem dX9_unlike_63 : decode cX9_unlike 63 = .ok (.iload 4, 2) := by decide +kernel
theorem dX9_unlike_65 : decode cX9_unlike 65 = .ok (.iaload, 1) := by decide +kernel
theorem dX9_unlike_66 : decode cX9_unlike 66 = .ok (.if_icmp .ne 20, 3) := by decide +kernel
theorem dX9_unlike_69 : decode cX9_unlike 69 = .ok (.aload_n 0, 1) := by decide +kernel
theorem dX9_unlike_70 : decode cX9_unlike 70 = .ok (.getfield 54, 3) := by decide +kernel
theorem dX9_unlike_73 : decode cX9_unlike 73 = .ok (.iload 5, 2) := by decide +kernel
theorem dX9_unlike_75 : decode cX9_unlike 75 = .ok (.iaload, 1) := by decide +kernel
theorem dX9_unlike_76 : decode cX9_unlike 76 = .ok (.aload_n 0, 1) := by decide +kernel
theorem dX9_unlike_77 : decode cX9_unlike 77 = .ok (.getfield 54, 3) := by decide +kernel
theorem dX9_unlike_80 : decode cX9_unlike 80 = .ok (.iload 4, 2) := by decide +kernel
theorem dX9_unlike_82 : decode cX9_unlike 82 = .ok (.iaload, 1) := by decide +kernel
theorem dX9_unlike_83 : decode cX9_unlike 83 = .ok (.if_icmp .eq 7, 3) := by decide +kernel
theorem dX9_unlike_86 : decode cX9_unlike 86 = .ok (.iconst 1, 1) := by decide +kernel
theorem dX9_unlike_87 : decode cX9_unlike 87 = .ok (.goto 4, 3) := by decide +kernel
theorem dX9_unlike_90 : decode cX9_unlike 90 = .ok (.iconst 0, 1) := by decide +kernel
theorem dX9_unlike_91 : decode cX9_unlike 91 = .ok (.iadd, 1) := by decide +kernel
theorem dX9_unlike_92 : decode cX9_unlike 92 = .ok (.istore_n 3, 1) := by decide +kernel
theorem dX9_unlike_93 : decode cX9_unlike 93 = .ok (.iinc 4 1, 3) := by decide +kernel
theorem dX9_unlike_96 : decode cX9_unlike 96 = .ok (.goto (-88), 3) := by decide +kernel
theorem dX9_unlike_99 : decode cX9_unlike 99 = .ok (.iload_n 3, 1) := by decide +kernel
theorem dX9_unlike_100 : decode cX9_unlike 100 = .ok (.ireturn, 1) := by decide +kernel
set_option maxRecDepth 20000 in
theorem ggX9_bringUp_X9_isZone : GoodIn wsX9_bringUp wsX9_isZone := goodIn_r _ [8, 9, 10, 11, 7, 12, 38, 39, 40, 41, 42, 43, 44, 45, 46, 47, 48, 49, 50, 51, 52, 53, 54, 55, 56, 57, 58, 59, 60, 61, 62, 63, 64, 65, 66, 67, 68, 69, 70, 71, 72, 73, 74] (by decide +kernel) (by decide +kernel)
set_option maxRecDepth 20000 in
theorem gX9_bringUp_X9_isZone : GoodIn wsX9_bringUp (wsV RX9 159 RX9 yX9_isZone wsX9_isZone) := goodIn_app (goodIn_of _ (by decide +kernel)) ggX9_bringUp_X9_isZone
set_option maxRecDepth 20000 in
theorem ggX9_bringUp_X9_asked : GoodIn wsX9_bringUp wsX9_asked := goodIn_r _ [16, 17, 38, 39, 40, 41, 42, 43, 44, 45, 46, 47, 48, 49, 50, 51, 52, 53, 54, 55, 56, 57, 58, 59, 60, 61, 62, 63, 64, 65, 66, 67, 68, 69, 70, 71, 72, 73, 74] (by decide +kernel) (by decide +kernel)
set_option maxRecDepth 20000 in
theorem gX9_bringUp_X9_asked : GoodIn wsX9_bringUp (wsV RX9 162 RX9 yX9_asked wsX9_asked) := goodIn_app (goodIn_of _ (by decide +kernel)) ggX9_bringUp_X9_asked
set_option maxRecDepth 20000 in
theorem ggX9_bringUp_X9_unlike : GoodIn wsX9_bringUp wsX9_unlike := goodIn_r _ [21, 3, 22, 23, 24, 25, 26, 27, 28, 7, 29, 38, 39, 40, 41, 42, 43, 44, 45, 46, 47, 48, 49, 50, 51, 52, 53, 54, 55, 56, 57, 58, 59, 60, 61, 62, 63, 64, 65, 66, 67, 68, 69, 70, 71, 72, 73, 74] (by decide +kernel) (by decide +kernel)
set_option maxRecDepth 20000 in
theorem gX9_bringUp_X9_unlike : GoodIn wsX9_bringUp (wsV RX9 184 RX9 yX9_unlike wsX9_unlike) := goodIn_app (goodIn_of _ (by decide +kernel)) ggX9_bringUp_X9_unlike
set_option maxRecDepth 20000 in
theorem ggX9_bringUp_X9_copies : GoodIn wsX9_bringUp wsX9_copies := goodIn_r _ [33, 3, 22, 23, 24, 25, 34, 35, 36, 7, 37, 38, 39, 40, 41, 42, 43, 44, 45, 46, 47, 48, 49, 50, 51, 52, 53, 54, 55, 56, 57, 58, 59, 60, 61, 62, 63, 64, 65, 66, 67, 68, 69, 70, 71, 72, 73, 74] (by decide +kernel) (by decide +kernel)
set_option maxRecDepth 20000 in
theorem gX9_bringUp_X9_copies : GoodIn wsX9_bringUp (wsV RX9 165 RX9 yX9_copies wsX9_copies) := goodIn_app (goodIn_of _ (by decide +kernel)) ggX9_bringUp_X9_copies
theorem dX9_bringUp_0 : decode cX9_bringUp 0 = .ok (.aload_n 0, 1) := by decide +kernel
theorem dX9_bringUp_1 : decode cX9_bringUp 1 = .ok (.aload_n 0, 1) := by decide +kernel
theorem dX9_bringUp_2 : decode cX9_bringUp 2 = .ok (.iload_n 1, 1) := by decide +kernel
theorem dX9_bringUp_3 : decode cX9_bringUp 3 = .ok (.invokevirtual 159, 3) := by decide +kernel
theorem dX9_bringUp_6 : decode cX9_bringUp 6 = .ok (.invokevirtual 162, 3) := by decide +kernel
theorem dX9_bringUp_9 : decode cX9_bringUp 9 = .ok (.ifCond .ne 5, 3) := by decide +kernel
theorem dX9_bringUp_12 : decode cX9_bringUp 12 = .ok (.iconst 0, 1) := by decide +kernel
theorem dX9_bringUp_13 : decode cX9_bringUp 13 = .ok (.ireturn, 1) := by decide +kernel
theorem dX9_bringUp_14 : decode cX9_bringUp 14 = .ok (.aload_n 0, 1) := by decide +kernel
theorem dX9_bringUp_15 : decode cX9_bringUp 15 = .ok (.getfield 20, 3) := by decide +kernel
theorem dX9_bringUp_18 : decode cX9_bringUp 18 = .ok (.iload_n 1, 1) := by decide +kernel
theorem dX9_bringUp_19 : decode cX9_bringUp 19 = .ok (.iaload, 1) := by decide +kernel
theorem dX9_bringUp_20 : decode cX9_bringUp 20 = .ok (.aload_n 0, 1) := by decide +kernel
theorem dX9_bringUp_21 : decode cX9_bringUp 21 = .ok (.getfield 23, 3) := by decide +kernel
theorem dX9_bringUp_24 : decode cX9_bringUp 24 = .ok (.iload_n 1, 1) := by decide +kernel
theorem dX9_bringUp_25 : decode cX9_bringUp 25 = .ok (.iaload, 1) := by decide +kernel
theorem dX9_bringUp_26 : decode cX9_bringUp 26 = .ok (.isub, 1) := by decide +kernel
theorem dX9_bringUp_27 : decode cX9_bringUp 27 = .ok (.bipush 16, 2) := by decide +kernel
theorem dX9_bringUp_29 : decode cX9_bringUp 29 = .ok (.iadd, 1) := by decide +kernel
theorem dX9_bringUp_30 : decode cX9_bringUp 30 = .ok (.bipush 16, 2) := by decide +kernel
theorem dX9_bringUp_32 : decode cX9_bringUp 32 = .ok (.irem, 1) := by decide +kernel
theorem dX9_bringUp_33 : decode cX9_bringUp 33 = .ok (.istore_n 2, 1) := by decide +kernel
theorem dX9_bringUp_34 : decode cX9_bringUp 34 = .ok (.aload_n 0, 1) := by decide +kernel
theorem dX9_bringUp_35 : decode cX9_bringUp 35 = .ok (.getfield 23, 3) := by decide +kernel
theorem dX9_bringUp_38 : decode cX9_bringUp 38 = .ok (.iload_n 1, 1) := by decide +kernel
theorem dX9_bringUp_39 : decode cX9_bringUp 39 = .ok (.iaload, 1) := by decide +kernel
theorem dX9_bringUp_40 : decode cX9_bringUp 40 = .ok (.iconst (-1), 1) := by decide +kernel
theorem dX9_bringUp_41 : decode cX9_bringUp 41 = .ok (.if_icmp .eq 9, 3) := by decide +kernel
theorem dX9_bringUp_44 : decode cX9_bringUp 44 = .ok (.iload_n 2, 1) := by decide +kernel
theorem dX9_bringUp_45 : decode cX9_bringUp 45 = .ok (.ifCond .ne 5, 3) := by decide +kernel
theorem dX9_bringUp_48 : decode cX9_bringUp 48 = .ok (.iconst 0, 1) := by decide +kernel
theorem dX9_bringUp_49 : decode cX9_bringUp 49 = .ok (.ireturn, 1) := by decide +kernel
theorem dX9_bringUp_50 : decode cX9_bringUp 50 = .ok (.aload_n 0, 1) := by decide +kernel
theorem dX9_bringUp_51 : decode cX9_bringUp 51 = .ok (.getfield 23, 3) := by decide +kernel
theorem dX9_bringUp_54 : decode cX9_bringUp 54 = .ok (.iload_n 1, 1) := by decide +kernel
theorem dX9_bringUp_55 : decode cX9_bringUp 55 = .ok (.iaload, 1) := by decide +kernel
theorem dX9_bringUp_56 : decode cX9_bringUp 56 = .ok (.iconst (-1), 1) := by decide +kernel
theorem dX9_bringUp_57 : decode cX9_bringUp 57 = .ok (.if_icmp .eq 12, 3) := by decide +kernel
theorem dX9_bringUp_60 : decode cX9_bringUp 60 = .ok (.iload_n 2, 1) := by decide +kernel
theorem dX9_bringUp_61 : decode cX9_bringUp 61 = .ok (.iconst 4, 1) := by decide +kernel
theorem dX9_bringUp_62 : decode cX9_bringUp 62 = .ok (.if_icmp .gt 7, 3) := by decide +kernel
theorem dX9_bringUp_65 : decode cX9_bringUp 65 = .ok (.iconst 1, 1) := by decide +kernel
theorem dX9_bringUp_66 : decode cX9_bringUp 66 = .ok (.goto 4, 3) := by decide +kernel
theorem dX9_bringUp_69 : decode cX9_bringUp 69 = .ok (.iconst 0, 1) := by decide +kernel
theorem dX9_bringUp_70 : decode cX9_bringUp 70 = .ok (.istore_n 3, 1) := by decide +kernel
theorem dX9_bringUp_71 : decode cX9_bringUp 71 = .ok (.iload_n 3, 1) := by decide +kernel
theorem dX9_bringUp_72 : decode cX9_bringUp 72 = .ok (.ifCond .eq 25, 3) := by decide +kernel
theorem dX9_bringUp_75 : decode cX9_bringUp 75 = .ok (.aload_n 0, 1) := by decide +kernel
theorem dX9_bringUp_76 : decode cX9_bringUp 76 = .ok (.iload_n 1, 1) := by decide +kernel
theorem dX9_bringUp_77 : decode cX9_bringUp 77 = .ok (.bipush 6, 2) := by decide +kernel
theorem dX9_bringUp_79 : decode cX9_bringUp 79 = .ok (.iload_n 1, 1) := by decide +kernel
theorem dX9_bringUp_80 : decode cX9_bringUp 80 = .ok (.iadd, 1) := by decide +kernel
theorem dX9_bringUp_81 : decode cX9_bringUp 81 = .ok (.invokevirtual 184, 3) := by decide +kernel
theorem dX9_bringUp_84 : decode cX9_bringUp 84 = .ok (.aload_n 0, 1) := by decide +kernel
theorem dX9_bringUp_85 : decode cX9_bringUp 85 = .ok (.bipush 6, 2) := by decide +kernel
theorem dX9_bringUp_87 : decode cX9_bringUp 87 = .ok (.iload_n 1, 1) := by decide +kernel
theorem dX9_bringUp_88 : decode cX9_bringUp 88 = .ok (.iadd, 1) := by decide +kernel
theorem dX9_bringUp_89 : decode cX9_bringUp 89 = .ok (.iload_n 1, 1) := by decide +kernel
theorem dX9_bringUp_90 : decode cX9_bringUp 90 = .ok (.invokevirtual 184, 3) := by decide +kernel
theorem dX9_bringUp_93 : decode cX9_bringUp 93 = .ok (.iadd, 1) := by decide +kernel
theorem dX9_bringUp_94 : decode cX9_bringUp 94 = .ok (.goto 9, 3) := by decide +kernel
theorem dX9_bringUp_97 : decode cX9_bringUp 97 = .ok (.aload_n 0, 1) := by decide +kernel
theorem dX9_bringUp_98 : decode cX9_bringUp 98 = .ok (.getfield 42, 3) := by decide +kernel
theorem dX9_bringUp_101 : decode cX9_bringUp 101 = .ok (.iload_n 1, 1) := by decide +kernel
theorem dX9_bringUp_102 : decode cX9_bringUp 102 = .ok (.iaload, 1) := by decide +kernel
theorem dX9_bringUp_103 : decode cX9_bringUp 103 = .ok (.istore 4, 2) := by decide +kernel
theorem dX9_bringUp_105 : decode cX9_bringUp 105 = .ok (.aload_n 0, 1) := by decide +kernel
theorem dX9_bringUp_106 : decode cX9_bringUp 106 = .ok (.iload_n 1, 1) := by decide +kernel
theorem dX9_bringUp_107 : decode cX9_bringUp 107 = .ok (.bipush 6, 2) := by decide +kernel
theorem dX9_bringUp_109 : decode cX9_bringUp 109 = .ok (.iload_n 1, 1) := by decide +kernel
theorem dX9_bringUp_110 : decode cX9_bringUp 110 = .ok (.iadd, 1) := by decide +kernel
theorem dX9_bringUp_111 : decode cX9_bringUp 111 = .ok (.invokevirtual 165, 3) := by decide +kernel
theorem dX9_bringUp_114 : decode cX9_bringUp 114 = .ok (.aload_n 0, 1) := by decide +kernel
theorem dX9_bringUp_115 : decode cX9_bringUp 115 = .ok (.getfield 23, 3) := by decide +kernel
theorem dX9_bringUp_118 : decode cX9_bringUp 118 = .ok (.iload_n 1, 1) := by decide +kernel
theorem dX9_bringUp_119 : decode cX9_bringUp 119 = .ok (.aload_n 0, 1) := by decide +kernel
theorem dX9_bringUp_120 : decode cX9_bringUp 120 = .ok (.getfield 20, 3) := by decide +kernel
theorem dX9_bringUp_123 : decode cX9_bringUp 123 = .ok (.iload_n 1, 1) := by decide +kernel
theorem dX9_bringUp_124 : decode cX9_bringUp 124 = .ok (.iaload, 1) := by decide +kernel
theorem dX9_bringUp_125 : decode cX9_bringUp 125 = .ok (.iastore, 1) := by decide +kernel
theorem dX9_bringUp_126 : decode cX9_bringUp 126 = .ok (.iload 4, 2) := by decide +kernel
theorem dX9_bringUp_128 : decode cX9_bringUp 128 = .ok (.ireturn, 1) := by decide +kernel
set_option maxRecDepth 20000 in
theorem ggX9_setDead_X9_isZone : GoodIn wsX9_setDead wsX9_isZone := goodIn_r _ [6, 7, 8, 9, 5, 10, 16, 17, 18, 19, 20, 21, 22, 23, 24, 25, 26, 27, 28, 29, 30, 31, 32, 33, 34, 35, 36, 37, 38, 39, 40, 41, 42, 43, 44, 45, 46, 47, 48, 49, 50, 51, 52] (by decide +kernel) (by decide +kernel)
set_option maxRecDepth 20000 in
theorem gX9_setDead_X9_isZone : GoodIn wsX9_setDead (wsV RX9 159 RX9 yX9_isZone wsX9_isZone) := goodIn_app (goodIn_of _ (by decide +kernel)) ggX9_setDead_X9_isZone
