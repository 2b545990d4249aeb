theorem dX9_keeps_63 : decode cX9_keeps 63 = .ok (.getfield 193, 3) := by decide +kernel
theorem dX9_keeps_66 : decode cX9_keeps 66 = .ok (.goto 4, 3) := by decide +kernel
theorem dX9_keeps_69 : decode cX9_keeps 69 = .ok (.iconst (-1), 1) := by decide +kernel
theorem dX9_keeps_70 : decode cX9_keeps 70 = .ok (.iastore, 1) := by decide +kernel
theorem dX9_keeps_71 : decode cX9_keeps 71 = .ok (.aload_n 0, 1) := by decide +kernel
theorem dX9_keeps_72 : decode cX9_keeps 72 = .ok (.getfield 87, 3) := by decide +kernel
theorem dX9_keeps_75 : decode cX9_keeps 75 = .ok (.aload_n 0, 1) := by decide +kernel
theorem dX9_keeps_76 : decode cX9_keeps 76 = .ok (.getfield 238, 3) := by decide +kernel
theorem dX9_keeps_79 : decode cX9_keeps 79 = .ok (.aload_n 0, 1) := by decide +kernel
theorem dX9_keeps_80 : decode cX9_keeps 80 = .ok (.getfield 190, 3) := by decide +kernel
theorem dX9_keeps_83 : decode cX9_keeps 83 = .ok (.iastore, 1) := by decide +kernel
theorem dX9_keeps_84 : decode cX9_keeps 84 = .ok (.aload_n 0, 1) := by decide +kernel
theorem dX9_keeps_85 : decode cX9_keeps 85 = .ok (.getfield 90, 3) := by decide +kernel
theorem dX9_keeps_88 : decode cX9_keeps 88 = .ok (.aload_n 0, 1) := by decide +kernel
theorem dX9_keeps_89 : decode cX9_keeps 89 = .ok (.getfield 238, 3) := by decide +kernel
theorem dX9_keeps_92 : decode cX9_keeps 92 = .ok (.aload_n 0, 1) := by decide +kernel
theorem dX9_keeps_93 : decode cX9_keeps 93 = .ok (.getfield 199, 3) := by decide +kernel
theorem dX9_keeps_96 : decode cX9_keeps 96 = .ok (.iastore, 1) := by decide +kernel
theorem dX9_keeps_97 : decode cX9_keeps 97 = .ok (.aload_n 0, 1) := by decide +kernel
theorem dX9_keeps_98 : decode cX9_keeps 98 = .ok (.getfield 93, 3) := by decide +kernel
theorem dX9_keeps_101 : decode cX9_keeps 101 = .ok (.aload_n 0, 1) := by decide +kernel
theorem dX9_keeps_102 : decode cX9_keeps 102 = .ok (.getfield 238, 3) := by decide +kernel
theorem dX9_keeps_105 : decode cX9_keeps 105 = .ok (.aload_n 0, 1) := by decide +kernel
theorem dX9_keeps_106 : decode cX9_keeps 106 = .ok (.getfield 248, 3) := by decide +kernel
theorem dX9_keeps_109 : decode cX9_keeps 109 = .ok (.iastore, 1) := by decide +kernel
theorem dX9_keeps_110 : decode cX9_keeps 110 = .ok (.aload_n 0, 1) := by decide +kernel
theorem dX9_keeps_111 : decode cX9_keeps 111 = .ok (.dup, 1) := by decide +kernel
theorem dX9_keeps_112 : decode cX9_keeps 112 = .ok (.getfield 238, 3) := by decide +kernel
theorem dX9_keeps_115 : decode cX9_keeps 115 = .ok (.iconst 1, 1) := by decide +kernel
theorem dX9_keeps_116 : decode cX9_keeps 116 = .ok (.iadd, 1) := by decide +kernel
theorem dX9_keeps_117 : decode cX9_keeps 117 = .ok (.putfield 238, 3) := by decide +kernel
theorem dX9_keeps_120 : decode cX9_keeps 120 = .ok (.aload_n 0, 1) := by decide +kernel
theorem dX9_keeps_121 : decode cX9_keeps 121 = .ok (.getfield 238, 3) := by decide +kernel
theorem dX9_keeps_124 : decode cX9_keeps 124 = .ok (.bipush 40, 2) := by decide +kernel
theorem dX9_keeps_126 : decode cX9_keeps 126 = .ok (.if_icmp .le 8, 3) := by decide +kernel
theorem dX9_keeps_129 : decode cX9_keeps 129 = .ok (.aload_n 0, 1) := by decide +kernel
theorem dX9_keeps_130 : decode cX9_keeps 130 = .ok (.iconst 0, 1) := by decide +kernel
theorem dX9_keeps_131 : decode cX9_keeps 131 = .ok (.invokevirtual 244, 3) := by decide +kernel
theorem dX9_keeps_134 : decode cX9_keeps 134 = .ok (.return_, 1) := by decide +kernel
set_option maxRecDepth 20000 in
theorem ggX9_bestZone_X9_isUnder : GoodIn wsX9_bestZone wsX9_isUnder := goodIn_r _ [8, 9, 10, 7, 11, 12, 13, 14, 15, 16, 17] (by decide +kernel) (by decide +kernel)
set_option maxRecDepth 20000 in
theorem gX9_bestZone_X9_isUnder : GoodIn wsX9_bestZone (va_wsS RX9 124 yX9_isUnder wsX9_isUnder) := goodIn_app (goodIn_of _ (by decide +kernel)) ggX9_bestZone_X9_isUnder
set_option maxRecDepth 20000 in
theorem ggX9_bestZone_X9_figures : GoodIn wsX9_bestZone wsX9_figures := goodIn_r _ [11] (by decide +kernel) (by decide +kernel)
set_option maxRecDepth 20000 in
theorem gX9_bestZone_X9_figures : GoodIn wsX9_bestZone (va_wsS RX9 113 yX9_figures wsX9_figures) := goodIn_app (goodIn_of _ (by decide +kernel)) ggX9_bestZone_X9_figures
theorem dX9_bestZone_0 : decode cX9_bestZone 0 = .ok (.iconst 0, 1) := by decide +kernel
theorem dX9_bestZone_1 : decode cX9_bestZone 1 = .ok (.istore 4, 2) := by decide +kernel
theorem dX9_bestZone_3 : decode cX9_bestZone 3 = .ok (.iconst 1, 1) := by decide +kernel
theorem dX9_bestZone_4 : decode cX9_bestZone 4 = .ok (.istore 5, 2) := by decide +kernel
theorem dX9_bestZone_6 : decode cX9_bestZone 6 = .ok (.iload 5, 2) := by decide +kernel
theorem dX9_bestZone_8 : decode cX9_bestZone 8 = .ok (.aload_n 0, 1) := by decide +kernel
theorem dX9_bestZone_9 : decode cX9_bestZone 9 = .ok (.getfield 7, 3) := by decide +kernel
theorem dX9_bestZone_12 : decode cX9_bestZone 12 = .ok (.if_icmp .ge 106, 3) := by decide +kernel
theorem dX9_bestZone_15 : decode cX9_bestZone 15 = .ok (.iload_n 3, 1) := by decide +kernel
theorem dX9_bestZone_16 : decode cX9_bestZone 16 = .ok (.ifCond .ne 56, 3) := by decide +kernel
theorem dX9_bestZone_19 : decode cX9_bestZone 19 = .ok (.aload_n 0, 1) := by decide +kernel
theorem dX9_bestZone_20 : decode cX9_bestZone 20 = .ok (.getfield 248, 3) := by decide +kernel
theorem dX9_bestZone_23 : decode cX9_bestZone 23 = .ok (.aload_n 0, 1) := by decide +kernel
theorem dX9_bestZone_24 : decode cX9_bestZone 24 = .ok (.getfield 72, 3) := by decide +kernel
theorem dX9_bestZone_27 : decode cX9_bestZone 27 = .ok (.iload 5, 2) := by decide +kernel
theorem dX9_bestZone_29 : decode cX9_bestZone 29 = .ok (.iaload, 1) := by decide +kernel
theorem dX9_bestZone_30 : decode cX9_bestZone 30 = .ok (.if_icmp .ge 42, 3) := by decide +kernel
theorem dX9_bestZone_33 : decode cX9_bestZone 33 = .ok (.iload_n 1, 1) := by decide +kernel
theorem dX9_bestZone_34 : decode cX9_bestZone 34 = .ok (.aload_n 0, 1) := by decide +kernel
theorem dX9_bestZone_35 : decode cX9_bestZone 35 = .ok (.getfield 13, 3) := by decide +kernel
theorem dX9_bestZone_38 : decode cX9_bestZone 38 = .ok (.iload 5, 2) := by decide +kernel
theorem dX9_bestZone_40 : decode cX9_bestZone 40 = .ok (.iaload, 1) := by decide +kernel
theorem dX9_bestZone_41 : decode cX9_bestZone 41 = .ok (.invokestatic 124, 3) := by decide +kernel
theorem dX9_bestZone_44 : decode cX9_bestZone 44 = .ok (.ifCond .eq 28, 3) := by decide +kernel
theorem dX9_bestZone_47 : decode cX9_bestZone 47 = .ok (.aload_n 0, 1) := by decide +kernel
theorem dX9_bestZone_48 : decode cX9_bestZone 48 = .ok (.getfield 13, 3) := by decide +kernel
theorem dX9_bestZone_51 : decode cX9_bestZone 51 = .ok (.iload 5, 2) := by decide +kernel
theorem dX9_bestZone_53 : decode cX9_bestZone 53 = .ok (.iaload, 1) := by decide +kernel
theorem dX9_bestZone_54 : decode cX9_bestZone 54 = .ok (.iload_n 1, 1) := by decide +kernel
theorem dX9_bestZone_55 : decode cX9_bestZone 55 = .ok (.if_icmp .ne 13, 3) := by decide +kernel
theorem dX9_bestZone_58 : decode cX9_bestZone 58 = .ok (.iload_n 2, 1) := by decide +kernel
theorem dX9_bestZone_59 : decode cX9_bestZone 59 = .ok (.iconst 3, 1) := by decide +kernel
theorem dX9_bestZone_60 : decode cX9_bestZone 60 = .ok (.if_icmp .eq 12, 3) := by decide +kernel
theorem dX9_bestZone_63 : decode cX9_bestZone 63 = .ok (.iload_n 2, 1) := by decide +kernel
theorem dX9_bestZone_64 : decode cX9_bestZone 64 = .ok (.iconst 4, 1) := by decide +kernel
theorem dX9_bestZone_65 : decode cX9_bestZone 65 = .ok (.if_icmp .eq 7, 3) := by decide +kernel
theorem dX9_bestZone_68 : decode cX9_bestZone 68 = .ok (.iconst 1, 1) := by decide +kernel
theorem dX9_bestZone_69 : decode cX9_bestZone 69 = .ok (.goto 4, 3) := by decide +kernel
theorem dX9_bestZone_72 : decode cX9_bestZone 72 = .ok (.iconst 0, 1) := by decide +kernel
theorem dX9_bestZone_73 : decode cX9_bestZone 73 = .ok (.istore 6, 2) := by decide +kernel
theorem dX9_bestZone_75 : decode cX9_bestZone 75 = .ok (.iload 6, 2) := by decide +kernel
theorem dX9_bestZone_77 : decode cX9_bestZone 77 = .ok (.ifCond .eq 31, 3) := by decide +kernel
theorem dX9_bestZone_80 : decode cX9_bestZone 80 = .ok (.aload_n 0, 1) := by decide +kernel
theorem dX9_bestZone_81 : decode cX9_bestZone 81 = .ok (.getfield 13, 3) := by decide +kernel
theorem dX9_bestZone_84 : decode cX9_bestZone 84 = .ok (.iload 5, 2) := by decide +kernel
theorem dX9_bestZone_86 : decode cX9_bestZone 86 = .ok (.iaload, 1) := by decide +kernel
theorem dX9_bestZone_87 : decode cX9_bestZone 87 = .ok (.invokestatic 113, 3) := by decide +kernel
theorem dX9_bestZone_90 : decode cX9_bestZone 90 = .ok (.aload_n 0, 1) := by decide +kernel
theorem dX9_bestZone_91 : decode cX9_bestZone 91 = .ok (.getfield 13, 3) := by decide +kernel
theorem dX9_bestZone_94 : decode cX9_bestZone 94 = .ok (.iload 4, 2) := by decide +kernel
theorem dX9_bestZone_96 : decode cX9_bestZone 96 = .ok (.iaload, 1) := by decide +kernel
theorem dX9_bestZone_97 : decode cX9_bestZone 97 = .ok (.invokestatic 113, 3) := by decide +kernel
theorem dX9_bestZone_100 : decode cX9_bestZone 100 = .ok (.if_icmp .le 8, 3) := by decide +kernel
theorem dX9_bestZone_103 : decode cX9_bestZone 103 = .ok (.iload 5, 2) := by decide +kernel
theorem dX9_bestZone_105 : decode cX9_bestZone 105 = .ok (.goto 5, 3) := by decide +kernel
theorem dX9_bestZone_108 : decode cX9_bestZone 108 = .ok (.iload 4, 2) := by decide +kernel
theorem dX9_bestZone_110 : decode cX9_bestZone 110 = .ok (.istore 4, 2) := by decide +kernel
theorem dX9_bestZone_112 : decode cX9_bestZone 112 = .ok (.iinc 5 1, 3) := by decide +kernel
theorem dX9_bestZone_115 : decode cX9_bestZone 115 = .ok (.goto (-109), 3) := by decide +kernel
theorem dX9_bestZone_118 : decode cX9_bestZone 118 = .ok (.iload 4, 2) := by decide +kernel
theorem dX9_bestZone_120 : decode cX9_bestZone 120 = .ok (.ireturn, 1) := by decide +kernel
theorem dX9_code_0 : decode cX9_code 0 = .ok (.bipush 31, 2) := by decide +kernel
theorem dX9_code_2 : decode cX9_code 2 = .ok (.iload_n 1, 1) := by decide +kernel
theorem dX9_code_3 : decode cX9_code 3 = .ok (.imul, 1) := by decide +kernel
theorem dX9_code_4 : decode cX9_code 4 = .ok (.bipush 7, 2) := by decide +kernel
theorem dX9_code_6 : decode cX9_code 6 = .ok (.iadd, 1) := by decide +kernel
theorem dX9_code_7 : decode cX9_code 7 = .ok (.sipush 997, 3) := by decide +kernel
theorem dX9_code_10 : decode cX9_code 10 = .ok (.irem, 1) := by decide +kernel
theorem dX9_code_11 : decode cX9_code 11 = .ok (.ireturn, 1) := by decide +kernel
set_option maxRecDepth 20000 in
theorem ggX9_isGood_X9_code : GoodIn wsX9_isGood wsX9_code := goodIn_r _ [9] (by decide +kernel) (by decide +kernel)
set_option maxRecDepth 20000 in
theorem gX9_isGood_X9_code : GoodIn wsX9_isGood (wsV RX9 251 RX9 yX9_code wsX9_code) := goodIn_app (goodIn_of _ (by decide +kernel)) ggX9_isGood_X9_code
set_option maxRecDepth 20000 in
theorem ggX9_isGood_X9_in : GoodIn wsX9_isGood wsX9_in := goodIn_r _ [12] (by decide +kernel) (by decide +kernel)
set_option maxRecDepth 20000 in
theorem gX9_isGood_X9_in : GoodIn wsX9_isGood (va_wsS RX9 102 yX9_in wsX9_in) := goodIn_app (goodIn_of _ (by decide +kernel)) ggX9_isGood_X9_in
theorem dX9_isGood_0 : decode cX9_isGood 0 = .ok (.iconst 0, 1) := by decide +kernel
theorem dX9_isGood_1 : decode cX9_isGood 1 = .ok (.istore_n 3, 1) := by decide +kernel
theorem dX9_isGood_2 : decode cX9_isGood 2 = .ok (.iconst 0, 1) := by decide +kernel
theorem dX9_isGood_3 : decode cX9_isGood 3 = .ok (.istore 4, 2) := by decide +kernel
theorem dX9_isGood_5 : decode cX9_isGood 5 = .ok (.iload 4, 2) := by decide +kernel
theorem dX9_isGood_7 : decode cX9_isGood 7 = .ok (.iconst 2, 1) := by decide +kernel
theorem dX9_isGood_8 : decode cX9_isGood 8 = .ok (.if_icmp .ge 51, 3) := by decide +kernel
theorem dX9_isGood_11 : decode cX9_isGood 11 = .ok (.iload_n 3, 1) := by decide +kernel
theorem dX9_isGood_12 : decode cX9_isGood 12 = .ok (.aload_n 0, 1) := by decide +kernel
theorem dX9_isGood_13 : decode cX9_isGood 13 = .ok (.getfield 30, 3) := by decide +kernel
theorem dX9_isGood_16 : decode cX9_isGood 16 = .ok (.iconst 2, 1) := by decide +kernel
theorem dX9_isGood_17 : decode cX9_isGood 17 = .ok (.iload_n 1, 1) := by decide +kernel
theorem dX9_isGood_18 : decode cX9_isGood 18 = .ok (.imul, 1) := by decide +kernel
theorem dX9_isGood_19 : decode cX9_isGood 19 = .ok (.iload 4, 2) := by decide +kernel
theorem dX9_isGood_21 : decode cX9_isGood 21 = .ok (.iadd, 1) := by decide +kernel
theorem dX9_isGood_22 : decode cX9_isGood 22 = .ok (.iaload, 1) := by decide +kernel
theorem dX9_isGood_23 : decode cX9_isGood 23 = .ok (.iconst (-1), 1) := by decide +kernel
theorem dX9_isGood_24 : decode cX9_isGood 24 = .ok (.if_icmp .eq 26, 3) := by decide +kernel
theorem dX9_isGood_27 : decode cX9_isGood 27 = .ok (.aload_n 0, 1) := by decide +kernel
theorem dX9_isGood_28 : decode cX9_isGood 28 = .ok (.aload_n 0, 1) := by decide +kernel
theorem dX9_isGood_29 : decode cX9_isGood 29 = .ok (.getfield 30, 3) := by decide +kernel
theorem dX9_isGood_32 : decode cX9_isGood 32 = .ok (.iconst 2, 1) := by decide +kernel
theorem dX9_isGood_33 : decode cX9_isGood 33 = .ok (.iload_n 1, 1) := by decide +kernel
theorem dX9_isGood_34 : decode cX9_isGood 34 = .ok (.imul, 1) := by decide +kernel
theorem dX9_isGood_35 : decode cX9_isGood 35 = .ok (.iload 4, 2) := by decide +kernel
theorem dX9_isGood_37 : decode cX9_isGood 37 = .ok (.iadd, 1) := by decide +kernel
theorem dX9_isGood_38 : decode cX9_isGood 38 = .ok (.iaload, 1) := by decide +kernel
theorem dX9_isGood_39 : decode cX9_isGood 39 = .ok (.invokevirtual 251, 3) := by decide +kernel
theorem dX9_isGood_42 : decode cX9_isGood 42 = .ok (.iload_n 2, 1) := by decide +kernel
theorem dX9_isGood_43 : decode cX9_isGood 43 = .ok (.if_icmp .ne 7, 3) := by decide +kernel
theorem dX9_isGood_46 : decode cX9_isGood 46 = .ok (.iconst 1, 1) := by decide +kernel
theorem dX9_isGood_47 : decode cX9_isGood 47 = .ok (.goto 4, 3) := by decide +kernel
theorem dX9_isGood_50 : decode cX9_isGood 50 = .ok (.iconst 0, 1) := by decide +kernel
theorem dX9_isGood_51 : decode cX9_isGood 51 = .ok (.ior, 1) := by decide +kernel
theorem dX9_isGood_52 : decode cX9_isGood 52 = .ok (.istore_n 3, 1) := by decide +kernel
theorem dX9_isGood_53 : decode cX9_isGood 53 = .ok (.iinc 4 1, 3) := by decide +kernel
theorem dX9_isGood_56 : decode cX9_isGood 56 = .ok (.goto (-51), 3) := by decide +kernel
theorem dX9_isGood_59 : decode cX9_isGood 59 = .ok (.iload_n 3, 1) := by decide +kernel
theorem dX9_isGood_60 : decode cX9_isGood 60 = .ok (.ifCond .eq 29, 3) := by decide +kernel
theorem dX9_isGood_63 : decode cX9_isGood 63 = .ok (.aload_n 0, 1) := by decide +kernel
theorem dX9_isGood_64 : decode cX9_isGood 64 = .ok (.getfield 248, 3) := by decide +kernel
theorem dX9_isGood_67 : decode cX9_isGood 67 = .ok (.aload_n 0, 1) := by decide +kernel
theorem dX9_isGood_68 : decode cX9_isGood 68 = .ok (.getfield 33, 3) := by decide +kernel
theorem dX9_isGood_71 : decode cX9_isGood 71 = .ok (.iload_n 1, 1) := by decide +kernel
theorem dX9_isGood_72 : decode cX9_isGood 72 = .ok (.iaload, 1) := by decide +kernel
theorem dX9_isGood_73 : decode cX9_isGood 73 = .ok (.aload_n 0, 1) := by decide +kernel
theorem dX9_isGood_74 : decode cX9_isGood 74 = .ok (.getfield 36, 3) := by decide +kernel
theorem dX9_isGood_77 : decode cX9_isGood 77 = .ok (.iload_n 1, 1) := by decide +kernel
theorem dX9_isGood_78 : decode cX9_isGood 78 = .ok (.iaload, 1) := by decide +kernel
theorem dX9_isGood_79 : decode cX9_isGood 79 = .ok (.invokestatic 102, 3) := by decide +kernel
theorem dX9_isGood_82 : decode cX9_isGood 82 = .ok (.ifCond .eq 7, 3) := by decide +kernel
theorem dX9_isGood_85 : decode cX9_isGood 85 = .ok (.iconst 1, 1) := by decide +kernel
theorem dX9_isGood_86 : decode cX9_isGood 86 = .ok (.goto 4, 3) := by decide +kernel
theorem dX9_isGood_89 : decode cX9_isGood 89 = .ok (.iconst 0, 1) := by decide +kernel
theorem dX9_isGood_90 : decode cX9_isGood 90 = .ok (.ireturn, 1) := by decide +kernel
set_option maxRecDepth 20000 in
theorem ggX9_resolves_X9_keptOf : GoodIn wsX9_resolves wsX9_keptOf := goodIn_r _ [18, 19, 20, 21, 123, 124, 125, 126, 127, 128, 129, 130, 131, 132, 133, 134, 135, 136, 137, 138, 139, 140, 141, 142, 143, 144, 145, 146, 147, 148, 149, 150, 151, 152, 153, 154, 155, 156, 157, 158, 159] (by decide +kernel) (by decide +kernel)
set_option maxRecDepth 20000 in
theorem gX9_resolves_X9_keptOf : GoodIn wsX9_resolves (wsV RX9 241 RX9 yX9_keptOf wsX9_keptOf) := goodIn_app (goodIn_of _ (by decide +kernel)) ggX9_resolves_X9_keptOf
set_option maxRecDepth 20000 in
theorem ggX9_resolves_X9_takes : GoodIn wsX9_resolves wsX9_takes := goodIn_r _ [25, 26, 11, 27, 10, 6, 123, 124, 125, 126, 127, 128, 129, 130, 131, 132, 133, 134, 135, 136, 137, 138, 139, 140, 141, 142, 143, 144, 145, 146, 147, 148, 149, 150, 151, 152, 153, 154, 155, 156, 157, 158, 159] (by decide +kernel) (by decide +kernel)
set_option maxRecDepth 20000 in
theorem gX9_resolves_X9_takes : GoodIn wsX9_resolves (wsV RX9 257 RX9 yX9_takes wsX9_takes) := goodIn_app (goodIn_of _ (by decide +kernel)) ggX9_resolves_X9_takes
set_option maxRecDepth 20000 in
theorem ggX9_resolves_X9_bestZone : GoodIn wsX9_resolves wsX9_bestZone := goodIn_r _ [31, 32, 2, 13, 33, 34, 35, 17, 36, 37, 38, 39, 40, 41, 42, 43, 44, 45, 123, 124, 125, 126, 127, 128, 129, 130, 131, 132, 133, 134, 135, 136, 137, 138, 139, 140, 141, 142, 143, 144, 145, 146, 147, 148, 149, 150, 151, 152, 153, 154, 155, 156, 157, 158, 159] (by decide +kernel) (by decide +kernel)
set_option maxRecDepth 20000 in
theorem gX9_resolves_X9_bestZone : GoodIn wsX9_resolves (wsV RX9 260 RX9 yX9_bestZone wsX9_bestZone) := goodIn_app (goodIn_of _ (by decide +kernel)) ggX9_resolves_X9_bestZone
set_option maxRecDepth 20000 in
theorem ggX9_resolves_X9_code : GoodIn wsX9_resolves wsX9_code := goodIn_r _ [49] (by decide +kernel) (by decide +kernel)
set_option maxRecDepth 20000 in
theorem gX9_resolves_X9_code : GoodIn wsX9_resolves (wsV RX9 251 RX9 yX9_code wsX9_code) := goodIn_app (goodIn_of _ (by decide +kernel)) ggX9_resolves_X9_code
set_option maxRecDepth 20000 in
theorem ggX9_resolves_X9_isGood : GoodIn wsX9_resolves wsX9_isGood := goodIn_r _ [53, 54, 2, 55, 56, 46, 47, 48, 17, 49, 57, 58, 59, 123, 124, 125, 126, 127, 128, 129, 130, 131, 132, 133, 134, 135, 136, 137, 138, 139, 140, 141, 142, 143, 144, 145, 146, 147, 148, 149, 150, 151, 152, 153, 154, 155, 156, 157, 158, 159] (by decide +kernel) (by decide +kernel)
set_option maxRecDepth 20000 in
theorem gX9_resolves_X9_isGood : GoodIn wsX9_resolves (wsV RX9 264 RX9 yX9_isGood wsX9_isGood) := goodIn_app (goodIn_of _ (by decide +kernel)) ggX9_resolves_X9_isGood
set_option maxRecDepth 20000 in
theorem ggX9_resolves_X9_fails : GoodIn wsX9_resolves wsX9_fails := goodIn_r _ [63, 64, 65, 66, 17, 67, 68, 123, 124, 125, 126, 127, 128, 129, 130, 131, 132, 133, 134, 135, 136, 137, 138, 139, 140, 141, 142, 143, 144, 145, 146, 147, 148, 149, 150, 151, 152, 153, 154, 155, 156, 157, 158, 159] (by decide +kernel) (by decide +kernel)
set_option maxRecDepth 20000 in
theorem gX9_resolves_X9_fails : GoodIn wsX9_resolves (wsV RX9 267 RX9 yX9_fails wsX9_fails) := goodIn_app (goodIn_of _ (by decide +kernel)) ggX9_resolves_X9_fails
set_option maxRecDepth 20000 in
theorem ggX9_resolves_X9_asks : GoodIn wsX9_resolves wsX9_asks := goodIn_r _ [72, 10, 11, 73, 74, 6, 12, 75, 33, 76, 77, 78, 17, 79, 80, 81, 34, 35, 36, 37, 38, 39, 40, 41, 42, 43, 44, 45, 82, 83, 84, 85, 86, 87, 88, 89, 90, 91, 92, 93, 94, 95, 96, 97, 98, 99, 100, 101, 102, 103, 104, 105, 106, 107, 108, 109, 110, 111, 112, 113, 114, 123, 124, 125, 126, 127, 128, 129, 130, 131, 132, 133, 134, 135, 136, 137, 138, 139, 140, 141, 142, 143, 144, 145, 146, 147, 148, 149, 150, 151, 152, 153, 154, 155, 156, 157, 158, 159] rfl (by decide +kernel)
set_option maxRecDepth 20000 in
theorem gX9_resolves_X9_asks : GoodIn wsX9_resolves (wsV RX9 223 RX9 yX9_asks wsX9_asks) := goodIn_app (goodIn_of _ (by decide +kernel)) ggX9_resolves_X9_asks
set_option maxRecDepth 20000 in
theorem ggX9_resolves_X9_find : GoodIn wsX9_resolves wsX9_find := goodIn_r _ [106, 80, 73, 81, 123, 124, 125, 126, 127, 128, 129, 130, 131, 132, 133, 134, 135, 136, 137, 138, 139, 140, 141, 142, 143, 144, 145, 146, 147, 148, 149, 150, 151, 152, 153, 154, 155, 156, 157, 158, 159] (by decide +kernel) (by decide +kernel)
set_option maxRecDepth 20000 in
theorem gX9_resolves_X9_find : GoodIn wsX9_resolves (wsV RX9 135 RX9 yX9_find wsX9_find) := goodIn_app (goodIn_of _ (by decide +kernel)) ggX9_resolves_X9_find
set_option maxRecDepth 20000 in
theorem ggX9_resolves_X9_keeps : GoodIn wsX9_resolves wsX9_keeps := goodIn_r _ [118, 20, 19, 21, 5, 26, 11, 27, 10, 4, 6, 3, 2, 14, 15, 16, 17, 18, 119, 120, 121, 122, 123, 124, 125, 126, 127, 128, 129, 130, 131, 132, 133, 134, 135, 136, 137, 138, 139, 140, 141, 142, 143, 144, 145, 146, 147, 148, 149, 150, 151, 152, 153, 154, 155, 156, 157, 158, 159] (by decide +kernel) (by decide +kernel)
set_option maxRecDepth 20000 in
theorem gX9_resolves_X9_keeps : GoodIn wsX9_resolves (wsV RX9 270 RX9 yX9_keeps wsX9_keeps) := goodIn_app (goodIn_of _ (by decide +kernel)) ggX9_resolves_X9_keeps
set_option maxRecDepth 20000 in
theorem ggX9_resolves_X9_least : GoodIn wsX9_resolves wsX9_least := goodIn_r _ [110] (by decide +kernel) (by decide +kernel)
set_option maxRecDepth 20000 in
theorem gX9_resolves_X9_least : GoodIn wsX9_resolves (wsV RX9 214 RX9 yX9_least wsX9_least) := goodIn_app (goodIn_of _ (by decide +kernel)) ggX9_resolves_X9_least
set_option maxRecDepth 20000 in
theorem ggX9_resolves_X9_tell : GoodIn wsX9_resolves wsX9_tell := goodIn_r _ [67, 68, 123, 124, 125, 126, 127, 128, 129, 130, 131, 132, 133, 134, 135, 136, 137, 138, 139, 140, 141, 142, 143, 144, 145, 146, 147, 148, 149, 150, 151, 152, 153, 154, 155, 156, 157, 158, 159] (by decide +kernel) (by decide +kernel)
set_option maxRecDepth 20000 in
theorem gX9_resolves_X9_tell : GoodIn wsX9_resolves (wsV RX9 227 RX9 yX9_tell wsX9_tell) := goodIn_app (goodIn_of _ (by decide +kernel)) ggX9_resolves_X9_tell
theorem dX9_resolves_0 : decode cX9_resolves 0 = .ok (.iload_n 1, 1) := by decide +kernel
theorem dX9_resolves_1 : decode cX9_resolves 1 = .ok (.istore 5, 2) := by decide +kernel
theorem dX9_resolves_3 : decode cX9_resolves 3 = .ok (.iconst 0, 1) := by decide +kernel
theorem dX9_resolves_4 : decode cX9_resolves 4 = .ok (.istore 6, 2) := by decide +kernel
theorem dX9_resolves_6 : decode cX9_resolves 6 = .ok (.iconst 0, 1) := by decide +kernel
theorem dX9_resolves_7 : decode cX9_resolves 7 = .ok (.istore 7, 2) := by decide +kernel
theorem dX9_resolves_9 : decode cX9_resolves 9 = .ok (.sipush 1000, 3) := by decide +kernel
theorem dX9_resolves_12 : decode cX9_resolves 12 = .ok (.istore 8, 2) := by decide +kernel
theorem dX9_resolves_14 : decode cX9_resolves 14 = .ok (.iconst 0, 1) := by decide +kernel
theorem dX9_resolves_15 : decode cX9_resolves 15 = .ok (.istore 9, 2) := by decide +kernel
theorem dX9_resolves_17 : decode cX9_resolves 17 = .ok (.aload_n 0, 1) := by decide +kernel
theorem dX9_resolves_18 : decode cX9_resolves 18 = .ok (.iconst 0, 1) := by decide +kernel
theorem dX9_resolves_19 : decode cX9_resolves 19 = .ok (.putfield 254, 3) := by decide +kernel
theorem dX9_resolves_22 : decode cX9_resolves 22 = .ok (.iconst (-1), 1) := by decide +kernel
theorem dX9_resolves_23 : decode cX9_resolves 23 = .ok (.istore 10, 2) := by decide +kernel
theorem dX9_resolves_25 : decode cX9_resolves 25 = .ok (.iconst 0, 1) := by decide +kernel
theorem dX9_resolves_26 : decode cX9_resolves 26 = .ok (.istore 11, 2) := by decide +kernel
theorem dX9_resolves_28 : decode cX9_resolves 28 = .ok (.iload_n 3, 1) := by decide +kernel
theorem dX9_resolves_29 : decode cX9_resolves 29 = .ok (.ifCond .ne 9, 3) := by decide +kernel
theorem dX9_resolves_32 : decode cX9_resolves 32 = .ok (.iload 10, 2) := by decide +kernel
theorem dX9_resolves_34 : decode cX9_resolves 34 = .ok (.iconst (-1), 1) := by decide +kernel
theorem dX9_resolves_35 : decode cX9_resolves 35 = .ok (.if_icmp .eq 7, 3) := by decide +kernel
theorem dX9_resolves_38 : decode cX9_resolves 38 = .ok (.iconst (-1), 1) := by decide +kernel
theorem dX9_resolves_39 : decode cX9_resolves 39 = .ok (.goto 10, 3) := by decide +kernel
theorem dX9_resolves_42 : decode cX9_resolves 42 = .ok (.aload_n 0, 1) := by decide +kernel
theorem dX9_resolves_43 : decode cX9_resolves 43 = .ok (.iload 5, 2) := by decide +kernel
theorem dX9_resolves_45 : decode cX9_resolves 45 = .ok (.iload_n 2, 1) := by decide +kernel
theorem dX9_resolves_46 : decode cX9_resolves 46 = .ok (.invokevirtual 241, 3) := by decide +kernel
theorem dX9_resolves_49 : decode cX9_resolves 49 = .ok (.istore 12, 2) := by decide +kernel
theorem dX9_resolves_51 : decode cX9_resolves 51 = .ok (.iconst (-1), 1) := by decide +kernel
theorem dX9_resolves_52 : decode cX9_resolves 52 = .ok (.istore 13, 2) := by decide +kernel
theorem dX9_resolves_54 : decode cX9_resolves 54 = .ok (.iload 12, 2) := by decide +kernel
theorem dX9_resolves_56 : decode cX9_resolves 56 = .ok (.iconst (-1), 1) := by decide +kernel
theorem dX9_resolves_57 : decode cX9_resolves 57 = .ok (.if_icmp .eq 67, 3) := by decide +kernel
theorem dX9_resolves_60 : decode cX9_resolves 60 = .ok (.aload_n 0, 1) := by decide +kernel
theorem dX9_resolves_61 : decode cX9_resolves 61 = .ok (.getfield 248, 3) := by decide +kernel
theorem dX9_resolves_64 : decode cX9_resolves 64 = .ok (.aload_n 0, 1) := by decide +kernel
theorem dX9_resolves_65 : decode cX9_resolves 65 = .ok (.getfield 93, 3) := by decide +kernel
theorem dX9_resolves_68 : decode cX9_resolves 68 = .ok (.iload 12, 2) := by decide +kernel
theorem dX9_resolves_70 : decode cX9_resolves 70 = .ok (.iaload, 1) := by decide +kernel
theorem dX9_resolves_71 : decode cX9_resolves 71 = .ok (.aload_n 0, 1) := by decide +kernel
theorem dX9_resolves_72 : decode cX9_resolves 72 = .ok (.getfield 90, 3) := by decide +kernel
theorem dX9_resolves_75 : decode cX9_resolves 75 = .ok (.iload 12, 2) := by decide +kernel
theorem dX9_resolves_77 : decode cX9_resolves 77 = .ok (.iaload, 1) := by decide +kernel
theorem dX9_resolves_78 : decode cX9_resolves 78 = .ok (.iadd, 1) := by decide +kernel
theorem dX9_resolves_79 : decode cX9_resolves 79 = .ok (.if_icmp .ge 45, 3) := by decide +kernel
theorem dX9_resolves_82 : decode cX9_resolves 82 = .ok (.aload_n 0, 1) := by decide +kernel
theorem dX9_resolves_83 : decode cX9_resolves 83 = .ok (.getfield 81, 3) := by decide +kernel
theorem dX9_resolves_86 : decode cX9_resolves 86 = .ok (.iload 12, 2) := by decide +kernel
theorem dX9_resolves_88 : decode cX9_resolves 88 = .ok (.iaload, 1) := by decide +kernel
theorem dX9_resolves_89 : decode cX9_resolves 89 = .ok (.istore 13, 2) := by decide +kernel
theorem dX9_resolves_91 : decode cX9_resolves 91 = .ok (.aload_n 0, 1) := by decide +kernel
theorem dX9_resolves_92 : decode cX9_resolves 92 = .ok (.iload 12, 2) := by decide +kernel
theorem dX9_resolves_94 : decode cX9_resolves 94 = .ok (.invokevirtual 257, 3) := by decide +kernel
theorem dX9_resolves_97 : decode cX9_resolves 97 = .ok (.aload_n 0, 1) := by decide +kernel
theorem dX9_resolves_98 : decode cX9_resolves 98 = .ok (.aload_n 0, 1) := by decide +kernel
theorem dX9_resolves_99 : decode cX9_resolves 99 = .ok (.getfield 93, 3) := by decide +kernel
theorem dX9_resolves_102 : decode cX9_resolves 102 = .ok (.iload 12, 2) := by decide +kernel
theorem dX9_resolves_104 : decode cX9_resolves 104 = .ok (.iaload, 1) := by decide +kernel
theorem dX9_resolves_105 : decode cX9_resolves 105 = .ok (.aload_n 0, 1) := by decide +kernel
theorem dX9_resolves_106 : decode cX9_resolves 106 = .ok (.getfield 90, 3) := by decide +kernel
theorem dX9_resolves_109 : decode cX9_resolves 109 = .ok (.iload 12, 2) := by decide +kernel
theorem dX9_resolves_111 : decode cX9_resolves 111 = .ok (.iaload, 1) := by decide +kernel
theorem dX9_resolves_112 : decode cX9_resolves 112 = .ok (.iadd, 1) := by decide +kernel
theorem dX9_resolves_113 : decode cX9_resolves 113 = .ok (.aload_n 0, 1) := by decide +kernel
theorem dX9_resolves_114 : decode cX9_resolves 114 = .ok (.getfield 248, 3) := by decide +kernel
theorem dX9_resolves_117 : decode cX9_resolves 117 = .ok (.isub, 1) := by decide +kernel
theorem dX9_resolves_118 : decode cX9_resolves 118 = .ok (.putfield 199, 3) := by decide +kernel
theorem dX9_resolves_121 : decode cX9_resolves 121 = .ok (.goto 328, 3) := by decide +kernel
theorem dX9_resolves_124 : decode cX9_resolves 124 = .ok (.iload 10, 2) := by decide +kernel
theorem dX9_resolves_126 : decode cX9_resolves 126 = .ok (.iconst (-1), 1) := by decide +kernel
theorem dX9_resolves_127 : decode cX9_resolves 127 = .ok (.if_icmp .ne 48, 3) := by decide +kernel
theorem dX9_resolves_130 : decode cX9_resolves 130 = .ok (.aload_n 0, 1) := by decide +kernel
theorem dX9_resolves_131 : decode cX9_resolves 131 = .ok (.iload 5, 2) := by decide +kernel
theorem dX9_resolves_133 : decode cX9_resolves 133 = .ok (.iload_n 2, 1) := by decide +kernel
theorem dX9_resolves_134 : decode cX9_resolves 134 = .ok (.iload_n 3, 1) := by decide +kernel
theorem dX9_resolves_135 : decode cX9_resolves 135 = .ok (.invokevirtual 260, 3) := by decide +kernel
theorem dX9_resolves_138 : decode cX9_resolves 138 = .ok (.istore 10, 2) := by decide +kernel
theorem dX9_resolves_140 : decode cX9_resolves 140 = .ok (.aload_n 0, 1) := by decide +kernel
theorem dX9_resolves_141 : decode cX9_resolves 141 = .ok (.getfield 39, 3) := by decide +kernel
theorem dX9_resolves_144 : decode cX9_resolves 144 = .ok (.iconst (-1), 1) := by decide +kernel
theorem dX9_resolves_145 : decode cX9_resolves 145 = .ok (.if_icmp .ne 7, 3) := by decide +kernel
theorem dX9_resolves_148 : decode cX9_resolves 148 = .ok (.iconst 1, 1) := by decide +kernel
theorem dX9_resolves_149 : decode cX9_resolves 149 = .ok (.goto 24, 3) := by decide +kernel
theorem dX9_resolves_152 : decode cX9_resolves 152 = .ok (.aload_n 0, 1) := by decide +kernel
theorem dX9_resolves_153 : decode cX9_resolves 153 = .ok (.iconst 0, 1) := by decide +kernel
theorem dX9_resolves_154 : decode cX9_resolves 154 = .ok (.aload_n 0, 1) := by decide +kernel
theorem dX9_resolves_155 : decode cX9_resolves 155 = .ok (.aload_n 0, 1) := by decide +kernel
theorem dX9_resolves_156 : decode cX9_resolves 156 = .ok (.getfield 39, 3) := by decide +kernel
theorem dX9_resolves_159 : decode cX9_resolves 159 = .ok (.invokevirtual 251, 3) := by decide +kernel
theorem dX9_resolves_162 : decode cX9_resolves 162 = .ok (.invokevirtual 264, 3) := by decide +kernel
theorem dX9_resolves_165 : decode cX9_resolves 165 = .ok (.ifCond .eq 7, 3) := by decide +kernel
theorem dX9_resolves_168 : decode cX9_resolves 168 = .ok (.iconst 0, 1) := by decide +kernel
theorem dX9_resolves_169 : decode cX9_resolves 169 = .ok (.goto 4, 3) := by decide +kernel
theorem dX9_resolves_172 : decode cX9_resolves 172 = .ok (.iconst 2, 1) := by decide +kernel
theorem dX9_resolves_173 : decode cX9_resolves 173 = .ok (.istore 11, 2) := by decide +kernel
theorem dX9_resolves_175 : decode cX9_resolves 175 = .ok (.iload 6, 2) := by decide +kernel
theorem dX9_resolves_177 : decode cX9_resolves 177 = .ok (.bipush 12, 2) := by decide +kernel
theorem dX9_resolves_179 : decode cX9_resolves 179 = .ok (.if_icmp .ne 14, 3) := by decide +kernel
theorem dX9_resolves_182 : decode cX9_resolves 182 = .ok (.aload_n 0, 1) := by decide +kernel
theorem dX9_resolves_183 : decode cX9_resolves 183 = .ok (.iload 6, 2) := by decide +kernel
theorem dX9_resolves_185 : decode cX9_resolves 185 = .ok (.iload 9, 2) := by decide +kernel
theorem dX9_resolves_187 : decode cX9_resolves 187 = .ok (.iload 4, 2) := by decide +kernel
theorem dX9_resolves_189 : decode cX9_resolves 189 = .ok (.invokevirtual 267, 3) := by decide +kernel
theorem dX9_resolves_192 : decode cX9_resolves 192 = .ok (.ireturn, 1) := by decide +kernel
theorem dX9_resolves_193 : decode cX9_resolves 193 = .ok (.iinc 6 1, 3) := by decide +kernel
theorem dX9_resolves_196 : decode cX9_resolves 196 = .ok (.aload_n 0, 1) := by decide +kernel
theorem dX9_resolves_197 : decode cX9_resolves 197 = .ok (.getfield 26, 3) := by decide +kernel
theorem dX9_resolves_200 : decode cX9_resolves 200 = .ok (.iload 10, 2) := by decide +kernel
theorem dX9_resolves_202 : decode cX9_resolves 202 = .ok (.baload, 1) := by decide +kernel
theorem dX9_resolves_203 : decode cX9_resolves 203 = .ok (.ifCond .ne 8, 3) := by decide +kernel
theorem dX9_resolves_206 : decode cX9_resolves 206 = .ok (.iload 10, 2) := by decide +kernel
theorem dX9_resolves_208 : decode cX9_resolves 208 = .ok (.goto 23, 3) := by decide +kernel
theorem dX9_resolves_211 : decode cX9_resolves 211 = .ok (.aload_n 0, 1) := by decide +kernel
theorem dX9_resolves_212 : decode cX9_resolves 212 = .ok (.getfield 23, 3) := by decide +kernel
theorem dX9_resolves_215 : decode cX9_resolves 215 = .ok (.iload 10, 2) := by decide +kernel
theorem dX9_resolves_217 : decode cX9_resolves 217 = .ok (.iaload, 1) := by decide +kernel
theorem dX9_resolves_218 : decode cX9_resolves 218 = .ok (.iconst (-1), 1) := by decide +kernel
theorem dX9_resolves_219 : decode cX9_resolves 219 = .ok (.if_icmp .eq 11, 3) := by decide +kernel
theorem dX9_resolves_222 : decode cX9_resolves 222 = .ok (.bipush 6, 2) := by decide +kernel
theorem dX9_resolves_224 : decode cX9_resolves 224 = .ok (.iload 10, 2) := by decide +kernel
theorem dX9_resolves_226 : decode cX9_resolves 226 = .ok (.iadd, 1) := by decide +kernel
theorem dX9_resolves_227 : decode cX9_resolves 227 = .ok (.goto 4, 3) := by decide +kernel
theorem dX9_resolves_230 : decode cX9_resolves 230 = .ok (.iconst (-1), 1) := by decide +kernel
theorem dX9_resolves_231 : decode cX9_resolves 231 = .ok (.istore 14, 2) := by decide +kernel
theorem dX9_resolves_233 : decode cX9_resolves 233 = .ok (.iload 14, 2) := by decide +kernel
theorem dX9_resolves_235 : decode cX9_resolves 235 = .ok (.iconst (-1), 1) := by decide +kernel
theorem dX9_resolves_236 : decode cX9_resolves 236 = .ok (.if_icmp .ne 75, 3) := by decide +kernel
theorem dX9_resolves_239 : decode cX9_resolves 239 = .ok (.iload_n 3, 1) := by decide +kernel
theorem dX9_resolves_240 : decode cX9_resolves 240 = .ok (.ifCond .eq 7, 3) := by decide +kernel
theorem dX9_resolves_243 : decode cX9_resolves 243 = .ok (.iconst (-1), 1) := by decide +kernel
theorem dX9_resolves_244 : decode cX9_resolves 244 = .ok (.goto 10, 3) := by decide +kernel
theorem dX9_resolves_247 : decode cX9_resolves 247 = .ok (.aload_n 0, 1) := by decide +kernel
theorem dX9_resolves_248 : decode cX9_resolves 248 = .ok (.iload 5, 2) := by decide +kernel
theorem dX9_resolves_250 : decode cX9_resolves 250 = .ok (.iload_n 2, 1) := by decide +kernel
theorem dX9_resolves_251 : decode cX9_resolves 251 = .ok (.invokevirtual 241, 3) := by decide +kernel
theorem dX9_resolves_254 : decode cX9_resolves 254 = .ok (.istore 15, 2) := by decide +kernel
theorem dX9_resolves_256 : decode cX9_resolves 256 = .ok (.iload 15, 2) := by decide +kernel
theorem dX9_resolves_258 : decode cX9_resolves 258 = .ok (.iconst (-1), 1) := by decide +kernel
theorem dX9_resolves_259 : decode cX9_resolves 259 = .ok (.if_icmp .eq 20, 3) := by decide +kernel
theorem dX9_resolves_262 : decode cX9_resolves 262 = .ok (.aload_n 0, 1) := by decide +kernel
theorem dX9_resolves_263 : decode cX9_resolves 263 = .ok (.getfield 248, 3) := by decide +kernel
theorem dX9_resolves_266 : decode cX9_resolves 266 = .ok (.aload_n 0, 1) := by decide +kernel
theorem dX9_resolves_267 : decode cX9_resolves 267 = .ok (.getfield 93, 3) := by decide +kernel
theorem dX9_resolves_270 : decode cX9_resolves 270 = .ok (.iload 15, 2) := by decide +kernel
theorem dX9_resolves_272 : decode cX9_resolves 272 = .ok (.iaload, 1) := by decide +kernel
theorem dX9_resolves_273 : decode cX9_resolves 273 = .ok (.bipush 60, 2) := by decide +kernel
theorem dX9_resolves_275 : decode cX9_resolves 275 = .ok (.iadd, 1) := by decide +kernel
theorem dX9_resolves_276 : decode cX9_resolves 276 = .ok (.if_icmp .lt 14, 3) := by decide +kernel
theorem dX9_resolves_279 : decode cX9_resolves 279 = .ok (.aload_n 0, 1) := by decide +kernel
theorem dX9_resolves_280 : decode cX9_resolves 280 = .ok (.iload 6, 2) := by decide +kernel
theorem dX9_resolves_282 : decode cX9_resolves 282 = .ok (.iload 9, 2) := by decide +kernel
theorem dX9_resolves_284 : decode cX9_resolves 284 = .ok (.iload 4, 2) := by decide +kernel
theorem dX9_resolves_286 : decode cX9_resolves 286 = .ok (.invokevirtual 267, 3) := by decide +kernel
theorem dX9_resolves_289 : decode cX9_resolves 289 = .ok (.ireturn, 1) := by decide +kernel
theorem dX9_resolves_290 : decode cX9_resolves 290 = .ok (.aload_n 0, 1) := by decide +kernel
theorem dX9_resolves_291 : decode cX9_resolves 291 = .ok (.getfield 81, 3) := by decide +kernel
theorem dX9_resolves_294 : decode cX9_resolves 294 = .ok (.iload 15, 2) := by decide +kernel
theorem dX9_resolves_296 : decode cX9_resolves 296 = .ok (.iaload, 1) := by decide +kernel
theorem dX9_resolves_297 : decode cX9_resolves 297 = .ok (.istore 13, 2) := by decide +kernel
theorem dX9_resolves_299 : decode cX9_resolves 299 = .ok (.aload_n 0, 1) := by decide +kernel
theorem dX9_resolves_300 : decode cX9_resolves 300 = .ok (.iload 15, 2) := by decide +kernel
theorem dX9_resolves_302 : decode cX9_resolves 302 = .ok (.invokevirtual 257, 3) := by decide +kernel
theorem dX9_resolves_305 : decode cX9_resolves 305 = .ok (.iconst 1, 1) := by decide +kernel
theorem dX9_resolves_306 : decode cX9_resolves 306 = .ok (.istore 9, 2) := by decide +kernel
theorem dX9_resolves_308 : decode cX9_resolves 308 = .ok (.goto 141, 3) := by decide +kernel
theorem dX9_resolves_311 : decode cX9_resolves 311 = .ok (.aload_n 0, 1) := by decide +kernel
theorem dX9_resolves_312 : decode cX9_resolves 312 = .ok (.iload 14, 2) := by decide +kernel
theorem dX9_resolves_314 : decode cX9_resolves 314 = .ok (.iload 10, 2) := by decide +kernel
theorem dX9_resolves_316 : decode cX9_resolves 316 = .ok (.iload 5, 2) := by decide +kernel
theorem dX9_resolves_318 : decode cX9_resolves 318 = .ok (.iload_n 2, 1) := by decide +kernel
theorem dX9_resolves_319 : decode cX9_resolves 319 = .ok (.invokevirtual 223, 3) := by decide +kernel
theorem dX9_resolves_322 : decode cX9_resolves 322 = .ok (.istore 13, 2) := by decide +kernel
theorem dX9_resolves_324 : decode cX9_resolves 324 = .ok (.iload 13, 2) := by decide +kernel
theorem dX9_resolves_326 : decode cX9_resolves 326 = .ok (.iconst 5, 1) := by decide +kernel
theorem dX9_resolves_327 : decode cX9_resolves 327 = .ok (.if_icmp .ne 14, 3) := by decide +kernel
theorem dX9_resolves_330 : decode cX9_resolves 330 = .ok (.aload_n 0, 1) := by decide +kernel
theorem dX9_resolves_331 : decode cX9_resolves 331 = .ok (.iload 6, 2) := by decide +kernel
theorem dX9_resolves_333 : decode cX9_resolves 333 = .ok (.iload 9, 2) := by decide +kernel
theorem dX9_resolves_335 : decode cX9_resolves 335 = .ok (.iload 4, 2) := by decide +kernel
theorem dX9_resolves_337 : decode cX9_resolves 337 = .ok (.invokevirtual 267, 3) := by decide +kernel
theorem dX9_resolves_340 : decode cX9_resolves 340 = .ok (.ireturn, 1) := by decide +kernel
theorem dX9_resolves_341 : decode cX9_resolves 341 = .ok (.iload 13, 2) := by decide +kernel
theorem dX9_resolves_343 : decode cX9_resolves 343 = .ok (.iconst 3, 1) := by decide +kernel
theorem dX9_resolves_344 : decode cX9_resolves 344 = .ok (.if_icmp .ne 92, 3) := by decide +kernel
theorem dX9_resolves_347 : decode cX9_resolves 347 = .ok (.aload_n 0, 1) := by decide +kernel
theorem dX9_resolves_348 : decode cX9_resolves 348 = .ok (.iload 14, 2) := by decide +kernel
theorem dX9_resolves_350 : decode cX9_resolves 350 = .ok (.aload_n 0, 1) := by decide +kernel
theorem dX9_resolves_351 : decode cX9_resolves 351 = .ok (.getfield 190, 3) := by decide +kernel
theorem dX9_resolves_354 : decode cX9_resolves 354 = .ok (.iconst 4, 1) := by decide +kernel
theorem dX9_resolves_355 : decode cX9_resolves 355 = .ok (.invokevirtual 135, 3) := by decide +kernel
theorem dX9_resolves_358 : decode cX9_resolves 358 = .ok (.istore 15, 2) := by decide +kernel
theorem dX9_resolves_360 : decode cX9_resolves 360 = .ok (.aload_n 0, 1) := by decide +kernel
theorem dX9_resolves_361 : decode cX9_resolves 361 = .ok (.getfield 193, 3) := by decide +kernel
theorem dX9_resolves_364 : decode cX9_resolves 364 = .ok (.istore 16, 2) := by decide +kernel
theorem dX9_resolves_366 : decode cX9_resolves 366 = .ok (.iload 11, 2) := by decide +kernel
theorem dX9_resolves_368 : decode cX9_resolves 368 = .ok (.ifCond .eq 8, 3) := by decide +kernel
theorem dX9_resolves_371 : decode cX9_resolves 371 = .ok (.iload 11, 2) := by decide +kernel
theorem dX9_resolves_373 : decode cX9_resolves 373 = .ok (.goto 34, 3) := by decide +kernel
theorem dX9_resolves_376 : decode cX9_resolves 376 = .ok (.iload 15, 2) := by decide +kernel
theorem dX9_resolves_378 : decode cX9_resolves 378 = .ok (.iconst (-1), 1) := by decide +kernel
theorem dX9_resolves_379 : decode cX9_resolves 379 = .ok (.if_icmp .ne 7, 3) := by decide +kernel
theorem dX9_resolves_382 : decode cX9_resolves 382 = .ok (.iconst 1, 1) := by decide +kernel
theorem dX9_resolves_383 : decode cX9_resolves 383 = .ok (.goto 24, 3) := by decide +kernel
theorem dX9_resolves_386 : decode cX9_resolves 386 = .ok (.aload_n 0, 1) := by decide +kernel
theorem dX9_resolves_387 : decode cX9_resolves 387 = .ok (.iload 16, 2) := by decide +kernel
theorem dX9_resolves_389 : decode cX9_resolves 389 = .ok (.aload_n 0, 1) := by decide +kernel
theorem dX9_resolves_390 : decode cX9_resolves 390 = .ok (.getfield 51, 3) := by decide +kernel
theorem dX9_resolves_393 : decode cX9_resolves 393 = .ok (.iload 15, 2) := by decide +kernel
theorem dX9_resolves_395 : decode cX9_resolves 395 = .ok (.iaload, 1) := by decide +kernel
theorem dX9_resolves_396 : decode cX9_resolves 396 = .ok (.invokevirtual 264, 3) := by decide +kernel
theorem dX9_resolves_399 : decode cX9_resolves 399 = .ok (.ifCond .eq 7, 3) := by decide +kernel
theorem dX9_resolves_402 : decode cX9_resolves 402 = .ok (.iconst 0, 1) := by decide +kernel
theorem dX9_resolves_403 : decode cX9_resolves 403 = .ok (.goto 4, 3) := by decide +kernel
theorem dX9_resolves_406 : decode cX9_resolves 406 = .ok (.iconst 2, 1) := by decide +kernel
theorem dX9_resolves_407 : decode cX9_resolves 407 = .ok (.istore 11, 2) := by decide +kernel
theorem dX9_resolves_409 : decode cX9_resolves 409 = .ok (.iload_n 3, 1) := by decide +kernel
theorem dX9_resolves_410 : decode cX9_resolves 410 = .ok (.ifCond .ne 19, 3) := by decide +kernel
theorem dX9_resolves_413 : decode cX9_resolves 413 = .ok (.aload_n 0, 1) := by decide +kernel
theorem dX9_resolves_414 : decode cX9_resolves 414 = .ok (.getfield 72, 3) := by decide +kernel
theorem dX9_resolves_417 : decode cX9_resolves 417 = .ok (.iload 16, 2) := by decide +kernel
theorem dX9_resolves_419 : decode cX9_resolves 419 = .ok (.aload_n 0, 1) := by decide +kernel
theorem dX9_resolves_420 : decode cX9_resolves 420 = .ok (.getfield 248, 3) := by decide +kernel
theorem dX9_resolves_423 : decode cX9_resolves 423 = .ok (.aload_n 0, 1) := by decide +kernel
theorem dX9_resolves_424 : decode cX9_resolves 424 = .ok (.getfield 199, 3) := by decide +kernel
theorem dX9_resolves_427 : decode cX9_resolves 427 = .ok (.iadd, 1) := by decide +kernel
theorem dX9_resolves_428 : decode cX9_resolves 428 = .ok (.iastore, 1) := by decide +kernel
theorem dX9_resolves_429 : decode cX9_resolves 429 = .ok (.iload 16, 2) := by decide +kernel
theorem dX9_resolves_431 : decode cX9_resolves 431 = .ok (.istore 10, 2) := by decide +kernel
theorem dX9_resolves_433 : decode cX9_resolves 433 = .ok (.goto 16, 3) := by decide +kernel
theorem dX9_resolves_436 : decode cX9_resolves 436 = .ok (.iload_n 3, 1) := by decide +kernel
theorem dX9_resolves_437 : decode cX9_resolves 437 = .ok (.ifCond .ne 12, 3) := by decide +kernel
theorem dX9_resolves_440 : decode cX9_resolves 440 = .ok (.aload_n 0, 1) := by decide +kernel
theorem dX9_resolves_441 : decode cX9_resolves 441 = .ok (.iload 5, 2) := by decide +kernel
theorem dX9_resolves_443 : decode cX9_resolves 443 = .ok (.iload_n 2, 1) := by decide +kernel
theorem dX9_resolves_444 : decode cX9_resolves 444 = .ok (.iload 13, 2) := by decide +kernel
theorem dX9_resolves_446 : decode cX9_resolves 446 = .ok (.invokevirtual 270, 3) := by decide +kernel
theorem dX9_resolves_449 : decode cX9_resolves 449 = .ok (.iload 13, 2) := by decide +kernel
theorem dX9_resolves_451 : decode cX9_resolves 451 = .ok (.iconst 3, 1) := by decide +kernel
theorem dX9_resolves_452 : decode cX9_resolves 452 = .ok (.if_icmp .eq 118, 3) := by decide +kernel
theorem dX9_resolves_455 : decode cX9_resolves 455 = .ok (.aload_n 0, 1) := by decide +kernel
theorem dX9_resolves_456 : decode cX9_resolves 456 = .ok (.iload 11, 2) := by decide +kernel
theorem dX9_resolves_458 : decode cX9_resolves 458 = .ok (.aload_n 0, 1) := by decide +kernel
theorem dX9_resolves_459 : decode cX9_resolves 459 = .ok (.getfield 254, 3) := by decide +kernel
theorem dX9_resolves_462 : decode cX9_resolves 462 = .ok (.if_icmp .le 8, 3) := by decide +kernel
theorem dX9_resolves_465 : decode cX9_resolves 465 = .ok (.iload 11, 2) := by decide +kernel
theorem dX9_resolves_467 : decode cX9_resolves 467 = .ok (.goto 7, 3) := by decide +kernel
theorem dX9_resolves_470 : decode cX9_resolves 470 = .ok (.aload_n 0, 1) := by decide +kernel
theorem dX9_resolves_471 : decode cX9_resolves 471 = .ok (.getfield 254, 3) := by decide +kernel
theorem dX9_resolves_474 : decode cX9_resolves 474 = .ok (.putfield 254, 3) := by decide +kernel
theorem dX9_resolves_477 : decode cX9_resolves 477 = .ok (.aload_n 0, 1) := by decide +kernel
theorem dX9_resolves_478 : decode cX9_resolves 478 = .ok (.iload 8, 2) := by decide +kernel
theorem dX9_resolves_480 : decode cX9_resolves 480 = .ok (.aload_n 0, 1) := by decide +kernel
theorem dX9_resolves_481 : decode cX9_resolves 481 = .ok (.getfield 199, 3) := by decide +kernel
theorem dX9_resolves_484 : decode cX9_resolves 484 = .ok (.invokevirtual 214, 3) := by decide +kernel
theorem dX9_resolves_487 : decode cX9_resolves 487 = .ok (.istore 8, 2) := by decide +kernel
theorem dX9_resolves_489 : decode cX9_resolves 489 = .ok (.iconst (-1), 1) := by decide +kernel
theorem dX9_resolves_490 : decode cX9_resolves 490 = .ok (.istore 10, 2) := by decide +kernel
theorem dX9_resolves_492 : decode cX9_resolves 492 = .ok (.iload 13, 2) := by decide +kernel
theorem dX9_resolves_494 : decode cX9_resolves 494 = .ok (.iconst 4, 1) := by decide +kernel
theorem dX9_resolves_495 : decode cX9_resolves 495 = .ok (.if_icmp .eq 48, 3) := by decide +kernel
theorem dX9_resolves_498 : decode cX9_resolves 498 = .ok (.iload 4, 2) := by decide +kernel
theorem dX9_resolves_500 : decode cX9_resolves 500 = .ok (.ifCond .eq 40, 3) := by decide +kernel
theorem dX9_resolves_503 : decode cX9_resolves 503 = .ok (.aload_n 0, 1) := by decide +kernel
theorem dX9_resolves_504 : decode cX9_resolves 504 = .ok (.iload 13, 2) := by decide +kernel
theorem dX9_resolves_506 : decode cX9_resolves 506 = .ok (.ifCond .ne 10, 3) := by decide +kernel
theorem dX9_resolves_509 : decode cX9_resolves 509 = .ok (.aload_n 0, 1) := by decide +kernel
theorem dX9_resolves_510 : decode cX9_resolves 510 = .ok (.getfield 193, 3) := by decide +kernel
theorem dX9_resolves_513 : decode cX9_resolves 513 = .ok (.goto 4, 3) := by decide +kernel
theorem dX9_resolves_516 : decode cX9_resolves 516 = .ok (.iconst (-1), 1) := by decide +kernel
theorem dX9_resolves_517 : decode cX9_resolves 517 = .ok (.aload_n 0, 1) := by decide +kernel
theorem dX9_resolves_518 : decode cX9_resolves 518 = .ok (.getfield 190, 3) := by decide +kernel
theorem dX9_resolves_521 : decode cX9_resolves 521 = .ok (.iload 9, 2) := by decide +kernel
theorem dX9_resolves_523 : decode cX9_resolves 523 = .ok (.iconst 1, 1) := by decide +kernel
theorem dX9_resolves_524 : decode cX9_resolves 524 = .ok (.if_icmp .ne 7, 3) := by decide +kernel
theorem dX9_resolves_527 : decode cX9_resolves 527 = .ok (.iconst 0, 1) := by decide +kernel
theorem dX9_resolves_528 : decode cX9_resolves 528 = .ok (.goto 5, 3) := by decide +kernel
theorem dX9_resolves_531 : decode cX9_resolves 531 = .ok (.iload 8, 2) := by decide +kernel
theorem dX9_resolves_533 : decode cX9_resolves 533 = .ok (.iload 6, 2) := by decide +kernel
theorem dX9_resolves_535 : decode cX9_resolves 535 = .ok (.iload 9, 2) := by decide +kernel
theorem dX9_resolves_537 : decode cX9_resolves 537 = .ok (.invokevirtual 227, 3) := by decide +kernel
theorem dX9_resolves_540 : decode cX9_resolves 540 = .ok (.iload 13, 2) := by decide +kernel
theorem dX9_resolves_542 : decode cX9_resolves 542 = .ok (.ireturn, 1) := by decide +kernel
theorem dX9_resolves_543 : decode cX9_resolves 543 = .ok (.iinc 7 1, 3) := by decide +kernel
theorem dX9_resolves_546 : decode cX9_resolves 546 = .ok (.iload 7, 2) := by decide +kernel
theorem dX9_resolves_548 : decode cX9_resolves 548 = .ok (.bipush 8, 2) := by decide +kernel
theorem dX9_resolves_550 : decode cX9_resolves 550 = .ok (.if_icmp .le 14, 3) := by decide +kernel
theorem dX9_resolves_553 : decode cX9_resolves 553 = .ok (.aload_n 0, 1) := by decide +kernel
theorem dX9_resolves_554 : decode cX9_resolves 554 = .ok (.iload 6, 2) := by decide +kernel
theorem dX9_resolves_556 : decode cX9_resolves 556 = .ok (.iload 9, 2) := by decide +kernel
theorem dX9_resolves_558 : decode cX9_resolves 558 = .ok (.iload 4, 2) := by decide +kernel
theorem dX9_resolves_560 : decode cX9_resolves 560 = .ok (.invokevirtual 267, 3) := by decide +kernel
theorem dX9_resolves_563 : decode cX9_resolves 563 = .ok (.ireturn, 1) := by decide +kernel
theorem dX9_resolves_564 : decode cX9_resolves 564 = .ok (.aload_n 0, 1) := by decide +kernel
theorem dX9_resolves_565 : decode cX9_resolves 565 = .ok (.getfield 190, 3) := by decide +kernel
theorem dX9_resolves_568 : decode cX9_resolves 568 = .ok (.istore 5, 2) := by decide +kernel
theorem dX9_resolves_570 : decode cX9_resolves 570 = .ok (.goto (-542), 3) := by decide +kernel
theorem dX9_takes_0 : decode cX9_takes 0 = .ok (.aload_n 0, 1) := by decide +kernel
theorem dX9_takes_1 : decode cX9_takes 1 = .ok (.aload_n 0, 1) := by decide +kernel
theorem dX9_takes_2 : decode cX9_takes 2 = .ok (.getfield 84, 3) := by decide +kernel
theorem dX9_takes_5 : decode cX9_takes 5 = .ok (.iload_n 1, 1) := by decide +kernel
theorem dX9_takes_6 : decode cX9_takes 6 = .ok (.iaload, 1) := by decide +kernel
theorem dX9_takes_7 : decode cX9_takes 7 = .ok (.putfield 193, 3) := by decide +kernel
theorem dX9_takes_10 : decode cX9_takes 10 = .ok (.aload_n 0, 1) := by decide +kernel
theorem dX9_takes_11 : decode cX9_takes 11 = .ok (.aload_n 0, 1) := by decide +kernel
theorem dX9_takes_12 : decode cX9_takes 12 = .ok (.getfield 87, 3) := by decide +kernel
theorem dX9_takes_15 : decode cX9_takes 15 = .ok (.iload_n 1, 1) := by decide +kernel
theorem dX9_takes_16 : decode cX9_takes 16 = .ok (.iaload, 1) := by decide +kernel
theorem dX9_takes_17 : decode cX9_takes 17 = .ok (.putfield 190, 3) := by decide +kernel
theorem dX9_takes_20 : decode cX9_takes 20 = .ok (.aload_n 0, 1) := by decide +kernel
theorem dX9_takes_21 : decode cX9_takes 21 = .ok (.iconst 0, 1) := by decide +kernel
theorem dX9_takes_22 : decode cX9_takes 22 = .ok (.putfield 199, 3) := by decide +kernel
theorem dX9_takes_25 : decode cX9_takes 25 = .ok (.return_, 1) := by decide +kernel
set_option maxRecDepth 20000 in
theorem ggX9_fails_X9_tell : GoodIn wsX9_fails wsX9_tell := goodIn_r _ [5, 6, 7, 8, 9, 10, 11, 12, 13, 14, 15, 16, 17, 18, 19, 20, 21, 22, 23, 24, 25, 26, 27, 28, 29, 30, 31, 32, 33, 34, 35, 36, 37, 38, 39, 40, 41, 42, 43] (by decide +kernel) (by decide +kernel)
set_option maxRecDepth 20000 in
theorem gX9_fails_X9_tell : GoodIn wsX9_fails (wsV RX9 227 RX9 yX9_tell wsX9_tell) := goodIn_app (goodIn_of _ (by decide +kernel)) ggX9_fails_X9_tell
theorem dX9_fails_0 : decode cX9_fails 0 = .ok (.iload_n 3, 1) := by decide +kernel
theorem dX9_fails_1 : decode cX9_fails 1 = .ok (.ifCond .eq 12, 3) := by decide +kernel
theorem dX9_fails_4 : decode cX9_fails 4 = .ok (.aload_n 0, 1) := by decide +kernel
theorem dX9_fails_5 : decode cX9_fails 5 = .ok (.iconst (-1), 1) := by decide +kernel
theorem dX9_fails_6 : decode cX9_fails 6 = .ok (.iconst (-1), 1) := by decide +kernel
theorem dX9_fails_7 : decode cX9_fails 7 = .ok (.iconst 0, 1) := by decide +kernel
theorem dX9_fails_8 : decode cX9_fails 8 = .ok (.iload_n 1, 1) := by decide +kernel
theorem dX9_fails_9 : decode cX9_fails 9 = .ok (.iload_n 2, 1) := by decide +kernel
theorem dX9_fails_10 : decode cX9_fails 10 = .ok (.invokevirtual 227, 3) := by decide +kernel
theorem dX9_fails_13 : decode cX9_fails 13 = .ok (.bipush 6, 2) := by decide +kernel
theorem dX9_fails_15 : decode cX9_fails 15 = .ok (.ireturn, 1) := by decide +kernel
set_option maxRecDepth 20000 in
theorem ggX9_isAsked_X9_isName : GoodIn wsX9_isAsked wsX9_isName := goodIn_r _ [4, 5, 6, 3, 7] (by decide +kernel) (by decide +kernel)
set_option maxRecDepth 20000 in
theorem gX9_isAsked_X9_isName : GoodIn wsX9_isAsked (va_wsS RX9 106 yX9_isName wsX9_isName) := goodIn_app (goodIn_of _ (by decide +kernel)) ggX9_isAsked_X9_isName
set_option maxRecDepth 20000 in
theorem ggX9_isAsked_X9_in : GoodIn wsX9_isAsked wsX9_in := goodIn_r _ [7] (by decide +kernel) (by decide +kernel)
set_option maxRecDepth 20000 in
theorem gX9_isAsked_X9_in : GoodIn wsX9_isAsked (va_wsS RX9 102 yX9_in wsX9_in) := goodIn_app (goodIn_of _ (by decide +kernel)) ggX9_isAsked_X9_in
theorem dX9_isAsked_0 : decode cX9_isAsked 0 = .ok (.iload_n 0, 1) := by decide +kernel
theorem dX9_isAsked_1 : decode cX9_isAsked 1 = .ok (.invokestatic 106, 3) := by decide +kernel
theorem dX9_isAsked_4 : decode cX9_isAsked 4 = .ok (.ifCond .eq 16, 3) := by decide +kernel
theorem dX9_isAsked_7 : decode cX9_isAsked 7 = .ok (.iload_n 1, 1) := by decide +kernel
theorem dX9_isAsked_8 : decode cX9_isAsked 8 = .ok (.iconst 0, 1) := by decide +kernel
theorem dX9_isAsked_9 : decode cX9_isAsked 9 = .ok (.iconst 4, 1) := by decide +kernel
theorem dX9_isAsked_10 : decode cX9_isAsked 10 = .ok (.invokestatic 102, 3) := by decide +kernel
theorem dX9_isAsked_13 : decode cX9_isAsked 13 = .ok (.ifCond .eq 7, 3) := by decide +kernel
theorem dX9_isAsked_16 : decode cX9_isAsked 16 = .ok (.iconst 1, 1) := by decide +kernel
theorem dX9_isAsked_17 : decode cX9_isAsked 17 = .ok (.goto 4, 3) := by decide +kernel
theorem dX9_isAsked_20 : decode cX9_isAsked 20 = .ok (.iconst 0, 1) := by decide +kernel
theorem dX9_isAsked_21 : decode cX9_isAsked 21 = .ok (.ireturn, 1) := by decide +kernel
set_option maxRecDepth 20000 in
theorem ggX9_resolve_X9_isAsked : GoodIn wsX9_resolve wsX9_isAsked := goodIn_r _ [4, 5, 6, 3, 7, 8, 9, 10] (by decide +kernel) (by decide +kernel)
set_option maxRecDepth 20000 in
theorem gX9_resolve_X9_isAsked : GoodIn wsX9_resolve (va_wsS RX9 274 yX9_isAsked wsX9_isAsked) := goodIn_app (goodIn_of _ (by decide +kernel)) ggX9_resolve_X9_isAsked
set_option maxRecDepth 20000 in
theorem ggX9_resolve_X9_asked : GoodIn wsX9_resolve wsX9_asked := goodIn_r _ [14, 15, 138, 139, 140, 141, 142, 143, 144, 145, 146, 147, 148, 149, 150, 151, 152, 153, 154, 155, 156, 157, 158, 159, 160, 161, 162, 163, 164, 165, 166, 167, 168, 169, 170, 171, 172, 173, 174] (by decide +kernel) (by decide +kernel)
set_option maxRecDepth 20000 in
theorem gX9_resolve_X9_asked : GoodIn wsX9_resolve (wsV RX9 162 RX9 yX9_asked wsX9_asked) := goodIn_app (goodIn_of _ (by decide +kernel)) ggX9_resolve_X9_asked
set_option maxRecDepth 20000 in
theorem ggX9_resolve_X9_resolves : GoodIn wsX9_resolve wsX9_resolves := goodIn_r _ [19, 20, 21, 22, 23, 24, 25, 26, 27, 28, 29, 30, 31, 32, 33, 34, 35, 3, 36, 37, 38, 39, 40, 41, 42, 43, 44, 45, 46, 47, 48, 49, 50, 51, 52, 53, 54, 55, 56, 57, 58, 59, 60, 61, 62, 63, 64, 65, 66, 67, 68, 69, 70, 71, 72, 73, 74, 8, 9, 10, 75, 76, 77, 78, 79, 80, 81, 82, 83, 84, 85, 86, 87, 88, 89, 90, 91, 92, 93, 94, 95, 96, 97, 98, 99, 100, 101, 102, 103, 104, 105, 106, 107, 108, 109, 110, 111, 112, 113, 114, 115, 116, 117, 118, 119, 120, 121, 122, 123, 124, 125, 126, 127, 128, 129, 130, 131, 132, 133, 134, 135, 136, 137, 138, 139, 140, 141, 142, 143, 144, 145, 146, 147, 148, 149, 150, 151, 152, 153, 154, 155, 156, 157, 158, 159, 160, 161, 162, 163, 164, 165, 166, 167, 168, 169, 170, 171, 172, 173, 174] rfl (by decide +kernel)
set_option maxRecDepth 20000 in
theorem gX9_resolve_X9_resolves : GoodIn wsX9_resolve (wsV RX9 277 RX9 yX9_resolves wsX9_resolves) := goodIn_app (goodIn_of _ (by decide +kernel)) ggX9_resolve_X9_resolves
theorem dX9_resolve_0 : decode cX9_resolve 0 = .ok (.aload_n 0, 1) := by decide +kernel
theorem dX9_resolve_1 : decode cX9_resolve 1 = .ok (.iload_n 1, 1) := by decide +kernel
theorem dX9_resolve_2 : decode cX9_resolve 2 = .ok (.iload_n 2, 1) := by decide +kernel
theorem dX9_resolve_3 : decode cX9_resolve 3 = .ok (.invokestatic 274, 3) := by decide +kernel
theorem dX9_resolve_6 : decode cX9_resolve 6 = .ok (.invokevirtual 162, 3) := by decide +kernel
theorem dX9_resolve_9 : decode cX9_resolve 9 = .ok (.ifCond .eq 14, 3) := by decide +kernel
theorem dX9_resolve_12 : decode cX9_resolve 12 = .ok (.aload_n 0, 1) := by decide +kernel
theorem dX9_resolve_13 : decode cX9_resolve 13 = .ok (.iload_n 1, 1) := by decide +kernel
theorem dX9_resolve_14 : decode cX9_resolve 14 = .ok (.iload_n 2, 1) := by decide +kernel
theorem dX9_resolve_15 : decode cX9_resolve 15 = .ok (.iconst 0, 1) := by decide +kernel
theorem dX9_resolve_16 : decode cX9_resolve 16 = .ok (.iconst 1, 1) := by decide +kernel
theorem dX9_resolve_17 : decode cX9_resolve 17 = .ok (.invokevirtual 277, 3) := by decide +kernel
theorem dX9_resolve_20 : decode cX9_resolve 20 = .ok (.goto 4, 3) := by decide +kernel
theorem dX9_resolve_23 : decode cX9_resolve 23 = .ok (.iconst 0, 1) := by decide +kernel
theorem dX9_resolve_24 : decode cX9_resolve 24 = .ok (.ireturn, 1) := by decide +kernel
set_option maxRecDepth 20000 in
theorem ggX9_resolveAnew_X9_isAsked : GoodIn wsX9_resolveAnew wsX9_isAsked := goodIn_r _ [4, 5, 6, 3, 7, 8, 9, 10] (by decide +kernel) (by decide +kernel)
set_option maxRecDepth 20000 in
theorem gX9_resolveAnew_X9_isAsked : GoodIn wsX9_resolveAnew (va_wsS RX9 274 yX9_isAsked wsX9_isAsked) := goodIn_app (goodIn_of _ (by decide +kernel)) ggX9_resolveAnew_X9_isAsked
set_option maxRecDepth 20000 in
theorem ggX9_resolveAnew_X9_asked : GoodIn wsX9_resolveAnew wsX9_asked := goodIn_r _ [14, 15, 138, 139, 140, 141, 142, 143, 144, 145, 146, 147, 148, 149, 150, 151, 152, 153, 154, 155, 156, 157, 158, 159, 160, 161, 162, 163, 164, 165, 166, 167, 168, 169, 170, 171, 172, 173, 174] (by decide +kernel) (by decide +kernel)
set_option maxRecDepth 20000 in
theorem gX9_resolveAnew_X9_asked : GoodIn wsX9_resolveAnew (wsV RX9 162 RX9 yX9_asked wsX9_asked) := goodIn_app (goodIn_of _ (by decide +kernel)) ggX9_resolveAnew_X9_asked
set_option maxRecDepth 20000 in
theorem ggX9_resolveAnew_X9_resolves : GoodIn wsX9_resolveAnew wsX9_resolves := goodIn_r _ [19, 20, 21, 22, 23, 24, 25, 26, 27, 28, 29, 30, 31, 32, 33, 34, 35, 3, 36, 37, 38, 39, 40, 41, 42, 43, 44, 45, 46, 47, 48, 49, 50, 51, 52, 53, 54, 55, 56, 57, 58, 59, 60, 61, 62, 63, 64, 65, 66, 67, 68, 69, 70, 71, 72, 73, 74, 8, 9, 10, 75, 76, 77, 78, 79, 80, 81, 82, 83, 84, 85, 86, 87, 88, 89, 90, 91, 92, 93, 94, 95, 96, 97, 98, 99, 100, 101, 102, 103, 104, 105, 106, 107, 108, 109, 110, 111, 112, 113, 114, 115, 116, 117, 118, 119, 120, 121, 122, 123, 124, 125, 126, 127, 128, 129, 130, 131, 132, 133, 134, 135, 136, 137, 138, 139, 140, 141, 142, 143, 144, 145, 146, 147, 148, 149, 150, 151, 152, 153, 154, 155, 156, 157, 158, 159, 160, 161, 162, 163, 164, 165, 166, 167, 168, 169, 170, 171, 172, 173, 174] rfl (by decide +kernel)
set_option maxRecDepth 20000 in
theorem gX9_resolveAnew_X9_resolves : GoodIn wsX9_resolveAnew (wsV RX9 277 RX9 yX9_resolves wsX9_resolves) := goodIn_app (goodIn_of _ (by decide +kernel)) ggX9_resolveAnew_X9_resolves
theorem dX9_resolveAnew_0 : decode cX9_resolveAnew 0 = .ok (.aload_n 0, 1) := by decide +kernel
theorem dX9_resolveAnew_1 : decode cX9_resolveAnew 1 = .ok (.iload_n 1, 1) := by decide +kernel
theorem dX9_resolveAnew_2 : decode cX9_resolveAnew 2 = .ok (.iload_n 2, 1) := by decide +kernel
theorem dX9_resolveAnew_3 : decode cX9_resolveAnew 3 = .ok (.invokestatic 274, 3) := by decide +kernel
theorem dX9_resolveAnew_6 : decode cX9_resolveAnew 6 = .ok (.invokevirtual 162, 3) := by decide +kernel
theorem dX9_resolveAnew_9 : decode cX9_resolveAnew 9 = .ok (.ifCond .eq 14, 3) := by decide +kernel
theorem dX9_resolveAnew_12 : decode cX9_resolveAnew 12 = .ok (.aload_n 0, 1) := by decide +kernel
theorem dX9_resolveAnew_13 : decode cX9_resolveAnew 13 = .ok (.iload_n 1, 1) := by decide +kernel
theorem dX9_resolveAnew_14 : decode cX9_resolveAnew 14 = .ok (.iload_n 2, 1) := by decide +kernel
theorem dX9_resolveAnew_15 : decode cX9_resolveAnew 15 = .ok (.iconst 1, 1) := by decide +kernel
theorem dX9_resolveAnew_16 : decode cX9_resolveAnew 16 = .ok (.iconst 1, 1) := by decide +kernel
theorem dX9_resolveAnew_17 : decode cX9_resolveAnew 17 = .ok (.invokevirtual 277, 3) := by decide +kernel
theorem dX9_resolveAnew_20 : decode cX9_resolveAnew 20 = .ok (.goto 4, 3) := by decide +kernel
theorem dX9_resolveAnew_23 : decode cX9_resolveAnew 23 = .ok (.iconst 0, 1) := by decide +kernel
theorem dX9_resolveAnew_24 : decode cX9_resolveAnew 24 = .ok (.ireturn, 1) := by decide +kernel
theorem dX9_forget_0 : decode cX9_forget 0 = .ok (.aload_n 0, 1) := by decide +kernel
theorem dX9_forget_1 : decode cX9_forget 1 = .ok (.iconst 0, 1) := by decide +kernel
theorem dX9_forget_2 : decode cX9_forget 2 = .ok (.putfield 99, 3) := by decide +kernel
theorem dX9_forget_5 : decode cX9_forget 5 = .ok (.iconst 0, 1) := by decide +kernel
theorem dX9_forget_6 : decode cX9_forget 6 = .ok (.istore_n 1, 1) := by decide +kernel
theorem dX9_forget_7 : decode cX9_forget 7 = .ok (.iconst 0, 1) := by decide +kernel
theorem dX9_forget_8 : decode cX9_forget 8 = .ok (.istore_n 2, 1) := by decide +kernel
theorem dX9_forget_9 : decode cX9_forget 9 = .ok (.iload_n 2, 1) := by decide +kernel
theorem dX9_forget_10 : decode cX9_forget 10 = .ok (.aload_n 0, 1) := by decide +kernel
theorem dX9_forget_11 : decode cX9_forget 11 = .ok (.getfield 238, 3) := by decide +kernel
theorem dX9_forget_14 : decode cX9_forget 14 = .ok (.if_icmp .ge 37, 3) := by decide +kernel
theorem dX9_forget_17 : decode cX9_forget 17 = .ok (.iload_n 1, 1) := by decide +kernel
theorem dX9_forget_18 : decode cX9_forget 18 = .ok (.aload_n 0, 1) := by decide +kernel
theorem dX9_forget_19 : decode cX9_forget 19 = .ok (.getfield 248, 3) := by decide +kernel
theorem dX9_forget_22 : decode cX9_forget 22 = .ok (.aload_n 0, 1) := by decide +kernel
theorem dX9_forget_23 : decode cX9_forget 23 = .ok (.getfield 93, 3) := by decide +kernel
theorem dX9_forget_26 : decode cX9_forget 26 = .ok (.iload_n 2, 1) := by decide +kernel
theorem dX9_forget_27 : decode cX9_forget 27 = .ok (.iaload, 1) := by decide +kernel
theorem dX9_forget_28 : decode cX9_forget 28 = .ok (.aload_n 0, 1) := by decide +kernel
theorem dX9_forget_29 : decode cX9_forget 29 = .ok (.getfield 90, 3) := by decide +kernel
theorem dX9_forget_32 : decode cX9_forget 32 = .ok (.iload_n 2, 1) := by decide +kernel
theorem dX9_forget_33 : decode cX9_forget 33 = .ok (.iaload, 1) := by decide +kernel
theorem dX9_forget_34 : decode cX9_forget 34 = .ok (.iadd, 1) := by decide +kernel
theorem dX9_forget_35 : decode cX9_forget 35 = .ok (.if_icmp .ge 7, 3) := by decide +kernel
theorem dX9_forget_38 : decode cX9_forget 38 = .ok (.iconst 1, 1) := by decide +kernel
theorem dX9_forget_39 : decode cX9_forget 39 = .ok (.goto 4, 3) := by decide +kernel
theorem dX9_forget_42 : decode cX9_forget 42 = .ok (.iconst 0, 1) := by decide +kernel
theorem dX9_forget_43 : decode cX9_forget 43 = .ok (.iadd, 1) := by decide +kernel
theorem dX9_forget_44 : decode cX9_forget 44 = .ok (.istore_n 1, 1) := by decide +kernel
theorem dX9_forget_45 : decode cX9_forget 45 = .ok (.iinc 2 1, 3) := by decide +kernel
theorem dX9_forget_48 : decode cX9_forget 48 = .ok (.goto (-39), 3) := by decide +kernel
theorem dX9_forget_51 : decode cX9_forget 51 = .ok (.aload_n 0, 1) := by decide +kernel
theorem dX9_forget_52 : decode cX9_forget 52 = .ok (.iconst 0, 1) := by decide +kernel
theorem dX9_forget_53 : decode cX9_forget 53 = .ok (.putfield 238, 3) := by decide +kernel
theorem dX9_forget_56 : decode cX9_forget 56 = .ok (.iconst 0, 1) := by decide +kernel
theorem dX9_forget_57 : decode cX9_forget 57 = .ok (.istore_n 2, 1) := by decide +kernel
theorem dX9_forget_58 : decode cX9_forget 58 = .ok (.iload_n 2, 1) := by decide +kernel
theorem dX9_forget_59 : decode cX9_forget 59 = .ok (.bipush 6, 2) := by decide +kernel
theorem dX9_forget_61 : decode cX9_forget 61 = .ok (.if_icmp .ge 16, 3) := by decide +kernel
theorem dX9_forget_64 : decode cX9_forget 64 = .ok (.aload_n 0, 1) := by decide +kernel
theorem dX9_forget_65 : decode cX9_forget 65 = .ok (.getfield 72, 3) := by decide +kernel
theorem dX9_forget_68 : decode cX9_forget 68 = .ok (.iload_n 2, 1) := by decide +kernel
theorem dX9_forget_69 : decode cX9_forget 69 = .ok (.iconst 0, 1) := by decide +kernel
theorem dX9_forget_70 : decode cX9_forget 70 = .ok (.iastore, 1) := by decide +kernel
theorem dX9_forget_71 : decode cX9_forget 71 = .ok (.iinc 2 1, 3) := by decide +kernel
theorem dX9_forget_74 : decode cX9_forget 74 = .ok (.goto (-16), 3) := by decide +kernel
theorem dX9_forget_77 : decode cX9_forget 77 = .ok (.iload_n 1, 1) := by decide +kernel
theorem dX9_forget_78 : decode cX9_forget 78 = .ok (.ireturn, 1) := by decide +kernel
set_option maxRecDepth 20000 in
theorem ggX9_pass_X9_in : GoodIn wsX9_pass wsX9_in := goodIn_r _ [5] (by decide +kernel) (by decide +kernel)
set_option maxRecDepth 20000 in
theorem gX9_pass_X9_in : GoodIn wsX9_pass (va_wsS RX9 102 yX9_in wsX9_in) := goodIn_app (goodIn_of _ (by decide +kernel)) ggX9_pass_X9_in
set_option maxRecDepth 20000 in
theorem ggX9_pass_X9_asked : GoodIn wsX9_pass wsX9_asked := goodIn_r _ [9, 10, 11, 12, 13, 14, 15, 16, 17, 18, 19, 20, 21, 22, 23, 24, 25, 26, 27, 28, 29, 30, 31, 32, 33, 34, 35, 36, 37, 38, 39, 40, 41, 42, 43, 44, 45, 46, 47] (by decide +kernel) (by decide +kernel)
set_option maxRecDepth 20000 in
theorem gX9_pass_X9_asked : GoodIn wsX9_pass (wsV RX9 162 RX9 yX9_asked wsX9_asked) := goodIn_app (goodIn_of _ (by decide +kernel)) ggX9_pass_X9_asked
theorem dX9_pass_0 : decode cX9_pass 0 = .ok (.aload_n 0, 1) := by decide +kernel
theorem dX9_pass_1 : decode cX9_pass 1 = .ok (.iload_n 1, 1) := by decide +kernel
theorem dX9_pass_2 : decode cX9_pass 2 = .ok (.iconst 1, 1) := by decide +kernel
theorem dX9_pass_3 : decode cX9_pass 3 = .ok (.bipush 100, 2) := by decide +kernel
theorem dX9_pass_5 : decode cX9_pass 5 = .ok (.invokestatic 102, 3) := by decide +kernel
theorem dX9_pass_8 : decode cX9_pass 8 = .ok (.invokevirtual 162, 3) := by decide +kernel
theorem dX9_pass_11 : decode cX9_pass 11 = .ok (.ifCond .ne 5, 3) := by decide +kernel
theorem dX9_pass_14 : decode cX9_pass 14 = .ok (.iconst 0, 1) := by decide +kernel
theorem dX9_pass_15 : decode cX9_pass 15 = .ok (.ireturn, 1) := by decide +kernel
theorem dX9_pass_16 : decode cX9_pass 16 = .ok (.aload_n 0, 1) := by decide +kernel
theorem dX9_pass_17 : decode cX9_pass 17 = .ok (.dup, 1) := by decide +kernel
theorem dX9_pass_18 : decode cX9_pass 18 = .ok (.getfield 248, 3) := by decide +kernel
theorem dX9_pass_21 : decode cX9_pass 21 = .ok (.iload_n 1, 1) := by decide +kernel
theorem dX9_pass_22 : decode cX9_pass 22 = .ok (.iadd, 1) := by decide +kernel
theorem dX9_pass_23 : decode cX9_pass 23 = .ok (.putfield 248, 3) := by decide +kernel
theorem dX9_pass_26 : decode cX9_pass 26 = .ok (.aload_n 0, 1) := by decide +kernel
theorem dX9_pass_27 : decode cX9_pass 27 = .ok (.getfield 248, 3) := by decide +kernel
theorem dX9_pass_30 : decode cX9_pass 30 = .ok (.ireturn, 1) := by decide +kernel
set_option maxRecDepth 20000 in
theorem ggX9_setKey_X9_isZone : GoodIn wsX9_setKey wsX9_isZone := goodIn_r _ [6, 7, 8, 9, 5, 10, 16, 17, 18, 19, 20, 21, 22, 23, 24, 25, 26, 27, 28, 29, 30, 31, 32, 33, 34, 35, 36, 37, 38, 39, 40, 41, 42, 43, 44, 45, 46, 47, 48, 49, 50, 51, 52] (by decide +kernel) (by decide +kernel)
set_option maxRecDepth 20000 in
theorem gX9_setKey_X9_isZone : GoodIn wsX9_setKey (wsV RX9 159 RX9 yX9_isZone wsX9_isZone) := goodIn_app (goodIn_of _ (by decide +kernel)) ggX9_setKey_X9_isZone
set_option maxRecDepth 20000 in
theorem ggX9_setKey_X9_in : GoodIn wsX9_setKey wsX9_in := goodIn_r _ [10] (by decide +kernel) (by decide +kernel)
set_option maxRecDepth 20000 in
theorem gX9_setKey_X9_in : GoodIn wsX9_setKey (va_wsS RX9 102 yX9_in wsX9_in) := goodIn_app (goodIn_of _ (by decide +kernel)) ggX9_setKey_X9_in
set_option maxRecDepth 20000 in
theorem ggX9_setKey_X9_asked_ : GoodIn wsX9_setKey wsX9_asked_ := goodIn_r _ [14, 15, 16, 17, 18, 19, 20, 21, 22, 23, 24, 25, 26, 27, 28, 29, 30, 31, 32, 33, 34, 35, 36, 37, 38, 39, 40, 41, 42, 43, 44, 45, 46, 47, 48, 49, 50, 51, 52] (by decide +kernel) (by decide +kernel)
set_option maxRecDepth 20000 in
theorem gX9_setKey_X9_asked_ : GoodIn wsX9_setKey (wsV RX9 142 RX9 yX9_asked_ wsX9_asked_) := goodIn_app (goodIn_of _ (by decide +kernel)) ggX9_setKey_X9_asked_
theorem dX9_setKey_0 : decode cX9_setKey 0 = .ok (.aload_n 0, 1) := by decide +kernel
theorem dX9_setKey_1 : decode cX9_setKey 1 = .ok (.aload_n 0, 1) := by decide +kernel
theorem dX9_setKey_2 : decode cX9_setKey 2 = .ok (.iload_n 1, 1) := by decide +kernel
theorem dX9_setKey_3 : decode cX9_setKey 3 = .ok (.invokevirtual 159, 3) := by decide +kernel
theorem dX9_setKey_6 : decode cX9_setKey 6 = .ok (.iload_n 2, 1) := by decide +kernel
theorem dX9_setKey_7 : decode cX9_setKey 7 = .ok (.iconst 0, 1) := by decide +kernel
theorem dX9_setKey_8 : decode cX9_setKey 8 = .ok (.iconst 1, 1) := by decide +kernel
theorem dX9_setKey_9 : decode cX9_setKey 9 = .ok (.invokestatic 102, 3) := by decide +kernel
theorem dX9_setKey_12 : decode cX9_setKey 12 = .ok (.ifCond .eq 17, 3) := by decide +kernel
theorem dX9_setKey_15 : decode cX9_setKey 15 = .ok (.iload_n 3, 1) := by decide +kernel
theorem dX9_setKey_16 : decode cX9_setKey 16 = .ok (.iconst (-1), 1) := by decide +kernel
theorem dX9_setKey_17 : decode cX9_setKey 17 = .ok (.bipush 99, 2) := by decide +kernel
theorem dX9_setKey_19 : decode cX9_setKey 19 = .ok (.invokestatic 102, 3) := by decide +kernel
theorem dX9_setKey_22 : decode cX9_setKey 22 = .ok (.ifCond .eq 7, 3) := by decide +kernel
theorem dX9_setKey_25 : decode cX9_setKey 25 = .ok (.iconst 1, 1) := by decide +kernel
theorem dX9_setKey_26 : decode cX9_setKey 26 = .ok (.goto 4, 3) := by decide +kernel
theorem dX9_setKey_29 : decode cX9_setKey 29 = .ok (.iconst 0, 1) := by decide +kernel
theorem dX9_setKey_30 : decode cX9_setKey 30 = .ok (.invokevirtual 142, 3) := by decide +kernel
theorem dX9_setKey_33 : decode cX9_setKey 33 = .ok (.ifCond .ne 5, 3) := by decide +kernel
theorem dX9_setKey_36 : decode cX9_setKey 36 = .ok (.iconst 0, 1) := by decide +kernel
theorem dX9_setKey_37 : decode cX9_setKey 37 = .ok (.ireturn, 1) := by decide +kernel
theorem dX9_setKey_38 : decode cX9_setKey 38 = .ok (.aload_n 0, 1) := by decide +kernel
theorem dX9_setKey_39 : decode cX9_setKey 39 = .ok (.getfield 30, 3) := by decide +kernel
theorem dX9_setKey_42 : decode cX9_setKey 42 = .ok (.iconst 2, 1) := by decide +kernel
theorem dX9_setKey_43 : decode cX9_setKey 43 = .ok (.iload_n 1, 1) := by decide +kernel
theorem dX9_setKey_44 : decode cX9_setKey 44 = .ok (.imul, 1) := by decide +kernel
theorem dX9_setKey_45 : decode cX9_setKey 45 = .ok (.iload_n 2, 1) := by decide +kernel
theorem dX9_setKey_46 : decode cX9_setKey 46 = .ok (.iadd, 1) := by decide +kernel
theorem dX9_setKey_47 : decode cX9_setKey 47 = .ok (.iaload, 1) := by decide +kernel
theorem dX9_setKey_48 : decode cX9_setKey 48 = .ok (.istore 4, 2) := by decide +kernel
theorem dX9_setKey_50 : decode cX9_setKey 50 = .ok (.aload_n 0, 1) := by decide +kernel
theorem dX9_setKey_51 : decode cX9_setKey 51 = .ok (.getfield 30, 3) := by decide +kernel
theorem dX9_setKey_54 : decode cX9_setKey 54 = .ok (.iconst 2, 1) := by decide +kernel
theorem dX9_setKey_55 : decode cX9_setKey 55 = .ok (.iload_n 1, 1) := by decide +kernel
theorem dX9_setKey_56 : decode cX9_setKey 56 = .ok (.imul, 1) := by decide +kernel
theorem dX9_setKey_57 : decode cX9_setKey 57 = .ok (.iload_n 2, 1) := by decide +kernel
theorem dX9_setKey_58 : decode cX9_setKey 58 = .ok (.iadd, 1) := by decide +kernel
theorem dX9_setKey_59 : decode cX9_setKey 59 = .ok (.iload_n 3, 1) := by decide +kernel
theorem dX9_setKey_60 : decode cX9_setKey 60 = .ok (.iastore, 1) := by decide +kernel
theorem dX9_setKey_61 : decode cX9_setKey 61 = .ok (.iload 4, 2) := by decide +kernel
theorem dX9_setKey_63 : decode cX9_setKey 63 = .ok (.ireturn, 1) := by decide +kernel
set_option maxRecDepth 20000 in
theorem ggX9_setWindow_X9_isZone : GoodIn wsX9_setWindow wsX9_isZone := goodIn_r _ [7, 8, 9, 10, 6, 11, 17, 18, 19, 20, 21, 22, 23, 24, 25, 26, 27, 28, 29, 30, 31, 32, 33, 34, 35, 36, 37, 38, 39, 40, 41, 42, 43, 44, 45, 46, 47, 48, 49, 50, 51, 52, 53] (by decide +kernel) (by decide +kernel)
set_option maxRecDepth 20000 in
theorem gX9_setWindow_X9_isZone : GoodIn wsX9_setWindow (wsV RX9 159 RX9 yX9_isZone wsX9_isZone) := goodIn_app (goodIn_of _ (by decide +kernel)) ggX9_setWindow_X9_isZone
set_option maxRecDepth 20000 in
theorem ggX9_setWindow_X9_in : GoodIn wsX9_setWindow wsX9_in := goodIn_r _ [11] (by decide +kernel) (by decide +kernel)
set_option maxRecDepth 20000 in
theorem gX9_setWindow_X9_in : GoodIn wsX9_setWindow (va_wsS RX9 102 yX9_in wsX9_in) := goodIn_app (goodIn_of _ (by decide +kernel)) ggX9_setWindow_X9_in
set_option maxRecDepth 20000 in
theorem ggX9_setWindow_X9_asked_ : GoodIn wsX9_setWindow wsX9_asked_ := goodIn_r _ [15, 16, 17, 18, 19, 20, 21, 22, 23, 24, 25, 26, 27, 28, 29, 30, 31, 32, 33, 34, 35, 36, 37, 38, 39, 40, 41, 42, 43, 44, 45, 46, 47, 48, 49, 50, 51, 52, 53] (by decide +kernel) (by decide +kernel)
set_option maxRecDepth 20000 in
theorem gX9_setWindow_X9_asked_ : GoodIn wsX9_setWindow (wsV RX9 142 RX9 yX9_asked_ wsX9_asked_) := goodIn_app (goodIn_of _ (by decide +kernel)) ggX9_setWindow_X9_asked_
theorem dX9_setWindow_0 : decode cX9_setWindow 0 = .ok (.aload_n 0, 1) := by decide +kernel
theorem dX9_setWindow_1 : decode cX9_setWindow 1 = .ok (.aload_n 0, 1) := by decide +kernel
theorem dX9_setWindow_2 : decode cX9_setWindow 2 = .ok (.iload_n 1, 1) := by decide +kernel
theorem dX9_setWindow_3 : decode cX9_setWindow 3 = .ok (.invokevirtual 159, 3) := by decide +kernel
theorem dX9_setWindow_6 : decode cX9_setWindow 6 = .ok (.iload_n 2, 1) := by decide +kernel
theorem dX9_setWindow_7 : decode cX9_setWindow 7 = .ok (.iconst 0, 1) := by decide +kernel
theorem dX9_setWindow_8 : decode cX9_setWindow 8 = .ok (.sipush 10000, 3) := by decide +kernel
theorem dX9_setWindow_11 : decode cX9_setWindow 11 = .ok (.invokestatic 102, 3) := by decide +kernel
theorem dX9_setWindow_14 : decode cX9_setWindow 14 = .ok (.ifCond .eq 18, 3) := by decide +kernel
theorem dX9_setWindow_17 : decode cX9_setWindow 17 = .ok (.iload_n 3, 1) := by decide +kernel
theorem dX9_setWindow_18 : decode cX9_setWindow 18 = .ok (.iload_n 2, 1) := by decide +kernel
theorem dX9_setWindow_19 : decode cX9_setWindow 19 = .ok (.sipush 10000, 3) := by decide +kernel
theorem dX9_setWindow_22 : decode cX9_setWindow 22 = .ok (.invokestatic 102, 3) := by decide +kernel
theorem dX9_setWindow_25 : decode cX9_setWindow 25 = .ok (.ifCond .eq 7, 3) := by decide +kernel
theorem dX9_setWindow_28 : decode cX9_setWindow 28 = .ok (.iconst 1, 1) := by decide +kernel
theorem dX9_setWindow_29 : decode cX9_setWindow 29 = .ok (.goto 4, 3) := by decide +kernel
theorem dX9_setWindow_32 : decode cX9_setWindow 32 = .ok (.iconst 0, 1) := by decide +kernel
theorem dX9_setWindow_33 : decode cX9_setWindow 33 = .ok (.invokevirtual 142, 3) := by decide +kernel
theorem dX9_setWindow_36 : decode cX9_setWindow 36 = .ok (.ifCond .eq 17, 3) := by decide +kernel
theorem dX9_setWindow_39 : decode cX9_setWindow 39 = .ok (.aload_n 0, 1) := by decide +kernel
theorem dX9_setWindow_40 : decode cX9_setWindow 40 = .ok (.getfield 33, 3) := by decide +kernel
theorem dX9_setWindow_43 : decode cX9_setWindow 43 = .ok (.iload_n 1, 1) := by decide +kernel
theorem dX9_setWindow_44 : decode cX9_setWindow 44 = .ok (.iload_n 2, 1) := by decide +kernel
theorem dX9_setWindow_45 : decode cX9_setWindow 45 = .ok (.iastore, 1) := by decide +kernel
theorem dX9_setWindow_46 : decode cX9_setWindow 46 = .ok (.aload_n 0, 1) := by decide +kernel
theorem dX9_setWindow_47 : decode cX9_setWindow 47 = .ok (.getfield 36, 3) := by decide +kernel
theorem dX9_setWindow_50 : decode cX9_setWindow 50 = .ok (.iload_n 1, 1) := by decide +kernel
theorem dX9_setWindow_51 : decode cX9_setWindow 51 = .ok (.iload_n 3, 1) := by decide +kernel
theorem dX9_setWindow_52 : decode cX9_setWindow 52 = .ok (.iastore, 1) := by decide +kernel
theorem dX9_setWindow_53 : decode cX9_setWindow 53 = .ok (.return_, 1) := by decide +kernel
set_option maxRecDepth 20000 in
theorem ggX9_setAnchor_X9_in : GoodIn wsX9_setAnchor wsX9_in := goodIn_r _ [5] (by decide +kernel) (by decide +kernel)
set_option maxRecDepth 20000 in
theorem gX9_setAnchor_X9_in : GoodIn wsX9_setAnchor (va_wsS RX9 102 yX9_in wsX9_in) := goodIn_app (goodIn_of _ (by decide +kernel)) ggX9_setAnchor_X9_in
set_option maxRecDepth 20000 in
theorem ggX9_setAnchor_X9_asked : GoodIn wsX9_setAnchor wsX9_asked := goodIn_r _ [9, 10, 11, 12, 13, 14, 15, 16, 17, 18, 19, 20, 21, 22, 23, 24, 25, 26, 27, 28, 29, 30, 31, 32, 33, 34, 35, 36, 37, 38, 39, 40, 41, 42, 43, 44, 45, 46, 47] (by decide +kernel) (by decide +kernel)
set_option maxRecDepth 20000 in
theorem gX9_setAnchor_X9_asked : GoodIn wsX9_setAnchor (wsV RX9 162 RX9 yX9_asked wsX9_asked) := goodIn_app (goodIn_of _ (by decide +kernel)) ggX9_setAnchor_X9_asked
theorem dX9_setAnchor_0 : decode cX9_setAnchor 0 = .ok (.aload_n 0, 1) := by decide +kernel
theorem dX9_setAnchor_1 : decode cX9_setAnchor 1 = .ok (.iload_n 1, 1) := by decide +kernel
theorem dX9_setAnchor_2 : decode cX9_setAnchor 2 = .ok (.iconst (-1), 1) := by decide +kernel
theorem dX9_setAnchor_3 : decode cX9_setAnchor 3 = .ok (.bipush 99, 2) := by decide +kernel
theorem dX9_setAnchor_5 : decode cX9_setAnchor 5 = .ok (.invokestatic 102, 3) := by decide +kernel
theorem dX9_setAnchor_8 : decode cX9_setAnchor 8 = .ok (.invokevirtual 162, 3) := by decide +kernel
theorem dX9_setAnchor_11 : decode cX9_setAnchor 11 = .ok (.ifCond .ne 5, 3) := by decide +kernel
theorem dX9_setAnchor_14 : decode cX9_setAnchor 14 = .ok (.iconst 0, 1) := by decide +kernel
theorem dX9_setAnchor_15 : decode cX9_setAnchor 15 = .ok (.ireturn, 1) := by decide +kernel
theorem dX9_setAnchor_16 : decode cX9_setAnchor 16 = .ok (.aload_n 0, 1) := by decide +kernel
theorem dX9_setAnchor_17 : decode cX9_setAnchor 17 = .ok (.getfield 39, 3) := by decide +kernel
theorem dX9_setAnchor_20 : decode cX9_setAnchor 20 = .ok (.istore_n 2, 1) := by decide +kernel
theorem dX9_setAnchor_21 : decode cX9_setAnchor 21 = .ok (.aload_n 0, 1) := by decide +kernel
theorem dX9_setAnchor_22 : decode cX9_setAnchor 22 = .ok (.iload_n 1, 1) := by decide +kernel
theorem dX9_setAnchor_23 : decode cX9_setAnchor 23 = .ok (.putfield 39, 3) := by decide +kernel
theorem dX9_setAnchor_26 : decode cX9_setAnchor 26 = .ok (.iload_n 2, 1) := by decide +kernel
theorem dX9_setAnchor_27 : decode cX9_setAnchor 27 = .ok (.ireturn, 1) := by decide +kernel
set_option maxRecDepth 20000 in
theorem ggX9_trust_X9_isAsked : GoodIn wsX9_trust wsX9_isAsked := goodIn_r _ [5, 6, 7, 4, 8, 9, 10, 11] (by decide +kernel) (by decide +kernel)
set_option maxRecDepth 20000 in
theorem gX9_trust_X9_isAsked : GoodIn wsX9_trust (va_wsS RX9 274 yX9_isAsked wsX9_isAsked) := goodIn_app (goodIn_of _ (by decide +kernel)) ggX9_trust_X9_isAsked
set_option maxRecDepth 20000 in
theorem ggX9_trust_X9_asked : GoodIn wsX9_trust wsX9_asked := goodIn_r _ [15, 16, 138, 139, 140, 141, 142, 143, 144, 145, 146, 147, 148, 149, 150, 151, 152, 153, 154, 155, 156, 157, 158, 159, 160, 161, 162, 163, 164, 165, 166, 167, 168, 169, 170, 171, 172, 173, 174] (by decide +kernel) (by decide +kernel)
set_option maxRecDepth 20000 in
theorem gX9_trust_X9_asked : GoodIn wsX9_trust (wsV RX9 162 RX9 yX9_asked wsX9_asked) := goodIn_app (goodIn_of _ (by decide +kernel)) ggX9_trust_X9_asked
set_option maxRecDepth 20000 in
theorem ggX9_trust_X9_resolves : GoodIn wsX9_trust wsX9_resolves := goodIn_r _ [20, 1, 21, 22, 23, 24, 25, 26, 27, 28, 29, 30, 31, 32, 33, 34, 35, 4, 36, 37, 38, 39, 40, 41, 42, 43, 44, 45, 46, 47, 48, 49, 50, 51, 52, 53, 54, 55, 56, 57, 58, 59, 60, 61, 62, 63, 64, 65, 66, 67, 68, 69, 70, 71, 72, 73, 74, 9, 10, 11, 75, 76, 77, 78, 79, 80, 81, 82, 83, 84, 85, 86, 87, 88, 89, 90, 91, 92, 93, 94, 95, 96, 97, 98, 99, 100, 101, 102, 103, 104, 105, 106, 107, 108, 109, 110, 111, 112, 113, 114, 115, 116, 117, 118, 119, 120, 121, 122, 123, 124, 125, 126, 127, 128, 129, 130, 131, 132, 133, 134, 135, 136, 137, 138, 139, 140, 141, 142, 143, 144, 145, 146, 147, 148, 149, 150, 151, 152, 153, 154, 155, 156, 157, 158, 159, 160, 161, 162, 163, 164, 165, 166, 167, 168, 169, 170, 171, 172, 173, 174] rfl (by decide +kernel)
set_option maxRecDepth 20000 in
theorem gX9_trust_X9_resolves : GoodIn wsX9_trust (wsV RX9 277 RX9 yX9_resolves wsX9_resolves) := goodIn_app (goodIn_of _ (by decide +kernel)) ggX9_trust_X9_resolves
theorem dX9_trust_0 : decode cX9_trust 0 = .ok (.aload_n 0, 1) := by decide +kernel
theorem dX9_trust_1 : decode cX9_trust 1 = .ok (.iload_n 1, 1) := by decide +kernel
theorem dX9_trust_2 : decode cX9_trust 2 = .ok (.iload_n 2, 1) := by decide +kernel
theorem dX9_trust_3 : decode cX9_trust 3 = .ok (.invokestatic 274, 3) := by decide +kernel
theorem dX9_trust_6 : decode cX9_trust 6 = .ok (.invokevirtual 162, 3) := by decide +kernel
theorem dX9_trust_9 : decode cX9_trust 9 = .ok (.ifCond .ne 5, 3) := by decide +kernel
theorem dX9_trust_12 : decode cX9_trust 12 = .ok (.iconst 0, 1) := by decide +kernel
theorem dX9_trust_13 : decode cX9_trust 13 = .ok (.ireturn, 1) := by decide +kernel
theorem dX9_trust_14 : decode cX9_trust 14 = .ok (.aload_n 0, 1) := by decide +kernel
theorem dX9_trust_15 : decode cX9_trust 15 = .ok (.iload_n 1, 1) := by decide +kernel
theorem dX9_trust_16 : decode cX9_trust 16 = .ok (.iload_n 2, 1) := by decide +kernel
theorem dX9_trust_17 : decode cX9_trust 17 = .ok (.iconst 1, 1) := by decide +kernel
theorem dX9_trust_18 : decode cX9_trust 18 = .ok (.iconst 0, 1) := by decide +kernel
theorem dX9_trust_19 : decode cX9_trust 19 = .ok (.invokevirtual 277, 3) := by decide +kernel
theorem dX9_trust_22 : decode cX9_trust 22 = .ok (.bipush 6, 2) := by decide +kernel
theorem dX9_trust_24 : decode cX9_trust 24 = .ok (.if_icmp .ne 7, 3) := by decide +kernel
theorem dX9_trust_27 : decode cX9_trust 27 = .ok (.iconst (-1), 1) := by decide +kernel
theorem dX9_trust_28 : decode cX9_trust 28 = .ok (.goto 7, 3) := by decide +kernel
theorem dX9_trust_31 : decode cX9_trust 31 = .ok (.aload_n 0, 1) := by decide +kernel
theorem dX9_trust_32 : decode cX9_trust 32 = .ok (.getfield 254, 3) := by decide +kernel
theorem dX9_trust_35 : decode cX9_trust 35 = .ok (.ireturn, 1) := by decide +kernel
