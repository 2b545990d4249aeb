theorem dX0_init_0 : decode cX0_init 0 = .ok (.aload_n 0, 1) := by decide +kernel
theorem dX0_init_1 : decode cX0_init 1 = .ok (.invokespecial 3, 3) := by decide +kernel
theorem dX0_init_4 : decode cX0_init 4 = .ok (.aload_n 0, 1) := by decide +kernel
theorem dX0_init_5 : decode cX0_init 5 = .ok (.iconst (-1), 1) := by decide +kernel
theorem dX0_init_6 : decode cX0_init 6 = .ok (.putfield 9, 3) := by decide +kernel
theorem dX0_init_9 : decode cX0_init 9 = .ok (.aload_n 0, 1) := by decide +kernel
theorem dX0_init_10 : decode cX0_init 10 = .ok (.iconst (-1), 1) := by decide +kernel
theorem dX0_init_11 : decode cX0_init 11 = .ok (.putfield 15, 3) := by decide +kernel
theorem dX0_init_14 : decode cX0_init 14 = .ok (.aload_n 0, 1) := by decide +kernel
theorem dX0_init_15 : decode cX0_init 15 = .ok (.iconst (-1), 1) := by decide +kernel
theorem dX0_init_16 : decode cX0_init 16 = .ok (.putfield 18, 3) := by decide +kernel
theorem dX0_init_19 : decode cX0_init 19 = .ok (.aload_n 0, 1) := by decide +kernel
theorem dX0_init_20 : decode cX0_init 20 = .ok (.iconst (-1), 1) := by decide +kernel
theorem dX0_init_21 : decode cX0_init 21 = .ok (.putfield 21, 3) := by decide +kernel
theorem dX0_init_24 : decode cX0_init 24 = .ok (.aload_n 0, 1) := by decide +kernel
theorem dX0_init_25 : decode cX0_init 25 = .ok (.iconst (-1), 1) := by decide +kernel
theorem dX0_init_26 : decode cX0_init 26 = .ok (.putfield 24, 3) := by decide +kernel
theorem dX0_init_29 : decode cX0_init 29 = .ok (.return_, 1) := by decide +kernel
theorem dX0_tell_0 : decode cX0_tell 0 = .ok (.aload_n 0, 1) := by decide +kernel
theorem dX0_tell_1 : decode cX0_tell 1 = .ok (.iload_n 1, 1) := by decide +kernel
theorem dX0_tell_2 : decode cX0_tell 2 = .ok (.putfield 9, 3) := by decide +kernel
theorem dX0_tell_5 : decode cX0_tell 5 = .ok (.aload_n 0, 1) := by decide +kernel
theorem dX0_tell_6 : decode cX0_tell 6 = .ok (.iload_n 2, 1) := by decide +kernel
theorem dX0_tell_7 : decode cX0_tell 7 = .ok (.putfield 15, 3) := by decide +kernel
theorem dX0_tell_10 : decode cX0_tell 10 = .ok (.aload_n 0, 1) := by decide +kernel
theorem dX0_tell_11 : decode cX0_tell 11 = .ok (.iload_n 3, 1) := by decide +kernel
theorem dX0_tell_12 : decode cX0_tell 12 = .ok (.putfield 18, 3) := by decide +kernel
theorem dX0_tell_15 : decode cX0_tell 15 = .ok (.aload_n 0, 1) := by decide +kernel
theorem dX0_tell_16 : decode cX0_tell 16 = .ok (.iload 4, 2) := by decide +kernel
theorem dX0_tell_18 : decode cX0_tell 18 = .ok (.putfield 27, 3) := by decide +kernel
theorem dX0_tell_21 : decode cX0_tell 21 = .ok (.return_, 1) := by decide +kernel
theorem dX0_detail_0 : decode cX0_detail 0 = .ok (.aload_n 0, 1) := by decide +kernel
theorem dX0_detail_1 : decode cX0_detail 1 = .ok (.getfield 9, 3) := by decide +kernel
theorem dX0_detail_4 : decode cX0_detail 4 = .ok (.iconst (-1), 1) := by decide +kernel
theorem dX0_detail_5 : decode cX0_detail 5 = .ok (.if_icmp .ne 5, 3) := by decide +kernel
theorem dX0_detail_8 : decode cX0_detail 8 = .ok (.iconst (-1), 1) := by decide +kernel
theorem dX0_detail_9 : decode cX0_detail 9 = .ok (.ireturn, 1) := by decide +kernel
theorem dX0_detail_10 : decode cX0_detail 10 = .ok (.iload_n 1, 1) := by decide +kernel
theorem dX0_detail_11 : decode cX0_detail 11 = .ok (.tableswitch 49 0 3 #[29, 34, 39, 44], 29) := by decide +kernel
theorem dX0_detail_40 : decode cX0_detail 40 = .ok (.aload_n 0, 1) := by decide +kernel
theorem dX0_detail_41 : decode cX0_detail 41 = .ok (.getfield 15, 3) := by decide +kernel
theorem dX0_detail_44 : decode cX0_detail 44 = .ok (.ireturn, 1) := by decide +kernel
theorem dX0_detail_45 : decode cX0_detail 45 = .ok (.aload_n 0, 1) := by decide +kernel
theorem dX0_detail_46 : decode cX0_detail 46 = .ok (.getfield 18, 3) := by decide +kernel
theorem dX0_detail_49 : decode cX0_detail 49 = .ok (.ireturn, 1) := by decide +kernel
theorem dX0_detail_50 : decode cX0_detail 50 = .ok (.aload_n 0, 1) := by decide +kernel
theorem dX0_detail_51 : decode cX0_detail 51 = .ok (.getfield 27, 3) := by decide +kernel
theorem dX0_detail_54 : decode cX0_detail 54 = .ok (.ireturn, 1) := by decide +kernel
theorem dX0_detail_55 : decode cX0_detail 55 = .ok (.aload_n 0, 1) := by decide +kernel
theorem dX0_detail_56 : decode cX0_detail 56 = .ok (.getfield 30, 3) := by decide +kernel
theorem dX0_detail_59 : decode cX0_detail 59 = .ok (.ireturn, 1) := by decide +kernel
theorem dX0_detail_60 : decode cX0_detail 60 = .ok (.aload_n 0, 1) := by decide +kernel
theorem dX0_detail_61 : decode cX0_detail 61 = .ok (.getfield 33, 3) := by decide +kernel
theorem dX0_detail_64 : decode cX0_detail 64 = .ok (.ifCond .eq 7, 3) := by decide +kernel
theorem dX0_detail_67 : decode cX0_detail 67 = .ok (.iconst 1, 1) := by decide +kernel
theorem dX0_detail_68 : decode cX0_detail 68 = .ok (.goto 4, 3) := by decide +kernel
theorem dX0_detail_71 : decode cX0_detail 71 = .ok (.iconst 0, 1) := by decide +kernel
theorem dX0_detail_72 : decode cX0_detail 72 = .ok (.ireturn, 1) := by decide +kernel
set_option maxRecDepth 20000 in
theorem ggX1_init_X4_init : GoodIn wsX1_init wsX4_init := goodIn_r _ [16, 17, 2, 3, 4, 18, 19, 20, 21, 29, 30, 31, 32, 33] (by decide +kernel) (by decide +kernel)
set_option maxRecDepth 20000 in
theorem gX1_init_X4_init : GoodIn wsX1_init (wsX4_init) := ggX1_init_X4_init
theorem dX1_init_0 : decode cX1_init 0 = .ok (.aload_n 0, 1) := by decide +kernel
theorem dX1_init_1 : decode cX1_init 1 = .ok (.invokespecial 3, 3) := by decide +kernel
theorem dX1_init_4 : decode cX1_init 4 = .ok (.aload_n 0, 1) := by decide +kernel
theorem dX1_init_5 : decode cX1_init 5 = .ok (.bipush 10, 2) := by decide +kernel
theorem dX1_init_7 : decode cX1_init 7 = .ok (.newarray .int, 2) := by decide +kernel
theorem dX1_init_9 : decode cX1_init 9 = .ok (.putfield 9, 3) := by decide +kernel
theorem dX1_init_12 : decode cX1_init 12 = .ok (.aload_n 0, 1) := by decide +kernel
theorem dX1_init_13 : decode cX1_init 13 = .ok (.bipush 10, 2) := by decide +kernel
theorem dX1_init_15 : decode cX1_init 15 = .ok (.newarray .int, 2) := by decide +kernel
theorem dX1_init_17 : decode cX1_init 17 = .ok (.putfield 15, 3) := by decide +kernel
theorem dX1_init_20 : decode cX1_init 20 = .ok (.aload_n 0, 1) := by decide +kernel
theorem dX1_init_21 : decode cX1_init 21 = .ok (.bipush 10, 2) := by decide +kernel
theorem dX1_init_23 : decode cX1_init 23 = .ok (.newarray .int, 2) := by decide +kernel
theorem dX1_init_25 : decode cX1_init 25 = .ok (.putfield 18, 3) := by decide +kernel
theorem dX1_init_28 : decode cX1_init 28 = .ok (.aload_n 0, 1) := by decide +kernel
theorem dX1_init_29 : decode cX1_init 29 = .ok (.bipush 10, 2) := by decide +kernel
theorem dX1_init_31 : decode cX1_init 31 = .ok (.newarray .int, 2) := by decide +kernel
theorem dX1_init_33 : decode cX1_init 33 = .ok (.putfield 21, 3) := by decide +kernel
theorem dX1_init_36 : decode cX1_init 36 = .ok (.aload_n 0, 1) := by decide +kernel
theorem dX1_init_37 : decode cX1_init 37 = .ok (.bipush 10, 2) := by decide +kernel
theorem dX1_init_39 : decode cX1_init 39 = .ok (.newarray .int, 2) := by decide +kernel
theorem dX1_init_41 : decode cX1_init 41 = .ok (.putfield 24, 3) := by decide +kernel
theorem dX1_init_44 : decode cX1_init 44 = .ok (.aload_n 0, 1) := by decide +kernel
theorem dX1_init_45 : decode cX1_init 45 = .ok (.new 27, 3) := by decide +kernel
theorem dX1_init_48 : decode cX1_init 48 = .ok (.dup, 1) := by decide +kernel
theorem dX1_init_49 : decode cX1_init 49 = .ok (.bipush 30, 2) := by decide +kernel
theorem dX1_init_51 : decode cX1_init 51 = .ok (.invokespecial 29, 3) := by decide +kernel
theorem dX1_init_54 : decode cX1_init 54 = .ok (.putfield 32, 3) := by decide +kernel
theorem dX1_init_57 : decode cX1_init 57 = .ok (.return_, 1) := by decide +kernel
theorem dX1_tell_0 : decode cX1_tell 0 = .ok (.aload_n 0, 1) := by decide +kernel
theorem dX1_tell_1 : decode cX1_tell 1 = .ok (.getfield 36, 3) := by decide +kernel
theorem dX1_tell_4 : decode cX1_tell 4 = .ok (.ifCond .lt 77, 3) := by decide +kernel
theorem dX1_tell_7 : decode cX1_tell 7 = .ok (.aload_n 0, 1) := by decide +kernel
theorem dX1_tell_8 : decode cX1_tell 8 = .ok (.getfield 36, 3) := by decide +kernel
theorem dX1_tell_11 : decode cX1_tell 11 = .ok (.aload_n 0, 1) := by decide +kernel
theorem dX1_tell_12 : decode cX1_tell 12 = .ok (.getfield 9, 3) := by decide +kernel
theorem dX1_tell_15 : decode cX1_tell 15 = .ok (.arraylength, 1) := by decide +kernel
theorem dX1_tell_16 : decode cX1_tell 16 = .ok (.if_icmp .ge 65, 3) := by decide +kernel
theorem dX1_tell_19 : decode cX1_tell 19 = .ok (.aload_n 0, 1) := by decide +kernel
theorem dX1_tell_20 : decode cX1_tell 20 = .ok (.getfield 9, 3) := by decide +kernel
theorem dX1_tell_23 : decode cX1_tell 23 = .ok (.aload_n 0, 1) := by decide +kernel
theorem dX1_tell_24 : decode cX1_tell 24 = .ok (.getfield 36, 3) := by decide +kernel
theorem dX1_tell_27 : decode cX1_tell 27 = .ok (.iload_n 1, 1) := by decide +kernel
theorem dX1_tell_28 : decode cX1_tell 28 = .ok (.iastore, 1) := by decide +kernel
theorem dX1_tell_29 : decode cX1_tell 29 = .ok (.aload_n 0, 1) := by decide +kernel
theorem dX1_tell_30 : decode cX1_tell 30 = .ok (.getfield 15, 3) := by decide +kernel
theorem dX1_tell_33 : decode cX1_tell 33 = .ok (.aload_n 0, 1) := by decide +kernel
theorem dX1_tell_34 : decode cX1_tell 34 = .ok (.getfield 36, 3) := by decide +kernel
theorem dX1_tell_37 : decode cX1_tell 37 = .ok (.iload_n 2, 1) := by decide +kernel
theorem dX1_tell_38 : decode cX1_tell 38 = .ok (.iastore, 1) := by decide +kernel
theorem dX1_tell_39 : decode cX1_tell 39 = .ok (.aload_n 0, 1) := by decide +kernel
theorem dX1_tell_40 : decode cX1_tell 40 = .ok (.getfield 18, 3) := by decide +kernel
theorem dX1_tell_43 : decode cX1_tell 43 = .ok (.aload_n 0, 1) := by decide +kernel
theorem dX1_tell_44 : decode cX1_tell 44 = .ok (.getfield 36, 3) := by decide +kernel
theorem dX1_tell_47 : decode cX1_tell 47 = .ok (.iload_n 3, 1) := by decide +kernel
theorem dX1_tell_48 : decode cX1_tell 48 = .ok (.iastore, 1) := by decide +kernel
theorem dX1_tell_49 : decode cX1_tell 49 = .ok (.aload_n 0, 1) := by decide +kernel
theorem dX1_tell_50 : decode cX1_tell 50 = .ok (.getfield 21, 3) := by decide +kernel
theorem dX1_tell_53 : decode cX1_tell 53 = .ok (.aload_n 0, 1) := by decide +kernel
theorem dX1_tell_54 : decode cX1_tell 54 = .ok (.getfield 36, 3) := by decide +kernel
theorem dX1_tell_57 : decode cX1_tell 57 = .ok (.iload 4, 2) := by decide +kernel
theorem dX1_tell_59 : decode cX1_tell 59 = .ok (.iastore, 1) := by decide +kernel
theorem dX1_tell_60 : decode cX1_tell 60 = .ok (.aload_n 0, 1) := by decide +kernel
theorem dX1_tell_61 : decode cX1_tell 61 = .ok (.getfield 24, 3) := by decide +kernel
theorem dX1_tell_64 : decode cX1_tell 64 = .ok (.aload_n 0, 1) := by decide +kernel
theorem dX1_tell_65 : decode cX1_tell 65 = .ok (.getfield 36, 3) := by decide +kernel
theorem dX1_tell_68 : decode cX1_tell 68 = .ok (.iload 5, 2) := by decide +kernel
theorem dX1_tell_70 : decode cX1_tell 70 = .ok (.iastore, 1) := by decide +kernel
theorem dX1_tell_71 : decode cX1_tell 71 = .ok (.aload_n 0, 1) := by decide +kernel
theorem dX1_tell_72 : decode cX1_tell 72 = .ok (.dup, 1) := by decide +kernel
theorem dX1_tell_73 : decode cX1_tell 73 = .ok (.getfield 36, 3) := by decide +kernel
theorem dX1_tell_76 : decode cX1_tell 76 = .ok (.iconst 1, 1) := by decide +kernel
theorem dX1_tell_77 : decode cX1_tell 77 = .ok (.iadd, 1) := by decide +kernel
theorem dX1_tell_78 : decode cX1_tell 78 = .ok (.putfield 36, 3) := by decide +kernel
theorem dX1_tell_81 : decode cX1_tell 81 = .ok (.aload_n 0, 1) := by decide +kernel
theorem dX1_tell_82 : decode cX1_tell 82 = .ok (.getfield 36, 3) := by decide +kernel
theorem dX1_tell_85 : decode cX1_tell 85 = .ok (.ireturn, 1) := by decide +kernel
set_option maxRecDepth 20000 in
theorem ggX1_doTo_X4_become : GoodIn wsX1_doTo wsX4_become := goodIn_r _ [7, 8, 9, 10, 11, 12, 13, 14, 15, 16, 17, 18, 19, 6, 20, 21, 22, 23, 24, 25, 26, 27, 28, 29, 30, 31, 32, 133, 134, 135, 136, 137] (by decide +kernel) (by decide +kernel)
set_option maxRecDepth 20000 in
theorem gX1_doTo_X4_become : GoodIn wsX1_doTo (wsV RX1 45 RX4 yX4_become wsX4_become) := goodIn_app (goodIn_of _ (by decide +kernel)) ggX1_doTo_X4_become
set_option maxRecDepth 20000 in
theorem ggX1_doTo_X1_areMet : GoodIn wsX1_doTo wsX1_areMet := goodIn_r _ [37, 2, 38, 39, 40, 41, 42, 43, 6, 44, 8, 9, 14, 115, 116, 117, 118, 119, 120, 121, 133, 134, 135, 136, 137] (by decide +kernel) (by decide +kernel)
set_option maxRecDepth 20000 in
theorem gX1_doTo_X1_areMet : GoodIn wsX1_doTo (wsV RX1 49 RX1 yX1_areMet wsX1_areMet) := goodIn_app (goodIn_of _ (by decide +kernel)) ggX1_doTo_X1_areMet
set_option maxRecDepth 20000 in
theorem ggX1_doTo_X1_areMade : GoodIn wsX1_doTo wsX1_areMade := goodIn_r _ [48, 2, 38, 1, 39, 40, 49, 50, 51, 52, 53, 6, 54, 8, 9, 14, 15, 16, 55, 42, 43, 44, 56, 57, 58, 59, 17, 18, 19, 20, 21, 22, 23, 24, 25, 26, 27, 28, 29, 30, 31, 32, 115, 116, 117, 118, 119, 120, 121, 133, 134, 135, 136, 137] (by decide +kernel) (by decide +kernel)
set_option maxRecDepth 20000 in
theorem gX1_doTo_X1_areMade : GoodIn wsX1_doTo (wsV RX1 53 RX1 yX1_areMade wsX1_areMade) := goodIn_app (goodIn_of _ (by decide +kernel)) ggX1_doTo_X1_areMade
set_option maxRecDepth 20000 in
theorem ggX1_doTo_X6_isFit : GoodIn wsX1_doTo wsX6_isFit := goodIn_r _ [64, 65, 66, 67, 63, 68, 69, 70, 18, 19, 6, 20, 8, 9, 71, 22, 23, 24, 14, 72, 73, 74, 75, 76, 77, 78, 79, 80, 81, 82, 83, 84, 85, 86, 87, 88, 89, 90, 91, 92, 93, 94, 95, 26, 27, 28, 15, 96, 97, 98, 99, 100, 101, 102, 103, 104, 105, 106, 107, 42, 43, 44, 133, 134, 135, 136, 137, 122, 123, 124, 125, 126, 127, 128, 129, 130, 131, 132, 138, 139] (by decide +kernel) (by decide +kernel)
set_option maxRecDepth 20000 in
theorem gX1_doTo_X6_isFit : GoodIn wsX1_doTo (wsV RX1 57 RX6 yX6_isFit wsX6_isFit) := goodIn_app (goodIn_of _ (by decide +kernel)) ggX1_doTo_X6_isFit
set_option maxRecDepth 20000 in
theorem ggX1_doTo_X6_take : GoodIn wsX1_doTo wsX6_take := goodIn_r _ [111, 112, 113, 114, 4, 5, 6, 7, 8, 9, 10, 11, 12, 13, 14, 15, 16, 17, 18, 19, 20, 21, 22, 23, 24, 25, 26, 27, 28, 29, 30, 31, 32, 122, 123, 124, 125, 126, 127, 128, 129, 130, 131, 132, 133, 134, 135, 136, 137] (by decide +kernel) (by decide +kernel)
set_option maxRecDepth 20000 in
theorem gX1_doTo_X6_take : GoodIn wsX1_doTo (wsV RX1 61 RX6 yX6_take wsX6_take) := goodIn_app (goodIn_of _ (by decide +kernel)) ggX1_doTo_X6_take
theorem dX1_doTo_0 : decode cX1_doTo 0 = .ok (.aload_n 0, 1) := by decide +kernel
theorem dX1_doTo_1 : decode cX1_doTo 1 = .ok (.getfield 32, 3) := by decide +kernel
theorem dX1_doTo_4 : decode cX1_doTo 4 = .ok (.aload_n 1, 1) := by decide +kernel
theorem dX1_doTo_5 : decode cX1_doTo 5 = .ok (.getfield 40, 3) := by decide +kernel
theorem dX1_doTo_8 : decode cX1_doTo 8 = .ok (.invokevirtual 45, 3) := by decide +kernel
theorem dX1_doTo_11 : decode cX1_doTo 11 = .ok (.aload_n 0, 1) := by decide +kernel
theorem dX1_doTo_12 : decode cX1_doTo 12 = .ok (.aload_n 1, 1) := by decide +kernel
theorem dX1_doTo_13 : decode cX1_doTo 13 = .ok (.getfield 40, 3) := by decide +kernel
theorem dX1_doTo_16 : decode cX1_doTo 16 = .ok (.invokevirtual 49, 3) := by decide +kernel
theorem dX1_doTo_19 : decode cX1_doTo 19 = .ok (.ifCond .eq 26, 3) := by decide +kernel
theorem dX1_doTo_22 : decode cX1_doTo 22 = .ok (.aload_n 0, 1) := by decide +kernel
theorem dX1_doTo_23 : decode cX1_doTo 23 = .ok (.invokevirtual 53, 3) := by decide +kernel
theorem dX1_doTo_26 : decode cX1_doTo 26 = .ok (.ifCond .eq 19, 3) := by decide +kernel
theorem dX1_doTo_29 : decode cX1_doTo 29 = .ok (.aload_n 1, 1) := by decide +kernel
theorem dX1_doTo_30 : decode cX1_doTo 30 = .ok (.aload_n 0, 1) := by decide +kernel
theorem dX1_doTo_31 : decode cX1_doTo 31 = .ok (.getfield 32, 3) := by decide +kernel
theorem dX1_doTo_34 : decode cX1_doTo 34 = .ok (.aload_n 2, 1) := by decide +kernel
theorem dX1_doTo_35 : decode cX1_doTo 35 = .ok (.invokevirtual 57, 3) := by decide +kernel
theorem dX1_doTo_38 : decode cX1_doTo 38 = .ok (.ifCond .eq 7, 3) := by decide +kernel
theorem dX1_doTo_41 : decode cX1_doTo 41 = .ok (.iconst 1, 1) := by decide +kernel
theorem dX1_doTo_42 : decode cX1_doTo 42 = .ok (.goto 4, 3) := by decide +kernel
theorem dX1_doTo_45 : decode cX1_doTo 45 = .ok (.iconst 0, 1) := by decide +kernel
theorem dX1_doTo_46 : decode cX1_doTo 46 = .ok (.istore_n 3, 1) := by decide +kernel
theorem dX1_doTo_47 : decode cX1_doTo 47 = .ok (.iload_n 3, 1) := by decide +kernel
theorem dX1_doTo_48 : decode cX1_doTo 48 = .ok (.ifCond .eq 11, 3) := by decide +kernel
theorem dX1_doTo_51 : decode cX1_doTo 51 = .ok (.aload_n 1, 1) := by decide +kernel
theorem dX1_doTo_52 : decode cX1_doTo 52 = .ok (.aload_n 0, 1) := by decide +kernel
theorem dX1_doTo_53 : decode cX1_doTo 53 = .ok (.getfield 32, 3) := by decide +kernel
theorem dX1_doTo_56 : decode cX1_doTo 56 = .ok (.invokevirtual 61, 3) := by decide +kernel
theorem dX1_doTo_59 : decode cX1_doTo 59 = .ok (.aload_n 0, 1) := by decide +kernel
theorem dX1_doTo_60 : decode cX1_doTo 60 = .ok (.iconst 0, 1) := by decide +kernel
theorem dX1_doTo_61 : decode cX1_doTo 61 = .ok (.putfield 36, 3) := by decide +kernel
theorem dX1_doTo_64 : decode cX1_doTo 64 = .ok (.iload_n 3, 1) := by decide +kernel
theorem dX1_doTo_65 : decode cX1_doTo 65 = .ok (.ireturn, 1) := by decide +kernel
set_option maxRecDepth 20000 in
theorem ggX1_areMet_X4_rowOf : GoodIn wsX1_areMet wsX4_rowOf := goodIn_r _ [9, 10, 11, 12, 20, 21, 22, 23, 24] (by decide +kernel) (by decide +kernel)
set_option maxRecDepth 20000 in
theorem gX1_areMet_X4_rowOf : GoodIn wsX1_areMet (wsV RX1 64 RX4 yX4_rowOf wsX4_rowOf) := goodIn_app (goodIn_of _ (by decide +kernel)) ggX1_areMet_X4_rowOf
theorem dX1_areMet_0 : decode cX1_areMet 0 = .ok (.iconst 0, 1) := by decide +kernel
theorem dX1_areMet_1 : decode cX1_areMet 1 = .ok (.istore_n 2, 1) := by decide +kernel
theorem dX1_areMet_2 : decode cX1_areMet 2 = .ok (.iload_n 2, 1) := by decide +kernel
theorem dX1_areMet_3 : decode cX1_areMet 3 = .ok (.aload_n 0, 1) := by decide +kernel
theorem dX1_areMet_4 : decode cX1_areMet 4 = .ok (.getfield 36, 3) := by decide +kernel
theorem dX1_areMet_7 : decode cX1_areMet 7 = .ok (.if_icmp .ge 73, 3) := by decide +kernel
theorem dX1_areMet_10 : decode cX1_areMet 10 = .ok (.iload_n 2, 1) := by decide +kernel
theorem dX1_areMet_11 : decode cX1_areMet 11 = .ok (.aload_n 0, 1) := by decide +kernel
theorem dX1_areMet_12 : decode cX1_areMet 12 = .ok (.getfield 9, 3) := by decide +kernel
theorem dX1_areMet_15 : decode cX1_areMet 15 = .ok (.arraylength, 1) := by decide +kernel
theorem dX1_areMet_16 : decode cX1_areMet 16 = .ok (.if_icmp .ge 64, 3) := by decide +kernel
theorem dX1_areMet_19 : decode cX1_areMet 19 = .ok (.aload_n 1, 1) := by decide +kernel
theorem dX1_areMet_20 : decode cX1_areMet 20 = .ok (.aload_n 0, 1) := by decide +kernel
theorem dX1_areMet_21 : decode cX1_areMet 21 = .ok (.getfield 15, 3) := by decide +kernel
theorem dX1_areMet_24 : decode cX1_areMet 24 = .ok (.iload_n 2, 1) := by decide +kernel
theorem dX1_areMet_25 : decode cX1_areMet 25 = .ok (.iaload, 1) := by decide +kernel
theorem dX1_areMet_26 : decode cX1_areMet 26 = .ok (.aload_n 0, 1) := by decide +kernel
theorem dX1_areMet_27 : decode cX1_areMet 27 = .ok (.getfield 18, 3) := by decide +kernel
theorem dX1_areMet_30 : decode cX1_areMet 30 = .ok (.iload_n 2, 1) := by decide +kernel
theorem dX1_areMet_31 : decode cX1_areMet 31 = .ok (.iaload, 1) := by decide +kernel
theorem dX1_areMet_32 : decode cX1_areMet 32 = .ok (.invokevirtual 64, 3) := by decide +kernel
theorem dX1_areMet_35 : decode cX1_areMet 35 = .ok (.iconst (-1), 1) := by decide +kernel
theorem dX1_areMet_36 : decode cX1_areMet 36 = .ok (.if_icmp .eq 7, 3) := by decide +kernel
theorem dX1_areMet_39 : decode cX1_areMet 39 = .ok (.iconst 1, 1) := by decide +kernel
theorem dX1_areMet_40 : decode cX1_areMet 40 = .ok (.goto 4, 3) := by decide +kernel
theorem dX1_areMet_43 : decode cX1_areMet 43 = .ok (.iconst 0, 1) := by decide +kernel
theorem dX1_areMet_44 : decode cX1_areMet 44 = .ok (.istore_n 3, 1) := by decide +kernel
theorem dX1_areMet_45 : decode cX1_areMet 45 = .ok (.aload_n 0, 1) := by decide +kernel
theorem dX1_areMet_46 : decode cX1_areMet 46 = .ok (.getfield 9, 3) := by decide +kernel
theorem dX1_areMet_49 : decode cX1_areMet 49 = .ok (.iload_n 2, 1) := by decide +kernel
theorem dX1_areMet_50 : decode cX1_areMet 50 = .ok (.iaload, 1) := by decide +kernel
theorem dX1_areMet_51 : decode cX1_areMet 51 = .ok (.ifCond .ne 7, 3) := by decide +kernel
theorem dX1_areMet_54 : decode cX1_areMet 54 = .ok (.iload_n 3, 1) := by decide +kernel
theorem dX1_areMet_55 : decode cX1_areMet 55 = .ok (.ifCond .eq 17, 3) := by decide +kernel
theorem dX1_areMet_58 : decode cX1_areMet 58 = .ok (.aload_n 0, 1) := by decide +kernel
theorem dX1_areMet_59 : decode cX1_areMet 59 = .ok (.getfield 9, 3) := by decide +kernel
theorem dX1_areMet_62 : decode cX1_areMet 62 = .ok (.iload_n 2, 1) := by decide +kernel
theorem dX1_areMet_63 : decode cX1_areMet 63 = .ok (.iaload, 1) := by decide +kernel
theorem dX1_areMet_64 : decode cX1_areMet 64 = .ok (.iconst 1, 1) := by decide +kernel
theorem dX1_areMet_65 : decode cX1_areMet 65 = .ok (.if_icmp .ne 9, 3) := by decide +kernel
theorem dX1_areMet_68 : decode cX1_areMet 68 = .ok (.iload_n 3, 1) := by decide +kernel
theorem dX1_areMet_69 : decode cX1_areMet 69 = .ok (.ifCond .eq 5, 3) := by decide +kernel
theorem dX1_areMet_72 : decode cX1_areMet 72 = .ok (.iconst 0, 1) := by decide +kernel
theorem dX1_areMet_73 : decode cX1_areMet 73 = .ok (.ireturn, 1) := by decide +kernel
theorem dX1_areMet_74 : decode cX1_areMet 74 = .ok (.iinc 2 1, 3) := by decide +kernel
theorem dX1_areMet_77 : decode cX1_areMet 77 = .ok (.goto (-75), 3) := by decide +kernel
theorem dX1_areMet_80 : decode cX1_areMet 80 = .ok (.iconst 1, 1) := by decide +kernel
theorem dX1_areMet_81 : decode cX1_areMet 81 = .ok (.ireturn, 1) := by decide +kernel
set_option maxRecDepth 20000 in
theorem ggX1_areMade_X4_set : GoodIn wsX1_areMade wsX4_set := goodIn_r _ [12, 13, 14, 15, 16, 17, 18, 19, 20, 11, 21, 49, 50, 51, 52, 53] (by decide +kernel) (by decide +kernel)
set_option maxRecDepth 20000 in
theorem gX1_areMade_X4_set : GoodIn wsX1_areMade (wsV RX1 68 RX4 yX4_set wsX4_set) := goodIn_app (goodIn_of _ (by decide +kernel)) ggX1_areMade_X4_set
set_option maxRecDepth 20000 in
theorem ggX1_areMade_X4_remove : GoodIn wsX1_areMade wsX4_remove := goodIn_r _ [25, 14, 13, 15, 16, 17, 18, 19, 20, 11, 21, 26, 27, 28, 29, 30, 31, 32, 33, 34, 35, 36, 37, 38, 39, 40, 41, 49, 50, 51, 52, 53] (by decide +kernel) (by decide +kernel)
set_option maxRecDepth 20000 in
theorem gX1_areMade_X4_remove : GoodIn wsX1_areMade (wsV RX1 72 RX4 yX4_remove wsX4_remove) := goodIn_app (goodIn_of _ (by decide +kernel)) ggX1_areMade_X4_remove
theorem dX1_areMade_0 : decode cX1_areMade 0 = .ok (.iconst 0, 1) := by decide +kernel
theorem dX1_areMade_1 : decode cX1_areMade 1 = .ok (.istore_n 1, 1) := by decide +kernel
theorem dX1_areMade_2 : decode cX1_areMade 2 = .ok (.iload_n 1, 1) := by decide +kernel
theorem dX1_areMade_3 : decode cX1_areMade 3 = .ok (.aload_n 0, 1) := by decide +kernel
theorem dX1_areMade_4 : decode cX1_areMade 4 = .ok (.getfield 36, 3) := by decide +kernel
theorem dX1_areMade_7 : decode cX1_areMade 7 = .ok (.if_icmp .ge 93, 3) := by decide +kernel
theorem dX1_areMade_10 : decode cX1_areMade 10 = .ok (.iload_n 1, 1) := by decide +kernel
theorem dX1_areMade_11 : decode cX1_areMade 11 = .ok (.aload_n 0, 1) := by decide +kernel
theorem dX1_areMade_12 : decode cX1_areMade 12 = .ok (.getfield 9, 3) := by decide +kernel
theorem dX1_areMade_15 : decode cX1_areMade 15 = .ok (.arraylength, 1) := by decide +kernel
theorem dX1_areMade_16 : decode cX1_areMade 16 = .ok (.if_icmp .ge 84, 3) := by decide +kernel
theorem dX1_areMade_19 : decode cX1_areMade 19 = .ok (.aload_n 0, 1) := by decide +kernel
theorem dX1_areMade_20 : decode cX1_areMade 20 = .ok (.getfield 9, 3) := by decide +kernel
theorem dX1_areMade_23 : decode cX1_areMade 23 = .ok (.iload_n 1, 1) := by decide +kernel
theorem dX1_areMade_24 : decode cX1_areMade 24 = .ok (.iaload, 1) := by decide +kernel
theorem dX1_areMade_25 : decode cX1_areMade 25 = .ok (.iconst 2, 1) := by decide +kernel
theorem dX1_areMade_26 : decode cX1_areMade 26 = .ok (.if_icmp .ne 34, 3) := by decide +kernel
theorem dX1_areMade_29 : decode cX1_areMade 29 = .ok (.aload_n 0, 1) := by decide +kernel
theorem dX1_areMade_30 : decode cX1_areMade 30 = .ok (.getfield 32, 3) := by decide +kernel
theorem dX1_areMade_33 : decode cX1_areMade 33 = .ok (.aload_n 0, 1) := by decide +kernel
theorem dX1_areMade_34 : decode cX1_areMade 34 = .ok (.getfield 15, 3) := by decide +kernel
theorem dX1_areMade_37 : decode cX1_areMade 37 = .ok (.iload_n 1, 1) := by decide +kernel
theorem dX1_areMade_38 : decode cX1_areMade 38 = .ok (.iaload, 1) := by decide +kernel
theorem dX1_areMade_39 : decode cX1_areMade 39 = .ok (.aload_n 0, 1) := by decide +kernel
theorem dX1_areMade_40 : decode cX1_areMade 40 = .ok (.getfield 18, 3) := by decide +kernel
theorem dX1_areMade_43 : decode cX1_areMade 43 = .ok (.iload_n 1, 1) := by decide +kernel
theorem dX1_areMade_44 : decode cX1_areMade 44 = .ok (.iaload, 1) := by decide +kernel
theorem dX1_areMade_45 : decode cX1_areMade 45 = .ok (.aload_n 0, 1) := by decide +kernel
theorem dX1_areMade_46 : decode cX1_areMade 46 = .ok (.getfield 21, 3) := by decide +kernel
theorem dX1_areMade_49 : decode cX1_areMade 49 = .ok (.iload_n 1, 1) := by decide +kernel
theorem dX1_areMade_50 : decode cX1_areMade 50 = .ok (.iaload, 1) := by decide +kernel
theorem dX1_areMade_51 : decode cX1_areMade 51 = .ok (.aload_n 0, 1) := by decide +kernel
theorem dX1_areMade_52 : decode cX1_areMade 52 = .ok (.getfield 24, 3) := by decide +kernel
theorem dX1_areMade_55 : decode cX1_areMade 55 = .ok (.iload_n 1, 1) := by decide +kernel
theorem dX1_areMade_56 : decode cX1_areMade 56 = .ok (.iaload, 1) := by decide +kernel
theorem dX1_areMade_57 : decode cX1_areMade 57 = .ok (.invokevirtual 68, 3) := by decide +kernel
theorem dX1_areMade_60 : decode cX1_areMade 60 = .ok (.aload_n 0, 1) := by decide +kernel
theorem dX1_areMade_61 : decode cX1_areMade 61 = .ok (.getfield 9, 3) := by decide +kernel
theorem dX1_areMade_64 : decode cX1_areMade 64 = .ok (.iload_n 1, 1) := by decide +kernel
theorem dX1_areMade_65 : decode cX1_areMade 65 = .ok (.iaload, 1) := by decide +kernel
theorem dX1_areMade_66 : decode cX1_areMade 66 = .ok (.iconst 3, 1) := by decide +kernel
theorem dX1_areMade_67 : decode cX1_areMade 67 = .ok (.if_icmp .ne 27, 3) := by decide +kernel
theorem dX1_areMade_70 : decode cX1_areMade 70 = .ok (.aload_n 0, 1) := by decide +kernel
theorem dX1_areMade_71 : decode cX1_areMade 71 = .ok (.getfield 32, 3) := by decide +kernel
theorem dX1_areMade_74 : decode cX1_areMade 74 = .ok (.aload_n 0, 1) := by decide +kernel
theorem dX1_areMade_75 : decode cX1_areMade 75 = .ok (.getfield 15, 3) := by decide +kernel
theorem dX1_areMade_78 : decode cX1_areMade 78 = .ok (.iload_n 1, 1) := by decide +kernel
theorem dX1_areMade_79 : decode cX1_areMade 79 = .ok (.iaload, 1) := by decide +kernel
theorem dX1_areMade_80 : decode cX1_areMade 80 = .ok (.aload_n 0, 1) := by decide +kernel
theorem dX1_areMade_81 : decode cX1_areMade 81 = .ok (.getfield 18, 3) := by decide +kernel
theorem dX1_areMade_84 : decode cX1_areMade 84 = .ok (.iload_n 1, 1) := by decide +kernel
theorem dX1_areMade_85 : decode cX1_areMade 85 = .ok (.iaload, 1) := by decide +kernel
theorem dX1_areMade_86 : decode cX1_areMade 86 = .ok (.invokevirtual 72, 3) := by decide +kernel
theorem dX1_areMade_89 : decode cX1_areMade 89 = .ok (.ifCond .ne 5, 3) := by decide +kernel
theorem dX1_areMade_92 : decode cX1_areMade 92 = .ok (.iconst 0, 1) := by decide +kernel
theorem dX1_areMade_93 : decode cX1_areMade 93 = .ok (.ireturn, 1) := by decide +kernel
theorem dX1_areMade_94 : decode cX1_areMade 94 = .ok (.iinc 1 1, 3) := by decide +kernel
theorem dX1_areMade_97 : decode cX1_areMade 97 = .ok (.goto (-95), 3) := by decide +kernel
theorem dX1_areMade_100 : decode cX1_areMade 100 = .ok (.iconst 1, 1) := by decide +kernel
theorem dX1_areMade_101 : decode cX1_areMade 101 = .ok (.ireturn, 1) := by decide +kernel
theorem dX2_init_0 : decode cX2_init 0 = .ok (.aload_n 0, 1) := by decide +kernel
theorem dX2_init_1 : decode cX2_init 1 = .ok (.invokespecial 3, 3) := by decide +kernel
theorem dX2_init_4 : decode cX2_init 4 = .ok (.aload_n 0, 1) := by decide +kernel
theorem dX2_init_5 : decode cX2_init 5 = .ok (.bipush 40, 2) := by decide +kernel
theorem dX2_init_7 : decode cX2_init 7 = .ok (.newarray .int, 2) := by decide +kernel
theorem dX2_init_9 : decode cX2_init 9 = .ok (.putfield 9, 3) := by decide +kernel
theorem dX2_init_12 : decode cX2_init 12 = .ok (.aload_n 0, 1) := by decide +kernel
theorem dX2_init_13 : decode cX2_init 13 = .ok (.bipush 40, 2) := by decide +kernel
theorem dX2_init_15 : decode cX2_init 15 = .ok (.newarray .int, 2) := by decide +kernel
theorem dX2_init_17 : decode cX2_init 17 = .ok (.putfield 15, 3) := by decide +kernel
theorem dX2_init_20 : decode cX2_init 20 = .ok (.aload_n 0, 1) := by decide +kernel
theorem dX2_init_21 : decode cX2_init 21 = .ok (.bipush 40, 2) := by decide +kernel
theorem dX2_init_23 : decode cX2_init 23 = .ok (.newarray .int, 2) := by decide +kernel
theorem dX2_init_25 : decode cX2_init 25 = .ok (.putfield 18, 3) := by decide +kernel
theorem dX2_init_28 : decode cX2_init 28 = .ok (.aload_n 0, 1) := by decide +kernel
theorem dX2_init_29 : decode cX2_init 29 = .ok (.bipush 40, 2) := by decide +kernel
theorem dX2_init_31 : decode cX2_init 31 = .ok (.newarray .int, 2) := by decide +kernel
theorem dX2_init_33 : decode cX2_init 33 = .ok (.putfield 21, 3) := by decide +kernel
theorem dX2_init_36 : decode cX2_init 36 = .ok (.aload_n 0, 1) := by decide +kernel
theorem dX2_init_37 : decode cX2_init 37 = .ok (.bipush 40, 2) := by decide +kernel
theorem dX2_init_39 : decode cX2_init 39 = .ok (.newarray .int, 2) := by decide +kernel
theorem dX2_init_41 : decode cX2_init 41 = .ok (.putfield 24, 3) := by decide +kernel
theorem dX2_init_44 : decode cX2_init 44 = .ok (.aload_n 0, 1) := by decide +kernel
theorem dX2_init_45 : decode cX2_init 45 = .ok (.bipush 40, 2) := by decide +kernel
theorem dX2_init_47 : decode cX2_init 47 = .ok (.newarray .int, 2) := by decide +kernel
theorem dX2_init_49 : decode cX2_init 49 = .ok (.putfield 27, 3) := by decide +kernel
theorem dX2_init_52 : decode cX2_init 52 = .ok (.aload_n 0, 1) := by decide +kernel
theorem dX2_init_53 : decode cX2_init 53 = .ok (.bipush 40, 2) := by decide +kernel
theorem dX2_init_55 : decode cX2_init 55 = .ok (.newarray .int, 2) := by decide +kernel
theorem dX2_init_57 : decode cX2_init 57 = .ok (.putfield 30, 3) := by decide +kernel
theorem dX2_init_60 : decode cX2_init 60 = .ok (.aload_n 0, 1) := by decide +kernel
theorem dX2_init_61 : decode cX2_init 61 = .ok (.bipush 40, 2) := by decide +kernel
theorem dX2_init_63 : decode cX2_init 63 = .ok (.newarray .int, 2) := by decide +kernel
theorem dX2_init_65 : decode cX2_init 65 = .ok (.putfield 33, 3) := by decide +kernel
theorem dX2_init_68 : decode cX2_init 68 = .ok (.aload_n 0, 1) := by decide +kernel
theorem dX2_init_69 : decode cX2_init 69 = .ok (.bipush 6, 2) := by decide +kernel
theorem dX2_init_71 : decode cX2_init 71 = .ok (.newarray .int, 2) := by decide +kernel
theorem dX2_init_73 : decode cX2_init 73 = .ok (.putfield 36, 3) := by decide +kernel
theorem dX2_init_76 : decode cX2_init 76 = .ok (.return_, 1) := by decide +kernel
theorem dX2_isRow_0 : decode cX2_isRow 0 = .ok (.iload_n 1, 1) := by decide +kernel
theorem dX2_isRow_1 : decode cX2_isRow 1 = .ok (.ifCond .lt 24, 3) := by decide +kernel
theorem dX2_isRow_4 : decode cX2_isRow 4 = .ok (.iload_n 1, 1) := by decide +kernel
theorem dX2_isRow_5 : decode cX2_isRow 5 = .ok (.aload_n 0, 1) := by decide +kernel
theorem dX2_isRow_6 : decode cX2_isRow 6 = .ok (.getfield 39, 3) := by decide +kernel
theorem dX2_isRow_9 : decode cX2_isRow 9 = .ok (.if_icmp .ge 16, 3) := by decide +kernel
theorem dX2_isRow_12 : decode cX2_isRow 12 = .ok (.iload_n 1, 1) := by decide +kernel
theorem dX2_isRow_13 : decode cX2_isRow 13 = .ok (.aload_n 0, 1) := by decide +kernel
theorem dX2_isRow_14 : decode cX2_isRow 14 = .ok (.getfield 9, 3) := by decide +kernel
theorem dX2_isRow_17 : decode cX2_isRow 17 = .ok (.arraylength, 1) := by decide +kernel
theorem dX2_isRow_18 : decode cX2_isRow 18 = .ok (.if_icmp .ge 7, 3) := by decide +kernel
theorem dX2_isRow_21 : decode cX2_isRow 21 = .ok (.iconst 1, 1) := by decide +kernel
theorem dX2_isRow_22 : decode cX2_isRow 22 = .ok (.goto 4, 3) := by decide +kernel
theorem dX2_isRow_25 : decode cX2_isRow 25 = .ok (.iconst 0, 1) := by decide +kernel
theorem dX2_isRow_26 : decode cX2_isRow 26 = .ok (.ireturn, 1) := by decide +kernel
theorem dX2_rowOf_0 : decode cX2_rowOf 0 = .ok (.iconst 0, 1) := by decide +kernel
theorem dX2_rowOf_1 : decode cX2_rowOf 1 = .ok (.istore_n 3, 1) := by decide +kernel
theorem dX2_rowOf_2 : decode cX2_rowOf 2 = .ok (.iload_n 3, 1) := by decide +kernel
theorem dX2_rowOf_3 : decode cX2_rowOf 3 = .ok (.aload_n 0, 1) := by decide +kernel
theorem dX2_rowOf_4 : decode cX2_rowOf 4 = .ok (.getfield 39, 3) := by decide +kernel
theorem dX2_rowOf_7 : decode cX2_rowOf 7 = .ok (.if_icmp .ge 40, 3) := by decide +kernel
theorem dX2_rowOf_10 : decode cX2_rowOf 10 = .ok (.iload_n 3, 1) := by decide +kernel
theorem dX2_rowOf_11 : decode cX2_rowOf 11 = .ok (.aload_n 0, 1) := by decide +kernel
theorem dX2_rowOf_12 : decode cX2_rowOf 12 = .ok (.getfield 9, 3) := by decide +kernel
theorem dX2_rowOf_15 : decode cX2_rowOf 15 = .ok (.arraylength, 1) := by decide +kernel
theorem dX2_rowOf_16 : decode cX2_rowOf 16 = .ok (.if_icmp .ge 31, 3) := by decide +kernel
theorem dX2_rowOf_19 : decode cX2_rowOf 19 = .ok (.aload_n 0, 1) := by decide +kernel
theorem dX2_rowOf_20 : decode cX2_rowOf 20 = .ok (.getfield 9, 3) := by decide +kernel
theorem dX2_rowOf_23 : decode cX2_rowOf 23 = .ok (.iload_n 3, 1) := by decide +kernel
theorem dX2_rowOf_24 : decode cX2_rowOf 24 = .ok (.iaload, 1) := by decide +kernel
theorem dX2_rowOf_25 : decode cX2_rowOf 25 = .ok (.iload_n 1, 1) := by decide +kernel
theorem dX2_rowOf_26 : decode cX2_rowOf 26 = .ok (.if_icmp .ne 15, 3) := by decide +kernel
theorem dX2_rowOf_29 : decode cX2_rowOf 29 = .ok (.aload_n 0, 1) := by decide +kernel
theorem dX2_rowOf_30 : decode cX2_rowOf 30 = .ok (.getfield 15, 3) := by decide +kernel
theorem dX2_rowOf_33 : decode cX2_rowOf 33 = .ok (.iload_n 3, 1) := by decide +kernel
theorem dX2_rowOf_34 : decode cX2_rowOf 34 = .ok (.iaload, 1) := by decide +kernel
theorem dX2_rowOf_35 : decode cX2_rowOf 35 = .ok (.iload_n 2, 1) := by decide +kernel
theorem dX2_rowOf_36 : decode cX2_rowOf 36 = .ok (.if_icmp .ne 5, 3) := by decide +kernel
theorem dX2_rowOf_39 : decode cX2_rowOf 39 = .ok (.iload_n 3, 1) := by decide +kernel
theorem dX2_rowOf_40 : decode cX2_rowOf 40 = .ok (.ireturn, 1) := by decide +kernel
theorem dX2_rowOf_41 : decode cX2_rowOf 41 = .ok (.iinc 3 1, 3) := by decide +kernel
theorem dX2_rowOf_44 : decode cX2_rowOf 44 = .ok (.goto (-42), 3) := by decide +kernel
theorem dX2_rowOf_47 : decode cX2_rowOf 47 = .ok (.iconst (-1), 1) := by decide +kernel
theorem dX2_rowOf_48 : decode cX2_rowOf 48 = .ok (.ireturn, 1) := by decide +kernel
set_option maxRecDepth 20000 in
theorem ggX2_isHolding_X2_isRow : GoodIn wsX2_isHolding wsX2_isRow := goodIn_r _ [7, 8, 9, 10, 11, 12, 13, 14, 15, 16, 17, 18, 19, 20] (by decide +kernel) (by decide +kernel)
set_option maxRecDepth 20000 in
theorem gX2_isHolding_X2_isRow : GoodIn wsX2_isHolding (wsV RX2 43 RX2 yX2_isRow wsX2_isRow) := goodIn_app (goodIn_of _ (by decide +kernel)) ggX2_isHolding_X2_isRow
theorem dX2_isHolding_0 : decode cX2_isHolding 0 = .ok (.aload_n 0, 1) := by decide +kernel
theorem dX2_isHolding_1 : decode cX2_isHolding 1 = .ok (.iload_n 1, 1) := by decide +kernel
theorem dX2_isHolding_2 : decode cX2_isHolding 2 = .ok (.invokevirtual 43, 3) := by decide +kernel
theorem dX2_isHolding_5 : decode cX2_isHolding 5 = .ok (.ifCond .eq 24, 3) := by decide +kernel
theorem dX2_isHolding_8 : decode cX2_isHolding 8 = .ok (.iload_n 2, 1) := by decide +kernel
theorem dX2_isHolding_9 : decode cX2_isHolding 9 = .ok (.aload_n 0, 1) := by decide +kernel
theorem dX2_isHolding_10 : decode cX2_isHolding 10 = .ok (.getfield 30, 3) := by decide +kernel
theorem dX2_isHolding_13 : decode cX2_isHolding 13 = .ok (.iload_n 1, 1) := by decide +kernel
theorem dX2_isHolding_14 : decode cX2_isHolding 14 = .ok (.iaload, 1) := by decide +kernel
theorem dX2_isHolding_15 : decode cX2_isHolding 15 = .ok (.aload_n 0, 1) := by decide +kernel
theorem dX2_isHolding_16 : decode cX2_isHolding 16 = .ok (.getfield 27, 3) := by decide +kernel
theorem dX2_isHolding_19 : decode cX2_isHolding 19 = .ok (.iload_n 1, 1) := by decide +kernel
theorem dX2_isHolding_20 : decode cX2_isHolding 20 = .ok (.iaload, 1) := by decide +kernel
theorem dX2_isHolding_21 : decode cX2_isHolding 21 = .ok (.iadd, 1) := by decide +kernel
theorem dX2_isHolding_22 : decode cX2_isHolding 22 = .ok (.if_icmp .ge 7, 3) := by decide +kernel
theorem dX2_isHolding_25 : decode cX2_isHolding 25 = .ok (.iconst 1, 1) := by decide +kernel
theorem dX2_isHolding_26 : decode cX2_isHolding 26 = .ok (.goto 4, 3) := by decide +kernel
theorem dX2_isHolding_29 : decode cX2_isHolding 29 = .ok (.iconst 0, 1) := by decide +kernel
theorem dX2_isHolding_30 : decode cX2_isHolding 30 = .ok (.ireturn, 1) := by decide +kernel
set_option maxRecDepth 20000 in
theorem ggX2_isUsableAsOld_X2_isRow : GoodIn wsX2_isUsableAsOld wsX2_isRow := goodIn_r _ [6, 7, 8, 9, 10, 11, 12, 13, 14, 15, 16, 17, 18, 19] (by decide +kernel) (by decide +kernel)
set_option maxRecDepth 20000 in
theorem gX2_isUsableAsOld_X2_isRow : GoodIn wsX2_isUsableAsOld (wsV RX2 43 RX2 yX2_isRow wsX2_isRow) := goodIn_app (goodIn_of _ (by decide +kernel)) ggX2_isUsableAsOld_X2_isRow
theorem dX2_isUsableAsOld_0 : decode cX2_isUsableAsOld 0 = .ok (.aload_n 0, 1) := by decide +kernel
theorem dX2_isUsableAsOld_1 : decode cX2_isUsableAsOld 1 = .ok (.iload_n 1, 1) := by decide +kernel
theorem dX2_isUsableAsOld_2 : decode cX2_isUsableAsOld 2 = .ok (.invokevirtual 43, 3) := by decide +kernel
theorem dX2_isUsableAsOld_5 : decode cX2_isUsableAsOld 5 = .ok (.ifCond .eq 20, 3) := by decide +kernel
theorem dX2_isUsableAsOld_8 : decode cX2_isUsableAsOld 8 = .ok (.iload_n 2, 1) := by decide +kernel
theorem dX2_isUsableAsOld_9 : decode cX2_isUsableAsOld 9 = .ok (.aload_n 0, 1) := by decide +kernel
theorem dX2_isUsableAsOld_10 : decode cX2_isUsableAsOld 10 = .ok (.getfield 30, 3) := by decide +kernel
theorem dX2_isUsableAsOld_13 : decode cX2_isUsableAsOld 13 = .ok (.iload_n 1, 1) := by decide +kernel
theorem dX2_isUsableAsOld_14 : decode cX2_isUsableAsOld 14 = .ok (.iaload, 1) := by decide +kernel
theorem dX2_isUsableAsOld_15 : decode cX2_isUsableAsOld 15 = .ok (.isub, 1) := by decide +kernel
theorem dX2_isUsableAsOld_16 : decode cX2_isUsableAsOld 16 = .ok (.bipush 60, 2) := by decide +kernel
theorem dX2_isUsableAsOld_18 : decode cX2_isUsableAsOld 18 = .ok (.if_icmp .ge 7, 3) := by decide +kernel
theorem dX2_isUsableAsOld_21 : decode cX2_isUsableAsOld 21 = .ok (.iconst 1, 1) := by decide +kernel
theorem dX2_isUsableAsOld_22 : decode cX2_isUsableAsOld 22 = .ok (.goto 4, 3) := by decide +kernel
theorem dX2_isUsableAsOld_25 : decode cX2_isUsableAsOld 25 = .ok (.iconst 0, 1) := by decide +kernel
theorem dX2_isUsableAsOld_26 : decode cX2_isUsableAsOld 26 = .ok (.ireturn, 1) := by decide +kernel
set_option maxRecDepth 20000 in
theorem ggX2_read_X2_isRow : GoodIn wsX2_read wsX2_isRow := goodIn_r _ [10, 11, 12, 22, 23, 24, 25, 26, 27, 28, 29, 30, 31, 32] (by decide +kernel) (by decide +kernel)
set_option maxRecDepth 20000 in
theorem gX2_read_X2_isRow : GoodIn wsX2_read (wsV RX2 43 RX2 yX2_isRow wsX2_isRow) := goodIn_app (goodIn_of _ (by decide +kernel)) ggX2_read_X2_isRow
set_option maxRecDepth 20000 in
theorem ggX2_read_X0_tell : GoodIn wsX2_read wsX0_tell := goodIn_r _ [17, 18, 19, 20, 21, 33, 34, 35, 36, 37, 38, 39, 40] (by decide +kernel) (by decide +kernel)
set_option maxRecDepth 20000 in
theorem gX2_read_X0_tell : GoodIn wsX2_read (wsV RX2 47 RX0 yX0_tell wsX0_tell) := goodIn_app (goodIn_of _ (by decide +kernel)) ggX2_read_X0_tell
theorem dX2_read_0 : decode cX2_read 0 = .ok (.aload_n 0, 1) := by decide +kernel
theorem dX2_read_1 : decode cX2_read 1 = .ok (.iload_n 1, 1) := by decide +kernel
theorem dX2_read_2 : decode cX2_read 2 = .ok (.invokevirtual 43, 3) := by decide +kernel
theorem dX2_read_5 : decode cX2_read 5 = .ok (.ifCond .eq 40, 3) := by decide +kernel
theorem dX2_read_8 : decode cX2_read 8 = .ok (.aload_n 3, 1) := by decide +kernel
theorem dX2_read_9 : decode cX2_read 9 = .ok (.aload_n 0, 1) := by decide +kernel
theorem dX2_read_10 : decode cX2_read 10 = .ok (.getfield 18, 3) := by decide +kernel
theorem dX2_read_13 : decode cX2_read 13 = .ok (.iload_n 1, 1) := by decide +kernel
theorem dX2_read_14 : decode cX2_read 14 = .ok (.iaload, 1) := by decide +kernel
theorem dX2_read_15 : decode cX2_read 15 = .ok (.aload_n 0, 1) := by decide +kernel
theorem dX2_read_16 : decode cX2_read 16 = .ok (.getfield 21, 3) := by decide +kernel
theorem dX2_read_19 : decode cX2_read 19 = .ok (.iload_n 1, 1) := by decide +kernel
theorem dX2_read_20 : decode cX2_read 20 = .ok (.iaload, 1) := by decide +kernel
theorem dX2_read_21 : decode cX2_read 21 = .ok (.aload_n 0, 1) := by decide +kernel
theorem dX2_read_22 : decode cX2_read 22 = .ok (.getfield 24, 3) := by decide +kernel
theorem dX2_read_25 : decode cX2_read 25 = .ok (.iload_n 1, 1) := by decide +kernel
theorem dX2_read_26 : decode cX2_read 26 = .ok (.iaload, 1) := by decide +kernel
theorem dX2_read_27 : decode cX2_read 27 = .ok (.aload_n 0, 1) := by decide +kernel
theorem dX2_read_28 : decode cX2_read 28 = .ok (.getfield 30, 3) := by decide +kernel
theorem dX2_read_31 : decode cX2_read 31 = .ok (.iload_n 1, 1) := by decide +kernel
theorem dX2_read_32 : decode cX2_read 32 = .ok (.iaload, 1) := by decide +kernel
theorem dX2_read_33 : decode cX2_read 33 = .ok (.aload_n 0, 1) := by decide +kernel
theorem dX2_read_34 : decode cX2_read 34 = .ok (.getfield 27, 3) := by decide +kernel
theorem dX2_read_37 : decode cX2_read 37 = .ok (.iload_n 1, 1) := by decide +kernel
theorem dX2_read_38 : decode cX2_read 38 = .ok (.iaload, 1) := by decide +kernel
theorem dX2_read_39 : decode cX2_read 39 = .ok (.iadd, 1) := by decide +kernel
theorem dX2_read_40 : decode cX2_read 40 = .ok (.iload_n 2, 1) := by decide +kernel
theorem dX2_read_41 : decode cX2_read 41 = .ok (.isub, 1) := by decide +kernel
theorem dX2_read_42 : decode cX2_read 42 = .ok (.invokevirtual 47, 3) := by decide +kernel
theorem dX2_read_45 : decode cX2_read 45 = .ok (.return_, 1) := by decide +kernel
set_option maxRecDepth 20000 in
theorem ggX2_keepAnswer_X2_rowToKeepIn : GoodIn wsX2_keepAnswer wsX2_rowToKeepIn := goodIn_r _ [14, 15, 1, 9, 8, 16, 17, 18, 13, 19, 2, 24, 25, 26, 27, 28, 29, 30, 31, 32, 33, 34] (by decide +kernel) (by decide +kernel)
set_option maxRecDepth 20000 in
theorem gX2_keepAnswer_X2_rowToKeepIn : GoodIn wsX2_keepAnswer (wsV RX2 53 RX2 yX2_rowToKeepIn wsX2_rowToKeepIn) := goodIn_app (goodIn_of _ (by decide +kernel)) ggX2_keepAnswer_X2_rowToKeepIn
set_option maxRecDepth 20000 in
theorem ggX2_keepAnswer_X2_isRow : GoodIn wsX2_keepAnswer wsX2_isRow := goodIn_r _ [23, 15, 1, 24, 25, 26, 27, 28, 29, 30, 31, 32, 33, 34] (by decide +kernel) (by decide +kernel)
set_option maxRecDepth 20000 in
theorem gX2_keepAnswer_X2_isRow : GoodIn wsX2_keepAnswer (wsV RX2 43 RX2 yX2_isRow wsX2_isRow) := goodIn_app (goodIn_of _ (by decide +kernel)) ggX2_keepAnswer_X2_isRow
theorem dX2_keepAnswer_0 : decode cX2_keepAnswer 0 = .ok (.aload_n 0, 1) := by decide +kernel
theorem dX2_keepAnswer_1 : decode cX2_keepAnswer 1 = .ok (.iload_n 1, 1) := by decide +kernel
theorem dX2_keepAnswer_2 : decode cX2_keepAnswer 2 = .ok (.iload_n 2, 1) := by decide +kernel
theorem dX2_keepAnswer_3 : decode cX2_keepAnswer 3 = .ok (.invokevirtual 53, 3) := by decide +kernel
theorem dX2_keepAnswer_6 : decode cX2_keepAnswer 6 = .ok (.istore 5, 2) := by decide +kernel
theorem dX2_keepAnswer_8 : decode cX2_keepAnswer 8 = .ok (.aload_n 0, 1) := by decide +kernel
theorem dX2_keepAnswer_9 : decode cX2_keepAnswer 9 = .ok (.iload 5, 2) := by decide +kernel
theorem dX2_keepAnswer_11 : decode cX2_keepAnswer 11 = .ok (.invokevirtual 43, 3) := by decide +kernel
theorem dX2_keepAnswer_14 : decode cX2_keepAnswer 14 = .ok (.ifCond .eq 93, 3) := by decide +kernel
theorem dX2_keepAnswer_17 : decode cX2_keepAnswer 17 = .ok (.aload_n 0, 1) := by decide +kernel
theorem dX2_keepAnswer_18 : decode cX2_keepAnswer 18 = .ok (.getfield 9, 3) := by decide +kernel
theorem dX2_keepAnswer_21 : decode cX2_keepAnswer 21 = .ok (.iload 5, 2) := by decide +kernel
theorem dX2_keepAnswer_23 : decode cX2_keepAnswer 23 = .ok (.iload_n 1, 1) := by decide +kernel
theorem dX2_keepAnswer_24 : decode cX2_keepAnswer 24 = .ok (.iastore, 1) := by decide +kernel
theorem dX2_keepAnswer_25 : decode cX2_keepAnswer 25 = .ok (.aload_n 0, 1) := by decide +kernel
theorem dX2_keepAnswer_26 : decode cX2_keepAnswer 26 = .ok (.getfield 15, 3) := by decide +kernel
theorem dX2_keepAnswer_29 : decode cX2_keepAnswer 29 = .ok (.iload 5, 2) := by decide +kernel
theorem dX2_keepAnswer_31 : decode cX2_keepAnswer 31 = .ok (.iload_n 2, 1) := by decide +kernel
theorem dX2_keepAnswer_32 : decode cX2_keepAnswer 32 = .ok (.iastore, 1) := by decide +kernel
theorem dX2_keepAnswer_33 : decode cX2_keepAnswer 33 = .ok (.aload_n 0, 1) := by decide +kernel
theorem dX2_keepAnswer_34 : decode cX2_keepAnswer 34 = .ok (.getfield 18, 3) := by decide +kernel
theorem dX2_keepAnswer_37 : decode cX2_keepAnswer 37 = .ok (.iload 5, 2) := by decide +kernel
theorem dX2_keepAnswer_39 : decode cX2_keepAnswer 39 = .ok (.aload_n 3, 1) := by decide +kernel
theorem dX2_keepAnswer_40 : decode cX2_keepAnswer 40 = .ok (.getfield 57, 3) := by decide +kernel
theorem dX2_keepAnswer_43 : decode cX2_keepAnswer 43 = .ok (.iastore, 1) := by decide +kernel
theorem dX2_keepAnswer_44 : decode cX2_keepAnswer 44 = .ok (.aload_n 0, 1) := by decide +kernel
theorem dX2_keepAnswer_45 : decode cX2_keepAnswer 45 = .ok (.getfield 21, 3) := by decide +kernel
theorem dX2_keepAnswer_48 : decode cX2_keepAnswer 48 = .ok (.iload 5, 2) := by decide +kernel
theorem dX2_keepAnswer_50 : decode cX2_keepAnswer 50 = .ok (.aload_n 3, 1) := by decide +kernel
theorem dX2_keepAnswer_51 : decode cX2_keepAnswer 51 = .ok (.getfield 60, 3) := by decide +kernel
theorem dX2_keepAnswer_54 : decode cX2_keepAnswer 54 = .ok (.iastore, 1) := by decide +kernel
theorem dX2_keepAnswer_55 : decode cX2_keepAnswer 55 = .ok (.aload_n 0, 1) := by decide +kernel
theorem dX2_keepAnswer_56 : decode cX2_keepAnswer 56 = .ok (.getfield 24, 3) := by decide +kernel
theorem dX2_keepAnswer_59 : decode cX2_keepAnswer 59 = .ok (.iload 5, 2) := by decide +kernel
theorem dX2_keepAnswer_61 : decode cX2_keepAnswer 61 = .ok (.aload_n 3, 1) := by decide +kernel
theorem dX2_keepAnswer_62 : decode cX2_keepAnswer 62 = .ok (.getfield 63, 3) := by decide +kernel
theorem dX2_keepAnswer_65 : decode cX2_keepAnswer 65 = .ok (.iastore, 1) := by decide +kernel
theorem dX2_keepAnswer_66 : decode cX2_keepAnswer 66 = .ok (.aload_n 0, 1) := by decide +kernel
theorem dX2_keepAnswer_67 : decode cX2_keepAnswer 67 = .ok (.getfield 27, 3) := by decide +kernel
theorem dX2_keepAnswer_70 : decode cX2_keepAnswer 70 = .ok (.iload 5, 2) := by decide +kernel
theorem dX2_keepAnswer_72 : decode cX2_keepAnswer 72 = .ok (.aload_n 3, 1) := by decide +kernel
theorem dX2_keepAnswer_73 : decode cX2_keepAnswer 73 = .ok (.getfield 66, 3) := by decide +kernel
theorem dX2_keepAnswer_76 : decode cX2_keepAnswer 76 = .ok (.iastore, 1) := by decide +kernel
theorem dX2_keepAnswer_77 : decode cX2_keepAnswer 77 = .ok (.aload_n 0, 1) := by decide +kernel
theorem dX2_keepAnswer_78 : decode cX2_keepAnswer 78 = .ok (.getfield 30, 3) := by decide +kernel
theorem dX2_keepAnswer_81 : decode cX2_keepAnswer 81 = .ok (.iload 5, 2) := by decide +kernel
theorem dX2_keepAnswer_83 : decode cX2_keepAnswer 83 = .ok (.iload 4, 2) := by decide +kernel
theorem dX2_keepAnswer_85 : decode cX2_keepAnswer 85 = .ok (.iastore, 1) := by decide +kernel
theorem dX2_keepAnswer_86 : decode cX2_keepAnswer 86 = .ok (.aload_n 0, 1) := by decide +kernel
theorem dX2_keepAnswer_87 : decode cX2_keepAnswer 87 = .ok (.getfield 33, 3) := by decide +kernel
theorem dX2_keepAnswer_90 : decode cX2_keepAnswer 90 = .ok (.iload 5, 2) := by decide +kernel
theorem dX2_keepAnswer_92 : decode cX2_keepAnswer 92 = .ok (.aload_n 0, 1) := by decide +kernel
theorem dX2_keepAnswer_93 : decode cX2_keepAnswer 93 = .ok (.getfield 69, 3) := by decide +kernel
theorem dX2_keepAnswer_96 : decode cX2_keepAnswer 96 = .ok (.iastore, 1) := by decide +kernel
theorem dX2_keepAnswer_97 : decode cX2_keepAnswer 97 = .ok (.aload_n 0, 1) := by decide +kernel
theorem dX2_keepAnswer_98 : decode cX2_keepAnswer 98 = .ok (.dup, 1) := by decide +kernel
theorem dX2_keepAnswer_99 : decode cX2_keepAnswer 99 = .ok (.getfield 69, 3) := by decide +kernel
theorem dX2_keepAnswer_102 : decode cX2_keepAnswer 102 = .ok (.iconst 1, 1) := by decide +kernel
theorem dX2_keepAnswer_103 : decode cX2_keepAnswer 103 = .ok (.iadd, 1) := by decide +kernel
theorem dX2_keepAnswer_104 : decode cX2_keepAnswer 104 = .ok (.putfield 69, 3) := by decide +kernel
theorem dX2_keepAnswer_107 : decode cX2_keepAnswer 107 = .ok (.return_, 1) := by decide +kernel
set_option maxRecDepth 20000 in
theorem ggX2_rowToKeepIn_X2_rowOf : GoodIn wsX2_rowToKeepIn wsX2_rowOf := goodIn_r _ [9, 1, 2, 10, 11, 12, 13, 14, 15, 16, 17, 18, 19, 20, 21] (by decide +kernel) (by decide +kernel)
set_option maxRecDepth 20000 in
theorem gX2_rowToKeepIn_X2_rowOf : GoodIn wsX2_rowToKeepIn (wsV RX2 72 RX2 yX2_rowOf wsX2_rowOf) := goodIn_app (goodIn_of _ (by decide +kernel)) ggX2_rowToKeepIn_X2_rowOf
theorem dX2_rowToKeepIn_0 : decode cX2_rowToKeepIn 0 = .ok (.aload_n 0, 1) := by decide +kernel
theorem dX2_rowToKeepIn_1 : decode cX2_rowToKeepIn 1 = .ok (.iload_n 1, 1) := by decide +kernel
theorem dX2_rowToKeepIn_2 : decode cX2_rowToKeepIn 2 = .ok (.iload_n 2, 1) := by decide +kernel
theorem dX2_rowToKeepIn_3 : decode cX2_rowToKeepIn 3 = .ok (.invokevirtual 72, 3) := by decide +kernel
theorem dX2_rowToKeepIn_6 : decode cX2_rowToKeepIn 6 = .ok (.istore_n 3, 1) := by decide +kernel
theorem dX2_rowToKeepIn_7 : decode cX2_rowToKeepIn 7 = .ok (.iload_n 3, 1) := by decide +kernel
theorem dX2_rowToKeepIn_8 : decode cX2_rowToKeepIn 8 = .ok (.iconst (-1), 1) := by decide +kernel
theorem dX2_rowToKeepIn_9 : decode cX2_rowToKeepIn 9 = .ok (.if_icmp .eq 5, 3) := by decide +kernel
theorem dX2_rowToKeepIn_12 : decode cX2_rowToKeepIn 12 = .ok (.iload_n 3, 1) := by decide +kernel
theorem dX2_rowToKeepIn_13 : decode cX2_rowToKeepIn 13 = .ok (.ireturn, 1) := by decide +kernel
theorem dX2_rowToKeepIn_14 : decode cX2_rowToKeepIn 14 = .ok (.aload_n 0, 1) := by decide +kernel
theorem dX2_rowToKeepIn_15 : decode cX2_rowToKeepIn 15 = .ok (.getfield 39, 3) := by decide +kernel
theorem dX2_rowToKeepIn_18 : decode cX2_rowToKeepIn 18 = .ok (.aload_n 0, 1) := by decide +kernel
theorem dX2_rowToKeepIn_19 : decode cX2_rowToKeepIn 19 = .ok (.getfield 9, 3) := by decide +kernel
theorem dX2_rowToKeepIn_22 : decode cX2_rowToKeepIn 22 = .ok (.arraylength, 1) := by decide +kernel
theorem dX2_rowToKeepIn_23 : decode cX2_rowToKeepIn 23 = .ok (.if_icmp .ge 20, 3) := by decide +kernel
theorem dX2_rowToKeepIn_26 : decode cX2_rowToKeepIn 26 = .ok (.aload_n 0, 1) := by decide +kernel
theorem dX2_rowToKeepIn_27 : decode cX2_rowToKeepIn 27 = .ok (.dup, 1) := by decide +kernel
theorem dX2_rowToKeepIn_28 : decode cX2_rowToKeepIn 28 = .ok (.getfield 39, 3) := by decide +kernel
theorem dX2_rowToKeepIn_31 : decode cX2_rowToKeepIn 31 = .ok (.iconst 1, 1) := by decide +kernel
theorem dX2_rowToKeepIn_32 : decode cX2_rowToKeepIn 32 = .ok (.iadd, 1) := by decide +kernel
theorem dX2_rowToKeepIn_33 : decode cX2_rowToKeepIn 33 = .ok (.putfield 39, 3) := by decide +kernel
theorem dX2_rowToKeepIn_36 : decode cX2_rowToKeepIn 36 = .ok (.aload_n 0, 1) := by decide +kernel
theorem dX2_rowToKeepIn_37 : decode cX2_rowToKeepIn 37 = .ok (.getfield 39, 3) := by decide +kernel
theorem dX2_rowToKeepIn_40 : decode cX2_rowToKeepIn 40 = .ok (.iconst 1, 1) := by decide +kernel
theorem dX2_rowToKeepIn_41 : decode cX2_rowToKeepIn 41 = .ok (.isub, 1) := by decide +kernel
theorem dX2_rowToKeepIn_42 : decode cX2_rowToKeepIn 42 = .ok (.ireturn, 1) := by decide +kernel
theorem dX2_rowToKeepIn_43 : decode cX2_rowToKeepIn 43 = .ok (.iconst (-1), 1) := by decide +kernel
theorem dX2_rowToKeepIn_44 : decode cX2_rowToKeepIn 44 = .ok (.istore 4, 2) := by decide +kernel
theorem dX2_rowToKeepIn_46 : decode cX2_rowToKeepIn 46 = .ok (.aload_n 0, 1) := by decide +kernel
theorem dX2_rowToKeepIn_47 : decode cX2_rowToKeepIn 47 = .ok (.getfield 69, 3) := by decide +kernel
theorem dX2_rowToKeepIn_50 : decode cX2_rowToKeepIn 50 = .ok (.istore 5, 2) := by decide +kernel
theorem dX2_rowToKeepIn_52 : decode cX2_rowToKeepIn 52 = .ok (.iconst 0, 1) := by decide +kernel
theorem dX2_rowToKeepIn_53 : decode cX2_rowToKeepIn 53 = .ok (.istore 6, 2) := by decide +kernel
theorem dX2_rowToKeepIn_55 : decode cX2_rowToKeepIn 55 = .ok (.iload 6, 2) := by decide +kernel
theorem dX2_rowToKeepIn_57 : decode cX2_rowToKeepIn 57 = .ok (.aload_n 0, 1) := by decide +kernel
theorem dX2_rowToKeepIn_58 : decode cX2_rowToKeepIn 58 = .ok (.getfield 39, 3) := by decide +kernel
theorem dX2_rowToKeepIn_61 : decode cX2_rowToKeepIn 61 = .ok (.if_icmp .ge 44, 3) := by decide +kernel
theorem dX2_rowToKeepIn_64 : decode cX2_rowToKeepIn 64 = .ok (.iload 6, 2) := by decide +kernel
theorem dX2_rowToKeepIn_66 : decode cX2_rowToKeepIn 66 = .ok (.aload_n 0, 1) := by decide +kernel
theorem dX2_rowToKeepIn_67 : decode cX2_rowToKeepIn 67 = .ok (.getfield 33, 3) := by decide +kernel
theorem dX2_rowToKeepIn_70 : decode cX2_rowToKeepIn 70 = .ok (.arraylength, 1) := by decide +kernel
theorem dX2_rowToKeepIn_71 : decode cX2_rowToKeepIn 71 = .ok (.if_icmp .ge 34, 3) := by decide +kernel
theorem dX2_rowToKeepIn_74 : decode cX2_rowToKeepIn 74 = .ok (.aload_n 0, 1) := by decide +kernel
theorem dX2_rowToKeepIn_75 : decode cX2_rowToKeepIn 75 = .ok (.getfield 33, 3) := by decide +kernel
theorem dX2_rowToKeepIn_78 : decode cX2_rowToKeepIn 78 = .ok (.iload 6, 2) := by decide +kernel
theorem dX2_rowToKeepIn_80 : decode cX2_rowToKeepIn 80 = .ok (.iaload, 1) := by decide +kernel
theorem dX2_rowToKeepIn_81 : decode cX2_rowToKeepIn 81 = .ok (.iload 5, 2) := by decide +kernel
theorem dX2_rowToKeepIn_83 : decode cX2_rowToKeepIn 83 = .ok (.if_icmp .ge 16, 3) := by decide +kernel
theorem dX2_rowToKeepIn_86 : decode cX2_rowToKeepIn 86 = .ok (.iload 6, 2) := by decide +kernel
theorem dX2_rowToKeepIn_88 : decode cX2_rowToKeepIn 88 = .ok (.istore 4, 2) := by decide +kernel
theorem dX2_rowToKeepIn_90 : decode cX2_rowToKeepIn 90 = .ok (.aload_n 0, 1) := by decide +kernel
theorem dX2_rowToKeepIn_91 : decode cX2_rowToKeepIn 91 = .ok (.getfield 33, 3) := by decide +kernel
theorem dX2_rowToKeepIn_94 : decode cX2_rowToKeepIn 94 = .ok (.iload 6, 2) := by decide +kernel
theorem dX2_rowToKeepIn_96 : decode cX2_rowToKeepIn 96 = .ok (.iaload, 1) := by decide +kernel
theorem dX2_rowToKeepIn_97 : decode cX2_rowToKeepIn 97 = .ok (.istore 5, 2) := by decide +kernel
theorem dX2_rowToKeepIn_99 : decode cX2_rowToKeepIn 99 = .ok (.iinc 6 1, 3) := by decide +kernel
theorem dX2_rowToKeepIn_102 : decode cX2_rowToKeepIn 102 = .ok (.goto (-47), 3) := by decide +kernel
theorem dX2_rowToKeepIn_105 : decode cX2_rowToKeepIn 105 = .ok (.iload 4, 2) := by decide +kernel
theorem dX2_rowToKeepIn_107 : decode cX2_rowToKeepIn 107 = .ok (.ireturn, 1) := by decide +kernel
theorem dX2_keepZone_0 : decode cX2_keepZone 0 = .ok (.iload_n 1, 1) := by decide +kernel
theorem dX2_keepZone_1 : decode cX2_keepZone 1 = .ok (.ifCond .lt 21, 3) := by decide +kernel
theorem dX2_keepZone_4 : decode cX2_keepZone 4 = .ok (.iload_n 1, 1) := by decide +kernel
theorem dX2_keepZone_5 : decode cX2_keepZone 5 = .ok (.aload_n 0, 1) := by decide +kernel
theorem dX2_keepZone_6 : decode cX2_keepZone 6 = .ok (.getfield 36, 3) := by decide +kernel
theorem dX2_keepZone_9 : decode cX2_keepZone 9 = .ok (.arraylength, 1) := by decide +kernel
theorem dX2_keepZone_10 : decode cX2_keepZone 10 = .ok (.if_icmp .ge 12, 3) := by decide +kernel
theorem dX2_keepZone_13 : decode cX2_keepZone 13 = .ok (.aload_n 0, 1) := by decide +kernel
theorem dX2_keepZone_14 : decode cX2_keepZone 14 = .ok (.getfield 36, 3) := by decide +kernel
theorem dX2_keepZone_17 : decode cX2_keepZone 17 = .ok (.iload_n 1, 1) := by decide +kernel
theorem dX2_keepZone_18 : decode cX2_keepZone 18 = .ok (.iload_n 3, 1) := by decide +kernel
theorem dX2_keepZone_19 : decode cX2_keepZone 19 = .ok (.iload_n 2, 1) := by decide +kernel
theorem dX2_keepZone_20 : decode cX2_keepZone 20 = .ok (.iadd, 1) := by decide +kernel
theorem dX2_keepZone_21 : decode cX2_keepZone 21 = .ok (.iastore, 1) := by decide +kernel
theorem dX2_keepZone_22 : decode cX2_keepZone 22 = .ok (.return_, 1) := by decide +kernel
theorem dX2_isZoneHolding_0 : decode cX2_isZoneHolding 0 = .ok (.iload_n 1, 1) := by decide +kernel
theorem dX2_isZoneHolding_1 : decode cX2_isZoneHolding 1 = .ok (.ifCond .lt 26, 3) := by decide +kernel
theorem dX2_isZoneHolding_4 : decode cX2_isZoneHolding 4 = .ok (.iload_n 1, 1) := by decide +kernel
theorem dX2_isZoneHolding_5 : decode cX2_isZoneHolding 5 = .ok (.aload_n 0, 1) := by decide +kernel
theorem dX2_isZoneHolding_6 : decode cX2_isZoneHolding 6 = .ok (.getfield 36, 3) := by decide +kernel
theorem dX2_isZoneHolding_9 : decode cX2_isZoneHolding 9 = .ok (.arraylength, 1) := by decide +kernel
theorem dX2_isZoneHolding_10 : decode cX2_isZoneHolding 10 = .ok (.if_icmp .ge 17, 3) := by decide +kernel
theorem dX2_isZoneHolding_13 : decode cX2_isZoneHolding 13 = .ok (.iload_n 2, 1) := by decide +kernel
theorem dX2_isZoneHolding_14 : decode cX2_isZoneHolding 14 = .ok (.aload_n 0, 1) := by decide +kernel
theorem dX2_isZoneHolding_15 : decode cX2_isZoneHolding 15 = .ok (.getfield 36, 3) := by decide +kernel
theorem dX2_isZoneHolding_18 : decode cX2_isZoneHolding 18 = .ok (.iload_n 1, 1) := by decide +kernel
theorem dX2_isZoneHolding_19 : decode cX2_isZoneHolding 19 = .ok (.iaload, 1) := by decide +kernel
theorem dX2_isZoneHolding_20 : decode cX2_isZoneHolding 20 = .ok (.if_icmp .ge 7, 3) := by decide +kernel
theorem dX2_isZoneHolding_23 : decode cX2_isZoneHolding 23 = .ok (.iconst 1, 1) := by decide +kernel
theorem dX2_isZoneHolding_24 : decode cX2_isZoneHolding 24 = .ok (.goto 4, 3) := by decide +kernel
theorem dX2_isZoneHolding_27 : decode cX2_isZoneHolding 27 = .ok (.iconst 0, 1) := by decide +kernel
theorem dX2_isZoneHolding_28 : decode cX2_isZoneHolding 28 = .ok (.ireturn, 1) := by decide +kernel
set_option maxRecDepth 20000 in
theorem ggX2_clear_X2_isHolding : GoodIn wsX2_clear wsX2_isHolding := goodIn_r _ [7, 8, 9, 10, 11, 12, 6, 13, 1, 14, 15, 16, 17, 18, 19, 20, 21, 22, 23, 24, 25] (by decide +kernel) (by decide +kernel)
set_option maxRecDepth 20000 in
theorem gX2_clear_X2_isHolding : GoodIn wsX2_clear (wsV RX2 75 RX2 yX2_isHolding wsX2_isHolding) := goodIn_app (goodIn_of _ (by decide +kernel)) ggX2_clear_X2_isHolding
theorem dX2_clear_0 : decode cX2_clear 0 = .ok (.iconst 0, 1) := by decide +kernel
theorem dX2_clear_1 : decode cX2_clear 1 = .ok (.istore_n 2, 1) := by decide +kernel
theorem dX2_clear_2 : decode cX2_clear 2 = .ok (.iconst 0, 1) := by decide +kernel
theorem dX2_clear_3 : decode cX2_clear 3 = .ok (.istore_n 3, 1) := by decide +kernel
theorem dX2_clear_4 : decode cX2_clear 4 = .ok (.iload_n 3, 1) := by decide +kernel
theorem dX2_clear_5 : decode cX2_clear 5 = .ok (.aload_n 0, 1) := by decide +kernel
theorem dX2_clear_6 : decode cX2_clear 6 = .ok (.getfield 39, 3) := by decide +kernel
theorem dX2_clear_9 : decode cX2_clear 9 = .ok (.if_icmp .ge 21, 3) := by decide +kernel
theorem dX2_clear_12 : decode cX2_clear 12 = .ok (.aload_n 0, 1) := by decide +kernel
theorem dX2_clear_13 : decode cX2_clear 13 = .ok (.iload_n 3, 1) := by decide +kernel
theorem dX2_clear_14 : decode cX2_clear 14 = .ok (.iload_n 1, 1) := by decide +kernel
theorem dX2_clear_15 : decode cX2_clear 15 = .ok (.invokevirtual 75, 3) := by decide +kernel
theorem dX2_clear_18 : decode cX2_clear 18 = .ok (.ifCond .eq 6, 3) := by decide +kernel
theorem dX2_clear_21 : decode cX2_clear 21 = .ok (.iinc 2 1, 3) := by decide +kernel
theorem dX2_clear_24 : decode cX2_clear 24 = .ok (.iinc 3 1, 3) := by decide +kernel
theorem dX2_clear_27 : decode cX2_clear 27 = .ok (.goto (-23), 3) := by decide +kernel
theorem dX2_clear_30 : decode cX2_clear 30 = .ok (.aload_n 0, 1) := by decide +kernel
theorem dX2_clear_31 : decode cX2_clear 31 = .ok (.iconst 0, 1) := by decide +kernel
theorem dX2_clear_32 : decode cX2_clear 32 = .ok (.putfield 39, 3) := by decide +kernel
theorem dX2_clear_35 : decode cX2_clear 35 = .ok (.iconst 0, 1) := by decide +kernel
theorem dX2_clear_36 : decode cX2_clear 36 = .ok (.istore_n 3, 1) := by decide +kernel
theorem dX2_clear_37 : decode cX2_clear 37 = .ok (.iload_n 3, 1) := by decide +kernel
theorem dX2_clear_38 : decode cX2_clear 38 = .ok (.aload_n 0, 1) := by decide +kernel
theorem dX2_clear_39 : decode cX2_clear 39 = .ok (.getfield 36, 3) := by decide +kernel
theorem dX2_clear_42 : decode cX2_clear 42 = .ok (.arraylength, 1) := by decide +kernel
theorem dX2_clear_43 : decode cX2_clear 43 = .ok (.if_icmp .ge 16, 3) := by decide +kernel
theorem dX2_clear_46 : decode cX2_clear 46 = .ok (.aload_n 0, 1) := by decide +kernel
theorem dX2_clear_47 : decode cX2_clear 47 = .ok (.getfield 36, 3) := by decide +kernel
theorem dX2_clear_50 : decode cX2_clear 50 = .ok (.iload_n 3, 1) := by decide +kernel
theorem dX2_clear_51 : decode cX2_clear 51 = .ok (.iconst 0, 1) := by decide +kernel
theorem dX2_clear_52 : decode cX2_clear 52 = .ok (.iastore, 1) := by decide +kernel
theorem dX2_clear_53 : decode cX2_clear 53 = .ok (.iinc 3 1, 3) := by decide +kernel
theorem dX2_clear_56 : decode cX2_clear 56 = .ok (.goto (-19), 3) := by decide +kernel
theorem dX2_clear_59 : decode cX2_clear 59 = .ok (.iload_n 2, 1) := by decide +kernel
theorem dX2_clear_60 : decode cX2_clear 60 = .ok (.ireturn, 1) := by decide +kernel
theorem dX3_isName_0 : decode cX3_isName 0 = .ok (.iload_n 0, 1) := by decide +kernel
theorem dX3_isName_1 : decode cX3_isName 1 = .ok (.ifCond .lt 10, 3) := by decide +kernel
theorem dX3_isName_4 : decode cX3_isName 4 = .ok (.iload_n 0, 1) := by decide +kernel
theorem dX3_isName_5 : decode cX3_isName 5 = .ok (.sipush 9999, 3) := by decide +kernel
theorem dX3_isName_8 : decode cX3_isName 8 = .ok (.if_icmp .le 5, 3) := by decide +kernel
theorem dX3_isName_11 : decode cX3_isName 11 = .ok (.iconst 0, 1) := by decide +kernel
theorem dX3_isName_12 : decode cX3_isName 12 = .ok (.ireturn, 1) := by decide +kernel
theorem dX3_isName_13 : decode cX3_isName 13 = .ok (.iload_n 0, 1) := by decide +kernel
theorem dX3_isName_14 : decode cX3_isName 14 = .ok (.istore_n 1, 1) := by decide +kernel
theorem dX3_isName_15 : decode cX3_isName 15 = .ok (.iconst 0, 1) := by decide +kernel
theorem dX3_isName_16 : decode cX3_isName 16 = .ok (.istore_n 2, 1) := by decide +kernel
theorem dX3_isName_17 : decode cX3_isName 17 = .ok (.iload_n 2, 1) := by decide +kernel
theorem dX3_isName_18 : decode cX3_isName 18 = .ok (.iconst 4, 1) := by decide +kernel
theorem dX3_isName_19 : decode cX3_isName 19 = .ok (.if_icmp .ge 27, 3) := by decide +kernel
theorem dX3_isName_22 : decode cX3_isName 22 = .ok (.iload_n 1, 1) := by decide +kernel
theorem dX3_isName_23 : decode cX3_isName 23 = .ok (.ifCond .le 23, 3) := by decide +kernel
theorem dX3_isName_26 : decode cX3_isName 26 = .ok (.iload_n 1, 1) := by decide +kernel
theorem dX3_isName_27 : decode cX3_isName 27 = .ok (.bipush 10, 2) := by decide +kernel
theorem dX3_isName_29 : decode cX3_isName 29 = .ok (.irem, 1) := by decide +kernel
theorem dX3_isName_30 : decode cX3_isName 30 = .ok (.ifCond .ne 5, 3) := by decide +kernel
theorem dX3_isName_33 : decode cX3_isName 33 = .ok (.iconst 0, 1) := by decide +kernel
theorem dX3_isName_34 : decode cX3_isName 34 = .ok (.ireturn, 1) := by decide +kernel
theorem dX3_isName_35 : decode cX3_isName 35 = .ok (.iload_n 1, 1) := by decide +kernel
theorem dX3_isName_36 : decode cX3_isName 36 = .ok (.bipush 10, 2) := by decide +kernel
theorem dX3_isName_38 : decode cX3_isName 38 = .ok (.idiv, 1) := by decide +kernel
theorem dX3_isName_39 : decode cX3_isName 39 = .ok (.istore_n 1, 1) := by decide +kernel
theorem dX3_isName_40 : decode cX3_isName 40 = .ok (.iinc 2 1, 3) := by decide +kernel
theorem dX3_isName_43 : decode cX3_isName 43 = .ok (.goto (-26), 3) := by decide +kernel
theorem dX3_isName_46 : decode cX3_isName 46 = .ok (.iconst 1, 1) := by decide +kernel
theorem dX3_isName_47 : decode cX3_isName 47 = .ok (.ireturn, 1) := by decide +kernel
set_option maxRecDepth 20000 in
theorem ggX3_isStar_X3_isName : GoodIn wsX3_isStar wsX3_isName := goodIn_r _ [4] (by decide +kernel) (by decide +kernel)
set_option maxRecDepth 20000 in
theorem gX3_isStar_X3_isName : GoodIn wsX3_isStar (va_wsS RX3 9 yX3_isName wsX3_isName) := goodIn_app (goodIn_of _ (by decide +kernel)) ggX3_isStar_X3_isName
theorem dX3_isStar_0 : decode cX3_isStar 0 = .ok (.iload_n 0, 1) := by decide +kernel
theorem dX3_isStar_1 : decode cX3_isStar 1 = .ok (.bipush 10, 2) := by decide +kernel
theorem dX3_isStar_3 : decode cX3_isStar 3 = .ok (.if_icmp .lt 31, 3) := by decide +kernel
theorem dX3_isStar_6 : decode cX3_isStar 6 = .ok (.iload_n 0, 1) := by decide +kernel
theorem dX3_isStar_7 : decode cX3_isStar 7 = .ok (.bipush 10, 2) := by decide +kernel
theorem dX3_isStar_9 : decode cX3_isStar 9 = .ok (.irem, 1) := by decide +kernel
theorem dX3_isStar_10 : decode cX3_isStar 10 = .ok (.ifCond .ne 24, 3) := by decide +kernel
theorem dX3_isStar_13 : decode cX3_isStar 13 = .ok (.iload_n 0, 1) := by decide +kernel
theorem dX3_isStar_14 : decode cX3_isStar 14 = .ok (.bipush 10, 2) := by decide +kernel
theorem dX3_isStar_16 : decode cX3_isStar 16 = .ok (.idiv, 1) := by decide +kernel
theorem dX3_isStar_17 : decode cX3_isStar 17 = .ok (.invokestatic 9, 3) := by decide +kernel
theorem dX3_isStar_20 : decode cX3_isStar 20 = .ok (.ifCond .eq 14, 3) := by decide +kernel
theorem dX3_isStar_23 : decode cX3_isStar 23 = .ok (.iload_n 0, 1) := by decide +kernel
theorem dX3_isStar_24 : decode cX3_isStar 24 = .ok (.sipush 9990, 3) := by decide +kernel
theorem dX3_isStar_27 : decode cX3_isStar 27 = .ok (.if_icmp .gt 7, 3) := by decide +kernel
theorem dX3_isStar_30 : decode cX3_isStar 30 = .ok (.iconst 1, 1) := by decide +kernel
theorem dX3_isStar_31 : decode cX3_isStar 31 = .ok (.goto 4, 3) := by decide +kernel
theorem dX3_isStar_34 : decode cX3_isStar 34 = .ok (.iconst 0, 1) := by decide +kernel
theorem dX3_isStar_35 : decode cX3_isStar 35 = .ok (.ireturn, 1) := by decide +kernel
set_option maxRecDepth 20000 in
theorem ggX3_isPlace_X3_isName : GoodIn wsX3_isPlace wsX3_isName := goodIn_r _ [4] (by decide +kernel) (by decide +kernel)
set_option maxRecDepth 20000 in
theorem gX3_isPlace_X3_isName : GoodIn wsX3_isPlace (va_wsS RX3 9 yX3_isName wsX3_isName) := goodIn_app (goodIn_of _ (by decide +kernel)) ggX3_isPlace_X3_isName
set_option maxRecDepth 20000 in
theorem ggX3_isPlace_X3_isStar : GoodIn wsX3_isPlace wsX3_isStar := goodIn_r _ [7, 1, 2, 3, 4] (by decide +kernel) (by decide +kernel)
set_option maxRecDepth 20000 in
theorem gX3_isPlace_X3_isStar : GoodIn wsX3_isPlace (va_wsS RX3 15 yX3_isStar wsX3_isStar) := goodIn_app (goodIn_of _ (by decide +kernel)) ggX3_isPlace_X3_isStar
theorem dX3_isPlace_0 : decode cX3_isPlace 0 = .ok (.iload_n 0, 1) := by decide +kernel
theorem dX3_isPlace_1 : decode cX3_isPlace 1 = .ok (.invokestatic 9, 3) := by decide +kernel
theorem dX3_isPlace_4 : decode cX3_isPlace 4 = .ok (.ifCond .ne 10, 3) := by decide +kernel
theorem dX3_isPlace_7 : decode cX3_isPlace 7 = .ok (.iload_n 0, 1) := by decide +kernel
theorem dX3_isPlace_8 : decode cX3_isPlace 8 = .ok (.invokestatic 15, 3) := by decide +kernel
theorem dX3_isPlace_11 : decode cX3_isPlace 11 = .ok (.ifCond .eq 7, 3) := by decide +kernel
theorem dX3_isPlace_14 : decode cX3_isPlace 14 = .ok (.iconst 1, 1) := by decide +kernel
theorem dX3_isPlace_15 : decode cX3_isPlace 15 = .ok (.goto 4, 3) := by decide +kernel
theorem dX3_isPlace_18 : decode cX3_isPlace 18 = .ok (.iconst 0, 1) := by decide +kernel
theorem dX3_isPlace_19 : decode cX3_isPlace 19 = .ok (.ireturn, 1) := by decide +kernel
theorem dX3_nameOf_0 : decode cX3_nameOf 0 = .ok (.iload_n 0, 1) := by decide +kernel
theorem dX3_nameOf_1 : decode cX3_nameOf 1 = .ok (.bipush 10, 2) := by decide +kernel
theorem dX3_nameOf_3 : decode cX3_nameOf 3 = .ok (.irem, 1) := by decide +kernel
theorem dX3_nameOf_4 : decode cX3_nameOf 4 = .ok (.ifCond .ne 10, 3) := by decide +kernel
theorem dX3_nameOf_7 : decode cX3_nameOf 7 = .ok (.iload_n 0, 1) := by decide +kernel
theorem dX3_nameOf_8 : decode cX3_nameOf 8 = .ok (.bipush 10, 2) := by decide +kernel
theorem dX3_nameOf_10 : decode cX3_nameOf 10 = .ok (.idiv, 1) := by decide +kernel
theorem dX3_nameOf_11 : decode cX3_nameOf 11 = .ok (.goto 4, 3) := by decide +kernel
theorem dX3_nameOf_14 : decode cX3_nameOf 14 = .ok (.iload_n 0, 1) := by decide +kernel
theorem dX3_nameOf_15 : decode cX3_nameOf 15 = .ok (.ireturn, 1) := by decide +kernel
theorem dX3_isUnder_0 : decode cX3_isUnder 0 = .ok (.iload_n 0, 1) := by decide +kernel
theorem dX3_isUnder_1 : decode cX3_isUnder 1 = .ok (.istore_n 2, 1) := by decide +kernel
theorem dX3_isUnder_2 : decode cX3_isUnder 2 = .ok (.iconst 0, 1) := by decide +kernel
theorem dX3_isUnder_3 : decode cX3_isUnder 3 = .ok (.istore_n 3, 1) := by decide +kernel
theorem dX3_isUnder_4 : decode cX3_isUnder 4 = .ok (.iload_n 3, 1) := by decide +kernel
theorem dX3_isUnder_5 : decode cX3_isUnder 5 = .ok (.iconst 4, 1) := by decide +kernel
theorem dX3_isUnder_6 : decode cX3_isUnder 6 = .ok (.if_icmp .ge 19, 3) := by decide +kernel
theorem dX3_isUnder_9 : decode cX3_isUnder 9 = .ok (.iload_n 2, 1) := by decide +kernel
theorem dX3_isUnder_10 : decode cX3_isUnder 10 = .ok (.iload_n 1, 1) := by decide +kernel
theorem dX3_isUnder_11 : decode cX3_isUnder 11 = .ok (.if_icmp .le 14, 3) := by decide +kernel
theorem dX3_isUnder_14 : decode cX3_isUnder 14 = .ok (.iload_n 2, 1) := by decide +kernel
theorem dX3_isUnder_15 : decode cX3_isUnder 15 = .ok (.bipush 10, 2) := by decide +kernel
theorem dX3_isUnder_17 : decode cX3_isUnder 17 = .ok (.idiv, 1) := by decide +kernel
theorem dX3_isUnder_18 : decode cX3_isUnder 18 = .ok (.istore_n 2, 1) := by decide +kernel
theorem dX3_isUnder_19 : decode cX3_isUnder 19 = .ok (.iinc 3 1, 3) := by decide +kernel
theorem dX3_isUnder_22 : decode cX3_isUnder 22 = .ok (.goto (-18), 3) := by decide +kernel
theorem dX3_isUnder_25 : decode cX3_isUnder 25 = .ok (.iload_n 2, 1) := by decide +kernel
theorem dX3_isUnder_26 : decode cX3_isUnder 26 = .ok (.iload_n 1, 1) := by decide +kernel
theorem dX3_isUnder_27 : decode cX3_isUnder 27 = .ok (.if_icmp .ne 7, 3) := by decide +kernel
theorem dX3_isUnder_30 : decode cX3_isUnder 30 = .ok (.iconst 1, 1) := by decide +kernel
theorem dX3_isUnder_31 : decode cX3_isUnder 31 = .ok (.goto 4, 3) := by decide +kernel
theorem dX3_isUnder_34 : decode cX3_isUnder 34 = .ok (.iconst 0, 1) := by decide +kernel
theorem dX3_isUnder_35 : decode cX3_isUnder 35 = .ok (.ireturn, 1) := by decide +kernel
set_option maxRecDepth 20000 in
theorem ggX3_figures_X3_power : GoodIn wsX3_figures wsX3_power := goodIn_r _ [4, 5] (by decide +kernel) (by decide +kernel)
set_option maxRecDepth 20000 in
theorem gX3_figures_X3_power : GoodIn wsX3_figures (va_wsS RX3 18 yX3_power wsX3_power) := goodIn_app (goodIn_of _ (by decide +kernel)) ggX3_figures_X3_power
theorem dX3_figures_0 : decode cX3_figures 0 = .ok (.iconst 0, 1) := by decide +kernel
theorem dX3_figures_1 : decode cX3_figures 1 = .ok (.istore_n 1, 1) := by decide +kernel
theorem dX3_figures_2 : decode cX3_figures 2 = .ok (.iconst 0, 1) := by decide +kernel
theorem dX3_figures_3 : decode cX3_figures 3 = .ok (.istore_n 2, 1) := by decide +kernel
theorem dX3_figures_4 : decode cX3_figures 4 = .ok (.iload_n 2, 1) := by decide +kernel
theorem dX3_figures_5 : decode cX3_figures 5 = .ok (.iconst 4, 1) := by decide +kernel
theorem dX3_figures_6 : decode cX3_figures 6 = .ok (.if_icmp .ge 20, 3) := by decide +kernel
theorem dX3_figures_9 : decode cX3_figures 9 = .ok (.iload_n 0, 1) := by decide +kernel
theorem dX3_figures_10 : decode cX3_figures 10 = .ok (.iload_n 2, 1) := by decide +kernel
theorem dX3_figures_11 : decode cX3_figures 11 = .ok (.invokestatic 18, 3) := by decide +kernel
theorem dX3_figures_14 : decode cX3_figures 14 = .ok (.if_icmp .lt 12, 3) := by decide +kernel
theorem dX3_figures_17 : decode cX3_figures 17 = .ok (.iinc 1 1, 3) := by decide +kernel
theorem dX3_figures_20 : decode cX3_figures 20 = .ok (.iinc 2 1, 3) := by decide +kernel
theorem dX3_figures_23 : decode cX3_figures 23 = .ok (.goto (-19), 3) := by decide +kernel
theorem dX3_figures_26 : decode cX3_figures 26 = .ok (.iload_n 1, 1) := by decide +kernel
theorem dX3_figures_27 : decode cX3_figures 27 = .ok (.ireturn, 1) := by decide +kernel
theorem dX3_power_0 : decode cX3_power 0 = .ok (.iload_n 0, 1) := by decide +kernel
theorem dX3_power_1 : decode cX3_power 1 = .ok (.ifCond .lt 19, 3) := by decide +kernel
theorem dX3_power_4 : decode cX3_power 4 = .ok (.iload_n 0, 1) := by decide +kernel
theorem dX3_power_5 : decode cX3_power 5 = .ok (.getstatic 22, 3) := by decide +kernel
theorem dX3_power_8 : decode cX3_power 8 = .ok (.arraylength, 1) := by decide +kernel
theorem dX3_power_9 : decode cX3_power 9 = .ok (.if_icmp .ge 11, 3) := by decide +kernel
theorem dX3_power_12 : decode cX3_power 12 = .ok (.getstatic 22, 3) := by decide +kernel
theorem dX3_power_15 : decode cX3_power 15 = .ok (.iload_n 0, 1) := by decide +kernel
theorem dX3_power_16 : decode cX3_power 16 = .ok (.iaload, 1) := by decide +kernel
theorem dX3_power_17 : decode cX3_power 17 = .ok (.goto 4, 3) := by decide +kernel
theorem dX3_power_20 : decode cX3_power 20 = .ok (.iconst 1, 1) := by decide +kernel
theorem dX3_power_21 : decode cX3_power 21 = .ok (.ireturn, 1) := by decide +kernel
set_option maxRecDepth 20000 in
theorem ggX3_moved_X3_figures : GoodIn wsX3_moved wsX3_figures := goodIn_r _ [4, 5, 6, 3, 7, 8] (by decide +kernel) (by decide +kernel)
set_option maxRecDepth 20000 in
theorem gX3_moved_X3_figures : GoodIn wsX3_moved (va_wsS RX3 26 yX3_figures wsX3_figures) := goodIn_app (goodIn_of _ (by decide +kernel)) ggX3_moved_X3_figures
set_option maxRecDepth 20000 in
theorem ggX3_moved_X3_power : GoodIn wsX3_moved wsX3_power := goodIn_r _ [7, 8] (by decide +kernel) (by decide +kernel)
set_option maxRecDepth 20000 in
theorem gX3_moved_X3_power : GoodIn wsX3_moved (va_wsS RX3 18 yX3_power wsX3_power) := goodIn_app (goodIn_of _ (by decide +kernel)) ggX3_moved_X3_power
theorem dX3_moved_0 : decode cX3_moved 0 = .ok (.iload_n 0, 1) := by decide +kernel
theorem dX3_moved_1 : decode cX3_moved 1 = .ok (.invokestatic 26, 3) := by decide +kernel
theorem dX3_moved_4 : decode cX3_moved 4 = .ok (.iload_n 1, 1) := by decide +kernel
theorem dX3_moved_5 : decode cX3_moved 5 = .ok (.invokestatic 26, 3) := by decide +kernel
theorem dX3_moved_8 : decode cX3_moved 8 = .ok (.isub, 1) := by decide +kernel
theorem dX3_moved_9 : decode cX3_moved 9 = .ok (.istore_n 3, 1) := by decide +kernel
theorem dX3_moved_10 : decode cX3_moved 10 = .ok (.iload_n 3, 1) := by decide +kernel
theorem dX3_moved_11 : decode cX3_moved 11 = .ok (.iload_n 2, 1) := by decide +kernel
theorem dX3_moved_12 : decode cX3_moved 12 = .ok (.invokestatic 26, 3) := by decide +kernel
theorem dX3_moved_15 : decode cX3_moved 15 = .ok (.iadd, 1) := by decide +kernel
theorem dX3_moved_16 : decode cX3_moved 16 = .ok (.iconst 4, 1) := by decide +kernel
theorem dX3_moved_17 : decode cX3_moved 17 = .ok (.if_icmp .le 5, 3) := by decide +kernel
theorem dX3_moved_20 : decode cX3_moved 20 = .ok (.iconst (-1), 1) := by decide +kernel
theorem dX3_moved_21 : decode cX3_moved 21 = .ok (.ireturn, 1) := by decide +kernel
theorem dX3_moved_22 : decode cX3_moved 22 = .ok (.iload_n 3, 1) := by decide +kernel
theorem dX3_moved_23 : decode cX3_moved 23 = .ok (.invokestatic 18, 3) := by decide +kernel
theorem dX3_moved_26 : decode cX3_moved 26 = .ok (.istore 4, 2) := by decide +kernel
theorem dX3_moved_28 : decode cX3_moved 28 = .ok (.iload 4, 2) := by decide +kernel
theorem dX3_moved_30 : decode cX3_moved 30 = .ok (.iconst 1, 1) := by decide +kernel
theorem dX3_moved_31 : decode cX3_moved 31 = .ok (.if_icmp .ge 7, 3) := by decide +kernel
theorem dX3_moved_34 : decode cX3_moved 34 = .ok (.iconst (-1), 1) := by decide +kernel
theorem dX3_moved_35 : decode cX3_moved 35 = .ok (.goto 12, 3) := by decide +kernel
theorem dX3_moved_38 : decode cX3_moved 38 = .ok (.iload_n 2, 1) := by decide +kernel
theorem dX3_moved_39 : decode cX3_moved 39 = .ok (.iload 4, 2) := by decide +kernel
theorem dX3_moved_41 : decode cX3_moved 41 = .ok (.imul, 1) := by decide +kernel
theorem dX3_moved_42 : decode cX3_moved 42 = .ok (.iload_n 0, 1) := by decide +kernel
theorem dX3_moved_43 : decode cX3_moved 43 = .ok (.iload 4, 2) := by decide +kernel
theorem dX3_moved_45 : decode cX3_moved 45 = .ok (.irem, 1) := by decide +kernel
theorem dX3_moved_46 : decode cX3_moved 46 = .ok (.iadd, 1) := by decide +kernel
theorem dX3_moved_47 : decode cX3_moved 47 = .ok (.ireturn, 1) := by decide +kernel
set_option maxRecDepth 20000 in
theorem ggX3_order_X3_figures : GoodIn wsX3_order wsX3_figures := goodIn_r _ [4, 5, 6, 3, 7, 8] (by decide +kernel) (by decide +kernel)
set_option maxRecDepth 20000 in
theorem gX3_order_X3_figures : GoodIn wsX3_order (va_wsS RX3 26 yX3_figures wsX3_figures) := goodIn_app (goodIn_of _ (by decide +kernel)) ggX3_order_X3_figures
set_option maxRecDepth 20000 in
theorem ggX3_order_X3_power : GoodIn wsX3_order wsX3_power := goodIn_r _ [7, 8] (by decide +kernel) (by decide +kernel)
set_option maxRecDepth 20000 in
theorem gX3_order_X3_power : GoodIn wsX3_order (va_wsS RX3 18 yX3_power wsX3_power) := goodIn_app (goodIn_of _ (by decide +kernel)) ggX3_order_X3_power
theorem dX3_order_0 : decode cX3_order 0 = .ok (.iload_n 0, 1) := by decide +kernel
theorem dX3_order_1 : decode cX3_order 1 = .ok (.invokestatic 26, 3) := by decide +kernel
theorem dX3_order_4 : decode cX3_order 4 = .ok (.istore_n 1, 1) := by decide +kernel
theorem dX3_order_5 : decode cX3_order 5 = .ok (.iconst 0, 1) := by decide +kernel
theorem dX3_order_6 : decode cX3_order 6 = .ok (.istore_n 2, 1) := by decide +kernel
theorem dX3_order_7 : decode cX3_order 7 = .ok (.iconst 1, 1) := by decide +kernel
theorem dX3_order_8 : decode cX3_order 8 = .ok (.istore_n 3, 1) := by decide +kernel
theorem dX3_order_9 : decode cX3_order 9 = .ok (.iload_n 3, 1) := by decide +kernel
theorem dX3_order_10 : decode cX3_order 10 = .ok (.iconst 4, 1) := by decide +kernel
theorem dX3_order_11 : decode cX3_order 11 = .ok (.if_icmp .gt 46, 3) := by decide +kernel
theorem dX3_order_14 : decode cX3_order 14 = .ok (.iload_n 1, 1) := by decide +kernel
theorem dX3_order_15 : decode cX3_order 15 = .ok (.iload_n 3, 1) := by decide +kernel
theorem dX3_order_16 : decode cX3_order 16 = .ok (.isub, 1) := by decide +kernel
theorem dX3_order_17 : decode cX3_order 17 = .ok (.invokestatic 18, 3) := by decide +kernel
theorem dX3_order_20 : decode cX3_order 20 = .ok (.istore 4, 2) := by decide +kernel
theorem dX3_order_22 : decode cX3_order 22 = .ok (.iload_n 2, 1) := by decide +kernel
theorem dX3_order_23 : decode cX3_order 23 = .ok (.bipush 11, 2) := by decide +kernel
theorem dX3_order_25 : decode cX3_order 25 = .ok (.imul, 1) := by decide +kernel
theorem dX3_order_26 : decode cX3_order 26 = .ok (.iload_n 3, 1) := by decide +kernel
theorem dX3_order_27 : decode cX3_order 27 = .ok (.iload_n 1, 1) := by decide +kernel
theorem dX3_order_28 : decode cX3_order 28 = .ok (.if_icmp .gt 20, 3) := by decide +kernel
theorem dX3_order_31 : decode cX3_order 31 = .ok (.iload 4, 2) := by decide +kernel
theorem dX3_order_33 : decode cX3_order 33 = .ok (.ifCond .le 15, 3) := by decide +kernel
theorem dX3_order_36 : decode cX3_order 36 = .ok (.iload_n 0, 1) := by decide +kernel
theorem dX3_order_37 : decode cX3_order 37 = .ok (.iload 4, 2) := by decide +kernel
theorem dX3_order_39 : decode cX3_order 39 = .ok (.idiv, 1) := by decide +kernel
theorem dX3_order_40 : decode cX3_order 40 = .ok (.bipush 10, 2) := by decide +kernel
theorem dX3_order_42 : decode cX3_order 42 = .ok (.irem, 1) := by decide +kernel
theorem dX3_order_43 : decode cX3_order 43 = .ok (.iconst 1, 1) := by decide +kernel
theorem dX3_order_44 : decode cX3_order 44 = .ok (.iadd, 1) := by decide +kernel
theorem dX3_order_45 : decode cX3_order 45 = .ok (.goto 4, 3) := by decide +kernel
theorem dX3_order_48 : decode cX3_order 48 = .ok (.iconst 0, 1) := by decide +kernel
theorem dX3_order_49 : decode cX3_order 49 = .ok (.iadd, 1) := by decide +kernel
theorem dX3_order_50 : decode cX3_order 50 = .ok (.istore_n 2, 1) := by decide +kernel
theorem dX3_order_51 : decode cX3_order 51 = .ok (.iinc 3 1, 3) := by decide +kernel
theorem dX3_order_54 : decode cX3_order 54 = .ok (.goto (-45), 3) := by decide +kernel
theorem dX3_order_57 : decode cX3_order 57 = .ok (.iload_n 2, 1) := by decide +kernel
theorem dX3_order_58 : decode cX3_order 58 = .ok (.ireturn, 1) := by decide +kernel
theorem dX4_init_0 : decode cX4_init 0 = .ok (.aload_n 0, 1) := by decide +kernel
theorem dX4_init_1 : decode cX4_init 1 = .ok (.invokespecial 3, 3) := by decide +kernel
theorem dX4_init_4 : decode cX4_init 4 = .ok (.iload_n 1, 1) := by decide +kernel
theorem dX4_init_5 : decode cX4_init 5 = .ok (.ifCond .ge 7, 3) := by decide +kernel
theorem dX4_init_8 : decode cX4_init 8 = .ok (.iconst 0, 1) := by decide +kernel
theorem dX4_init_9 : decode cX4_init 9 = .ok (.goto 4, 3) := by decide +kernel
theorem dX4_init_12 : decode cX4_init 12 = .ok (.iload_n 1, 1) := by decide +kernel
theorem dX4_init_13 : decode cX4_init 13 = .ok (.istore_n 2, 1) := by decide +kernel
theorem dX4_init_14 : decode cX4_init 14 = .ok (.aload_n 0, 1) := by decide +kernel
theorem dX4_init_15 : decode cX4_init 15 = .ok (.iload_n 2, 1) := by decide +kernel
theorem dX4_init_16 : decode cX4_init 16 = .ok (.newarray .int, 2) := by decide +kernel
theorem dX4_init_18 : decode cX4_init 18 = .ok (.putfield 9, 3) := by decide +kernel
theorem dX4_init_21 : decode cX4_init 21 = .ok (.aload_n 0, 1) := by decide +kernel
theorem dX4_init_22 : decode cX4_init 22 = .ok (.iload_n 2, 1) := by decide +kernel
theorem dX4_init_23 : decode cX4_init 23 = .ok (.newarray .int, 2) := by decide +kernel
theorem dX4_init_25 : decode cX4_init 25 = .ok (.putfield 15, 3) := by decide +kernel
theorem dX4_init_28 : decode cX4_init 28 = .ok (.aload_n 0, 1) := by decide +kernel
theorem dX4_init_29 : decode cX4_init 29 = .ok (.iload_n 2, 1) := by decide +kernel
theorem dX4_init_30 : decode cX4_init 30 = .ok (.newarray .int, 2) := by decide +kernel
theorem dX4_init_32 : decode cX4_init 32 = .ok (.putfield 18, 3) := by decide +kernel
theorem dX4_init_35 : decode cX4_init 35 = .ok (.aload_n 0, 1) := by decide +kernel
theorem dX4_init_36 : decode cX4_init 36 = .ok (.iload_n 2, 1) := by decide +kernel
theorem dX4_init_37 : decode cX4_init 37 = .ok (.newarray .int, 2) := by decide +kernel
theorem dX4_init_39 : decode cX4_init 39 = .ok (.putfield 21, 3) := by decide +kernel
theorem dX4_init_42 : decode cX4_init 42 = .ok (.return_, 1) := by decide +kernel
theorem dX4_placeAt_0 : decode cX4_placeAt 0 = .ok (.iload_n 1, 1) := by decide +kernel
theorem dX4_placeAt_1 : decode cX4_placeAt 1 = .ok (.ifCond .lt 29, 3) := by decide +kernel
theorem dX4_placeAt_4 : decode cX4_placeAt 4 = .ok (.iload_n 1, 1) := by decide +kernel
theorem dX4_placeAt_5 : decode cX4_placeAt 5 = .ok (.aload_n 0, 1) := by decide +kernel
theorem dX4_placeAt_6 : decode cX4_placeAt 6 = .ok (.getfield 24, 3) := by decide +kernel
theorem dX4_placeAt_9 : decode cX4_placeAt 9 = .ok (.if_icmp .ge 21, 3) := by decide +kernel
theorem dX4_placeAt_12 : decode cX4_placeAt 12 = .ok (.iload_n 1, 1) := by decide +kernel
theorem dX4_placeAt_13 : decode cX4_placeAt 13 = .ok (.aload_n 0, 1) := by decide +kernel
theorem dX4_placeAt_14 : decode cX4_placeAt 14 = .ok (.getfield 9, 3) := by decide +kernel
theorem dX4_placeAt_17 : decode cX4_placeAt 17 = .ok (.arraylength, 1) := by decide +kernel
theorem dX4_placeAt_18 : decode cX4_placeAt 18 = .ok (.if_icmp .ge 12, 3) := by decide +kernel
theorem dX4_placeAt_21 : decode cX4_placeAt 21 = .ok (.aload_n 0, 1) := by decide +kernel
theorem dX4_placeAt_22 : decode cX4_placeAt 22 = .ok (.getfield 9, 3) := by decide +kernel
theorem dX4_placeAt_25 : decode cX4_placeAt 25 = .ok (.iload_n 1, 1) := by decide +kernel
theorem dX4_placeAt_26 : decode cX4_placeAt 26 = .ok (.iaload, 1) := by decide +kernel
theorem dX4_placeAt_27 : decode cX4_placeAt 27 = .ok (.goto 4, 3) := by decide +kernel
theorem dX4_placeAt_30 : decode cX4_placeAt 30 = .ok (.iconst (-1), 1) := by decide +kernel
theorem dX4_placeAt_31 : decode cX4_placeAt 31 = .ok (.ireturn, 1) := by decide +kernel
theorem dX4_sortAt_0 : decode cX4_sortAt 0 = .ok (.iload_n 1, 1) := by decide +kernel
theorem dX4_sortAt_1 : decode cX4_sortAt 1 = .ok (.ifCond .lt 29, 3) := by decide +kernel
theorem dX4_sortAt_4 : decode cX4_sortAt 4 = .ok (.iload_n 1, 1) := by decide +kernel
theorem dX4_sortAt_5 : decode cX4_sortAt 5 = .ok (.aload_n 0, 1) := by decide +kernel
theorem dX4_sortAt_6 : decode cX4_sortAt 6 = .ok (.getfield 24, 3) := by decide +kernel
theorem dX4_sortAt_9 : decode cX4_sortAt 9 = .ok (.if_icmp .ge 21, 3) := by decide +kernel
theorem dX4_sortAt_12 : decode cX4_sortAt 12 = .ok (.iload_n 1, 1) := by decide +kernel
theorem dX4_sortAt_13 : decode cX4_sortAt 13 = .ok (.aload_n 0, 1) := by decide +kernel
theorem dX4_sortAt_14 : decode cX4_sortAt 14 = .ok (.getfield 15, 3) := by decide +kernel
theorem dX4_sortAt_17 : decode cX4_sortAt 17 = .ok (.arraylength, 1) := by decide +kernel
theorem dX4_sortAt_18 : decode cX4_sortAt 18 = .ok (.if_icmp .ge 12, 3) := by decide +kernel
theorem dX4_sortAt_21 : decode cX4_sortAt 21 = .ok (.aload_n 0, 1) := by decide +kernel
theorem dX4_sortAt_22 : decode cX4_sortAt 22 = .ok (.getfield 15, 3) := by decide +kernel
theorem dX4_sortAt_25 : decode cX4_sortAt 25 = .ok (.iload_n 1, 1) := by decide +kernel
theorem dX4_sortAt_26 : decode cX4_sortAt 26 = .ok (.iaload, 1) := by decide +kernel
theorem dX4_sortAt_27 : decode cX4_sortAt 27 = .ok (.goto 4, 3) := by decide +kernel
theorem dX4_sortAt_30 : decode cX4_sortAt 30 = .ok (.iconst (-1), 1) := by decide +kernel
theorem dX4_sortAt_31 : decode cX4_sortAt 31 = .ok (.ireturn, 1) := by decide +kernel
theorem dX4_numberAt_0 : decode cX4_numberAt 0 = .ok (.iload_n 1, 1) := by decide +kernel
theorem dX4_numberAt_1 : decode cX4_numberAt 1 = .ok (.ifCond .lt 29, 3) := by decide +kernel
theorem dX4_numberAt_4 : decode cX4_numberAt 4 = .ok (.iload_n 1, 1) := by decide +kernel
theorem dX4_numberAt_5 : decode cX4_numberAt 5 = .ok (.aload_n 0, 1) := by decide +kernel
theorem dX4_numberAt_6 : decode cX4_numberAt 6 = .ok (.getfield 24, 3) := by decide +kernel
theorem dX4_numberAt_9 : decode cX4_numberAt 9 = .ok (.if_icmp .ge 21, 3) := by decide +kernel
theorem dX4_numberAt_12 : decode cX4_numberAt 12 = .ok (.iload_n 1, 1) := by decide +kernel
theorem dX4_numberAt_13 : decode cX4_numberAt 13 = .ok (.aload_n 0, 1) := by decide +kernel
theorem dX4_numberAt_14 : decode cX4_numberAt 14 = .ok (.getfield 18, 3) := by decide +kernel
theorem dX4_numberAt_17 : decode cX4_numberAt 17 = .ok (.arraylength, 1) := by decide +kernel
theorem dX4_numberAt_18 : decode cX4_numberAt 18 = .ok (.if_icmp .ge 12, 3) := by decide +kernel
theorem dX4_numberAt_21 : decode cX4_numberAt 21 = .ok (.aload_n 0, 1) := by decide +kernel
theorem dX4_numberAt_22 : decode cX4_numberAt 22 = .ok (.getfield 18, 3) := by decide +kernel
theorem dX4_numberAt_25 : decode cX4_numberAt 25 = .ok (.iload_n 1, 1) := by decide +kernel
theorem dX4_numberAt_26 : decode cX4_numberAt 26 = .ok (.iaload, 1) := by decide +kernel
theorem dX4_numberAt_27 : decode cX4_numberAt 27 = .ok (.goto 4, 3) := by decide +kernel
theorem dX4_numberAt_30 : decode cX4_numberAt 30 = .ok (.iconst (-1), 1) := by decide +kernel
theorem dX4_numberAt_31 : decode cX4_numberAt 31 = .ok (.ireturn, 1) := by decide +kernel
theorem dX4_lifeAt_0 : decode cX4_lifeAt 0 = .ok (.iload_n 1, 1) := by decide +kernel
theorem dX4_lifeAt_1 : decode cX4_lifeAt 1 = .ok (.ifCond .lt 29, 3) := by decide +kernel
theorem dX4_lifeAt_4 : decode cX4_lifeAt 4 = .ok (.iload_n 1, 1) := by decide +kernel
theorem dX4_lifeAt_5 : decode cX4_lifeAt 5 = .ok (.aload_n 0, 1) := by decide +kernel
theorem dX4_lifeAt_6 : decode cX4_lifeAt 6 = .ok (.getfield 24, 3) := by decide +kernel
theorem dX4_lifeAt_9 : decode cX4_lifeAt 9 = .ok (.if_icmp .ge 21, 3) := by decide +kernel
theorem dX4_lifeAt_12 : decode cX4_lifeAt 12 = .ok (.iload_n 1, 1) := by decide +kernel
theorem dX4_lifeAt_13 : decode cX4_lifeAt 13 = .ok (.aload_n 0, 1) := by decide +kernel
theorem dX4_lifeAt_14 : decode cX4_lifeAt 14 = .ok (.getfield 21, 3) := by decide +kernel
theorem dX4_lifeAt_17 : decode cX4_lifeAt 17 = .ok (.arraylength, 1) := by decide +kernel
theorem dX4_lifeAt_18 : decode cX4_lifeAt 18 = .ok (.if_icmp .ge 12, 3) := by decide +kernel
theorem dX4_lifeAt_21 : decode cX4_lifeAt 21 = .ok (.aload_n 0, 1) := by decide +kernel
theorem dX4_lifeAt_22 : decode cX4_lifeAt 22 = .ok (.getfield 21, 3) := by decide +kernel
theorem dX4_lifeAt_25 : decode cX4_lifeAt 25 = .ok (.iload_n 1, 1) := by decide +kernel
theorem dX4_lifeAt_26 : decode cX4_lifeAt 26 = .ok (.iaload, 1) := by decide +kernel
theorem dX4_lifeAt_27 : decode cX4_lifeAt 27 = .ok (.goto 4, 3) := by decide +kernel
theorem dX4_lifeAt_30 : decode cX4_lifeAt 30 = .ok (.iconst 0, 1) := by decide +kernel
theorem dX4_lifeAt_31 : decode cX4_lifeAt 31 = .ok (.ireturn, 1) := by decide +kernel
theorem dX4_rowOf_0 : decode cX4_rowOf 0 = .ok (.iconst 0, 1) := by decide +kernel
theorem dX4_rowOf_1 : decode cX4_rowOf 1 = .ok (.istore_n 3, 1) := by decide +kernel
theorem dX4_rowOf_2 : decode cX4_rowOf 2 = .ok (.iload_n 3, 1) := by decide +kernel
theorem dX4_rowOf_3 : decode cX4_rowOf 3 = .ok (.aload_n 0, 1) := by decide +kernel
theorem dX4_rowOf_4 : decode cX4_rowOf 4 = .ok (.getfield 24, 3) := by decide +kernel
theorem dX4_rowOf_7 : decode cX4_rowOf 7 = .ok (.if_icmp .ge 40, 3) := by decide +kernel
theorem dX4_rowOf_10 : decode cX4_rowOf 10 = .ok (.iload_n 3, 1) := by decide +kernel
theorem dX4_rowOf_11 : decode cX4_rowOf 11 = .ok (.aload_n 0, 1) := by decide +kernel
theorem dX4_rowOf_12 : decode cX4_rowOf 12 = .ok (.getfield 9, 3) := by decide +kernel
theorem dX4_rowOf_15 : decode cX4_rowOf 15 = .ok (.arraylength, 1) := by decide +kernel
theorem dX4_rowOf_16 : decode cX4_rowOf 16 = .ok (.if_icmp .ge 31, 3) := by decide +kernel
theorem dX4_rowOf_19 : decode cX4_rowOf 19 = .ok (.aload_n 0, 1) := by decide +kernel
theorem dX4_rowOf_20 : decode cX4_rowOf 20 = .ok (.getfield 9, 3) := by decide +kernel
theorem dX4_rowOf_23 : decode cX4_rowOf 23 = .ok (.iload_n 3, 1) := by decide +kernel
theorem dX4_rowOf_24 : decode cX4_rowOf 24 = .ok (.iaload, 1) := by decide +kernel
theorem dX4_rowOf_25 : decode cX4_rowOf 25 = .ok (.iload_n 1, 1) := by decide +kernel
theorem dX4_rowOf_26 : decode cX4_rowOf 26 = .ok (.if_icmp .ne 15, 3) := by decide +kernel
theorem dX4_rowOf_29 : decode cX4_rowOf 29 = .ok (.aload_n 0, 1) := by decide +kernel
theorem dX4_rowOf_30 : decode cX4_rowOf 30 = .ok (.getfield 15, 3) := by decide +kernel
theorem dX4_rowOf_33 : decode cX4_rowOf 33 = .ok (.iload_n 3, 1) := by decide +kernel
theorem dX4_rowOf_34 : decode cX4_rowOf 34 = .ok (.iaload, 1) := by decide +kernel
theorem dX4_rowOf_35 : decode cX4_rowOf 35 = .ok (.iload_n 2, 1) := by decide +kernel
theorem dX4_rowOf_36 : decode cX4_rowOf 36 = .ok (.if_icmp .ne 5, 3) := by decide +kernel
theorem dX4_rowOf_39 : decode cX4_rowOf 39 = .ok (.iload_n 3, 1) := by decide +kernel
theorem dX4_rowOf_40 : decode cX4_rowOf 40 = .ok (.ireturn, 1) := by decide +kernel
theorem dX4_rowOf_41 : decode cX4_rowOf 41 = .ok (.iinc 3 1, 3) := by decide +kernel
theorem dX4_rowOf_44 : decode cX4_rowOf 44 = .ok (.goto (-42), 3) := by decide +kernel
theorem dX4_rowOf_47 : decode cX4_rowOf 47 = .ok (.iconst (-1), 1) := by decide +kernel
theorem dX4_rowOf_48 : decode cX4_rowOf 48 = .ok (.ireturn, 1) := by decide +kernel
theorem dX4_countAt_0 : decode cX4_countAt 0 = .ok (.iconst 0, 1) := by decide +kernel
theorem dX4_countAt_1 : decode cX4_countAt 1 = .ok (.istore_n 2, 1) := by decide +kernel
theorem dX4_countAt_2 : decode cX4_countAt 2 = .ok (.iconst 0, 1) := by decide +kernel
theorem dX4_countAt_3 : decode cX4_countAt 3 = .ok (.istore_n 3, 1) := by decide +kernel
theorem dX4_countAt_4 : decode cX4_countAt 4 = .ok (.iload_n 3, 1) := by decide +kernel
theorem dX4_countAt_5 : decode cX4_countAt 5 = .ok (.aload_n 0, 1) := by decide +kernel
theorem dX4_countAt_6 : decode cX4_countAt 6 = .ok (.getfield 24, 3) := by decide +kernel
theorem dX4_countAt_9 : decode cX4_countAt 9 = .ok (.if_icmp .ge 31, 3) := by decide +kernel
theorem dX4_countAt_12 : decode cX4_countAt 12 = .ok (.iload_n 3, 1) := by decide +kernel
theorem dX4_countAt_13 : decode cX4_countAt 13 = .ok (.aload_n 0, 1) := by decide +kernel
theorem dX4_countAt_14 : decode cX4_countAt 14 = .ok (.getfield 9, 3) := by decide +kernel
theorem dX4_countAt_17 : decode cX4_countAt 17 = .ok (.arraylength, 1) := by decide +kernel
theorem dX4_countAt_18 : decode cX4_countAt 18 = .ok (.if_icmp .ge 22, 3) := by decide +kernel
theorem dX4_countAt_21 : decode cX4_countAt 21 = .ok (.aload_n 0, 1) := by decide +kernel
theorem dX4_countAt_22 : decode cX4_countAt 22 = .ok (.getfield 9, 3) := by decide +kernel
theorem dX4_countAt_25 : decode cX4_countAt 25 = .ok (.iload_n 3, 1) := by decide +kernel
theorem dX4_countAt_26 : decode cX4_countAt 26 = .ok (.iaload, 1) := by decide +kernel
theorem dX4_countAt_27 : decode cX4_countAt 27 = .ok (.iload_n 1, 1) := by decide +kernel
theorem dX4_countAt_28 : decode cX4_countAt 28 = .ok (.if_icmp .ne 6, 3) := by decide +kernel
theorem dX4_countAt_31 : decode cX4_countAt 31 = .ok (.iinc 2 1, 3) := by decide +kernel
theorem dX4_countAt_34 : decode cX4_countAt 34 = .ok (.iinc 3 1, 3) := by decide +kernel
theorem dX4_countAt_37 : decode cX4_countAt 37 = .ok (.goto (-33), 3) := by decide +kernel
theorem dX4_countAt_40 : decode cX4_countAt 40 = .ok (.iload_n 2, 1) := by decide +kernel
theorem dX4_countAt_41 : decode cX4_countAt 41 = .ok (.ireturn, 1) := by decide +kernel
set_option maxRecDepth 20000 in
theorem ggX4_isThereBy_X3_nameOf : GoodIn wsX4_isThereBy wsX3_nameOf := goodIn_r _ [5] (by decide +kernel) (by decide +kernel)
set_option maxRecDepth 20000 in
theorem gX4_isThereBy_X3_nameOf : GoodIn wsX4_isThereBy (va_wsS RX4 28 yX3_nameOf wsX3_nameOf) := goodIn_app (goodIn_of _ (by decide +kernel)) ggX4_isThereBy_X3_nameOf
set_option maxRecDepth 20000 in
theorem ggX4_isThereBy_X3_isUnder : GoodIn wsX4_isThereBy wsX3_isUnder := goodIn_r _ [8] (by decide +kernel) (by decide +kernel)
set_option maxRecDepth 20000 in
theorem gX4_isThereBy_X3_isUnder : GoodIn wsX4_isThereBy (va_wsS RX4 34 yX3_isUnder wsX3_isUnder) := goodIn_app (goodIn_of _ (by decide +kernel)) ggX4_isThereBy_X3_isUnder
theorem dX4_isThereBy_0 : decode cX4_isThereBy 0 = .ok (.iconst 0, 1) := by decide +kernel
theorem dX4_isThereBy_1 : decode cX4_isThereBy 1 = .ok (.istore_n 3, 1) := by decide +kernel
theorem dX4_isThereBy_2 : decode cX4_isThereBy 2 = .ok (.iload_n 3, 1) := by decide +kernel
theorem dX4_isThereBy_3 : decode cX4_isThereBy 3 = .ok (.iload_n 1, 1) := by decide +kernel
theorem dX4_isThereBy_4 : decode cX4_isThereBy 4 = .ok (.if_icmp .ge 36, 3) := by decide +kernel
theorem dX4_isThereBy_7 : decode cX4_isThereBy 7 = .ok (.iload_n 3, 1) := by decide +kernel
theorem dX4_isThereBy_8 : decode cX4_isThereBy 8 = .ok (.aload_n 0, 1) := by decide +kernel
theorem dX4_isThereBy_9 : decode cX4_isThereBy 9 = .ok (.getfield 9, 3) := by decide +kernel
theorem dX4_isThereBy_12 : decode cX4_isThereBy 12 = .ok (.arraylength, 1) := by decide +kernel
theorem dX4_isThereBy_13 : decode cX4_isThereBy 13 = .ok (.if_icmp .ge 27, 3) := by decide +kernel
theorem dX4_isThereBy_16 : decode cX4_isThereBy 16 = .ok (.aload_n 0, 1) := by decide +kernel
theorem dX4_isThereBy_17 : decode cX4_isThereBy 17 = .ok (.getfield 9, 3) := by decide +kernel
theorem dX4_isThereBy_20 : decode cX4_isThereBy 20 = .ok (.iload_n 3, 1) := by decide +kernel
theorem dX4_isThereBy_21 : decode cX4_isThereBy 21 = .ok (.iaload, 1) := by decide +kernel
theorem dX4_isThereBy_22 : decode cX4_isThereBy 22 = .ok (.invokestatic 28, 3) := by decide +kernel
theorem dX4_isThereBy_25 : decode cX4_isThereBy 25 = .ok (.iload_n 2, 1) := by decide +kernel
theorem dX4_isThereBy_26 : decode cX4_isThereBy 26 = .ok (.invokestatic 34, 3) := by decide +kernel
theorem dX4_isThereBy_29 : decode cX4_isThereBy 29 = .ok (.ifCond .eq 5, 3) := by decide +kernel
theorem dX4_isThereBy_32 : decode cX4_isThereBy 32 = .ok (.iconst 1, 1) := by decide +kernel
theorem dX4_isThereBy_33 : decode cX4_isThereBy 33 = .ok (.ireturn, 1) := by decide +kernel
theorem dX4_isThereBy_34 : decode cX4_isThereBy 34 = .ok (.iinc 3 1, 3) := by decide +kernel
theorem dX4_isThereBy_37 : decode cX4_isThereBy 37 = .ok (.goto (-35), 3) := by decide +kernel
theorem dX4_isThereBy_40 : decode cX4_isThereBy 40 = .ok (.iconst 0, 1) := by decide +kernel
theorem dX4_isThereBy_41 : decode cX4_isThereBy 41 = .ok (.ireturn, 1) := by decide +kernel
set_option maxRecDepth 20000 in
theorem ggX4_isAnyElseUnder_X3_nameOf : GoodIn wsX4_isAnyElseUnder wsX3_nameOf := goodIn_r _ [6] (by decide +kernel) (by decide +kernel)
set_option maxRecDepth 20000 in
theorem gX4_isAnyElseUnder_X3_nameOf : GoodIn wsX4_isAnyElseUnder (va_wsS RX4 28 yX3_nameOf wsX3_nameOf) := goodIn_app (goodIn_of _ (by decide +kernel)) ggX4_isAnyElseUnder_X3_nameOf
set_option maxRecDepth 20000 in
theorem ggX4_isAnyElseUnder_X3_isUnder : GoodIn wsX4_isAnyElseUnder wsX3_isUnder := goodIn_r _ [9] (by decide +kernel) (by decide +kernel)
set_option maxRecDepth 20000 in
theorem gX4_isAnyElseUnder_X3_isUnder : GoodIn wsX4_isAnyElseUnder (va_wsS RX4 34 yX3_isUnder wsX3_isUnder) := goodIn_app (goodIn_of _ (by decide +kernel)) ggX4_isAnyElseUnder_X3_isUnder
theorem dX4_isAnyElseUnder_0 : decode cX4_isAnyElseUnder 0 = .ok (.iconst 0, 1) := by decide +kernel
theorem dX4_isAnyElseUnder_1 : decode cX4_isAnyElseUnder 1 = .ok (.istore_n 2, 1) := by decide +kernel
theorem dX4_isAnyElseUnder_2 : decode cX4_isAnyElseUnder 2 = .ok (.iload_n 2, 1) := by decide +kernel
theorem dX4_isAnyElseUnder_3 : decode cX4_isAnyElseUnder 3 = .ok (.aload_n 0, 1) := by decide +kernel
theorem dX4_isAnyElseUnder_4 : decode cX4_isAnyElseUnder 4 = .ok (.getfield 24, 3) := by decide +kernel
theorem dX4_isAnyElseUnder_7 : decode cX4_isAnyElseUnder 7 = .ok (.if_icmp .ge 46, 3) := by decide +kernel
theorem dX4_isAnyElseUnder_10 : decode cX4_isAnyElseUnder 10 = .ok (.iload_n 2, 1) := by decide +kernel
theorem dX4_isAnyElseUnder_11 : decode cX4_isAnyElseUnder 11 = .ok (.aload_n 0, 1) := by decide +kernel
theorem dX4_isAnyElseUnder_12 : decode cX4_isAnyElseUnder 12 = .ok (.getfield 9, 3) := by decide +kernel
theorem dX4_isAnyElseUnder_15 : decode cX4_isAnyElseUnder 15 = .ok (.arraylength, 1) := by decide +kernel
theorem dX4_isAnyElseUnder_16 : decode cX4_isAnyElseUnder 16 = .ok (.if_icmp .ge 37, 3) := by decide +kernel
theorem dX4_isAnyElseUnder_19 : decode cX4_isAnyElseUnder 19 = .ok (.aload_n 0, 1) := by decide +kernel
theorem dX4_isAnyElseUnder_20 : decode cX4_isAnyElseUnder 20 = .ok (.getfield 9, 3) := by decide +kernel
theorem dX4_isAnyElseUnder_23 : decode cX4_isAnyElseUnder 23 = .ok (.iload_n 2, 1) := by decide +kernel
theorem dX4_isAnyElseUnder_24 : decode cX4_isAnyElseUnder 24 = .ok (.iaload, 1) := by decide +kernel
theorem dX4_isAnyElseUnder_25 : decode cX4_isAnyElseUnder 25 = .ok (.iload_n 1, 1) := by decide +kernel
theorem dX4_isAnyElseUnder_26 : decode cX4_isAnyElseUnder 26 = .ok (.if_icmp .eq 21, 3) := by decide +kernel
theorem dX4_isAnyElseUnder_29 : decode cX4_isAnyElseUnder 29 = .ok (.aload_n 0, 1) := by decide +kernel
theorem dX4_isAnyElseUnder_30 : decode cX4_isAnyElseUnder 30 = .ok (.getfield 9, 3) := by decide +kernel
theorem dX4_isAnyElseUnder_33 : decode cX4_isAnyElseUnder 33 = .ok (.iload_n 2, 1) := by decide +kernel
theorem dX4_isAnyElseUnder_34 : decode cX4_isAnyElseUnder 34 = .ok (.iaload, 1) := by decide +kernel
theorem dX4_isAnyElseUnder_35 : decode cX4_isAnyElseUnder 35 = .ok (.invokestatic 28, 3) := by decide +kernel
theorem dX4_isAnyElseUnder_38 : decode cX4_isAnyElseUnder 38 = .ok (.iload_n 1, 1) := by decide +kernel
theorem dX4_isAnyElseUnder_39 : decode cX4_isAnyElseUnder 39 = .ok (.invokestatic 34, 3) := by decide +kernel
theorem dX4_isAnyElseUnder_42 : decode cX4_isAnyElseUnder 42 = .ok (.ifCond .eq 5, 3) := by decide +kernel
theorem dX4_isAnyElseUnder_45 : decode cX4_isAnyElseUnder 45 = .ok (.iconst 1, 1) := by decide +kernel
theorem dX4_isAnyElseUnder_46 : decode cX4_isAnyElseUnder 46 = .ok (.ireturn, 1) := by decide +kernel
theorem dX4_isAnyElseUnder_47 : decode cX4_isAnyElseUnder 47 = .ok (.iinc 2 1, 3) := by decide +kernel
theorem dX4_isAnyElseUnder_50 : decode cX4_isAnyElseUnder 50 = .ok (.goto (-48), 3) := by decide +kernel
theorem dX4_isAnyElseUnder_53 : decode cX4_isAnyElseUnder 53 = .ok (.iconst 0, 1) := by decide +kernel
theorem dX4_isAnyElseUnder_54 : decode cX4_isAnyElseUnder 54 = .ok (.ireturn, 1) := by decide +kernel
set_option maxRecDepth 20000 in
theorem ggX4_cutOver_X3_isUnder : GoodIn wsX4_cutOver wsX3_isUnder := goodIn_r _ [7] (by decide +kernel) (by decide +kernel)
set_option maxRecDepth 20000 in
theorem gX4_cutOver_X3_isUnder : GoodIn wsX4_cutOver (va_wsS RX4 34 yX3_isUnder wsX3_isUnder) := goodIn_app (goodIn_of _ (by decide +kernel)) ggX4_cutOver_X3_isUnder
theorem dX4_cutOver_0 : decode cX4_cutOver 0 = .ok (.iconst (-1), 1) := by decide +kernel
theorem dX4_cutOver_1 : decode cX4_cutOver 1 = .ok (.istore_n 2, 1) := by decide +kernel
theorem dX4_cutOver_2 : decode cX4_cutOver 2 = .ok (.iconst (-1), 1) := by decide +kernel
theorem dX4_cutOver_3 : decode cX4_cutOver 3 = .ok (.istore_n 3, 1) := by decide +kernel
theorem dX4_cutOver_4 : decode cX4_cutOver 4 = .ok (.iconst 0, 1) := by decide +kernel
theorem dX4_cutOver_5 : decode cX4_cutOver 5 = .ok (.istore 4, 2) := by decide +kernel
theorem dX4_cutOver_7 : decode cX4_cutOver 7 = .ok (.iload 4, 2) := by decide +kernel
theorem dX4_cutOver_9 : decode cX4_cutOver 9 = .ok (.aload_n 0, 1) := by decide +kernel
theorem dX4_cutOver_10 : decode cX4_cutOver 10 = .ok (.getfield 24, 3) := by decide +kernel
theorem dX4_cutOver_13 : decode cX4_cutOver 13 = .ok (.if_icmp .ge 83, 3) := by decide +kernel
theorem dX4_cutOver_16 : decode cX4_cutOver 16 = .ok (.iload 4, 2) := by decide +kernel
theorem dX4_cutOver_18 : decode cX4_cutOver 18 = .ok (.aload_n 0, 1) := by decide +kernel
theorem dX4_cutOver_19 : decode cX4_cutOver 19 = .ok (.getfield 9, 3) := by decide +kernel
theorem dX4_cutOver_22 : decode cX4_cutOver 22 = .ok (.arraylength, 1) := by decide +kernel
theorem dX4_cutOver_23 : decode cX4_cutOver 23 = .ok (.if_icmp .ge 73, 3) := by decide +kernel
theorem dX4_cutOver_26 : decode cX4_cutOver 26 = .ok (.aload_n 0, 1) := by decide +kernel
theorem dX4_cutOver_27 : decode cX4_cutOver 27 = .ok (.getfield 15, 3) := by decide +kernel
theorem dX4_cutOver_30 : decode cX4_cutOver 30 = .ok (.iload 4, 2) := by decide +kernel
theorem dX4_cutOver_32 : decode cX4_cutOver 32 = .ok (.iaload, 1) := by decide +kernel
theorem dX4_cutOver_33 : decode cX4_cutOver 33 = .ok (.iconst 3, 1) := by decide +kernel
theorem dX4_cutOver_34 : decode cX4_cutOver 34 = .ok (.if_icmp .ne 21, 3) := by decide +kernel
theorem dX4_cutOver_37 : decode cX4_cutOver 37 = .ok (.iload_n 1, 1) := by decide +kernel
theorem dX4_cutOver_38 : decode cX4_cutOver 38 = .ok (.aload_n 0, 1) := by decide +kernel
theorem dX4_cutOver_39 : decode cX4_cutOver 39 = .ok (.getfield 9, 3) := by decide +kernel
theorem dX4_cutOver_42 : decode cX4_cutOver 42 = .ok (.iload 4, 2) := by decide +kernel
theorem dX4_cutOver_44 : decode cX4_cutOver 44 = .ok (.iaload, 1) := by decide +kernel
theorem dX4_cutOver_45 : decode cX4_cutOver 45 = .ok (.invokestatic 34, 3) := by decide +kernel
theorem dX4_cutOver_48 : decode cX4_cutOver 48 = .ok (.ifCond .eq 7, 3) := by decide +kernel
theorem dX4_cutOver_51 : decode cX4_cutOver 51 = .ok (.iconst 1, 1) := by decide +kernel
theorem dX4_cutOver_52 : decode cX4_cutOver 52 = .ok (.goto 4, 3) := by decide +kernel
theorem dX4_cutOver_55 : decode cX4_cutOver 55 = .ok (.iconst 0, 1) := by decide +kernel
theorem dX4_cutOver_56 : decode cX4_cutOver 56 = .ok (.istore 5, 2) := by decide +kernel
theorem dX4_cutOver_58 : decode cX4_cutOver 58 = .ok (.iload 5, 2) := by decide +kernel
theorem dX4_cutOver_60 : decode cX4_cutOver 60 = .ok (.ifCond .eq 30, 3) := by decide +kernel
theorem dX4_cutOver_63 : decode cX4_cutOver 63 = .ok (.iload_n 2, 1) := by decide +kernel
theorem dX4_cutOver_64 : decode cX4_cutOver 64 = .ok (.iconst (-1), 1) := by decide +kernel
theorem dX4_cutOver_65 : decode cX4_cutOver 65 = .ok (.if_icmp .eq 14, 3) := by decide +kernel
theorem dX4_cutOver_68 : decode cX4_cutOver 68 = .ok (.aload_n 0, 1) := by decide +kernel
theorem dX4_cutOver_69 : decode cX4_cutOver 69 = .ok (.getfield 9, 3) := by decide +kernel
theorem dX4_cutOver_72 : decode cX4_cutOver 72 = .ok (.iload 4, 2) := by decide +kernel
theorem dX4_cutOver_74 : decode cX4_cutOver 74 = .ok (.iaload, 1) := by decide +kernel
theorem dX4_cutOver_75 : decode cX4_cutOver 75 = .ok (.iload_n 3, 1) := by decide +kernel
theorem dX4_cutOver_76 : decode cX4_cutOver 76 = .ok (.if_icmp .ge 14, 3) := by decide +kernel
theorem dX4_cutOver_79 : decode cX4_cutOver 79 = .ok (.iload 4, 2) := by decide +kernel
theorem dX4_cutOver_81 : decode cX4_cutOver 81 = .ok (.istore_n 2, 1) := by decide +kernel
theorem dX4_cutOver_82 : decode cX4_cutOver 82 = .ok (.aload_n 0, 1) := by decide +kernel
theorem dX4_cutOver_83 : decode cX4_cutOver 83 = .ok (.getfield 9, 3) := by decide +kernel
theorem dX4_cutOver_86 : decode cX4_cutOver 86 = .ok (.iload 4, 2) := by decide +kernel
theorem dX4_cutOver_88 : decode cX4_cutOver 88 = .ok (.iaload, 1) := by decide +kernel
theorem dX4_cutOver_89 : decode cX4_cutOver 89 = .ok (.istore_n 3, 1) := by decide +kernel
theorem dX4_cutOver_90 : decode cX4_cutOver 90 = .ok (.iinc 4 1, 3) := by decide +kernel
theorem dX4_cutOver_93 : decode cX4_cutOver 93 = .ok (.goto (-86), 3) := by decide +kernel
theorem dX4_cutOver_96 : decode cX4_cutOver 96 = .ok (.iload_n 2, 1) := by decide +kernel
theorem dX4_cutOver_97 : decode cX4_cutOver 97 = .ok (.ireturn, 1) := by decide +kernel
set_option maxRecDepth 20000 in
theorem ggX4_treeOver_X3_isUnder : GoodIn wsX4_treeOver wsX3_isUnder := goodIn_r _ [7] (by decide +kernel) (by decide +kernel)
set_option maxRecDepth 20000 in
theorem gX4_treeOver_X3_isUnder : GoodIn wsX4_treeOver (va_wsS RX4 34 yX3_isUnder wsX3_isUnder) := goodIn_app (goodIn_of _ (by decide +kernel)) ggX4_treeOver_X3_isUnder
theorem dX4_treeOver_0 : decode cX4_treeOver 0 = .ok (.iconst 0, 1) := by decide +kernel
theorem dX4_treeOver_1 : decode cX4_treeOver 1 = .ok (.istore_n 2, 1) := by decide +kernel
theorem dX4_treeOver_2 : decode cX4_treeOver 2 = .ok (.iload_n 2, 1) := by decide +kernel
theorem dX4_treeOver_3 : decode cX4_treeOver 3 = .ok (.aload_n 0, 1) := by decide +kernel
theorem dX4_treeOver_4 : decode cX4_treeOver 4 = .ok (.getfield 24, 3) := by decide +kernel
theorem dX4_treeOver_7 : decode cX4_treeOver 7 = .ok (.if_icmp .ge 53, 3) := by decide +kernel
theorem dX4_treeOver_10 : decode cX4_treeOver 10 = .ok (.iload_n 2, 1) := by decide +kernel
theorem dX4_treeOver_11 : decode cX4_treeOver 11 = .ok (.aload_n 0, 1) := by decide +kernel
theorem dX4_treeOver_12 : decode cX4_treeOver 12 = .ok (.getfield 9, 3) := by decide +kernel
theorem dX4_treeOver_15 : decode cX4_treeOver 15 = .ok (.arraylength, 1) := by decide +kernel
theorem dX4_treeOver_16 : decode cX4_treeOver 16 = .ok (.if_icmp .ge 44, 3) := by decide +kernel
theorem dX4_treeOver_19 : decode cX4_treeOver 19 = .ok (.aload_n 0, 1) := by decide +kernel
theorem dX4_treeOver_20 : decode cX4_treeOver 20 = .ok (.getfield 15, 3) := by decide +kernel
theorem dX4_treeOver_23 : decode cX4_treeOver 23 = .ok (.iload_n 2, 1) := by decide +kernel
theorem dX4_treeOver_24 : decode cX4_treeOver 24 = .ok (.iaload, 1) := by decide +kernel
theorem dX4_treeOver_25 : decode cX4_treeOver 25 = .ok (.iconst 2, 1) := by decide +kernel
theorem dX4_treeOver_26 : decode cX4_treeOver 26 = .ok (.if_icmp .ne 28, 3) := by decide +kernel
theorem dX4_treeOver_29 : decode cX4_treeOver 29 = .ok (.aload_n 0, 1) := by decide +kernel
theorem dX4_treeOver_30 : decode cX4_treeOver 30 = .ok (.getfield 9, 3) := by decide +kernel
theorem dX4_treeOver_33 : decode cX4_treeOver 33 = .ok (.iload_n 2, 1) := by decide +kernel
theorem dX4_treeOver_34 : decode cX4_treeOver 34 = .ok (.iaload, 1) := by decide +kernel
theorem dX4_treeOver_35 : decode cX4_treeOver 35 = .ok (.iload_n 1, 1) := by decide +kernel
theorem dX4_treeOver_36 : decode cX4_treeOver 36 = .ok (.if_icmp .eq 18, 3) := by decide +kernel
theorem dX4_treeOver_39 : decode cX4_treeOver 39 = .ok (.iload_n 1, 1) := by decide +kernel
theorem dX4_treeOver_40 : decode cX4_treeOver 40 = .ok (.aload_n 0, 1) := by decide +kernel
theorem dX4_treeOver_41 : decode cX4_treeOver 41 = .ok (.getfield 9, 3) := by decide +kernel
theorem dX4_treeOver_44 : decode cX4_treeOver 44 = .ok (.iload_n 2, 1) := by decide +kernel
theorem dX4_treeOver_45 : decode cX4_treeOver 45 = .ok (.iaload, 1) := by decide +kernel
theorem dX4_treeOver_46 : decode cX4_treeOver 46 = .ok (.invokestatic 34, 3) := by decide +kernel
theorem dX4_treeOver_49 : decode cX4_treeOver 49 = .ok (.ifCond .eq 5, 3) := by decide +kernel
theorem dX4_treeOver_52 : decode cX4_treeOver 52 = .ok (.iload_n 2, 1) := by decide +kernel
theorem dX4_treeOver_53 : decode cX4_treeOver 53 = .ok (.ireturn, 1) := by decide +kernel
theorem dX4_treeOver_54 : decode cX4_treeOver 54 = .ok (.iinc 2 1, 3) := by decide +kernel
theorem dX4_treeOver_57 : decode cX4_treeOver 57 = .ok (.goto (-55), 3) := by decide +kernel
theorem dX4_treeOver_60 : decode cX4_treeOver 60 = .ok (.iconst (-1), 1) := by decide +kernel
theorem dX4_treeOver_61 : decode cX4_treeOver 61 = .ok (.ireturn, 1) := by decide +kernel
set_option maxRecDepth 20000 in
theorem ggX4_isOwn_X3_nameOf : GoodIn wsX4_isOwn wsX3_nameOf := goodIn_r _ [4] (by decide +kernel) (by decide +kernel)
set_option maxRecDepth 20000 in
theorem gX4_isOwn_X3_nameOf : GoodIn wsX4_isOwn (va_wsS RX4 28 yX3_nameOf wsX3_nameOf) := goodIn_app (goodIn_of _ (by decide +kernel)) ggX4_isOwn_X3_nameOf
set_option maxRecDepth 20000 in
theorem ggX4_isOwn_X4_cutOver : GoodIn wsX4_isOwn wsX4_cutOver := goodIn_r _ [9, 10, 11, 12, 13, 14, 3, 15, 20, 21, 22, 23, 24] (by decide +kernel) (by decide +kernel)
set_option maxRecDepth 20000 in
theorem gX4_isOwn_X4_cutOver : GoodIn wsX4_isOwn (wsV RX4 38 RX4 yX4_cutOver wsX4_cutOver) := goodIn_app (goodIn_of _ (by decide +kernel)) ggX4_isOwn_X4_cutOver
set_option maxRecDepth 20000 in
theorem ggX4_isOwn_X4_placeAt : GoodIn wsX4_isOwn wsX4_placeAt := goodIn_r _ [19, 10, 11, 20, 21, 22, 23, 24] (by decide +kernel) (by decide +kernel)
set_option maxRecDepth 20000 in
theorem gX4_isOwn_X4_placeAt : GoodIn wsX4_isOwn (wsV RX4 41 RX4 yX4_placeAt wsX4_placeAt) := goodIn_app (goodIn_of _ (by decide +kernel)) ggX4_isOwn_X4_placeAt
theorem dX4_isOwn_0 : decode cX4_isOwn 0 = .ok (.aload_n 0, 1) := by decide +kernel
theorem dX4_isOwn_1 : decode cX4_isOwn 1 = .ok (.iload_n 1, 1) := by decide +kernel
theorem dX4_isOwn_2 : decode cX4_isOwn 2 = .ok (.invokestatic 28, 3) := by decide +kernel
theorem dX4_isOwn_5 : decode cX4_isOwn 5 = .ok (.invokevirtual 38, 3) := by decide +kernel
theorem dX4_isOwn_8 : decode cX4_isOwn 8 = .ok (.istore_n 2, 1) := by decide +kernel
theorem dX4_isOwn_9 : decode cX4_isOwn 9 = .ok (.iload_n 2, 1) := by decide +kernel
theorem dX4_isOwn_10 : decode cX4_isOwn 10 = .ok (.iconst (-1), 1) := by decide +kernel
theorem dX4_isOwn_11 : decode cX4_isOwn 11 = .ok (.if_icmp .eq 12, 3) := by decide +kernel
theorem dX4_isOwn_14 : decode cX4_isOwn 14 = .ok (.aload_n 0, 1) := by decide +kernel
theorem dX4_isOwn_15 : decode cX4_isOwn 15 = .ok (.iload_n 2, 1) := by decide +kernel
theorem dX4_isOwn_16 : decode cX4_isOwn 16 = .ok (.invokevirtual 41, 3) := by decide +kernel
theorem dX4_isOwn_19 : decode cX4_isOwn 19 = .ok (.iload_n 1, 1) := by decide +kernel
theorem dX4_isOwn_20 : decode cX4_isOwn 20 = .ok (.if_icmp .ne 7, 3) := by decide +kernel
theorem dX4_isOwn_23 : decode cX4_isOwn 23 = .ok (.iconst 1, 1) := by decide +kernel
theorem dX4_isOwn_24 : decode cX4_isOwn 24 = .ok (.goto 4, 3) := by decide +kernel
theorem dX4_isOwn_27 : decode cX4_isOwn 27 = .ok (.iconst 0, 1) := by decide +kernel
theorem dX4_isOwn_28 : decode cX4_isOwn 28 = .ok (.ireturn, 1) := by decide +kernel
set_option maxRecDepth 20000 in
theorem ggX4_set_X4_rowOf : GoodIn wsX4_set wsX4_rowOf := goodIn_r _ [10, 1, 2, 3, 11, 12, 13, 14, 15] (by decide +kernel) (by decide +kernel)
set_option maxRecDepth 20000 in
theorem gX4_set_X4_rowOf : GoodIn wsX4_set (wsV RX4 44 RX4 yX4_rowOf wsX4_rowOf) := goodIn_app (goodIn_of _ (by decide +kernel)) ggX4_set_X4_rowOf
theorem dX4_set_0 : decode cX4_set 0 = .ok (.aload_n 0, 1) := by decide +kernel
theorem dX4_set_1 : decode cX4_set 1 = .ok (.iload_n 1, 1) := by decide +kernel
theorem dX4_set_2 : decode cX4_set 2 = .ok (.iload_n 2, 1) := by decide +kernel
theorem dX4_set_3 : decode cX4_set 3 = .ok (.invokevirtual 44, 3) := by decide +kernel
theorem dX4_set_6 : decode cX4_set 6 = .ok (.istore 5, 2) := by decide +kernel
theorem dX4_set_8 : decode cX4_set 8 = .ok (.iload 5, 2) := by decide +kernel
theorem dX4_set_10 : decode cX4_set 10 = .ok (.iconst (-1), 1) := by decide +kernel
theorem dX4_set_11 : decode cX4_set 11 = .ok (.if_icmp .ne 31, 3) := by decide +kernel
theorem dX4_set_14 : decode cX4_set 14 = .ok (.aload_n 0, 1) := by decide +kernel
theorem dX4_set_15 : decode cX4_set 15 = .ok (.getfield 24, 3) := by decide +kernel
theorem dX4_set_18 : decode cX4_set 18 = .ok (.aload_n 0, 1) := by decide +kernel
theorem dX4_set_19 : decode cX4_set 19 = .ok (.getfield 9, 3) := by decide +kernel
theorem dX4_set_22 : decode cX4_set 22 = .ok (.arraylength, 1) := by decide +kernel
theorem dX4_set_23 : decode cX4_set 23 = .ok (.if_icmp .ge 19, 3) := by decide +kernel
theorem dX4_set_26 : decode cX4_set 26 = .ok (.aload_n 0, 1) := by decide +kernel
theorem dX4_set_27 : decode cX4_set 27 = .ok (.getfield 24, 3) := by decide +kernel
theorem dX4_set_30 : decode cX4_set 30 = .ok (.istore 5, 2) := by decide +kernel
theorem dX4_set_32 : decode cX4_set 32 = .ok (.aload_n 0, 1) := by decide +kernel
theorem dX4_set_33 : decode cX4_set 33 = .ok (.dup, 1) := by decide +kernel
theorem dX4_set_34 : decode cX4_set 34 = .ok (.getfield 24, 3) := by decide +kernel
theorem dX4_set_37 : decode cX4_set 37 = .ok (.iconst 1, 1) := by decide +kernel
theorem dX4_set_38 : decode cX4_set 38 = .ok (.iadd, 1) := by decide +kernel
theorem dX4_set_39 : decode cX4_set 39 = .ok (.putfield 24, 3) := by decide +kernel
theorem dX4_set_42 : decode cX4_set 42 = .ok (.iload 5, 2) := by decide +kernel
theorem dX4_set_44 : decode cX4_set 44 = .ok (.ifCond .lt 46, 3) := by decide +kernel
theorem dX4_set_47 : decode cX4_set 47 = .ok (.iload 5, 2) := by decide +kernel
theorem dX4_set_49 : decode cX4_set 49 = .ok (.aload_n 0, 1) := by decide +kernel
theorem dX4_set_50 : decode cX4_set 50 = .ok (.getfield 9, 3) := by decide +kernel
theorem dX4_set_53 : decode cX4_set 53 = .ok (.arraylength, 1) := by decide +kernel
theorem dX4_set_54 : decode cX4_set 54 = .ok (.if_icmp .ge 36, 3) := by decide +kernel
theorem dX4_set_57 : decode cX4_set 57 = .ok (.aload_n 0, 1) := by decide +kernel
theorem dX4_set_58 : decode cX4_set 58 = .ok (.getfield 9, 3) := by decide +kernel
theorem dX4_set_61 : decode cX4_set 61 = .ok (.iload 5, 2) := by decide +kernel
theorem dX4_set_63 : decode cX4_set 63 = .ok (.iload_n 1, 1) := by decide +kernel
theorem dX4_set_64 : decode cX4_set 64 = .ok (.iastore, 1) := by decide +kernel
theorem dX4_set_65 : decode cX4_set 65 = .ok (.aload_n 0, 1) := by decide +kernel
theorem dX4_set_66 : decode cX4_set 66 = .ok (.getfield 15, 3) := by decide +kernel
theorem dX4_set_69 : decode cX4_set 69 = .ok (.iload 5, 2) := by decide +kernel
theorem dX4_set_71 : decode cX4_set 71 = .ok (.iload_n 2, 1) := by decide +kernel
theorem dX4_set_72 : decode cX4_set 72 = .ok (.iastore, 1) := by decide +kernel
theorem dX4_set_73 : decode cX4_set 73 = .ok (.aload_n 0, 1) := by decide +kernel
theorem dX4_set_74 : decode cX4_set 74 = .ok (.getfield 18, 3) := by decide +kernel
theorem dX4_set_77 : decode cX4_set 77 = .ok (.iload 5, 2) := by decide +kernel
theorem dX4_set_79 : decode cX4_set 79 = .ok (.iload_n 3, 1) := by decide +kernel
theorem dX4_set_80 : decode cX4_set 80 = .ok (.iastore, 1) := by decide +kernel
theorem dX4_set_81 : decode cX4_set 81 = .ok (.aload_n 0, 1) := by decide +kernel
theorem dX4_set_82 : decode cX4_set 82 = .ok (.getfield 21, 3) := by decide +kernel
theorem dX4_set_85 : decode cX4_set 85 = .ok (.iload 5, 2) := by decide +kernel
theorem dX4_set_87 : decode cX4_set 87 = .ok (.iload 4, 2) := by decide +kernel
theorem dX4_set_89 : decode cX4_set 89 = .ok (.iastore, 1) := by decide +kernel
theorem dX4_set_90 : decode cX4_set 90 = .ok (.return_, 1) := by decide +kernel
set_option maxRecDepth 20000 in
theorem ggX4_remove_X4_rowOf : GoodIn wsX4_remove wsX4_rowOf := goodIn_r _ [10, 2, 1, 3, 27, 28, 29, 30, 31] (by decide +kernel) (by decide +kernel)
set_option maxRecDepth 20000 in
theorem gX4_remove_X4_rowOf : GoodIn wsX4_remove (wsV RX4 44 RX4 yX4_rowOf wsX4_rowOf) := goodIn_app (goodIn_of _ (by decide +kernel)) ggX4_remove_X4_rowOf
set_option maxRecDepth 20000 in
theorem ggX4_remove_X4_placeAt : GoodIn wsX4_remove wsX4_placeAt := goodIn_r _ [14, 2, 1, 27, 28, 29, 30, 31] (by decide +kernel) (by decide +kernel)
set_option maxRecDepth 20000 in
theorem gX4_remove_X4_placeAt : GoodIn wsX4_remove (wsV RX4 41 RX4 yX4_placeAt wsX4_placeAt) := goodIn_app (goodIn_of _ (by decide +kernel)) ggX4_remove_X4_placeAt
set_option maxRecDepth 20000 in
theorem ggX4_remove_X4_sortAt : GoodIn wsX4_remove wsX4_sortAt := goodIn_r _ [18, 2, 3, 27, 28, 29, 30, 31] (by decide +kernel) (by decide +kernel)
set_option maxRecDepth 20000 in
theorem gX4_remove_X4_sortAt : GoodIn wsX4_remove (wsV RX4 48 RX4 yX4_sortAt wsX4_sortAt) := goodIn_app (goodIn_of _ (by decide +kernel)) ggX4_remove_X4_sortAt
set_option maxRecDepth 20000 in
theorem ggX4_remove_X4_numberAt : GoodIn wsX4_remove wsX4_numberAt := goodIn_r _ [22, 2, 4, 27, 28, 29, 30, 31] (by decide +kernel) (by decide +kernel)
set_option maxRecDepth 20000 in
theorem gX4_remove_X4_numberAt : GoodIn wsX4_remove (wsV RX4 51 RX4 yX4_numberAt wsX4_numberAt) := goodIn_app (goodIn_of _ (by decide +kernel)) ggX4_remove_X4_numberAt
set_option maxRecDepth 20000 in
theorem ggX4_remove_X4_lifeAt : GoodIn wsX4_remove wsX4_lifeAt := goodIn_r _ [26, 2, 5, 27, 28, 29, 30, 31] (by decide +kernel) (by decide +kernel)
set_option maxRecDepth 20000 in
theorem gX4_remove_X4_lifeAt : GoodIn wsX4_remove (wsV RX4 54 RX4 yX4_lifeAt wsX4_lifeAt) := goodIn_app (goodIn_of _ (by decide +kernel)) ggX4_remove_X4_lifeAt
theorem dX4_remove_0 : decode cX4_remove 0 = .ok (.aload_n 0, 1) := by decide +kernel
theorem dX4_remove_1 : decode cX4_remove 1 = .ok (.iload_n 1, 1) := by decide +kernel
theorem dX4_remove_2 : decode cX4_remove 2 = .ok (.iload_n 2, 1) := by decide +kernel
theorem dX4_remove_3 : decode cX4_remove 3 = .ok (.invokevirtual 44, 3) := by decide +kernel
theorem dX4_remove_6 : decode cX4_remove 6 = .ok (.istore_n 3, 1) := by decide +kernel
theorem dX4_remove_7 : decode cX4_remove 7 = .ok (.iload_n 3, 1) := by decide +kernel
theorem dX4_remove_8 : decode cX4_remove 8 = .ok (.ifCond .lt 12, 3) := by decide +kernel
theorem dX4_remove_11 : decode cX4_remove 11 = .ok (.iload_n 3, 1) := by decide +kernel
theorem dX4_remove_12 : decode cX4_remove 12 = .ok (.aload_n 0, 1) := by decide +kernel
theorem dX4_remove_13 : decode cX4_remove 13 = .ok (.getfield 9, 3) := by decide +kernel
theorem dX4_remove_16 : decode cX4_remove 16 = .ok (.arraylength, 1) := by decide +kernel
theorem dX4_remove_17 : decode cX4_remove 17 = .ok (.if_icmp .lt 5, 3) := by decide +kernel
theorem dX4_remove_20 : decode cX4_remove 20 = .ok (.iconst 0, 1) := by decide +kernel
theorem dX4_remove_21 : decode cX4_remove 21 = .ok (.ireturn, 1) := by decide +kernel
theorem dX4_remove_22 : decode cX4_remove 22 = .ok (.aload_n 0, 1) := by decide +kernel
theorem dX4_remove_23 : decode cX4_remove 23 = .ok (.getfield 24, 3) := by decide +kernel
theorem dX4_remove_26 : decode cX4_remove 26 = .ok (.iconst 1, 1) := by decide +kernel
theorem dX4_remove_27 : decode cX4_remove 27 = .ok (.isub, 1) := by decide +kernel
theorem dX4_remove_28 : decode cX4_remove 28 = .ok (.istore 4, 2) := by decide +kernel
theorem dX4_remove_30 : decode cX4_remove 30 = .ok (.aload_n 0, 1) := by decide +kernel
theorem dX4_remove_31 : decode cX4_remove 31 = .ok (.getfield 9, 3) := by decide +kernel
theorem dX4_remove_34 : decode cX4_remove 34 = .ok (.iload_n 3, 1) := by decide +kernel
theorem dX4_remove_35 : decode cX4_remove 35 = .ok (.aload_n 0, 1) := by decide +kernel
theorem dX4_remove_36 : decode cX4_remove 36 = .ok (.iload 4, 2) := by decide +kernel
theorem dX4_remove_38 : decode cX4_remove 38 = .ok (.invokevirtual 41, 3) := by decide +kernel
theorem dX4_remove_41 : decode cX4_remove 41 = .ok (.iastore, 1) := by decide +kernel
theorem dX4_remove_42 : decode cX4_remove 42 = .ok (.aload_n 0, 1) := by decide +kernel
theorem dX4_remove_43 : decode cX4_remove 43 = .ok (.getfield 15, 3) := by decide +kernel
theorem dX4_remove_46 : decode cX4_remove 46 = .ok (.iload_n 3, 1) := by decide +kernel
theorem dX4_remove_47 : decode cX4_remove 47 = .ok (.aload_n 0, 1) := by decide +kernel
theorem dX4_remove_48 : decode cX4_remove 48 = .ok (.iload 4, 2) := by decide +kernel
theorem dX4_remove_50 : decode cX4_remove 50 = .ok (.invokevirtual 48, 3) := by decide +kernel
theorem dX4_remove_53 : decode cX4_remove 53 = .ok (.iastore, 1) := by decide +kernel
theorem dX4_remove_54 : decode cX4_remove 54 = .ok (.aload_n 0, 1) := by decide +kernel
theorem dX4_remove_55 : decode cX4_remove 55 = .ok (.getfield 18, 3) := by decide +kernel
theorem dX4_remove_58 : decode cX4_remove 58 = .ok (.iload_n 3, 1) := by decide +kernel
theorem dX4_remove_59 : decode cX4_remove 59 = .ok (.aload_n 0, 1) := by decide +kernel
theorem dX4_remove_60 : decode cX4_remove 60 = .ok (.iload 4, 2) := by decide +kernel
theorem dX4_remove_62 : decode cX4_remove 62 = .ok (.invokevirtual 51, 3) := by decide +kernel
theorem dX4_remove_65 : decode cX4_remove 65 = .ok (.iastore, 1) := by decide +kernel
theorem dX4_remove_66 : decode cX4_remove 66 = .ok (.aload_n 0, 1) := by decide +kernel
theorem dX4_remove_67 : decode cX4_remove 67 = .ok (.getfield 21, 3) := by decide +kernel
theorem dX4_remove_70 : decode cX4_remove 70 = .ok (.iload_n 3, 1) := by decide +kernel
theorem dX4_remove_71 : decode cX4_remove 71 = .ok (.aload_n 0, 1) := by decide +kernel
theorem dX4_remove_72 : decode cX4_remove 72 = .ok (.iload 4, 2) := by decide +kernel
theorem dX4_remove_74 : decode cX4_remove 74 = .ok (.invokevirtual 54, 3) := by decide +kernel
theorem dX4_remove_77 : decode cX4_remove 77 = .ok (.iastore, 1) := by decide +kernel
theorem dX4_remove_78 : decode cX4_remove 78 = .ok (.aload_n 0, 1) := by decide +kernel
theorem dX4_remove_79 : decode cX4_remove 79 = .ok (.iload 4, 2) := by decide +kernel
theorem dX4_remove_81 : decode cX4_remove 81 = .ok (.putfield 24, 3) := by decide +kernel
theorem dX4_remove_84 : decode cX4_remove 84 = .ok (.iconst 1, 1) := by decide +kernel
theorem dX4_remove_85 : decode cX4_remove 85 = .ok (.ireturn, 1) := by decide +kernel
set_option maxRecDepth 20000 in
theorem ggX4_become_X4_placeAt : GoodIn wsX4_become wsX4_placeAt := goodIn_r _ [14, 1, 2, 27, 28, 29, 30, 31] (by decide +kernel) (by decide +kernel)
set_option maxRecDepth 20000 in
theorem gX4_become_X4_placeAt : GoodIn wsX4_become (wsV RX4 41 RX4 yX4_placeAt wsX4_placeAt) := goodIn_app (goodIn_of _ (by decide +kernel)) ggX4_become_X4_placeAt
set_option maxRecDepth 20000 in
theorem ggX4_become_X4_sortAt : GoodIn wsX4_become wsX4_sortAt := goodIn_r _ [18, 1, 7, 27, 28, 29, 30, 31] (by decide +kernel) (by decide +kernel)
set_option maxRecDepth 20000 in
theorem gX4_become_X4_sortAt : GoodIn wsX4_become (wsV RX4 48 RX4 yX4_sortAt wsX4_sortAt) := goodIn_app (goodIn_of _ (by decide +kernel)) ggX4_become_X4_sortAt
set_option maxRecDepth 20000 in
theorem ggX4_become_X4_numberAt : GoodIn wsX4_become wsX4_numberAt := goodIn_r _ [22, 1, 8, 27, 28, 29, 30, 31] (by decide +kernel) (by decide +kernel)
set_option maxRecDepth 20000 in
theorem gX4_become_X4_numberAt : GoodIn wsX4_become (wsV RX4 51 RX4 yX4_numberAt wsX4_numberAt) := goodIn_app (goodIn_of _ (by decide +kernel)) ggX4_become_X4_numberAt
set_option maxRecDepth 20000 in
theorem ggX4_become_X4_lifeAt : GoodIn wsX4_become wsX4_lifeAt := goodIn_r _ [26, 1, 9, 27, 28, 29, 30, 31] (by decide +kernel) (by decide +kernel)
set_option maxRecDepth 20000 in
theorem gX4_become_X4_lifeAt : GoodIn wsX4_become (wsV RX4 54 RX4 yX4_lifeAt wsX4_lifeAt) := goodIn_app (goodIn_of _ (by decide +kernel)) ggX4_become_X4_lifeAt
theorem dX4_become_0 : decode cX4_become 0 = .ok (.aload_n 0, 1) := by decide +kernel
theorem dX4_become_1 : decode cX4_become 1 = .ok (.aload_n 1, 1) := by decide +kernel
theorem dX4_become_2 : decode cX4_become 2 = .ok (.getfield 24, 3) := by decide +kernel
theorem dX4_become_5 : decode cX4_become 5 = .ok (.aload_n 0, 1) := by decide +kernel
theorem dX4_become_6 : decode cX4_become 6 = .ok (.getfield 9, 3) := by decide +kernel
theorem dX4_become_9 : decode cX4_become 9 = .ok (.arraylength, 1) := by decide +kernel
theorem dX4_become_10 : decode cX4_become 10 = .ok (.invokestatic 57, 3) := by decide +kernel
theorem dX4_become_13 : decode cX4_become 13 = .ok (.putfield 24, 3) := by decide +kernel
theorem dX4_become_16 : decode cX4_become 16 = .ok (.iconst 0, 1) := by decide +kernel
theorem dX4_become_17 : decode cX4_become 17 = .ok (.istore_n 2, 1) := by decide +kernel
theorem dX4_become_18 : decode cX4_become 18 = .ok (.iload_n 2, 1) := by decide +kernel
theorem dX4_become_19 : decode cX4_become 19 = .ok (.aload_n 0, 1) := by decide +kernel
theorem dX4_become_20 : decode cX4_become 20 = .ok (.getfield 24, 3) := by decide +kernel
theorem dX4_become_23 : decode cX4_become 23 = .ok (.if_icmp .ge 53, 3) := by decide +kernel
theorem dX4_become_26 : decode cX4_become 26 = .ok (.aload_n 0, 1) := by decide +kernel
theorem dX4_become_27 : decode cX4_become 27 = .ok (.getfield 9, 3) := by decide +kernel
theorem dX4_become_30 : decode cX4_become 30 = .ok (.iload_n 2, 1) := by decide +kernel
theorem dX4_become_31 : decode cX4_become 31 = .ok (.aload_n 1, 1) := by decide +kernel
theorem dX4_become_32 : decode cX4_become 32 = .ok (.iload_n 2, 1) := by decide +kernel
theorem dX4_become_33 : decode cX4_become 33 = .ok (.invokevirtual 41, 3) := by decide +kernel
theorem dX4_become_36 : decode cX4_become 36 = .ok (.iastore, 1) := by decide +kernel
theorem dX4_become_37 : decode cX4_become 37 = .ok (.aload_n 0, 1) := by decide +kernel
theorem dX4_become_38 : decode cX4_become 38 = .ok (.getfield 15, 3) := by decide +kernel
theorem dX4_become_41 : decode cX4_become 41 = .ok (.iload_n 2, 1) := by decide +kernel
theorem dX4_become_42 : decode cX4_become 42 = .ok (.aload_n 1, 1) := by decide +kernel
theorem dX4_become_43 : decode cX4_become 43 = .ok (.iload_n 2, 1) := by decide +kernel
theorem dX4_become_44 : decode cX4_become 44 = .ok (.invokevirtual 48, 3) := by decide +kernel
theorem dX4_become_47 : decode cX4_become 47 = .ok (.iastore, 1) := by decide +kernel
theorem dX4_become_48 : decode cX4_become 48 = .ok (.aload_n 0, 1) := by decide +kernel
theorem dX4_become_49 : decode cX4_become 49 = .ok (.getfield 18, 3) := by decide +kernel
theorem dX4_become_52 : decode cX4_become 52 = .ok (.iload_n 2, 1) := by decide +kernel
theorem dX4_become_53 : decode cX4_become 53 = .ok (.aload_n 1, 1) := by decide +kernel
theorem dX4_become_54 : decode cX4_become 54 = .ok (.iload_n 2, 1) := by decide +kernel
theorem dX4_become_55 : decode cX4_become 55 = .ok (.invokevirtual 51, 3) := by decide +kernel
theorem dX4_become_58 : decode cX4_become 58 = .ok (.iastore, 1) := by decide +kernel
theorem dX4_become_59 : decode cX4_become 59 = .ok (.aload_n 0, 1) := by decide +kernel
theorem dX4_become_60 : decode cX4_become 60 = .ok (.getfield 21, 3) := by decide +kernel
theorem dX4_become_63 : decode cX4_become 63 = .ok (.iload_n 2, 1) := by decide +kernel
theorem dX4_become_64 : decode cX4_become 64 = .ok (.aload_n 1, 1) := by decide +kernel
theorem dX4_become_65 : decode cX4_become 65 = .ok (.iload_n 2, 1) := by decide +kernel
theorem dX4_become_66 : decode cX4_become 66 = .ok (.invokevirtual 54, 3) := by decide +kernel
theorem dX4_become_69 : decode cX4_become 69 = .ok (.iastore, 1) := by decide +kernel
theorem dX4_become_70 : decode cX4_become 70 = .ok (.iinc 2 1, 3) := by decide +kernel
theorem dX4_become_73 : decode cX4_become 73 = .ok (.goto (-55), 3) := by decide +kernel
theorem dX4_become_76 : decode cX4_become 76 = .ok (.return_, 1) := by decide +kernel
set_option maxRecDepth 20000 in
theorem ggX4_countNotIn_X4_placeAt : GoodIn wsX4_countNotIn wsX4_placeAt := goodIn_r _ [6, 1, 7, 27, 28, 29, 30, 31] (by decide +kernel) (by decide +kernel)
set_option maxRecDepth 20000 in
theorem gX4_countNotIn_X4_placeAt : GoodIn wsX4_countNotIn (wsV RX4 41 RX4 yX4_placeAt wsX4_placeAt) := goodIn_app (goodIn_of _ (by decide +kernel)) ggX4_countNotIn_X4_placeAt
set_option maxRecDepth 20000 in
theorem ggX4_countNotIn_X4_sortAt : GoodIn wsX4_countNotIn wsX4_sortAt := goodIn_r _ [11, 1, 12, 27, 28, 29, 30, 31] (by decide +kernel) (by decide +kernel)
set_option maxRecDepth 20000 in
theorem gX4_countNotIn_X4_sortAt : GoodIn wsX4_countNotIn (wsV RX4 48 RX4 yX4_sortAt wsX4_sortAt) := goodIn_app (goodIn_of _ (by decide +kernel)) ggX4_countNotIn_X4_sortAt
set_option maxRecDepth 20000 in
theorem ggX4_countNotIn_X4_rowOf : GoodIn wsX4_countNotIn wsX4_rowOf := goodIn_r _ [16, 1, 7, 12, 27, 28, 29, 30, 31] (by decide +kernel) (by decide +kernel)
set_option maxRecDepth 20000 in
theorem gX4_countNotIn_X4_rowOf : GoodIn wsX4_countNotIn (wsV RX4 44 RX4 yX4_rowOf wsX4_rowOf) := goodIn_app (goodIn_of _ (by decide +kernel)) ggX4_countNotIn_X4_rowOf
set_option maxRecDepth 20000 in
theorem ggX4_countNotIn_X4_numberAt : GoodIn wsX4_countNotIn wsX4_numberAt := goodIn_r _ [20, 1, 21, 27, 28, 29, 30, 31] (by decide +kernel) (by decide +kernel)
set_option maxRecDepth 20000 in
theorem gX4_countNotIn_X4_numberAt : GoodIn wsX4_countNotIn (wsV RX4 51 RX4 yX4_numberAt wsX4_numberAt) := goodIn_app (goodIn_of _ (by decide +kernel)) ggX4_countNotIn_X4_numberAt
set_option maxRecDepth 20000 in
theorem ggX4_countNotIn_X4_lifeAt : GoodIn wsX4_countNotIn wsX4_lifeAt := goodIn_r _ [25, 1, 26, 27, 28, 29, 30, 31] (by decide +kernel) (by decide +kernel)
set_option maxRecDepth 20000 in
theorem gX4_countNotIn_X4_lifeAt : GoodIn wsX4_countNotIn (wsV RX4 54 RX4 yX4_lifeAt wsX4_lifeAt) := goodIn_app (goodIn_of _ (by decide +kernel)) ggX4_countNotIn_X4_lifeAt
theorem dX4_countNotIn_0 : decode cX4_countNotIn 0 = .ok (.iconst 0, 1) := by decide +kernel
theorem dX4_countNotIn_1 : decode cX4_countNotIn 1 = .ok (.istore_n 2, 1) := by decide +kernel
theorem dX4_countNotIn_2 : decode cX4_countNotIn 2 = .ok (.iconst 0, 1) := by decide +kernel
theorem dX4_countNotIn_3 : decode cX4_countNotIn 3 = .ok (.istore_n 3, 1) := by decide +kernel
theorem dX4_countNotIn_4 : decode cX4_countNotIn 4 = .ok (.iload_n 3, 1) := by decide +kernel
theorem dX4_countNotIn_5 : decode cX4_countNotIn 5 = .ok (.aload_n 0, 1) := by decide +kernel
theorem dX4_countNotIn_6 : decode cX4_countNotIn 6 = .ok (.getfield 24, 3) := by decide +kernel
theorem dX4_countNotIn_9 : decode cX4_countNotIn 9 = .ok (.if_icmp .ge 62, 3) := by decide +kernel
theorem dX4_countNotIn_12 : decode cX4_countNotIn 12 = .ok (.aload_n 1, 1) := by decide +kernel
theorem dX4_countNotIn_13 : decode cX4_countNotIn 13 = .ok (.aload_n 0, 1) := by decide +kernel
theorem dX4_countNotIn_14 : decode cX4_countNotIn 14 = .ok (.iload_n 3, 1) := by decide +kernel
theorem dX4_countNotIn_15 : decode cX4_countNotIn 15 = .ok (.invokevirtual 41, 3) := by decide +kernel
theorem dX4_countNotIn_18 : decode cX4_countNotIn 18 = .ok (.aload_n 0, 1) := by decide +kernel
theorem dX4_countNotIn_19 : decode cX4_countNotIn 19 = .ok (.iload_n 3, 1) := by decide +kernel
theorem dX4_countNotIn_20 : decode cX4_countNotIn 20 = .ok (.invokevirtual 48, 3) := by decide +kernel
theorem dX4_countNotIn_23 : decode cX4_countNotIn 23 = .ok (.invokevirtual 44, 3) := by decide +kernel
theorem dX4_countNotIn_26 : decode cX4_countNotIn 26 = .ok (.istore 4, 2) := by decide +kernel
theorem dX4_countNotIn_28 : decode cX4_countNotIn 28 = .ok (.iload 4, 2) := by decide +kernel
theorem dX4_countNotIn_30 : decode cX4_countNotIn 30 = .ok (.iconst (-1), 1) := by decide +kernel
theorem dX4_countNotIn_31 : decode cX4_countNotIn 31 = .ok (.if_icmp .eq 31, 3) := by decide +kernel
theorem dX4_countNotIn_34 : decode cX4_countNotIn 34 = .ok (.aload_n 1, 1) := by decide +kernel
theorem dX4_countNotIn_35 : decode cX4_countNotIn 35 = .ok (.iload 4, 2) := by decide +kernel
theorem dX4_countNotIn_37 : decode cX4_countNotIn 37 = .ok (.invokevirtual 51, 3) := by decide +kernel
theorem dX4_countNotIn_40 : decode cX4_countNotIn 40 = .ok (.aload_n 0, 1) := by decide +kernel
theorem dX4_countNotIn_41 : decode cX4_countNotIn 41 = .ok (.iload_n 3, 1) := by decide +kernel
theorem dX4_countNotIn_42 : decode cX4_countNotIn 42 = .ok (.invokevirtual 51, 3) := by decide +kernel
theorem dX4_countNotIn_45 : decode cX4_countNotIn 45 = .ok (.if_icmp .ne 17, 3) := by decide +kernel
theorem dX4_countNotIn_48 : decode cX4_countNotIn 48 = .ok (.aload_n 1, 1) := by decide +kernel
theorem dX4_countNotIn_49 : decode cX4_countNotIn 49 = .ok (.iload 4, 2) := by decide +kernel
theorem dX4_countNotIn_51 : decode cX4_countNotIn 51 = .ok (.invokevirtual 54, 3) := by decide +kernel
theorem dX4_countNotIn_54 : decode cX4_countNotIn 54 = .ok (.aload_n 0, 1) := by decide +kernel
theorem dX4_countNotIn_55 : decode cX4_countNotIn 55 = .ok (.iload_n 3, 1) := by decide +kernel
theorem dX4_countNotIn_56 : decode cX4_countNotIn 56 = .ok (.invokevirtual 54, 3) := by decide +kernel
theorem dX4_countNotIn_59 : decode cX4_countNotIn 59 = .ok (.if_icmp .eq 6, 3) := by decide +kernel
theorem dX4_countNotIn_62 : decode cX4_countNotIn 62 = .ok (.iinc 2 1, 3) := by decide +kernel
theorem dX4_countNotIn_65 : decode cX4_countNotIn 65 = .ok (.iinc 3 1, 3) := by decide +kernel
theorem dX4_countNotIn_68 : decode cX4_countNotIn 68 = .ok (.goto (-64), 3) := by decide +kernel
theorem dX4_countNotIn_71 : decode cX4_countNotIn 71 = .ok (.iload_n 2, 1) := by decide +kernel
theorem dX4_countNotIn_72 : decode cX4_countNotIn 72 = .ok (.ireturn, 1) := by decide +kernel
set_option maxRecDepth 20000 in
theorem ggX5_init_X2_init : GoodIn wsX5_init wsX2_init := goodIn_r _ [15, 16, 2, 3, 17, 18, 19, 20, 21, 22, 23, 24, 25, 26, 35, 36, 37, 38, 39, 40, 41, 42, 43, 44, 45] (by decide +kernel) (by decide +kernel)
set_option maxRecDepth 20000 in
theorem gX5_init_X2_init_n11 : GoodIn wsX5_init (wsX2_init) := ggX5_init_X2_init
set_option maxRecDepth 20000 in
theorem ggX5_init_X0_init : GoodIn wsX5_init wsX0_init := goodIn_r _ [28, 29, 2, 3, 30, 31, 32, 33, 34, 61, 62, 63, 64, 65, 66, 67, 68] (by decide +kernel) (by decide +kernel)
set_option maxRecDepth 20000 in
theorem gX5_init_X0_init_n20 : GoodIn wsX5_init (wsX0_init) := ggX5_init_X0_init
theorem dX5_init_0 : decode cX5_init 0 = .ok (.aload_n 0, 1) := by decide +kernel
theorem dX5_init_1 : decode cX5_init 1 = .ok (.invokespecial 3, 3) := by decide +kernel
theorem dX5_init_4 : decode cX5_init 4 = .ok (.aload_n 0, 1) := by decide +kernel
theorem dX5_init_5 : decode cX5_init 5 = .ok (.new 9, 3) := by decide +kernel
theorem dX5_init_8 : decode cX5_init 8 = .ok (.dup, 1) := by decide +kernel
theorem dX5_init_9 : decode cX5_init 9 = .ok (.invokespecial 11, 3) := by decide +kernel
theorem dX5_init_12 : decode cX5_init 12 = .ok (.putfield 12, 3) := by decide +kernel
theorem dX5_init_15 : decode cX5_init 15 = .ok (.aload_n 0, 1) := by decide +kernel
theorem dX5_init_16 : decode cX5_init 16 = .ok (.new 18, 3) := by decide +kernel
theorem dX5_init_19 : decode cX5_init 19 = .ok (.dup, 1) := by decide +kernel
theorem dX5_init_20 : decode cX5_init 20 = .ok (.invokespecial 20, 3) := by decide +kernel
theorem dX5_init_23 : decode cX5_init 23 = .ok (.putfield 21, 3) := by decide +kernel
theorem dX5_init_26 : decode cX5_init 26 = .ok (.aload_n 0, 1) := by decide +kernel
theorem dX5_init_27 : decode cX5_init 27 = .ok (.iconst (-1), 1) := by decide +kernel
theorem dX5_init_28 : decode cX5_init 28 = .ok (.putfield 25, 3) := by decide +kernel
theorem dX5_init_31 : decode cX5_init 31 = .ok (.aload_n 0, 1) := by decide +kernel
theorem dX5_init_32 : decode cX5_init 32 = .ok (.aload_n 1, 1) := by decide +kernel
theorem dX5_init_33 : decode cX5_init 33 = .ok (.putfield 29, 3) := by decide +kernel
theorem dX5_init_36 : decode cX5_init 36 = .ok (.return_, 1) := by decide +kernel
set_option maxRecDepth 20000 in
theorem ggX5_run_X5_begin : GoodIn wsX5_run wsX5_begin := goodIn_r _ [19, 13, 20, 21, 14, 2, 22, 12, 23, 8, 7, 233, 234, 235, 236, 237, 238, 239, 240, 241, 242, 243, 244, 245, 246, 247] (by decide +kernel) (by decide +kernel)
set_option maxRecDepth 20000 in
theorem gX5_run_X5_begin : GoodIn wsX5_run (wsV RX5 33 RX5 yX5_begin wsX5_begin) := goodIn_app (goodIn_of _ (by decide +kernel)) ggX5_run_X5_begin
set_option maxRecDepth 20000 in
theorem ggX5_run_X5_takePart : GoodIn wsX5_run wsX5_takePart := goodIn_r _ [27, 21, 14, 28, 13, 20, 29, 1, 22, 30, 31, 32, 33, 34, 35, 36, 37, 38, 39, 40, 41, 42, 43, 44, 45, 46, 47, 48, 49, 50, 51, 52, 53, 54, 55, 56, 57, 58, 59, 60, 61, 62, 63, 64, 65, 66, 67, 18, 68, 69, 8, 70, 71, 72, 73, 74, 75, 76, 77, 78, 79, 80, 81, 82, 83, 84, 85, 86, 87, 88, 89, 90, 91, 92, 93, 94, 95, 96, 97, 98, 99, 100, 101, 102, 103, 104, 105, 106, 107, 108, 109, 110, 111, 112, 113, 114, 115, 116, 117, 118, 119, 120, 121, 122, 123, 124, 125, 126, 127, 4, 5, 6, 128, 129, 130, 131, 132, 133, 134, 135, 136, 137, 138, 139, 140, 141, 142, 143, 144, 145, 146, 147, 148, 149, 150, 151, 152, 153, 154, 155, 156, 157, 158, 159, 160, 161, 162, 163, 164, 165, 166, 167, 168, 169, 170, 171, 172, 173, 174, 175, 176, 177, 178, 179, 180, 181, 182, 183, 184, 185, 186, 187, 188, 189, 190, 191, 192, 193, 194, 195, 196, 197, 198, 199, 200, 201, 202, 203, 204, 205, 206, 207, 208, 209, 210, 211, 212, 213, 214, 215, 216, 217, 218, 219, 220, 23, 221, 222, 223, 224, 233, 234, 235, 236, 237, 238, 239, 240, 241, 242, 243, 244, 245, 246, 247, 256, 257, 258, 259, 260, 261, 262, 263, 264, 265, 266, 248, 249, 250, 251, 252, 253, 254, 255, 267, 268, 269, 270, 271, 272, 273, 274, 275, 276, 277, 278, 279, 280, 281, 282, 283, 284] (by decide +kernel) (by decide +kernel)
set_option maxRecDepth 20000 in
theorem gX5_run_X5_takePart : GoodIn wsX5_run (wsV RX5 37 RX5 yX5_takePart wsX5_takePart) := goodIn_app (goodIn_of _ (by decide +kernel)) ggX5_run_X5_takePart
set_option maxRecDepth 20000 in
theorem ggX5_run_X5_goDown : GoodIn wsX5_run wsX5_goDown := goodIn_r _ [228, 1, 14, 8, 70, 29, 75, 76, 77, 78, 79, 80, 81, 95, 96, 97, 93, 98, 99, 100, 101, 102, 103, 104, 105, 106, 92, 94, 233, 234, 235, 236, 237, 238, 239, 240, 241, 242, 243, 244, 245, 246, 247, 248, 249, 250, 251, 252, 253, 254, 255, 267, 268, 269, 270, 271, 272, 273, 274, 275, 276, 277, 278, 279] (by decide +kernel) (by decide +kernel)
set_option maxRecDepth 20000 in
theorem gX5_run_X5_goDown : GoodIn wsX5_run (wsV RX5 43 RX5 yX5_goDown wsX5_goDown) := goodIn_app (goodIn_of _ (by decide +kernel)) ggX5_run_X5_goDown
set_option maxRecDepth 20000 in
theorem ggX5_run_X5_finish : GoodIn wsX5_run wsX5_finish := goodIn_r _ [232, 1, 23, 2, 22, 64, 56, 57, 58, 59, 60, 61, 62, 63, 233, 234, 235, 236, 237, 238, 239, 240, 241, 242, 243, 244, 245, 246, 247, 248, 249, 250, 251, 252, 253, 254, 255] (by decide +kernel) (by decide +kernel)
set_option maxRecDepth 20000 in
theorem gX5_run_X5_finish : GoodIn wsX5_run (wsV RX5 75 RX5 yX5_finish wsX5_finish) := goodIn_app (goodIn_of _ (by decide +kernel)) ggX5_run_X5_finish
theorem dX5_run_0 : decode cX5_run 0 = .ok (.aload_n 0, 1) := by decide +kernel
theorem dX5_run_1 : decode cX5_run 1 = .ok (.iload_n 1, 1) := by decide +kernel
theorem dX5_run_2 : decode cX5_run 2 = .ok (.iload_n 2, 1) := by decide +kernel
theorem dX5_run_3 : decode cX5_run 3 = .ok (.iload_n 3, 1) := by decide +kernel
theorem dX5_run_4 : decode cX5_run 4 = .ok (.invokevirtual 33, 3) := by decide +kernel
theorem dX5_run_7 : decode cX5_run 7 = .ok (.iconst 0, 1) := by decide +kernel
theorem dX5_run_8 : decode cX5_run 8 = .ok (.istore 5, 2) := by decide +kernel
theorem dX5_run_10 : decode cX5_run 10 = .ok (.iload 5, 2) := by decide +kernel
theorem dX5_run_12 : decode cX5_run 12 = .ok (.sipush 1000, 3) := by decide +kernel
theorem dX5_run_15 : decode cX5_run 15 = .ok (.if_icmp .ge 116, 3) := by decide +kernel
theorem dX5_run_18 : decode cX5_run 18 = .ok (.aload_n 0, 1) := by decide +kernel
theorem dX5_run_19 : decode cX5_run 19 = .ok (.invokevirtual 37, 3) := by decide +kernel
theorem dX5_run_22 : decode cX5_run 22 = .ok (.aload_n 0, 1) := by decide +kernel
theorem dX5_run_23 : decode cX5_run 23 = .ok (.getfield 21, 3) := by decide +kernel
theorem dX5_run_26 : decode cX5_run 26 = .ok (.getfield 40, 3) := by decide +kernel
theorem dX5_run_29 : decode cX5_run 29 = .ok (.iconst 3, 1) := by decide +kernel
theorem dX5_run_30 : decode cX5_run 30 = .ok (.if_icmp .ne 10, 3) := by decide +kernel
theorem dX5_run_33 : decode cX5_run 33 = .ok (.aload_n 0, 1) := by decide +kernel
theorem dX5_run_34 : decode cX5_run 34 = .ok (.invokevirtual 43, 3) := by decide +kernel
theorem dX5_run_37 : decode cX5_run 37 = .ok (.goto 88, 3) := by decide +kernel
theorem dX5_run_40 : decode cX5_run 40 = .ok (.aload_n 0, 1) := by decide +kernel
theorem dX5_run_41 : decode cX5_run 41 = .ok (.aload_n 0, 1) := by decide +kernel
theorem dX5_run_42 : decode cX5_run 42 = .ok (.getfield 46, 3) := by decide +kernel
theorem dX5_run_45 : decode cX5_run 45 = .ok (.aload_n 0, 1) := by decide +kernel
theorem dX5_run_46 : decode cX5_run 46 = .ok (.getfield 21, 3) := by decide +kernel
theorem dX5_run_49 : decode cX5_run 49 = .ok (.getfield 49, 3) := by decide +kernel
theorem dX5_run_52 : decode cX5_run 52 = .ok (.invokestatic 50, 3) := by decide +kernel
theorem dX5_run_55 : decode cX5_run 55 = .ok (.putfield 46, 3) := by decide +kernel
theorem dX5_run_58 : decode cX5_run 58 = .ok (.aload_n 0, 1) := by decide +kernel
theorem dX5_run_59 : decode cX5_run 59 = .ok (.aload_n 0, 1) := by decide +kernel
theorem dX5_run_60 : decode cX5_run 60 = .ok (.getfield 56, 3) := by decide +kernel
theorem dX5_run_63 : decode cX5_run 63 = .ok (.aload_n 0, 1) := by decide +kernel
theorem dX5_run_64 : decode cX5_run 64 = .ok (.getfield 59, 3) := by decide +kernel
theorem dX5_run_67 : decode cX5_run 67 = .ok (.invokestatic 62, 3) := by decide +kernel
theorem dX5_run_70 : decode cX5_run 70 = .ok (.putfield 56, 3) := by decide +kernel
theorem dX5_run_73 : decode cX5_run 73 = .ok (.aload_n 0, 1) := by decide +kernel
theorem dX5_run_74 : decode cX5_run 74 = .ok (.getfield 21, 3) := by decide +kernel
theorem dX5_run_77 : decode cX5_run 77 = .ok (.getfield 40, 3) := by decide +kernel
theorem dX5_run_80 : decode cX5_run 80 = .ok (.iconst 4, 1) := by decide +kernel
theorem dX5_run_81 : decode cX5_run 81 = .ok (.if_icmp .eq 6, 3) := by decide +kernel
theorem dX5_run_84 : decode cX5_run 84 = .ok (.goto 47, 3) := by decide +kernel
theorem dX5_run_87 : decode cX5_run 87 = .ok (.aload_n 0, 1) := by decide +kernel
theorem dX5_run_88 : decode cX5_run 88 = .ok (.dup, 1) := by decide +kernel
theorem dX5_run_89 : decode cX5_run 89 = .ok (.getfield 65, 3) := by decide +kernel
theorem dX5_run_92 : decode cX5_run 92 = .ok (.iconst 1, 1) := by decide +kernel
theorem dX5_run_93 : decode cX5_run 93 = .ok (.iadd, 1) := by decide +kernel
theorem dX5_run_94 : decode cX5_run 94 = .ok (.putfield 65, 3) := by decide +kernel
theorem dX5_run_97 : decode cX5_run 97 = .ok (.aload_n 0, 1) := by decide +kernel
theorem dX5_run_98 : decode cX5_run 98 = .ok (.getfield 65, 3) := by decide +kernel
theorem dX5_run_101 : decode cX5_run 101 = .ok (.bipush 9, 2) := by decide +kernel
theorem dX5_run_103 : decode cX5_run 103 = .ok (.if_icmp .lt 6, 3) := by decide +kernel
theorem dX5_run_106 : decode cX5_run 106 = .ok (.goto 25, 3) := by decide +kernel
theorem dX5_run_109 : decode cX5_run 109 = .ok (.aload_n 0, 1) := by decide +kernel
theorem dX5_run_110 : decode cX5_run 110 = .ok (.aload_n 0, 1) := by decide +kernel
theorem dX5_run_111 : decode cX5_run 111 = .ok (.getfield 21, 3) := by decide +kernel
theorem dX5_run_114 : decode cX5_run 114 = .ok (.getfield 68, 3) := by decide +kernel
theorem dX5_run_117 : decode cX5_run 117 = .ok (.putfield 71, 3) := by decide +kernel
theorem dX5_run_120 : decode cX5_run 120 = .ok (.aload_n 0, 1) := by decide +kernel
theorem dX5_run_121 : decode cX5_run 121 = .ok (.iconst (-1), 1) := by decide +kernel
theorem dX5_run_122 : decode cX5_run 122 = .ok (.putfield 72, 3) := by decide +kernel
theorem dX5_run_125 : decode cX5_run 125 = .ok (.iinc 5 1, 3) := by decide +kernel
theorem dX5_run_128 : decode cX5_run 128 = .ok (.goto (-118), 3) := by decide +kernel
theorem dX5_run_131 : decode cX5_run 131 = .ok (.aload_n 0, 1) := by decide +kernel
theorem dX5_run_132 : decode cX5_run 132 = .ok (.aload 4, 2) := by decide +kernel
theorem dX5_run_134 : decode cX5_run 134 = .ok (.invokevirtual 75, 3) := by decide +kernel
theorem dX5_run_137 : decode cX5_run 137 = .ok (.return_, 1) := by decide +kernel
theorem dX5_begin_0 : decode cX5_begin 0 = .ok (.aload_n 0, 1) := by decide +kernel
theorem dX5_begin_1 : decode cX5_begin 1 = .ok (.iload_n 1, 1) := by decide +kernel
theorem dX5_begin_2 : decode cX5_begin 2 = .ok (.putfield 71, 3) := by decide +kernel
theorem dX5_begin_5 : decode cX5_begin 5 = .ok (.aload_n 0, 1) := by decide +kernel
theorem dX5_begin_6 : decode cX5_begin 6 = .ok (.iload_n 2, 1) := by decide +kernel
theorem dX5_begin_7 : decode cX5_begin 7 = .ok (.putfield 79, 3) := by decide +kernel
theorem dX5_begin_10 : decode cX5_begin 10 = .ok (.aload_n 0, 1) := by decide +kernel
theorem dX5_begin_11 : decode cX5_begin 11 = .ok (.iload_n 3, 1) := by decide +kernel
theorem dX5_begin_12 : decode cX5_begin 12 = .ok (.putfield 82, 3) := by decide +kernel
theorem dX5_begin_15 : decode cX5_begin 15 = .ok (.aload_n 0, 1) := by decide +kernel
theorem dX5_begin_16 : decode cX5_begin 16 = .ok (.iconst (-1), 1) := by decide +kernel
theorem dX5_begin_17 : decode cX5_begin 17 = .ok (.putfield 72, 3) := by decide +kernel
theorem dX5_begin_20 : decode cX5_begin 20 = .ok (.aload_n 0, 1) := by decide +kernel
theorem dX5_begin_21 : decode cX5_begin 21 = .ok (.bipush 50, 2) := by decide +kernel
theorem dX5_begin_23 : decode cX5_begin 23 = .ok (.putfield 46, 3) := by decide +kernel
theorem dX5_begin_26 : decode cX5_begin 26 = .ok (.aload_n 0, 1) := by decide +kernel
theorem dX5_begin_27 : decode cX5_begin 27 = .ok (.iconst 0, 1) := by decide +kernel
theorem dX5_begin_28 : decode cX5_begin 28 = .ok (.putfield 86, 3) := by decide +kernel
theorem dX5_begin_31 : decode cX5_begin 31 = .ok (.aload_n 0, 1) := by decide +kernel
theorem dX5_begin_32 : decode cX5_begin 32 = .ok (.iconst 0, 1) := by decide +kernel
theorem dX5_begin_33 : decode cX5_begin 33 = .ok (.putfield 65, 3) := by decide +kernel
theorem dX5_begin_36 : decode cX5_begin 36 = .ok (.aload_n 0, 1) := by decide +kernel
theorem dX5_begin_37 : decode cX5_begin 37 = .ok (.iconst 0, 1) := by decide +kernel
theorem dX5_begin_38 : decode cX5_begin 38 = .ok (.putfield 89, 3) := by decide +kernel
theorem dX5_begin_41 : decode cX5_begin 41 = .ok (.aload_n 0, 1) := by decide +kernel
theorem dX5_begin_42 : decode cX5_begin 42 = .ok (.iconst 0, 1) := by decide +kernel
theorem dX5_begin_43 : decode cX5_begin 43 = .ok (.putfield 59, 3) := by decide +kernel
theorem dX5_begin_46 : decode cX5_begin 46 = .ok (.aload_n 0, 1) := by decide +kernel
theorem dX5_begin_47 : decode cX5_begin 47 = .ok (.iconst 0, 1) := by decide +kernel
theorem dX5_begin_48 : decode cX5_begin 48 = .ok (.putfield 56, 3) := by decide +kernel
theorem dX5_begin_51 : decode cX5_begin 51 = .ok (.return_, 1) := by decide +kernel
set_option maxRecDepth 20000 in
theorem ggX5_finish_X0_tell : GoodIn wsX5_finish wsX0_tell := goodIn_r _ [9, 10, 11, 12, 13, 29, 30, 31, 32, 33, 34, 35, 36] (by decide +kernel) (by decide +kernel)
set_option maxRecDepth 20000 in
theorem gX5_finish_X0_tell : GoodIn wsX5_finish (wsV RX5 95 RX0 yX0_tell wsX0_tell) := goodIn_app (goodIn_of _ (by decide +kernel)) ggX5_finish_X0_tell
theorem dX5_finish_0 : decode cX5_finish 0 = .ok (.aload_n 0, 1) := by decide +kernel
theorem dX5_finish_1 : decode cX5_finish 1 = .ok (.getfield 21, 3) := by decide +kernel
theorem dX5_finish_4 : decode cX5_finish 4 = .ok (.getfield 40, 3) := by decide +kernel
theorem dX5_finish_7 : decode cX5_finish 7 = .ok (.ifCond .eq 25, 3) := by decide +kernel
theorem dX5_finish_10 : decode cX5_finish 10 = .ok (.aload_n 0, 1) := by decide +kernel
theorem dX5_finish_11 : decode cX5_finish 11 = .ok (.getfield 21, 3) := by decide +kernel
theorem dX5_finish_14 : decode cX5_finish 14 = .ok (.getfield 40, 3) := by decide +kernel
theorem dX5_finish_17 : decode cX5_finish 17 = .ok (.iconst 1, 1) := by decide +kernel
theorem dX5_finish_18 : decode cX5_finish 18 = .ok (.if_icmp .eq 14, 3) := by decide +kernel
theorem dX5_finish_21 : decode cX5_finish 21 = .ok (.aload_n 0, 1) := by decide +kernel
theorem dX5_finish_22 : decode cX5_finish 22 = .ok (.getfield 21, 3) := by decide +kernel
theorem dX5_finish_25 : decode cX5_finish 25 = .ok (.getfield 40, 3) := by decide +kernel
theorem dX5_finish_28 : decode cX5_finish 28 = .ok (.iconst 2, 1) := by decide +kernel
theorem dX5_finish_29 : decode cX5_finish 29 = .ok (.if_icmp .ne 46, 3) := by decide +kernel
theorem dX5_finish_32 : decode cX5_finish 32 = .ok (.aload_n 1, 1) := by decide +kernel
theorem dX5_finish_33 : decode cX5_finish 33 = .ok (.aload_n 0, 1) := by decide +kernel
theorem dX5_finish_34 : decode cX5_finish 34 = .ok (.getfield 21, 3) := by decide +kernel
theorem dX5_finish_37 : decode cX5_finish 37 = .ok (.getfield 40, 3) := by decide +kernel
theorem dX5_finish_40 : decode cX5_finish 40 = .ok (.aload_n 0, 1) := by decide +kernel
theorem dX5_finish_41 : decode cX5_finish 41 = .ok (.getfield 21, 3) := by decide +kernel
theorem dX5_finish_44 : decode cX5_finish 44 = .ok (.getfield 92, 3) := by decide +kernel
theorem dX5_finish_47 : decode cX5_finish 47 = .ok (.aload_n 0, 1) := by decide +kernel
theorem dX5_finish_48 : decode cX5_finish 48 = .ok (.getfield 21, 3) := by decide +kernel
theorem dX5_finish_51 : decode cX5_finish 51 = .ok (.getfield 68, 3) := by decide +kernel
theorem dX5_finish_54 : decode cX5_finish 54 = .ok (.aload_n 0, 1) := by decide +kernel
theorem dX5_finish_55 : decode cX5_finish 55 = .ok (.getfield 89, 3) := by decide +kernel
theorem dX5_finish_58 : decode cX5_finish 58 = .ok (.ifCond .eq 7, 3) := by decide +kernel
theorem dX5_finish_61 : decode cX5_finish 61 = .ok (.iconst 0, 1) := by decide +kernel
theorem dX5_finish_62 : decode cX5_finish 62 = .ok (.goto 7, 3) := by decide +kernel
theorem dX5_finish_65 : decode cX5_finish 65 = .ok (.aload_n 0, 1) := by decide +kernel
theorem dX5_finish_66 : decode cX5_finish 66 = .ok (.getfield 46, 3) := by decide +kernel
theorem dX5_finish_69 : decode cX5_finish 69 = .ok (.invokevirtual 95, 3) := by decide +kernel
theorem dX5_finish_72 : decode cX5_finish 72 = .ok (.goto 12, 3) := by decide +kernel
theorem dX5_finish_75 : decode cX5_finish 75 = .ok (.aload_n 1, 1) := by decide +kernel
theorem dX5_finish_76 : decode cX5_finish 76 = .ok (.bipush 6, 2) := by decide +kernel
theorem dX5_finish_78 : decode cX5_finish 78 = .ok (.iconst (-1), 1) := by decide +kernel
theorem dX5_finish_79 : decode cX5_finish 79 = .ok (.iconst (-1), 1) := by decide +kernel
theorem dX5_finish_80 : decode cX5_finish 80 = .ok (.iconst 0, 1) := by decide +kernel
theorem dX5_finish_81 : decode cX5_finish 81 = .ok (.invokevirtual 95, 3) := by decide +kernel
theorem dX5_finish_84 : decode cX5_finish 84 = .ok (.aload_n 1, 1) := by decide +kernel
theorem dX5_finish_85 : decode cX5_finish 85 = .ok (.aload_n 0, 1) := by decide +kernel
theorem dX5_finish_86 : decode cX5_finish 86 = .ok (.getfield 86, 3) := by decide +kernel
theorem dX5_finish_89 : decode cX5_finish 89 = .ok (.putfield 99, 3) := by decide +kernel
theorem dX5_finish_92 : decode cX5_finish 92 = .ok (.aload_n 1, 1) := by decide +kernel
theorem dX5_finish_93 : decode cX5_finish 93 = .ok (.aload_n 0, 1) := by decide +kernel
theorem dX5_finish_94 : decode cX5_finish 94 = .ok (.getfield 89, 3) := by decide +kernel
theorem dX5_finish_97 : decode cX5_finish 97 = .ok (.putfield 100, 3) := by decide +kernel
theorem dX5_finish_100 : decode cX5_finish 100 = .ok (.return_, 1) := by decide +kernel
set_option maxRecDepth 20000 in
theorem ggX5_takePart_X2_rowOf : GoodIn wsX5_takePart wsX2_rowOf := goodIn_r _ [13, 14, 15, 16, 225, 226, 227, 228, 229, 230, 231, 232, 233, 234, 235] (by decide +kernel) (by decide +kernel)
set_option maxRecDepth 20000 in
theorem gX5_takePart_X2_rowOf : GoodIn wsX5_takePart (wsV RX5 101 RX2 yX2_rowOf wsX2_rowOf) := goodIn_app (goodIn_of _ (by decide +kernel)) ggX5_takePart_X2_rowOf
set_option maxRecDepth 20000 in
theorem ggX5_takePart_X2_isHolding : GoodIn wsX5_takePart wsX2_isHolding := goodIn_r _ [20, 21, 22, 23, 24, 25, 12, 26, 14, 15, 225, 226, 227, 228, 229, 230, 231, 232, 233, 234, 235] (by decide +kernel) (by decide +kernel)
set_option maxRecDepth 20000 in
theorem gX5_takePart_X2_isHolding : GoodIn wsX5_takePart (wsV RX5 107 RX2 yX2_isHolding wsX2_isHolding) := goodIn_app (goodIn_of _ (by decide +kernel)) ggX5_takePart_X2_isHolding
set_option maxRecDepth 20000 in
theorem ggX5_takePart_X2_read : GoodIn wsX5_takePart wsX2_read := goodIn_r _ [30, 31, 32, 33, 21, 22, 23, 24, 25, 12, 26, 14, 15, 34, 35, 36, 37, 38, 39, 40, 41, 42, 225, 226, 227, 228, 229, 230, 231, 232, 233, 234, 235, 236, 237, 238, 239, 240, 241, 242, 243] (by decide +kernel) (by decide +kernel)
set_option maxRecDepth 20000 in
theorem gX5_takePart_X2_read : GoodIn wsX5_takePart (wsV RX5 111 RX2 yX2_read wsX2_read) := goodIn_app (goodIn_of _ (by decide +kernel)) ggX5_takePart_X2_read
set_option maxRecDepth 20000 in
theorem ggX5_takePart_X0_tell : GoodIn wsX5_takePart wsX0_tell := goodIn_r _ [38, 39, 40, 41, 42, 236, 237, 238, 239, 240, 241, 242, 243] (by decide +kernel) (by decide +kernel)
set_option maxRecDepth 20000 in
theorem gX5_takePart_X0_tell : GoodIn wsX5_takePart (wsV RX5 95 RX0 yX0_tell wsX0_tell) := goodIn_app (goodIn_of _ (by decide +kernel)) ggX5_takePart_X0_tell
set_option maxRecDepth 20000 in
theorem ggX5_takePart_X5_goToStart : GoodIn wsX5_takePart wsX5_goToStart := goodIn_r _ [48, 1, 2, 49, 50, 51, 6, 52, 53, 54, 47, 55, 4, 5, 3, 56, 57, 58, 59, 60, 61, 62, 63, 64, 65, 66, 67, 68, 69, 12, 70, 71, 72, 73, 74, 75, 76, 77, 78, 79, 80, 81, 82, 83, 84, 85, 86, 87, 210, 211, 212, 213, 214, 215, 216, 217, 218, 219, 220, 221, 222, 223, 224, 244, 245, 246, 247, 248, 249, 250, 251, 252, 253, 254, 255, 256, 225, 226, 227, 228, 229, 230, 231, 232, 233, 234, 235] (by decide +kernel) (by decide +kernel)
set_option maxRecDepth 20000 in
theorem gX5_takePart_X5_goToStart : GoodIn wsX5_takePart (wsV RX5 115 RX5 yX5_goToStart wsX5_goToStart) := goodIn_app (goodIn_of _ (by decide +kernel)) ggX5_takePart_X5_goToStart
set_option maxRecDepth 20000 in
theorem ggX5_takePart_X5_askZone : GoodIn wsX5_takePart wsX5_askZone := goodIn_r _ [91, 8, 51, 2, 4, 5, 7, 56, 57, 58, 59, 60, 61, 62, 92, 93, 94, 74, 95, 96, 97, 98, 99, 100, 101, 102, 103, 104, 105, 106, 107, 108, 109, 110, 111, 112, 113, 114, 115, 116, 117, 118, 119, 120, 121, 122, 123, 124, 64, 65, 66, 125, 126, 127, 128, 129, 130, 131, 132, 35, 36, 37, 38, 39, 40, 41, 42, 133, 134, 135, 136, 137, 138, 139, 140, 141, 142, 143, 144, 145, 146, 147, 148, 149, 150, 151, 152, 153, 154, 155, 156, 157, 158, 159, 160, 161, 162, 163, 164, 165, 166, 167, 168, 169, 170, 171, 172, 173, 174, 175, 176, 177, 178, 179, 180, 181, 182, 183, 184, 47, 185, 1, 3, 6, 186, 187, 188, 12, 189, 71, 190, 191, 192, 193, 15, 16, 31, 32, 33, 22, 21, 194, 195, 196, 197, 198, 199, 14, 200, 10, 11, 13, 23, 24, 25, 26, 201, 202, 203, 204, 205, 9, 206, 207, 208, 209, 27, 28, 29, 30, 34, 43, 210, 211, 212, 213, 214, 215, 216, 217, 218, 219, 220, 221, 222, 223, 224, 244, 245, 246, 247, 248, 249, 250, 251, 252, 253, 254, 255, 256, 257, 258, 259, 260, 261, 236, 237, 238, 239, 240, 241, 242, 243, 225, 226, 227, 228, 229, 230, 231, 232, 233, 234, 235] (by decide +kernel) (by decide +kernel)
set_option maxRecDepth 20000 in
theorem gX5_takePart_X5_askZone : GoodIn wsX5_takePart (wsV RX5 118 RX5 yX5_askZone wsX5_askZone) := goodIn_app (goodIn_of _ (by decide +kernel)) ggX5_takePart_X5_askZone
theorem dX5_takePart_0 : decode cX5_takePart 0 = .ok (.aload_n 0, 1) := by decide +kernel
theorem dX5_takePart_1 : decode cX5_takePart 1 = .ok (.getfield 82, 3) := by decide +kernel
theorem dX5_takePart_4 : decode cX5_takePart 4 = .ok (.ifCond .ne 11, 3) := by decide +kernel
theorem dX5_takePart_7 : decode cX5_takePart 7 = .ok (.aload_n 0, 1) := by decide +kernel
theorem dX5_takePart_8 : decode cX5_takePart 8 = .ok (.getfield 72, 3) := by decide +kernel
theorem dX5_takePart_11 : decode cX5_takePart 11 = .ok (.iconst (-1), 1) := by decide +kernel
theorem dX5_takePart_12 : decode cX5_takePart 12 = .ok (.if_icmp .eq 7, 3) := by decide +kernel
theorem dX5_takePart_15 : decode cX5_takePart 15 = .ok (.iconst (-1), 1) := by decide +kernel
theorem dX5_takePart_16 : decode cX5_takePart 16 = .ok (.goto 18, 3) := by decide +kernel
theorem dX5_takePart_19 : decode cX5_takePart 19 = .ok (.aload_n 0, 1) := by decide +kernel
theorem dX5_takePart_20 : decode cX5_takePart 20 = .ok (.getfield 12, 3) := by decide +kernel
theorem dX5_takePart_23 : decode cX5_takePart 23 = .ok (.aload_n 0, 1) := by decide +kernel
theorem dX5_takePart_24 : decode cX5_takePart 24 = .ok (.getfield 71, 3) := by decide +kernel
theorem dX5_takePart_27 : decode cX5_takePart 27 = .ok (.aload_n 0, 1) := by decide +kernel
theorem dX5_takePart_28 : decode cX5_takePart 28 = .ok (.getfield 79, 3) := by decide +kernel
theorem dX5_takePart_31 : decode cX5_takePart 31 = .ok (.invokevirtual 101, 3) := by decide +kernel
theorem dX5_takePart_34 : decode cX5_takePart 34 = .ok (.istore_n 1, 1) := by decide +kernel
theorem dX5_takePart_35 : decode cX5_takePart 35 = .ok (.aload_n 0, 1) := by decide +kernel
theorem dX5_takePart_36 : decode cX5_takePart 36 = .ok (.getfield 12, 3) := by decide +kernel
theorem dX5_takePart_39 : decode cX5_takePart 39 = .ok (.iload_n 1, 1) := by decide +kernel
theorem dX5_takePart_40 : decode cX5_takePart 40 = .ok (.aload_n 0, 1) := by decide +kernel
theorem dX5_takePart_41 : decode cX5_takePart 41 = .ok (.getfield 104, 3) := by decide +kernel
theorem dX5_takePart_44 : decode cX5_takePart 44 = .ok (.invokevirtual 107, 3) := by decide +kernel
theorem dX5_takePart_47 : decode cX5_takePart 47 = .ok (.ifCond .eq 22, 3) := by decide +kernel
theorem dX5_takePart_50 : decode cX5_takePart 50 = .ok (.aload_n 0, 1) := by decide +kernel
theorem dX5_takePart_51 : decode cX5_takePart 51 = .ok (.getfield 12, 3) := by decide +kernel
theorem dX5_takePart_54 : decode cX5_takePart 54 = .ok (.iload_n 1, 1) := by decide +kernel
theorem dX5_takePart_55 : decode cX5_takePart 55 = .ok (.aload_n 0, 1) := by decide +kernel
theorem dX5_takePart_56 : decode cX5_takePart 56 = .ok (.getfield 104, 3) := by decide +kernel
theorem dX5_takePart_59 : decode cX5_takePart 59 = .ok (.aload_n 0, 1) := by decide +kernel
theorem dX5_takePart_60 : decode cX5_takePart 60 = .ok (.getfield 21, 3) := by decide +kernel
theorem dX5_takePart_63 : decode cX5_takePart 63 = .ok (.invokevirtual 111, 3) := by decide +kernel
theorem dX5_takePart_66 : decode cX5_takePart 66 = .ok (.goto 43, 3) := by decide +kernel
theorem dX5_takePart_69 : decode cX5_takePart 69 = .ok (.aload_n 0, 1) := by decide +kernel
theorem dX5_takePart_70 : decode cX5_takePart 70 = .ok (.getfield 86, 3) := by decide +kernel
theorem dX5_takePart_73 : decode cX5_takePart 73 = .ok (.bipush 12, 2) := by decide +kernel
theorem dX5_takePart_75 : decode cX5_takePart 75 = .ok (.if_icmp .lt 18, 3) := by decide +kernel
theorem dX5_takePart_78 : decode cX5_takePart 78 = .ok (.aload_n 0, 1) := by decide +kernel
theorem dX5_takePart_79 : decode cX5_takePart 79 = .ok (.getfield 21, 3) := by decide +kernel
theorem dX5_takePart_82 : decode cX5_takePart 82 = .ok (.bipush 6, 2) := by decide +kernel
theorem dX5_takePart_84 : decode cX5_takePart 84 = .ok (.iconst (-1), 1) := by decide +kernel
theorem dX5_takePart_85 : decode cX5_takePart 85 = .ok (.iconst (-1), 1) := by decide +kernel
theorem dX5_takePart_86 : decode cX5_takePart 86 = .ok (.iconst 0, 1) := by decide +kernel
theorem dX5_takePart_87 : decode cX5_takePart 87 = .ok (.invokevirtual 95, 3) := by decide +kernel
theorem dX5_takePart_90 : decode cX5_takePart 90 = .ok (.goto 19, 3) := by decide +kernel
theorem dX5_takePart_93 : decode cX5_takePart 93 = .ok (.aload_n 0, 1) := by decide +kernel
theorem dX5_takePart_94 : decode cX5_takePart 94 = .ok (.getfield 72, 3) := by decide +kernel
theorem dX5_takePart_97 : decode cX5_takePart 97 = .ok (.iconst (-1), 1) := by decide +kernel
theorem dX5_takePart_98 : decode cX5_takePart 98 = .ok (.if_icmp .ne 7, 3) := by decide +kernel
theorem dX5_takePart_101 : decode cX5_takePart 101 = .ok (.aload_n 0, 1) := by decide +kernel
theorem dX5_takePart_102 : decode cX5_takePart 102 = .ok (.invokevirtual 115, 3) := by decide +kernel
theorem dX5_takePart_105 : decode cX5_takePart 105 = .ok (.aload_n 0, 1) := by decide +kernel
theorem dX5_takePart_106 : decode cX5_takePart 106 = .ok (.invokevirtual 118, 3) := by decide +kernel
theorem dX5_takePart_109 : decode cX5_takePart 109 = .ok (.return_, 1) := by decide +kernel
set_option maxRecDepth 20000 in
theorem ggX5_goToStart_X5_nearestKeptZone : GoodIn wsX5_goToStart wsX5_nearestKeptZone := goodIn_r _ [11, 5, 12, 13, 14, 6, 15, 16, 17, 18, 19, 20, 21, 22, 23, 24, 25, 26, 27, 28, 29, 30, 31, 48, 49, 50, 51, 52, 53, 54, 55, 56, 57, 58, 59, 60, 61, 62, 63, 64, 65, 66, 67, 68, 69, 70, 71, 72, 73, 74, 75, 76, 77, 78, 79, 80, 81, 82, 83, 84, 85, 86] (by decide +kernel) (by decide +kernel)
set_option maxRecDepth 20000 in
theorem gX5_goToStart_X5_nearestKeptZone : GoodIn wsX5_goToStart (wsV RX5 121 RX5 yX5_nearestKeptZone wsX5_nearestKeptZone) := goodIn_app (goodIn_of _ (by decide +kernel)) ggX5_goToStart_X5_nearestKeptZone
set_option maxRecDepth 20000 in
theorem ggX5_goToStart_X7_at : GoodIn wsX5_goToStart wsX7_at := goodIn_r _ [19, 20, 21, 63, 64] (by decide +kernel) (by decide +kernel)
set_option maxRecDepth 20000 in
theorem gX5_goToStart_X7_at : GoodIn wsX5_goToStart (wsV RX5 125 RX7 yX7_at wsX7_at) := goodIn_app (goodIn_of _ (by decide +kernel)) ggX5_goToStart_X7_at
set_option maxRecDepth 20000 in
theorem ggX5_goToStart_X6_numberOfKey : GoodIn wsX5_goToStart wsX6_numberOfKey := goodIn_r _ [35] (by decide +kernel) (by decide +kernel)
set_option maxRecDepth 20000 in
theorem gX5_goToStart_X6_numberOfKey : GoodIn wsX5_goToStart (va_wsS RX5 131 yX6_numberOfKey wsX6_numberOfKey) := goodIn_app (goodIn_of _ (by decide +kernel)) ggX5_goToStart_X6_numberOfKey
set_option maxRecDepth 20000 in
theorem ggX5_goToStart_X6_isGoodFor : GoodIn wsX5_goToStart wsX6_isGoodFor := goodIn_r _ [39, 40, 41, 42, 43, 44, 45, 34, 46, 47, 33, 35, 65, 66, 67, 68, 69, 70, 71, 72, 73, 74, 75] (by decide +kernel) (by decide +kernel)
set_option maxRecDepth 20000 in
theorem gX5_goToStart_X6_isGoodFor : GoodIn wsX5_goToStart (wsV RX5 137 RX6 yX6_isGoodFor wsX6_isGoodFor) := goodIn_app (goodIn_of _ (by decide +kernel)) ggX5_goToStart_X6_isGoodFor
theorem dX5_goToStart_0 : decode cX5_goToStart 0 = .ok (.aload_n 0, 1) := by decide +kernel
theorem dX5_goToStart_1 : decode cX5_goToStart 1 = .ok (.aload_n 0, 1) := by decide +kernel
theorem dX5_goToStart_2 : decode cX5_goToStart 2 = .ok (.getfield 82, 3) := by decide +kernel
theorem dX5_goToStart_5 : decode cX5_goToStart 5 = .ok (.ifCond .eq 7, 3) := by decide +kernel
theorem dX5_goToStart_8 : decode cX5_goToStart 8 = .ok (.iconst 0, 1) := by decide +kernel
theorem dX5_goToStart_9 : decode cX5_goToStart 9 = .ok (.goto 7, 3) := by decide +kernel
theorem dX5_goToStart_12 : decode cX5_goToStart 12 = .ok (.aload_n 0, 1) := by decide +kernel
theorem dX5_goToStart_13 : decode cX5_goToStart 13 = .ok (.invokevirtual 121, 3) := by decide +kernel
theorem dX5_goToStart_16 : decode cX5_goToStart 16 = .ok (.putfield 72, 3) := by decide +kernel
theorem dX5_goToStart_19 : decode cX5_goToStart 19 = .ok (.aload_n 0, 1) := by decide +kernel
theorem dX5_goToStart_20 : decode cX5_goToStart 20 = .ok (.getfield 25, 3) := by decide +kernel
theorem dX5_goToStart_23 : decode cX5_goToStart 23 = .ok (.iconst (-1), 1) := by decide +kernel
theorem dX5_goToStart_24 : decode cX5_goToStart 24 = .ok (.if_icmp .ne 11, 3) := by decide +kernel
theorem dX5_goToStart_27 : decode cX5_goToStart 27 = .ok (.aload_n 0, 1) := by decide +kernel
theorem dX5_goToStart_28 : decode cX5_goToStart 28 = .ok (.iconst 1, 1) := by decide +kernel
theorem dX5_goToStart_29 : decode cX5_goToStart 29 = .ok (.putfield 59, 3) := by decide +kernel
theorem dX5_goToStart_32 : decode cX5_goToStart 32 = .ok (.goto 37, 3) := by decide +kernel
theorem dX5_goToStart_35 : decode cX5_goToStart 35 = .ok (.aload_n 0, 1) := by decide +kernel
theorem dX5_goToStart_36 : decode cX5_goToStart 36 = .ok (.aload_n 0, 1) := by decide +kernel
theorem dX5_goToStart_37 : decode cX5_goToStart 37 = .ok (.getfield 29, 3) := by decide +kernel
theorem dX5_goToStart_40 : decode cX5_goToStart 40 = .ok (.iconst 0, 1) := by decide +kernel
theorem dX5_goToStart_41 : decode cX5_goToStart 41 = .ok (.invokevirtual 125, 3) := by decide +kernel
theorem dX5_goToStart_44 : decode cX5_goToStart 44 = .ok (.aload_n 0, 1) := by decide +kernel
theorem dX5_goToStart_45 : decode cX5_goToStart 45 = .ok (.getfield 25, 3) := by decide +kernel
theorem dX5_goToStart_48 : decode cX5_goToStart 48 = .ok (.invokestatic 131, 3) := by decide +kernel
theorem dX5_goToStart_51 : decode cX5_goToStart 51 = .ok (.aload_n 0, 1) := by decide +kernel
theorem dX5_goToStart_52 : decode cX5_goToStart 52 = .ok (.getfield 104, 3) := by decide +kernel
theorem dX5_goToStart_55 : decode cX5_goToStart 55 = .ok (.invokevirtual 137, 3) := by decide +kernel
theorem dX5_goToStart_58 : decode cX5_goToStart 58 = .ok (.ifCond .eq 7, 3) := by decide +kernel
theorem dX5_goToStart_61 : decode cX5_goToStart 61 = .ok (.iconst 0, 1) := by decide +kernel
theorem dX5_goToStart_62 : decode cX5_goToStart 62 = .ok (.goto 4, 3) := by decide +kernel
theorem dX5_goToStart_65 : decode cX5_goToStart 65 = .ok (.iconst 2, 1) := by decide +kernel
theorem dX5_goToStart_66 : decode cX5_goToStart 66 = .ok (.putfield 59, 3) := by decide +kernel
theorem dX5_goToStart_69 : decode cX5_goToStart 69 = .ok (.return_, 1) := by decide +kernel
set_option maxRecDepth 20000 in
theorem ggX5_nearestKeptZone_X7_at : GoodIn wsX5_nearestKeptZone wsX7_at := goodIn_r _ [10, 11, 12, 38, 39] (by decide +kernel) (by decide +kernel)
set_option maxRecDepth 20000 in
theorem gX5_nearestKeptZone_X7_at : GoodIn wsX5_nearestKeptZone (wsV RX5 125 RX7 yX7_at wsX7_at) := goodIn_app (goodIn_of _ (by decide +kernel)) ggX5_nearestKeptZone_X7_at
set_option maxRecDepth 20000 in
theorem ggX5_nearestKeptZone_X3_isUnder : GoodIn wsX5_nearestKeptZone wsX3_isUnder := goodIn_r _ [16] (by decide +kernel) (by decide +kernel)
set_option maxRecDepth 20000 in
theorem gX5_nearestKeptZone_X3_isUnder : GoodIn wsX5_nearestKeptZone (va_wsS RX5 146 yX3_isUnder wsX3_isUnder) := goodIn_app (goodIn_of _ (by decide +kernel)) ggX5_nearestKeptZone_X3_isUnder
set_option maxRecDepth 20000 in
theorem ggX5_nearestKeptZone_X2_isZoneHolding : GoodIn wsX5_nearestKeptZone wsX2_isZoneHolding := goodIn_r _ [21, 22, 51, 52, 53, 54, 55, 56, 57, 58, 59, 60, 61] (by decide +kernel) (by decide +kernel)
set_option maxRecDepth 20000 in
theorem gX5_nearestKeptZone_X2_isZoneHolding : GoodIn wsX5_nearestKeptZone (wsV RX5 151 RX2 yX2_isZoneHolding wsX2_isZoneHolding) := goodIn_app (goodIn_of _ (by decide +kernel)) ggX5_nearestKeptZone_X2_isZoneHolding
theorem dX5_nearestKeptZone_0 : decode cX5_nearestKeptZone 0 = .ok (.iconst 0, 1) := by decide +kernel
theorem dX5_nearestKeptZone_1 : decode cX5_nearestKeptZone 1 = .ok (.istore_n 1, 1) := by decide +kernel
theorem dX5_nearestKeptZone_2 : decode cX5_nearestKeptZone 2 = .ok (.iconst 1, 1) := by decide +kernel
theorem dX5_nearestKeptZone_3 : decode cX5_nearestKeptZone 3 = .ok (.istore_n 2, 1) := by decide +kernel
theorem dX5_nearestKeptZone_4 : decode cX5_nearestKeptZone 4 = .ok (.iload_n 2, 1) := by decide +kernel
theorem dX5_nearestKeptZone_5 : decode cX5_nearestKeptZone 5 = .ok (.aload_n 0, 1) := by decide +kernel
theorem dX5_nearestKeptZone_6 : decode cX5_nearestKeptZone 6 = .ok (.getfield 29, 3) := by decide +kernel
theorem dX5_nearestKeptZone_9 : decode cX5_nearestKeptZone 9 = .ok (.getfield 140, 3) := by decide +kernel
theorem dX5_nearestKeptZone_12 : decode cX5_nearestKeptZone 12 = .ok (.if_icmp .ge 100, 3) := by decide +kernel
theorem dX5_nearestKeptZone_15 : decode cX5_nearestKeptZone 15 = .ok (.aload_n 0, 1) := by decide +kernel
theorem dX5_nearestKeptZone_16 : decode cX5_nearestKeptZone 16 = .ok (.getfield 29, 3) := by decide +kernel
theorem dX5_nearestKeptZone_19 : decode cX5_nearestKeptZone 19 = .ok (.iload_n 2, 1) := by decide +kernel
theorem dX5_nearestKeptZone_20 : decode cX5_nearestKeptZone 20 = .ok (.invokevirtual 125, 3) := by decide +kernel
theorem dX5_nearestKeptZone_23 : decode cX5_nearestKeptZone 23 = .ok (.getfield 143, 3) := by decide +kernel
theorem dX5_nearestKeptZone_26 : decode cX5_nearestKeptZone 26 = .ok (.istore_n 3, 1) := by decide +kernel
theorem dX5_nearestKeptZone_27 : decode cX5_nearestKeptZone 27 = .ok (.aload_n 0, 1) := by decide +kernel
theorem dX5_nearestKeptZone_28 : decode cX5_nearestKeptZone 28 = .ok (.getfield 71, 3) := by decide +kernel
theorem dX5_nearestKeptZone_31 : decode cX5_nearestKeptZone 31 = .ok (.iload_n 3, 1) := by decide +kernel
theorem dX5_nearestKeptZone_32 : decode cX5_nearestKeptZone 32 = .ok (.invokestatic 146, 3) := by decide +kernel
theorem dX5_nearestKeptZone_35 : decode cX5_nearestKeptZone 35 = .ok (.ifCond .eq 31, 3) := by decide +kernel
theorem dX5_nearestKeptZone_38 : decode cX5_nearestKeptZone 38 = .ok (.iload_n 3, 1) := by decide +kernel
theorem dX5_nearestKeptZone_39 : decode cX5_nearestKeptZone 39 = .ok (.aload_n 0, 1) := by decide +kernel
theorem dX5_nearestKeptZone_40 : decode cX5_nearestKeptZone 40 = .ok (.getfield 71, 3) := by decide +kernel
theorem dX5_nearestKeptZone_43 : decode cX5_nearestKeptZone 43 = .ok (.if_icmp .ne 19, 3) := by decide +kernel
theorem dX5_nearestKeptZone_46 : decode cX5_nearestKeptZone 46 = .ok (.aload_n 0, 1) := by decide +kernel
theorem dX5_nearestKeptZone_47 : decode cX5_nearestKeptZone 47 = .ok (.getfield 79, 3) := by decide +kernel
theorem dX5_nearestKeptZone_50 : decode cX5_nearestKeptZone 50 = .ok (.iconst 3, 1) := by decide +kernel
theorem dX5_nearestKeptZone_51 : decode cX5_nearestKeptZone 51 = .ok (.if_icmp .eq 15, 3) := by decide +kernel
theorem dX5_nearestKeptZone_54 : decode cX5_nearestKeptZone 54 = .ok (.aload_n 0, 1) := by decide +kernel
theorem dX5_nearestKeptZone_55 : decode cX5_nearestKeptZone 55 = .ok (.getfield 79, 3) := by decide +kernel
theorem dX5_nearestKeptZone_58 : decode cX5_nearestKeptZone 58 = .ok (.iconst 4, 1) := by decide +kernel
theorem dX5_nearestKeptZone_59 : decode cX5_nearestKeptZone 59 = .ok (.if_icmp .eq 7, 3) := by decide +kernel
theorem dX5_nearestKeptZone_62 : decode cX5_nearestKeptZone 62 = .ok (.iconst 1, 1) := by decide +kernel
theorem dX5_nearestKeptZone_63 : decode cX5_nearestKeptZone 63 = .ok (.goto 4, 3) := by decide +kernel
theorem dX5_nearestKeptZone_66 : decode cX5_nearestKeptZone 66 = .ok (.iconst 0, 1) := by decide +kernel
theorem dX5_nearestKeptZone_67 : decode cX5_nearestKeptZone 67 = .ok (.istore 4, 2) := by decide +kernel
theorem dX5_nearestKeptZone_69 : decode cX5_nearestKeptZone 69 = .ok (.iload 4, 2) := by decide +kernel
theorem dX5_nearestKeptZone_71 : decode cX5_nearestKeptZone 71 = .ok (.ifCond .eq 35, 3) := by decide +kernel
theorem dX5_nearestKeptZone_74 : decode cX5_nearestKeptZone 74 = .ok (.aload_n 0, 1) := by decide +kernel
theorem dX5_nearestKeptZone_75 : decode cX5_nearestKeptZone 75 = .ok (.getfield 12, 3) := by decide +kernel
theorem dX5_nearestKeptZone_78 : decode cX5_nearestKeptZone 78 = .ok (.iload_n 2, 1) := by decide +kernel
theorem dX5_nearestKeptZone_79 : decode cX5_nearestKeptZone 79 = .ok (.aload_n 0, 1) := by decide +kernel
theorem dX5_nearestKeptZone_80 : decode cX5_nearestKeptZone 80 = .ok (.getfield 104, 3) := by decide +kernel
theorem dX5_nearestKeptZone_83 : decode cX5_nearestKeptZone 83 = .ok (.invokevirtual 151, 3) := by decide +kernel
theorem dX5_nearestKeptZone_86 : decode cX5_nearestKeptZone 86 = .ok (.ifCond .eq 20, 3) := by decide +kernel
theorem dX5_nearestKeptZone_89 : decode cX5_nearestKeptZone 89 = .ok (.iload_n 3, 1) := by decide +kernel
theorem dX5_nearestKeptZone_90 : decode cX5_nearestKeptZone 90 = .ok (.aload_n 0, 1) := by decide +kernel
theorem dX5_nearestKeptZone_91 : decode cX5_nearestKeptZone 91 = .ok (.getfield 29, 3) := by decide +kernel
theorem dX5_nearestKeptZone_94 : decode cX5_nearestKeptZone 94 = .ok (.iload_n 1, 1) := by decide +kernel
theorem dX5_nearestKeptZone_95 : decode cX5_nearestKeptZone 95 = .ok (.invokevirtual 125, 3) := by decide +kernel
theorem dX5_nearestKeptZone_98 : decode cX5_nearestKeptZone 98 = .ok (.getfield 143, 3) := by decide +kernel
theorem dX5_nearestKeptZone_101 : decode cX5_nearestKeptZone 101 = .ok (.if_icmp .le 5, 3) := by decide +kernel
theorem dX5_nearestKeptZone_104 : decode cX5_nearestKeptZone 104 = .ok (.iload_n 2, 1) := by decide +kernel
theorem dX5_nearestKeptZone_105 : decode cX5_nearestKeptZone 105 = .ok (.istore_n 1, 1) := by decide +kernel
theorem dX5_nearestKeptZone_106 : decode cX5_nearestKeptZone 106 = .ok (.iinc 2 1, 3) := by decide +kernel
theorem dX5_nearestKeptZone_109 : decode cX5_nearestKeptZone 109 = .ok (.goto (-105), 3) := by decide +kernel
theorem dX5_nearestKeptZone_112 : decode cX5_nearestKeptZone 112 = .ok (.iload_n 1, 1) := by decide +kernel
theorem dX5_nearestKeptZone_113 : decode cX5_nearestKeptZone 113 = .ok (.ireturn, 1) := by decide +kernel
set_option maxRecDepth 20000 in
theorem ggX5_askZone_X7_at : GoodIn wsX5_askZone wsX7_at := goodIn_r _ [11, 12, 13, 187, 188] (by decide +kernel) (by decide +kernel)
set_option maxRecDepth 20000 in
theorem gX5_askZone_X7_at : GoodIn wsX5_askZone (wsV RX5 125 RX7 yX7_at wsX7_at) := goodIn_app (goodIn_of _ (by decide +kernel)) ggX5_askZone_X7_at
set_option maxRecDepth 20000 in
theorem ggX5_askZone_X6_isAnswering : GoodIn wsX5_askZone wsX6_isAnswering := goodIn_r _ [18, 19, 20, 189, 190, 191, 192, 193, 194, 195, 196, 197, 198, 199] (by decide +kernel) (by decide +kernel)
set_option maxRecDepth 20000 in
theorem gX5_askZone_X6_isAnswering : GoodIn wsX5_askZone (wsV RX5 154 RX6 yX6_isAnswering wsX6_isAnswering) := goodIn_app (goodIn_of _ (by decide +kernel)) ggX5_askZone_X6_isAnswering
set_option maxRecDepth 20000 in
theorem ggX5_askZone_X6_answering : GoodIn wsX5_askZone wsX6_answering := goodIn_r _ [24, 19, 25, 26, 189, 190, 191, 192, 193, 194, 195, 196, 197, 198, 199] (by decide +kernel) (by decide +kernel)
set_option maxRecDepth 20000 in
theorem gX5_askZone_X6_answering : GoodIn wsX5_askZone (wsV RX5 158 RX6 yX6_answering wsX6_answering) := goodIn_app (goodIn_of _ (by decide +kernel)) ggX5_askZone_X6_answering
set_option maxRecDepth 20000 in
theorem ggX5_askZone_X6_answer : GoodIn wsX5_askZone wsX6_answer := goodIn_r _ [30, 31, 32, 33, 34, 35, 36, 37, 17, 38, 39, 40, 41, 42, 43, 44, 45, 46, 47, 48, 49, 50, 51, 52, 53, 54, 55, 56, 57, 58, 59, 60, 61, 62, 63, 64, 65, 66, 67, 68, 69, 70, 71, 72, 73, 74, 75, 76, 77, 78, 79, 80, 81, 82, 83, 84, 85, 86, 87, 88, 89, 90, 91, 92, 93, 94, 95, 96, 97, 98, 99, 100, 101, 102, 103, 104, 105, 106, 107, 108, 109, 110, 111, 112, 113, 114, 115, 189, 190, 191, 192, 193, 194, 195, 196, 197, 198, 199, 200, 201, 202, 203, 204, 205, 206, 207, 208, 209, 210, 211, 212] (by decide +kernel) (by decide +kernel)
set_option maxRecDepth 20000 in
theorem gX5_askZone_X6_answer : GoodIn wsX5_askZone (wsV RX5 162 RX6 yX6_answer wsX6_answer) := goodIn_app (goodIn_of _ (by decide +kernel)) ggX5_askZone_X6_answer
set_option maxRecDepth 20000 in
theorem ggX5_askZone_X5_keepPart : GoodIn wsX5_askZone wsX5_keepPart := goodIn_r _ [120, 121, 6, 122, 123, 4, 5, 124, 125, 126, 127, 128, 129, 130, 131, 132, 133, 134, 135, 136, 137, 138, 139, 140, 141, 142, 143, 144, 145, 146, 147, 148, 149, 150, 151, 152, 153, 154, 155, 172, 173, 174, 175, 176, 177, 178, 179, 180, 181, 182, 183, 184, 185, 186, 205, 206, 207, 208, 209, 210, 211, 212, 213, 214, 215, 216, 217, 218, 219, 220, 221, 222, 223] (by decide +kernel) (by decide +kernel)
set_option maxRecDepth 20000 in
theorem gX5_askZone_X5_keepPart : GoodIn wsX5_askZone (wsV RX5 166 RX5 yX5_keepPart wsX5_keepPart) := goodIn_app (goodIn_of _ (by decide +kernel)) ggX5_askZone_X5_keepPart
set_option maxRecDepth 20000 in
theorem ggX5_askZone_X5_takeOldPart : GoodIn wsX5_askZone wsX5_takeOldPart := goodIn_r _ [159, 121, 122, 4, 5, 123, 6, 160, 161, 149, 150, 127, 151, 147, 134, 135, 162, 163, 164, 165, 140, 152, 153, 154, 155, 166, 167, 168, 169, 136, 137, 138, 139, 170, 59, 60, 61, 62, 63, 64, 65, 66, 171, 172, 173, 174, 175, 176, 177, 178, 179, 180, 181, 182, 183, 184, 185, 186, 213, 214, 215, 216, 217, 218, 219, 220, 221, 222, 223, 205, 206, 207, 208, 209, 210, 211, 212] (by decide +kernel) (by decide +kernel)
set_option maxRecDepth 20000 in
theorem gX5_askZone_X5_takeOldPart : GoodIn wsX5_askZone (wsV RX5 169 RX5 yX5_takeOldPart wsX5_takeOldPart) := goodIn_app (goodIn_of _ (by decide +kernel)) ggX5_askZone_X5_takeOldPart
theorem dX5_askZone_0 : decode cX5_askZone 0 = .ok (.aload_n 0, 1) := by decide +kernel
theorem dX5_askZone_1 : decode cX5_askZone 1 = .ok (.dup, 1) := by decide +kernel
theorem dX5_askZone_2 : decode cX5_askZone 2 = .ok (.getfield 86, 3) := by decide +kernel
theorem dX5_askZone_5 : decode cX5_askZone 5 = .ok (.iconst 1, 1) := by decide +kernel
theorem dX5_askZone_6 : decode cX5_askZone 6 = .ok (.iadd, 1) := by decide +kernel
theorem dX5_askZone_7 : decode cX5_askZone 7 = .ok (.putfield 86, 3) := by decide +kernel
theorem dX5_askZone_10 : decode cX5_askZone 10 = .ok (.aload_n 0, 1) := by decide +kernel
theorem dX5_askZone_11 : decode cX5_askZone 11 = .ok (.getfield 29, 3) := by decide +kernel
theorem dX5_askZone_14 : decode cX5_askZone 14 = .ok (.aload_n 0, 1) := by decide +kernel
theorem dX5_askZone_15 : decode cX5_askZone 15 = .ok (.getfield 72, 3) := by decide +kernel
theorem dX5_askZone_18 : decode cX5_askZone 18 = .ok (.invokevirtual 125, 3) := by decide +kernel
theorem dX5_askZone_21 : decode cX5_askZone 21 = .ok (.astore_n 1, 1) := by decide +kernel
theorem dX5_askZone_22 : decode cX5_askZone 22 = .ok (.aload_n 1, 1) := by decide +kernel
theorem dX5_askZone_23 : decode cX5_askZone 23 = .ok (.invokevirtual 154, 3) := by decide +kernel
theorem dX5_askZone_26 : decode cX5_askZone 26 = .ok (.ifCond .eq 30, 3) := by decide +kernel
theorem dX5_askZone_29 : decode cX5_askZone 29 = .ok (.aload_n 1, 1) := by decide +kernel
theorem dX5_askZone_30 : decode cX5_askZone 30 = .ok (.aload_n 1, 1) := by decide +kernel
theorem dX5_askZone_31 : decode cX5_askZone 31 = .ok (.invokevirtual 158, 3) := by decide +kernel
theorem dX5_askZone_34 : decode cX5_askZone 34 = .ok (.aload_n 0, 1) := by decide +kernel
theorem dX5_askZone_35 : decode cX5_askZone 35 = .ok (.getfield 71, 3) := by decide +kernel
theorem dX5_askZone_38 : decode cX5_askZone 38 = .ok (.aload_n 0, 1) := by decide +kernel
theorem dX5_askZone_39 : decode cX5_askZone 39 = .ok (.getfield 79, 3) := by decide +kernel
theorem dX5_askZone_42 : decode cX5_askZone 42 = .ok (.aload_n 0, 1) := by decide +kernel
theorem dX5_askZone_43 : decode cX5_askZone 43 = .ok (.getfield 21, 3) := by decide +kernel
theorem dX5_askZone_46 : decode cX5_askZone 46 = .ok (.invokevirtual 162, 3) := by decide +kernel
theorem dX5_askZone_49 : decode cX5_askZone 49 = .ok (.aload_n 0, 1) := by decide +kernel
theorem dX5_askZone_50 : decode cX5_askZone 50 = .ok (.invokevirtual 166, 3) := by decide +kernel
theorem dX5_askZone_53 : decode cX5_askZone 53 = .ok (.goto 7, 3) := by decide +kernel
theorem dX5_askZone_56 : decode cX5_askZone 56 = .ok (.aload_n 0, 1) := by decide +kernel
theorem dX5_askZone_57 : decode cX5_askZone 57 = .ok (.invokevirtual 169, 3) := by decide +kernel
theorem dX5_askZone_60 : decode cX5_askZone 60 = .ok (.return_, 1) := by decide +kernel
set_option maxRecDepth 20000 in
theorem ggX5_keepPart_X2_keepZone : GoodIn wsX5_keepPart wsX2_keepZone := goodIn_r _ [11, 12, 62, 63, 64, 65, 66, 67, 68, 69, 70, 71, 72] (by decide +kernel) (by decide +kernel)
set_option maxRecDepth 20000 in
theorem gX5_keepPart_X2_keepZone : GoodIn wsX5_keepPart (wsV RX5 175 RX2 yX2_keepZone wsX2_keepZone) := goodIn_app (goodIn_of _ (by decide +kernel)) ggX5_keepPart_X2_keepZone
set_option maxRecDepth 20000 in
theorem ggX5_keepPart_X2_keepAnswer : GoodIn wsX5_keepPart wsX2_keepAnswer := goodIn_r _ [16, 17, 18, 19, 20, 21, 22, 23, 24, 25, 26, 27, 28, 10, 29, 30, 31, 32, 33, 34, 35, 36, 37, 38, 62, 63, 64, 65, 66, 67, 68, 69, 70, 71, 72, 54, 55, 56, 57, 58, 59, 60, 61] (by decide +kernel) (by decide +kernel)
set_option maxRecDepth 20000 in
theorem gX5_keepPart_X2_keepAnswer : GoodIn wsX5_keepPart (wsV RX5 179 RX2 yX2_keepAnswer wsX2_keepAnswer) := goodIn_app (goodIn_of _ (by decide +kernel)) ggX5_keepPart_X2_keepAnswer
theorem dX5_keepPart_0 : decode cX5_keepPart 0 = .ok (.aload_n 0, 1) := by decide +kernel
theorem dX5_keepPart_1 : decode cX5_keepPart 1 = .ok (.getfield 82, 3) := by decide +kernel
theorem dX5_keepPart_4 : decode cX5_keepPart 4 = .ok (.ifCond .ne 14, 3) := by decide +kernel
theorem dX5_keepPart_7 : decode cX5_keepPart 7 = .ok (.aload_n 0, 1) := by decide +kernel
theorem dX5_keepPart_8 : decode cX5_keepPart 8 = .ok (.getfield 21, 3) := by decide +kernel
theorem dX5_keepPart_11 : decode cX5_keepPart 11 = .ok (.getfield 40, 3) := by decide +kernel
theorem dX5_keepPart_14 : decode cX5_keepPart 14 = .ok (.iconst 5, 1) := by decide +kernel
theorem dX5_keepPart_15 : decode cX5_keepPart 15 = .ok (.if_icmp .ne 4, 3) := by decide +kernel
theorem dX5_keepPart_18 : decode cX5_keepPart 18 = .ok (.return_, 1) := by decide +kernel
theorem dX5_keepPart_19 : decode cX5_keepPart 19 = .ok (.aload_n 0, 1) := by decide +kernel
theorem dX5_keepPart_20 : decode cX5_keepPart 20 = .ok (.getfield 21, 3) := by decide +kernel
theorem dX5_keepPart_23 : decode cX5_keepPart 23 = .ok (.getfield 40, 3) := by decide +kernel
theorem dX5_keepPart_26 : decode cX5_keepPart 26 = .ok (.iconst 3, 1) := by decide +kernel
theorem dX5_keepPart_27 : decode cX5_keepPart 27 = .ok (.if_icmp .ne 31, 3) := by decide +kernel
theorem dX5_keepPart_30 : decode cX5_keepPart 30 = .ok (.aload_n 0, 1) := by decide +kernel
theorem dX5_keepPart_31 : decode cX5_keepPart 31 = .ok (.getfield 12, 3) := by decide +kernel
theorem dX5_keepPart_34 : decode cX5_keepPart 34 = .ok (.aload_n 0, 1) := by decide +kernel
theorem dX5_keepPart_35 : decode cX5_keepPart 35 = .ok (.getfield 21, 3) := by decide +kernel
theorem dX5_keepPart_38 : decode cX5_keepPart 38 = .ok (.getfield 172, 3) := by decide +kernel
theorem dX5_keepPart_41 : decode cX5_keepPart 41 = .ok (.aload_n 0, 1) := by decide +kernel
theorem dX5_keepPart_42 : decode cX5_keepPart 42 = .ok (.getfield 21, 3) := by decide +kernel
theorem dX5_keepPart_45 : decode cX5_keepPart 45 = .ok (.getfield 49, 3) := by decide +kernel
theorem dX5_keepPart_48 : decode cX5_keepPart 48 = .ok (.aload_n 0, 1) := by decide +kernel
theorem dX5_keepPart_49 : decode cX5_keepPart 49 = .ok (.getfield 104, 3) := by decide +kernel
theorem dX5_keepPart_52 : decode cX5_keepPart 52 = .ok (.invokevirtual 175, 3) := by decide +kernel
theorem dX5_keepPart_55 : decode cX5_keepPart 55 = .ok (.goto 26, 3) := by decide +kernel
theorem dX5_keepPart_58 : decode cX5_keepPart 58 = .ok (.aload_n 0, 1) := by decide +kernel
theorem dX5_keepPart_59 : decode cX5_keepPart 59 = .ok (.getfield 12, 3) := by decide +kernel
theorem dX5_keepPart_62 : decode cX5_keepPart 62 = .ok (.aload_n 0, 1) := by decide +kernel
theorem dX5_keepPart_63 : decode cX5_keepPart 63 = .ok (.getfield 71, 3) := by decide +kernel
theorem dX5_keepPart_66 : decode cX5_keepPart 66 = .ok (.aload_n 0, 1) := by decide +kernel
theorem dX5_keepPart_67 : decode cX5_keepPart 67 = .ok (.getfield 79, 3) := by decide +kernel
theorem dX5_keepPart_70 : decode cX5_keepPart 70 = .ok (.aload_n 0, 1) := by decide +kernel
theorem dX5_keepPart_71 : decode cX5_keepPart 71 = .ok (.getfield 21, 3) := by decide +kernel
theorem dX5_keepPart_74 : decode cX5_keepPart 74 = .ok (.aload_n 0, 1) := by decide +kernel
theorem dX5_keepPart_75 : decode cX5_keepPart 75 = .ok (.getfield 104, 3) := by decide +kernel
theorem dX5_keepPart_78 : decode cX5_keepPart 78 = .ok (.invokevirtual 179, 3) := by decide +kernel
theorem dX5_keepPart_81 : decode cX5_keepPart 81 = .ok (.return_, 1) := by decide +kernel
set_option maxRecDepth 20000 in
theorem ggX5_takeOldPart_X2_rowOf : GoodIn wsX5_takeOldPart wsX2_rowOf := goodIn_r _ [12, 13, 14, 15, 58, 59, 60, 61, 62, 63, 64, 65, 66, 67, 68] (by decide +kernel) (by decide +kernel)
set_option maxRecDepth 20000 in
theorem gX5_takeOldPart_X2_rowOf : GoodIn wsX5_takeOldPart (wsV RX5 101 RX2 yX2_rowOf wsX2_rowOf) := goodIn_app (goodIn_of _ (by decide +kernel)) ggX5_takeOldPart_X2_rowOf
set_option maxRecDepth 20000 in
theorem ggX5_takeOldPart_X2_isUsableAsOld : GoodIn wsX5_takeOldPart wsX2_isUsableAsOld := goodIn_r _ [19, 20, 21, 22, 23, 11, 24, 13, 14, 58, 59, 60, 61, 62, 63, 64, 65, 66, 67, 68] (by decide +kernel) (by decide +kernel)
set_option maxRecDepth 20000 in
theorem gX5_takeOldPart_X2_isUsableAsOld : GoodIn wsX5_takeOldPart (wsV RX5 183 RX2 yX2_isUsableAsOld wsX2_isUsableAsOld) := goodIn_app (goodIn_of _ (by decide +kernel)) ggX5_takeOldPart_X2_isUsableAsOld
set_option maxRecDepth 20000 in
theorem ggX5_takeOldPart_X2_read : GoodIn wsX5_takeOldPart wsX2_read := goodIn_r _ [28, 29, 30, 31, 20, 32, 21, 22, 23, 11, 24, 13, 14, 33, 34, 35, 36, 37, 38, 39, 40, 41, 58, 59, 60, 61, 62, 63, 64, 65, 66, 67, 68, 69, 70, 71, 72, 73, 74, 75, 76] (by decide +kernel) (by decide +kernel)
set_option maxRecDepth 20000 in
theorem gX5_takeOldPart_X2_read : GoodIn wsX5_takeOldPart (wsV RX5 111 RX2 yX2_read wsX2_read) := goodIn_app (goodIn_of _ (by decide +kernel)) ggX5_takeOldPart_X2_read
set_option maxRecDepth 20000 in
theorem ggX5_takeOldPart_X0_tell : GoodIn wsX5_takeOldPart wsX0_tell := goodIn_r _ [37, 38, 39, 40, 41, 69, 70, 71, 72, 73, 74, 75, 76] (by decide +kernel) (by decide +kernel)
set_option maxRecDepth 20000 in
theorem gX5_takeOldPart_X0_tell : GoodIn wsX5_takeOldPart (wsV RX5 95 RX0 yX0_tell wsX0_tell) := goodIn_app (goodIn_of _ (by decide +kernel)) ggX5_takeOldPart_X0_tell
theorem dX5_takeOldPart_0 : decode cX5_takeOldPart 0 = .ok (.aload_n 0, 1) := by decide +kernel
theorem dX5_takeOldPart_1 : decode cX5_takeOldPart 1 = .ok (.getfield 82, 3) := by decide +kernel
theorem dX5_takeOldPart_4 : decode cX5_takeOldPart 4 = .ok (.ifCond .eq 7, 3) := by decide +kernel
theorem dX5_takeOldPart_7 : decode cX5_takeOldPart 7 = .ok (.iconst (-1), 1) := by decide +kernel
theorem dX5_takeOldPart_8 : decode cX5_takeOldPart 8 = .ok (.goto 18, 3) := by decide +kernel
theorem dX5_takeOldPart_11 : decode cX5_takeOldPart 11 = .ok (.aload_n 0, 1) := by decide +kernel
theorem dX5_takeOldPart_12 : decode cX5_takeOldPart 12 = .ok (.getfield 12, 3) := by decide +kernel
theorem dX5_takeOldPart_15 : decode cX5_takeOldPart 15 = .ok (.aload_n 0, 1) := by decide +kernel
theorem dX5_takeOldPart_16 : decode cX5_takeOldPart 16 = .ok (.getfield 71, 3) := by decide +kernel
theorem dX5_takeOldPart_19 : decode cX5_takeOldPart 19 = .ok (.aload_n 0, 1) := by decide +kernel
theorem dX5_takeOldPart_20 : decode cX5_takeOldPart 20 = .ok (.getfield 79, 3) := by decide +kernel
theorem dX5_takeOldPart_23 : decode cX5_takeOldPart 23 = .ok (.invokevirtual 101, 3) := by decide +kernel
theorem dX5_takeOldPart_26 : decode cX5_takeOldPart 26 = .ok (.istore_n 1, 1) := by decide +kernel
theorem dX5_takeOldPart_27 : decode cX5_takeOldPart 27 = .ok (.aload_n 0, 1) := by decide +kernel
theorem dX5_takeOldPart_28 : decode cX5_takeOldPart 28 = .ok (.getfield 12, 3) := by decide +kernel
theorem dX5_takeOldPart_31 : decode cX5_takeOldPart 31 = .ok (.iload_n 1, 1) := by decide +kernel
theorem dX5_takeOldPart_32 : decode cX5_takeOldPart 32 = .ok (.aload_n 0, 1) := by decide +kernel
theorem dX5_takeOldPart_33 : decode cX5_takeOldPart 33 = .ok (.getfield 104, 3) := by decide +kernel
theorem dX5_takeOldPart_36 : decode cX5_takeOldPart 36 = .ok (.invokevirtual 183, 3) := by decide +kernel
theorem dX5_takeOldPart_39 : decode cX5_takeOldPart 39 = .ok (.ifCond .eq 27, 3) := by decide +kernel
theorem dX5_takeOldPart_42 : decode cX5_takeOldPart 42 = .ok (.aload_n 0, 1) := by decide +kernel
theorem dX5_takeOldPart_43 : decode cX5_takeOldPart 43 = .ok (.getfield 12, 3) := by decide +kernel
theorem dX5_takeOldPart_46 : decode cX5_takeOldPart 46 = .ok (.iload_n 1, 1) := by decide +kernel
theorem dX5_takeOldPart_47 : decode cX5_takeOldPart 47 = .ok (.aload_n 0, 1) := by decide +kernel
theorem dX5_takeOldPart_48 : decode cX5_takeOldPart 48 = .ok (.getfield 104, 3) := by decide +kernel
theorem dX5_takeOldPart_51 : decode cX5_takeOldPart 51 = .ok (.aload_n 0, 1) := by decide +kernel
theorem dX5_takeOldPart_52 : decode cX5_takeOldPart 52 = .ok (.getfield 21, 3) := by decide +kernel
theorem dX5_takeOldPart_55 : decode cX5_takeOldPart 55 = .ok (.invokevirtual 111, 3) := by decide +kernel
theorem dX5_takeOldPart_58 : decode cX5_takeOldPart 58 = .ok (.aload_n 0, 1) := by decide +kernel
theorem dX5_takeOldPart_59 : decode cX5_takeOldPart 59 = .ok (.iconst 1, 1) := by decide +kernel
theorem dX5_takeOldPart_60 : decode cX5_takeOldPart 60 = .ok (.putfield 89, 3) := by decide +kernel
theorem dX5_takeOldPart_63 : decode cX5_takeOldPart 63 = .ok (.goto 15, 3) := by decide +kernel
theorem dX5_takeOldPart_66 : decode cX5_takeOldPart 66 = .ok (.aload_n 0, 1) := by decide +kernel
theorem dX5_takeOldPart_67 : decode cX5_takeOldPart 67 = .ok (.getfield 21, 3) := by decide +kernel
theorem dX5_takeOldPart_70 : decode cX5_takeOldPart 70 = .ok (.bipush 6, 2) := by decide +kernel
theorem dX5_takeOldPart_72 : decode cX5_takeOldPart 72 = .ok (.iconst (-1), 1) := by decide +kernel
theorem dX5_takeOldPart_73 : decode cX5_takeOldPart 73 = .ok (.iconst (-1), 1) := by decide +kernel
theorem dX5_takeOldPart_74 : decode cX5_takeOldPart 74 = .ok (.iconst 0, 1) := by decide +kernel
theorem dX5_takeOldPart_75 : decode cX5_takeOldPart 75 = .ok (.invokevirtual 95, 3) := by decide +kernel
theorem dX5_takeOldPart_78 : decode cX5_takeOldPart 78 = .ok (.return_, 1) := by decide +kernel
set_option maxRecDepth 20000 in
theorem ggX5_goDown_X7_at : GoodIn wsX5_goDown wsX7_at := goodIn_r _ [10, 11, 12, 51, 52] (by decide +kernel) (by decide +kernel)
set_option maxRecDepth 20000 in
theorem gX5_goDown_X7_at : GoodIn wsX5_goDown (wsV RX5 125 RX7 yX7_at wsX7_at) := goodIn_app (goodIn_of _ (by decide +kernel)) ggX5_goDown_X7_at
set_option maxRecDepth 20000 in
theorem ggX5_goDown_X6_isGoodFor : GoodIn wsX5_goDown wsX6_isGoodFor := goodIn_r _ [17, 18, 19, 20, 21, 22, 23, 16, 24, 25, 26, 27, 53, 54, 55, 56, 57, 58, 59, 60, 61, 62, 63] (by decide +kernel) (by decide +kernel)
set_option maxRecDepth 20000 in
theorem gX5_goDown_X6_isGoodFor : GoodIn wsX5_goDown (wsV RX5 137 RX6 yX6_isGoodFor wsX6_isGoodFor) := goodIn_app (goodIn_of _ (by decide +kernel)) ggX5_goDown_X6_isGoodFor
theorem dX5_goDown_0 : decode cX5_goDown 0 = .ok (.aload_n 0, 1) := by decide +kernel
theorem dX5_goDown_1 : decode cX5_goDown 1 = .ok (.aload_n 0, 1) := by decide +kernel
theorem dX5_goDown_2 : decode cX5_goDown 2 = .ok (.getfield 21, 3) := by decide +kernel
theorem dX5_goDown_5 : decode cX5_goDown 5 = .ok (.getfield 172, 3) := by decide +kernel
theorem dX5_goDown_8 : decode cX5_goDown 8 = .ok (.putfield 72, 3) := by decide +kernel
theorem dX5_goDown_11 : decode cX5_goDown 11 = .ok (.aload_n 0, 1) := by decide +kernel
theorem dX5_goDown_12 : decode cX5_goDown 12 = .ok (.getfield 59, 3) := by decide +kernel
theorem dX5_goDown_15 : decode cX5_goDown 15 = .ok (.ifCond .ne 22, 3) := by decide +kernel
theorem dX5_goDown_18 : decode cX5_goDown 18 = .ok (.aload_n 0, 1) := by decide +kernel
theorem dX5_goDown_19 : decode cX5_goDown 19 = .ok (.getfield 21, 3) := by decide +kernel
theorem dX5_goDown_22 : decode cX5_goDown 22 = .ok (.getfield 186, 3) := by decide +kernel
theorem dX5_goDown_25 : decode cX5_goDown 25 = .ok (.iconst (-1), 1) := by decide +kernel
theorem dX5_goDown_26 : decode cX5_goDown 26 = .ok (.if_icmp .ne 11, 3) := by decide +kernel
theorem dX5_goDown_29 : decode cX5_goDown 29 = .ok (.aload_n 0, 1) := by decide +kernel
theorem dX5_goDown_30 : decode cX5_goDown 30 = .ok (.iconst 1, 1) := by decide +kernel
theorem dX5_goDown_31 : decode cX5_goDown 31 = .ok (.putfield 59, 3) := by decide +kernel
theorem dX5_goDown_34 : decode cX5_goDown 34 = .ok (.goto 43, 3) := by decide +kernel
theorem dX5_goDown_37 : decode cX5_goDown 37 = .ok (.aload_n 0, 1) := by decide +kernel
theorem dX5_goDown_38 : decode cX5_goDown 38 = .ok (.getfield 59, 3) := by decide +kernel
theorem dX5_goDown_41 : decode cX5_goDown 41 = .ok (.ifCond .ne 36, 3) := by decide +kernel
theorem dX5_goDown_44 : decode cX5_goDown 44 = .ok (.aload_n 0, 1) := by decide +kernel
theorem dX5_goDown_45 : decode cX5_goDown 45 = .ok (.getfield 29, 3) := by decide +kernel
theorem dX5_goDown_48 : decode cX5_goDown 48 = .ok (.aload_n 0, 1) := by decide +kernel
theorem dX5_goDown_49 : decode cX5_goDown 49 = .ok (.getfield 72, 3) := by decide +kernel
theorem dX5_goDown_52 : decode cX5_goDown 52 = .ok (.invokevirtual 125, 3) := by decide +kernel
theorem dX5_goDown_55 : decode cX5_goDown 55 = .ok (.aload_n 0, 1) := by decide +kernel
theorem dX5_goDown_56 : decode cX5_goDown 56 = .ok (.getfield 21, 3) := by decide +kernel
theorem dX5_goDown_59 : decode cX5_goDown 59 = .ok (.getfield 186, 3) := by decide +kernel
theorem dX5_goDown_62 : decode cX5_goDown 62 = .ok (.aload_n 0, 1) := by decide +kernel
theorem dX5_goDown_63 : decode cX5_goDown 63 = .ok (.getfield 104, 3) := by decide +kernel
theorem dX5_goDown_66 : decode cX5_goDown 66 = .ok (.invokevirtual 137, 3) := by decide +kernel
theorem dX5_goDown_69 : decode cX5_goDown 69 = .ok (.ifCond .ne 8, 3) := by decide +kernel
theorem dX5_goDown_72 : decode cX5_goDown 72 = .ok (.aload_n 0, 1) := by decide +kernel
theorem dX5_goDown_73 : decode cX5_goDown 73 = .ok (.iconst 2, 1) := by decide +kernel
theorem dX5_goDown_74 : decode cX5_goDown 74 = .ok (.putfield 59, 3) := by decide +kernel
theorem dX5_goDown_77 : decode cX5_goDown 77 = .ok (.return_, 1) := by decide +kernel
set_option maxRecDepth 20000 in
theorem ggX6_init_X4_init : GoodIn wsX6_init wsX4_init := goodIn_r _ [14, 15, 2, 3, 16, 17, 18, 19, 20, 32, 33, 34, 35, 36] (by decide +kernel) (by decide +kernel)
set_option maxRecDepth 20000 in
theorem gX6_init_X4_init : GoodIn wsX6_init (wsX4_init) := ggX6_init_X4_init
theorem dX6_init_0 : decode cX6_init 0 = .ok (.aload_n 0, 1) := by decide +kernel
theorem dX6_init_1 : decode cX6_init 1 = .ok (.invokespecial 3, 3) := by decide +kernel
theorem dX6_init_4 : decode cX6_init 4 = .ok (.aload_n 0, 1) := by decide +kernel
theorem dX6_init_5 : decode cX6_init 5 = .ok (.iconst (-1), 1) := by decide +kernel
theorem dX6_init_6 : decode cX6_init 6 = .ok (.putfield 9, 3) := by decide +kernel
theorem dX6_init_9 : decode cX6_init 9 = .ok (.aload_n 0, 1) := by decide +kernel
theorem dX6_init_10 : decode cX6_init 10 = .ok (.iconst (-1), 1) := by decide +kernel
theorem dX6_init_11 : decode cX6_init 11 = .ok (.putfield 15, 3) := by decide +kernel
theorem dX6_init_14 : decode cX6_init 14 = .ok (.aload_n 0, 1) := by decide +kernel
theorem dX6_init_15 : decode cX6_init 15 = .ok (.iconst (-1), 1) := by decide +kernel
theorem dX6_init_16 : decode cX6_init 16 = .ok (.putfield 18, 3) := by decide +kernel
theorem dX6_init_19 : decode cX6_init 19 = .ok (.aload_n 0, 1) := by decide +kernel
theorem dX6_init_20 : decode cX6_init 20 = .ok (.new 21, 3) := by decide +kernel
theorem dX6_init_23 : decode cX6_init 23 = .ok (.dup, 1) := by decide +kernel
theorem dX6_init_24 : decode cX6_init 24 = .ok (.bipush 20, 2) := by decide +kernel
theorem dX6_init_26 : decode cX6_init 26 = .ok (.invokespecial 23, 3) := by decide +kernel
theorem dX6_init_29 : decode cX6_init 29 = .ok (.putfield 26, 3) := by decide +kernel
theorem dX6_init_32 : decode cX6_init 32 = .ok (.aload_n 0, 1) := by decide +kernel
theorem dX6_init_33 : decode cX6_init 33 = .ok (.new 21, 3) := by decide +kernel
theorem dX6_init_36 : decode cX6_init 36 = .ok (.dup, 1) := by decide +kernel
theorem dX6_init_37 : decode cX6_init 37 = .ok (.bipush 20, 2) := by decide +kernel
theorem dX6_init_39 : decode cX6_init 39 = .ok (.invokespecial 23, 3) := by decide +kernel
theorem dX6_init_42 : decode cX6_init 42 = .ok (.putfield 30, 3) := by decide +kernel
theorem dX6_init_45 : decode cX6_init 45 = .ok (.return_, 1) := by decide +kernel
set_option maxRecDepth 20000 in
theorem ggX6_detail_X6_countOwnNames : GoodIn wsX6_detail wsX6_countOwnNames := goodIn_r _ [9, 3, 1, 10, 11, 12, 13, 14, 15, 16, 17, 18, 19, 20, 21, 22, 23, 24, 25, 26, 27, 28, 29, 30, 31, 32, 33, 34, 35, 36, 37, 38, 39, 40, 41, 42, 43, 44, 45, 46, 47, 48, 49, 50, 51, 52, 53, 54, 55, 56, 57, 58, 59, 60, 61] (by decide +kernel) (by decide +kernel)
set_option maxRecDepth 20000 in
theorem gX6_detail_X6_countOwnNames : GoodIn wsX6_detail (wsV RX6 42 RX6 yX6_countOwnNames wsX6_countOwnNames) := goodIn_app (goodIn_of _ (by decide +kernel)) ggX6_detail_X6_countOwnNames
theorem dX6_detail_0 : decode cX6_detail 0 = .ok (.iload_n 1, 1) := by decide +kernel
theorem dX6_detail_1 : decode cX6_detail 1 = .ok (.tableswitch 54 0 3 #[31, 36, 41, 49], 31) := by decide +kernel
theorem dX6_detail_32 : decode cX6_detail 32 = .ok (.aload_n 0, 1) := by decide +kernel
theorem dX6_detail_33 : decode cX6_detail 33 = .ok (.getfield 33, 3) := by decide +kernel
theorem dX6_detail_36 : decode cX6_detail 36 = .ok (.ireturn, 1) := by decide +kernel
theorem dX6_detail_37 : decode cX6_detail 37 = .ok (.aload_n 0, 1) := by decide +kernel
theorem dX6_detail_38 : decode cX6_detail 38 = .ok (.getfield 36, 3) := by decide +kernel
theorem dX6_detail_41 : decode cX6_detail 41 = .ok (.ireturn, 1) := by decide +kernel
theorem dX6_detail_42 : decode cX6_detail 42 = .ok (.aload_n 0, 1) := by decide +kernel
theorem dX6_detail_43 : decode cX6_detail 43 = .ok (.getfield 26, 3) := by decide +kernel
theorem dX6_detail_46 : decode cX6_detail 46 = .ok (.getfield 39, 3) := by decide +kernel
theorem dX6_detail_49 : decode cX6_detail 49 = .ok (.ireturn, 1) := by decide +kernel
theorem dX6_detail_50 : decode cX6_detail 50 = .ok (.aload_n 0, 1) := by decide +kernel
theorem dX6_detail_51 : decode cX6_detail 51 = .ok (.getfield 9, 3) := by decide +kernel
theorem dX6_detail_54 : decode cX6_detail 54 = .ok (.ireturn, 1) := by decide +kernel
theorem dX6_detail_55 : decode cX6_detail 55 = .ok (.aload_n 0, 1) := by decide +kernel
theorem dX6_detail_56 : decode cX6_detail 56 = .ok (.invokevirtual 42, 3) := by decide +kernel
theorem dX6_detail_59 : decode cX6_detail 59 = .ok (.ireturn, 1) := by decide +kernel
set_option maxRecDepth 20000 in
theorem ggX6_countOwnNames_X4_placeAt : GoodIn wsX6_countOwnNames wsX4_placeAt := goodIn_r _ [7, 8, 9, 50, 51, 52, 53, 54] (by decide +kernel) (by decide +kernel)
set_option maxRecDepth 20000 in
theorem gX6_countOwnNames_X4_placeAt : GoodIn wsX6_countOwnNames (wsV RX6 46 RX4 yX4_placeAt wsX4_placeAt) := goodIn_app (goodIn_of _ (by decide +kernel)) ggX6_countOwnNames_X4_placeAt
set_option maxRecDepth 20000 in
theorem ggX6_countOwnNames_X3_nameOf : GoodIn wsX6_countOwnNames wsX3_nameOf := goodIn_r _ [13] (by decide +kernel) (by decide +kernel)
set_option maxRecDepth 20000 in
theorem gX6_countOwnNames_X3_nameOf : GoodIn wsX6_countOwnNames (va_wsS RX6 50 yX3_nameOf wsX3_nameOf) := goodIn_app (goodIn_of _ (by decide +kernel)) ggX6_countOwnNames_X3_nameOf
set_option maxRecDepth 20000 in
theorem ggX6_countOwnNames_X3_figures : GoodIn wsX6_countOwnNames wsX3_figures := goodIn_r _ [16, 17, 18, 12, 19, 20] (by decide +kernel) (by decide +kernel)
set_option maxRecDepth 20000 in
theorem gX6_countOwnNames_X3_figures : GoodIn wsX6_countOwnNames (va_wsS RX6 55 yX3_figures wsX3_figures) := goodIn_app (goodIn_of _ (by decide +kernel)) ggX6_countOwnNames_X3_figures
set_option maxRecDepth 20000 in
theorem ggX6_countOwnNames_X4_isOwn : GoodIn wsX6_countOwnNames wsX4_isOwn := goodIn_r _ [24, 25, 11, 12, 13, 26, 27, 28, 6, 29, 8, 9, 30, 31, 32, 33, 34, 4, 5, 7, 50, 51, 52, 53, 54] (by decide +kernel) (by decide +kernel)
set_option maxRecDepth 20000 in
theorem gX6_countOwnNames_X4_isOwn : GoodIn wsX6_countOwnNames (wsV RX6 58 RX4 yX4_isOwn wsX4_isOwn) := goodIn_app (goodIn_of _ (by decide +kernel)) ggX6_countOwnNames_X4_isOwn
set_option maxRecDepth 20000 in
theorem ggX6_countOwnNames_X4_isThereBy : GoodIn wsX6_countOwnNames wsX4_isThereBy := goodIn_r _ [38, 9, 25, 11, 12, 13, 31, 32, 33, 50, 51, 52, 53, 54] (by decide +kernel) (by decide +kernel)
set_option maxRecDepth 20000 in
theorem gX6_countOwnNames_X4_isThereBy : GoodIn wsX6_countOwnNames (wsV RX6 62 RX4 yX4_isThereBy wsX4_isThereBy) := goodIn_app (goodIn_of _ (by decide +kernel)) ggX6_countOwnNames_X4_isThereBy
theorem dX6_countOwnNames_0 : decode cX6_countOwnNames 0 = .ok (.iconst 0, 1) := by decide +kernel
theorem dX6_countOwnNames_1 : decode cX6_countOwnNames 1 = .ok (.istore_n 1, 1) := by decide +kernel
theorem dX6_countOwnNames_2 : decode cX6_countOwnNames 2 = .ok (.iconst 0, 1) := by decide +kernel
theorem dX6_countOwnNames_3 : decode cX6_countOwnNames 3 = .ok (.istore_n 2, 1) := by decide +kernel
theorem dX6_countOwnNames_4 : decode cX6_countOwnNames 4 = .ok (.iload_n 2, 1) := by decide +kernel
theorem dX6_countOwnNames_5 : decode cX6_countOwnNames 5 = .ok (.aload_n 0, 1) := by decide +kernel
theorem dX6_countOwnNames_6 : decode cX6_countOwnNames 6 = .ok (.getfield 26, 3) := by decide +kernel
theorem dX6_countOwnNames_9 : decode cX6_countOwnNames 9 = .ok (.getfield 39, 3) := by decide +kernel
theorem dX6_countOwnNames_12 : decode cX6_countOwnNames 12 = .ok (.if_icmp .ge 82, 3) := by decide +kernel
theorem dX6_countOwnNames_15 : decode cX6_countOwnNames 15 = .ok (.aload_n 0, 1) := by decide +kernel
theorem dX6_countOwnNames_16 : decode cX6_countOwnNames 16 = .ok (.getfield 26, 3) := by decide +kernel
theorem dX6_countOwnNames_19 : decode cX6_countOwnNames 19 = .ok (.iload_n 2, 1) := by decide +kernel
theorem dX6_countOwnNames_20 : decode cX6_countOwnNames 20 = .ok (.invokevirtual 46, 3) := by decide +kernel
theorem dX6_countOwnNames_23 : decode cX6_countOwnNames 23 = .ok (.invokestatic 50, 3) := by decide +kernel
theorem dX6_countOwnNames_26 : decode cX6_countOwnNames 26 = .ok (.istore_n 3, 1) := by decide +kernel
theorem dX6_countOwnNames_27 : decode cX6_countOwnNames 27 = .ok (.iload_n 3, 1) := by decide +kernel
theorem dX6_countOwnNames_28 : decode cX6_countOwnNames 28 = .ok (.invokestatic 55, 3) := by decide +kernel
theorem dX6_countOwnNames_31 : decode cX6_countOwnNames 31 = .ok (.aload_n 0, 1) := by decide +kernel
theorem dX6_countOwnNames_32 : decode cX6_countOwnNames 32 = .ok (.getfield 33, 3) := by decide +kernel
theorem dX6_countOwnNames_35 : decode cX6_countOwnNames 35 = .ok (.invokestatic 55, 3) := by decide +kernel
theorem dX6_countOwnNames_38 : decode cX6_countOwnNames 38 = .ok (.isub, 1) := by decide +kernel
theorem dX6_countOwnNames_39 : decode cX6_countOwnNames 39 = .ok (.istore 4, 2) := by decide +kernel
theorem dX6_countOwnNames_41 : decode cX6_countOwnNames 41 = .ok (.iconst 0, 1) := by decide +kernel
theorem dX6_countOwnNames_42 : decode cX6_countOwnNames 42 = .ok (.istore 5, 2) := by decide +kernel
theorem dX6_countOwnNames_44 : decode cX6_countOwnNames 44 = .ok (.iload 5, 2) := by decide +kernel
theorem dX6_countOwnNames_46 : decode cX6_countOwnNames 46 = .ok (.iload 4, 2) := by decide +kernel
theorem dX6_countOwnNames_48 : decode cX6_countOwnNames 48 = .ok (.if_icmp .gt 40, 3) := by decide +kernel
theorem dX6_countOwnNames_51 : decode cX6_countOwnNames 51 = .ok (.aload_n 0, 1) := by decide +kernel
theorem dX6_countOwnNames_52 : decode cX6_countOwnNames 52 = .ok (.getfield 26, 3) := by decide +kernel
theorem dX6_countOwnNames_55 : decode cX6_countOwnNames 55 = .ok (.iload_n 3, 1) := by decide +kernel
theorem dX6_countOwnNames_56 : decode cX6_countOwnNames 56 = .ok (.invokevirtual 58, 3) := by decide +kernel
theorem dX6_countOwnNames_59 : decode cX6_countOwnNames 59 = .ok (.ifCond .eq 18, 3) := by decide +kernel
theorem dX6_countOwnNames_62 : decode cX6_countOwnNames 62 = .ok (.aload_n 0, 1) := by decide +kernel
theorem dX6_countOwnNames_63 : decode cX6_countOwnNames 63 = .ok (.getfield 26, 3) := by decide +kernel
theorem dX6_countOwnNames_66 : decode cX6_countOwnNames 66 = .ok (.iload_n 2, 1) := by decide +kernel
theorem dX6_countOwnNames_67 : decode cX6_countOwnNames 67 = .ok (.iload_n 3, 1) := by decide +kernel
theorem dX6_countOwnNames_68 : decode cX6_countOwnNames 68 = .ok (.invokevirtual 62, 3) := by decide +kernel
theorem dX6_countOwnNames_71 : decode cX6_countOwnNames 71 = .ok (.ifCond .ne 6, 3) := by decide +kernel
theorem dX6_countOwnNames_74 : decode cX6_countOwnNames 74 = .ok (.iinc 1 1, 3) := by decide +kernel
theorem dX6_countOwnNames_77 : decode cX6_countOwnNames 77 = .ok (.iload_n 3, 1) := by decide +kernel
theorem dX6_countOwnNames_78 : decode cX6_countOwnNames 78 = .ok (.bipush 10, 2) := by decide +kernel
theorem dX6_countOwnNames_80 : decode cX6_countOwnNames 80 = .ok (.idiv, 1) := by decide +kernel
theorem dX6_countOwnNames_81 : decode cX6_countOwnNames 81 = .ok (.istore_n 3, 1) := by decide +kernel
theorem dX6_countOwnNames_82 : decode cX6_countOwnNames 82 = .ok (.iinc 5 1, 3) := by decide +kernel
theorem dX6_countOwnNames_85 : decode cX6_countOwnNames 85 = .ok (.goto (-41), 3) := by decide +kernel
theorem dX6_countOwnNames_88 : decode cX6_countOwnNames 88 = .ok (.iinc 2 1, 3) := by decide +kernel
theorem dX6_countOwnNames_91 : decode cX6_countOwnNames 91 = .ok (.goto (-87), 3) := by decide +kernel
theorem dX6_countOwnNames_94 : decode cX6_countOwnNames 94 = .ok (.iload_n 1, 1) := by decide +kernel
theorem dX6_countOwnNames_95 : decode cX6_countOwnNames 95 = .ok (.ireturn, 1) := by decide +kernel
set_option maxRecDepth 20000 in
theorem ggX6_nearest_X4_placeAt : GoodIn wsX6_nearest wsX4_placeAt := goodIn_r _ [7, 8, 9, 55, 56, 57, 58, 59] (by decide +kernel) (by decide +kernel)
set_option maxRecDepth 20000 in
theorem gX6_nearest_X4_placeAt : GoodIn wsX6_nearest (wsV RX6 46 RX4 yX4_placeAt wsX4_placeAt) := goodIn_app (goodIn_of _ (by decide +kernel)) ggX6_nearest_X4_placeAt
set_option maxRecDepth 20000 in
theorem ggX6_nearest_X6_nearer : GoodIn wsX6_nearest wsX6_nearer := goodIn_r _ [14, 1, 15, 16, 17, 18, 19, 20, 21, 22, 23, 24, 25, 26, 27, 28, 6, 29, 30, 31, 32, 33, 34, 35, 36, 8, 9, 37, 38, 39, 40, 41, 4, 5, 7, 44, 45, 46, 47, 48, 49, 50, 51, 52, 53, 54, 55, 56, 57, 58, 59] (by decide +kernel) (by decide +kernel)
set_option maxRecDepth 20000 in
theorem gX6_nearest_X6_nearer : GoodIn wsX6_nearest (wsV RX6 66 RX6 yX6_nearer wsX6_nearer) := goodIn_app (goodIn_of _ (by decide +kernel)) ggX6_nearest_X6_nearer
set_option maxRecDepth 20000 in
theorem ggX6_nearest_X3_nameOf : GoodIn wsX6_nearest wsX3_nameOf := goodIn_r _ [32] (by decide +kernel) (by decide +kernel)
set_option maxRecDepth 20000 in
theorem gX6_nearest_X3_nameOf : GoodIn wsX6_nearest (va_wsS RX6 50 yX3_nameOf wsX3_nameOf) := goodIn_app (goodIn_of _ (by decide +kernel)) ggX6_nearest_X3_nameOf
set_option maxRecDepth 20000 in
theorem ggX6_nearest_X3_figures : GoodIn wsX6_nearest wsX3_figures := goodIn_r _ [21, 22, 23, 17, 24, 25] (by decide +kernel) (by decide +kernel)
set_option maxRecDepth 20000 in
theorem gX6_nearest_X3_figures : GoodIn wsX6_nearest (va_wsS RX6 55 yX3_figures wsX3_figures) := goodIn_app (goodIn_of _ (by decide +kernel)) ggX6_nearest_X3_figures
theorem dX6_nearest_0 : decode cX6_nearest 0 = .ok (.iconst (-1), 1) := by decide +kernel
theorem dX6_nearest_1 : decode cX6_nearest 1 = .ok (.istore_n 3, 1) := by decide +kernel
theorem dX6_nearest_2 : decode cX6_nearest 2 = .ok (.iconst 0, 1) := by decide +kernel
theorem dX6_nearest_3 : decode cX6_nearest 3 = .ok (.istore 4, 2) := by decide +kernel
theorem dX6_nearest_5 : decode cX6_nearest 5 = .ok (.iload 4, 2) := by decide +kernel
theorem dX6_nearest_7 : decode cX6_nearest 7 = .ok (.aload_n 0, 1) := by decide +kernel
theorem dX6_nearest_8 : decode cX6_nearest 8 = .ok (.getfield 26, 3) := by decide +kernel
theorem dX6_nearest_11 : decode cX6_nearest 11 = .ok (.getfield 39, 3) := by decide +kernel
theorem dX6_nearest_14 : decode cX6_nearest 14 = .ok (.if_icmp .ge 85, 3) := by decide +kernel
theorem dX6_nearest_17 : decode cX6_nearest 17 = .ok (.aload_n 0, 1) := by decide +kernel
theorem dX6_nearest_18 : decode cX6_nearest 18 = .ok (.getfield 26, 3) := by decide +kernel
theorem dX6_nearest_21 : decode cX6_nearest 21 = .ok (.iload 4, 2) := by decide +kernel
theorem dX6_nearest_23 : decode cX6_nearest 23 = .ok (.invokevirtual 46, 3) := by decide +kernel
theorem dX6_nearest_26 : decode cX6_nearest 26 = .ok (.istore 5, 2) := by decide +kernel
theorem dX6_nearest_28 : decode cX6_nearest 28 = .ok (.aload_n 0, 1) := by decide +kernel
theorem dX6_nearest_29 : decode cX6_nearest 29 = .ok (.iload_n 3, 1) := by decide +kernel
theorem dX6_nearest_30 : decode cX6_nearest 30 = .ok (.iload 5, 2) := by decide +kernel
theorem dX6_nearest_32 : decode cX6_nearest 32 = .ok (.iload_n 1, 1) := by decide +kernel
theorem dX6_nearest_33 : decode cX6_nearest 33 = .ok (.iload_n 2, 1) := by decide +kernel
theorem dX6_nearest_34 : decode cX6_nearest 34 = .ok (.invokevirtual 66, 3) := by decide +kernel
theorem dX6_nearest_37 : decode cX6_nearest 37 = .ok (.istore_n 3, 1) := by decide +kernel
theorem dX6_nearest_38 : decode cX6_nearest 38 = .ok (.iload 5, 2) := by decide +kernel
theorem dX6_nearest_40 : decode cX6_nearest 40 = .ok (.invokestatic 50, 3) := by decide +kernel
theorem dX6_nearest_43 : decode cX6_nearest 43 = .ok (.istore 6, 2) := by decide +kernel
theorem dX6_nearest_45 : decode cX6_nearest 45 = .ok (.iload 6, 2) := by decide +kernel
theorem dX6_nearest_47 : decode cX6_nearest 47 = .ok (.invokestatic 55, 3) := by decide +kernel
theorem dX6_nearest_50 : decode cX6_nearest 50 = .ok (.aload_n 0, 1) := by decide +kernel
theorem dX6_nearest_51 : decode cX6_nearest 51 = .ok (.getfield 33, 3) := by decide +kernel
theorem dX6_nearest_54 : decode cX6_nearest 54 = .ok (.invokestatic 55, 3) := by decide +kernel
theorem dX6_nearest_57 : decode cX6_nearest 57 = .ok (.isub, 1) := by decide +kernel
theorem dX6_nearest_58 : decode cX6_nearest 58 = .ok (.istore 7, 2) := by decide +kernel
theorem dX6_nearest_60 : decode cX6_nearest 60 = .ok (.iconst 0, 1) := by decide +kernel
theorem dX6_nearest_61 : decode cX6_nearest 61 = .ok (.istore 8, 2) := by decide +kernel
theorem dX6_nearest_63 : decode cX6_nearest 63 = .ok (.iload 8, 2) := by decide +kernel
theorem dX6_nearest_65 : decode cX6_nearest 65 = .ok (.iload 7, 2) := by decide +kernel
theorem dX6_nearest_67 : decode cX6_nearest 67 = .ok (.if_icmp .gt 26, 3) := by decide +kernel
theorem dX6_nearest_70 : decode cX6_nearest 70 = .ok (.aload_n 0, 1) := by decide +kernel
theorem dX6_nearest_71 : decode cX6_nearest 71 = .ok (.iload_n 3, 1) := by decide +kernel
theorem dX6_nearest_72 : decode cX6_nearest 72 = .ok (.iload 6, 2) := by decide +kernel
theorem dX6_nearest_74 : decode cX6_nearest 74 = .ok (.iload_n 1, 1) := by decide +kernel
theorem dX6_nearest_75 : decode cX6_nearest 75 = .ok (.iload_n 2, 1) := by decide +kernel
theorem dX6_nearest_76 : decode cX6_nearest 76 = .ok (.invokevirtual 66, 3) := by decide +kernel
theorem dX6_nearest_79 : decode cX6_nearest 79 = .ok (.istore_n 3, 1) := by decide +kernel
theorem dX6_nearest_80 : decode cX6_nearest 80 = .ok (.iload 6, 2) := by decide +kernel
theorem dX6_nearest_82 : decode cX6_nearest 82 = .ok (.bipush 10, 2) := by decide +kernel
theorem dX6_nearest_84 : decode cX6_nearest 84 = .ok (.idiv, 1) := by decide +kernel
theorem dX6_nearest_85 : decode cX6_nearest 85 = .ok (.istore 6, 2) := by decide +kernel
theorem dX6_nearest_87 : decode cX6_nearest 87 = .ok (.iinc 8 1, 3) := by decide +kernel
theorem dX6_nearest_90 : decode cX6_nearest 90 = .ok (.goto (-27), 3) := by decide +kernel
theorem dX6_nearest_93 : decode cX6_nearest 93 = .ok (.iinc 4 1, 3) := by decide +kernel
theorem dX6_nearest_96 : decode cX6_nearest 96 = .ok (.goto (-91), 3) := by decide +kernel
theorem dX6_nearest_99 : decode cX6_nearest 99 = .ok (.iload_n 3, 1) := by decide +kernel
theorem dX6_nearest_100 : decode cX6_nearest 100 = .ok (.ireturn, 1) := by decide +kernel
set_option maxRecDepth 20000 in
theorem ggX6_nearer_X3_order : GoodIn wsX6_nearer wsX3_order := goodIn_r _ [5, 6, 7, 4, 8, 9, 10, 11, 12] (by decide +kernel) (by decide +kernel)
set_option maxRecDepth 20000 in
theorem gX6_nearer_X3_order : GoodIn wsX6_nearer (va_wsS RX6 70 yX3_order wsX3_order) := goodIn_app (goodIn_of _ (by decide +kernel)) ggX6_nearer_X3_order
set_option maxRecDepth 20000 in
theorem ggX6_nearer_X4_isOwn : GoodIn wsX6_nearer wsX4_isOwn := goodIn_r _ [17, 18, 19, 4, 20, 21, 22, 23, 16, 24, 25, 26, 27, 28, 29, 30, 31, 32, 33, 34, 46, 47, 48, 49, 50] (by decide +kernel) (by decide +kernel)
set_option maxRecDepth 20000 in
theorem gX6_nearer_X4_isOwn : GoodIn wsX6_nearer (wsV RX6 58 RX4 yX4_isOwn wsX4_isOwn) := goodIn_app (goodIn_of _ (by decide +kernel)) ggX6_nearer_X4_isOwn
theorem dX6_nearer_0 : decode cX6_nearer 0 = .ok (.iload_n 2, 1) := by decide +kernel
theorem dX6_nearer_1 : decode cX6_nearer 1 = .ok (.invokestatic 70, 3) := by decide +kernel
theorem dX6_nearer_4 : decode cX6_nearer 4 = .ok (.istore 5, 2) := by decide +kernel
theorem dX6_nearer_6 : decode cX6_nearer 6 = .ok (.iload 4, 2) := by decide +kernel
theorem dX6_nearer_8 : decode cX6_nearer 8 = .ok (.iload 5, 2) := by decide +kernel
theorem dX6_nearer_10 : decode cX6_nearer 10 = .ok (.iload_n 3, 1) := by decide +kernel
theorem dX6_nearer_11 : decode cX6_nearer 11 = .ok (.invokestatic 70, 3) := by decide +kernel
theorem dX6_nearer_14 : decode cX6_nearer 14 = .ok (.if_icmp .le 7, 3) := by decide +kernel
theorem dX6_nearer_17 : decode cX6_nearer 17 = .ok (.iconst 1, 1) := by decide +kernel
theorem dX6_nearer_18 : decode cX6_nearer 18 = .ok (.goto 4, 3) := by decide +kernel
theorem dX6_nearer_21 : decode cX6_nearer 21 = .ok (.iconst 0, 1) := by decide +kernel
theorem dX6_nearer_22 : decode cX6_nearer 22 = .ok (.if_icmp .ne 14, 3) := by decide +kernel
theorem dX6_nearer_25 : decode cX6_nearer 25 = .ok (.aload_n 0, 1) := by decide +kernel
theorem dX6_nearer_26 : decode cX6_nearer 26 = .ok (.getfield 26, 3) := by decide +kernel
theorem dX6_nearer_29 : decode cX6_nearer 29 = .ok (.iload_n 2, 1) := by decide +kernel
theorem dX6_nearer_30 : decode cX6_nearer 30 = .ok (.invokevirtual 58, 3) := by decide +kernel
theorem dX6_nearer_33 : decode cX6_nearer 33 = .ok (.ifCond .ne 5, 3) := by decide +kernel
theorem dX6_nearer_36 : decode cX6_nearer 36 = .ok (.iload_n 1, 1) := by decide +kernel
theorem dX6_nearer_37 : decode cX6_nearer 37 = .ok (.ireturn, 1) := by decide +kernel
theorem dX6_nearer_38 : decode cX6_nearer 38 = .ok (.iload_n 1, 1) := by decide +kernel
theorem dX6_nearer_39 : decode cX6_nearer 39 = .ok (.iconst (-1), 1) := by decide +kernel
theorem dX6_nearer_40 : decode cX6_nearer 40 = .ok (.if_icmp .ne 5, 3) := by decide +kernel
theorem dX6_nearer_43 : decode cX6_nearer 43 = .ok (.iload_n 2, 1) := by decide +kernel
theorem dX6_nearer_44 : decode cX6_nearer 44 = .ok (.ireturn, 1) := by decide +kernel
theorem dX6_nearer_45 : decode cX6_nearer 45 = .ok (.iload 4, 2) := by decide +kernel
theorem dX6_nearer_47 : decode cX6_nearer 47 = .ok (.iload 5, 2) := by decide +kernel
theorem dX6_nearer_49 : decode cX6_nearer 49 = .ok (.iload_n 1, 1) := by decide +kernel
theorem dX6_nearer_50 : decode cX6_nearer 50 = .ok (.invokestatic 70, 3) := by decide +kernel
theorem dX6_nearer_53 : decode cX6_nearer 53 = .ok (.if_icmp .ge 7, 3) := by decide +kernel
theorem dX6_nearer_56 : decode cX6_nearer 56 = .ok (.iconst 1, 1) := by decide +kernel
theorem dX6_nearer_57 : decode cX6_nearer 57 = .ok (.goto 4, 3) := by decide +kernel
theorem dX6_nearer_60 : decode cX6_nearer 60 = .ok (.iconst 0, 1) := by decide +kernel
theorem dX6_nearer_61 : decode cX6_nearer 61 = .ok (.if_icmp .ne 7, 3) := by decide +kernel
theorem dX6_nearer_64 : decode cX6_nearer 64 = .ok (.iload_n 2, 1) := by decide +kernel
theorem dX6_nearer_65 : decode cX6_nearer 65 = .ok (.goto 4, 3) := by decide +kernel
theorem dX6_nearer_68 : decode cX6_nearer 68 = .ok (.iload_n 1, 1) := by decide +kernel
theorem dX6_nearer_69 : decode cX6_nearer 69 = .ok (.ireturn, 1) := by decide +kernel
set_option maxRecDepth 20000 in
theorem ggX6_renewCopy_X4_countNotIn : GoodIn wsX6_renewCopy wsX4_countNotIn := goodIn_r _ [9, 10, 11, 12, 13, 8, 14, 15, 16, 17, 18, 19, 20, 21, 22, 23, 24, 25, 26, 27, 28, 29, 30, 31, 32, 33, 34, 54, 55, 56, 57, 58] (by decide +kernel) (by decide +kernel)
set_option maxRecDepth 20000 in
theorem gX6_renewCopy_X4_countNotIn : GoodIn wsX6_renewCopy (wsV RX6 73 RX4 yX4_countNotIn wsX4_countNotIn) := goodIn_app (goodIn_of _ (by decide +kernel)) ggX6_renewCopy_X4_countNotIn
set_option maxRecDepth 20000 in
theorem ggX6_renewCopy_X4_become : GoodIn wsX6_renewCopy wsX4_become := goodIn_r _ [38, 10, 15, 39, 40, 41, 42, 20, 29, 34, 11, 12, 13, 8, 14, 16, 17, 18, 19, 25, 26, 27, 28, 30, 31, 32, 33, 54, 55, 56, 57, 58] (by decide +kernel) (by decide +kernel)
set_option maxRecDepth 20000 in
theorem gX6_renewCopy_X4_become : GoodIn wsX6_renewCopy (wsV RX6 77 RX4 yX4_become wsX4_become) := goodIn_app (goodIn_of _ (by decide +kernel)) ggX6_renewCopy_X4_become
theorem dX6_renewCopy_0 : decode cX6_renewCopy 0 = .ok (.aload_n 0, 1) := by decide +kernel
theorem dX6_renewCopy_1 : decode cX6_renewCopy 1 = .ok (.getfield 9, 3) := by decide +kernel
theorem dX6_renewCopy_4 : decode cX6_renewCopy 4 = .ok (.aload_n 0, 1) := by decide +kernel
theorem dX6_renewCopy_5 : decode cX6_renewCopy 5 = .ok (.getfield 36, 3) := by decide +kernel
theorem dX6_renewCopy_8 : decode cX6_renewCopy 8 = .ok (.if_icmp .ne 5, 3) := by decide +kernel
theorem dX6_renewCopy_11 : decode cX6_renewCopy 11 = .ok (.iconst 0, 1) := by decide +kernel
theorem dX6_renewCopy_12 : decode cX6_renewCopy 12 = .ok (.ireturn, 1) := by decide +kernel
theorem dX6_renewCopy_13 : decode cX6_renewCopy 13 = .ok (.aload_n 0, 1) := by decide +kernel
theorem dX6_renewCopy_14 : decode cX6_renewCopy 14 = .ok (.getfield 36, 3) := by decide +kernel
theorem dX6_renewCopy_17 : decode cX6_renewCopy 17 = .ok (.aload_n 0, 1) := by decide +kernel
theorem dX6_renewCopy_18 : decode cX6_renewCopy 18 = .ok (.getfield 9, 3) := by decide +kernel
theorem dX6_renewCopy_21 : decode cX6_renewCopy 21 = .ok (.isub, 1) := by decide +kernel
theorem dX6_renewCopy_22 : decode cX6_renewCopy 22 = .ok (.aload_n 0, 1) := by decide +kernel
theorem dX6_renewCopy_23 : decode cX6_renewCopy 23 = .ok (.getfield 36, 3) := by decide +kernel
theorem dX6_renewCopy_26 : decode cX6_renewCopy 26 = .ok (.aload_n 0, 1) := by decide +kernel
theorem dX6_renewCopy_27 : decode cX6_renewCopy 27 = .ok (.getfield 9, 3) := by decide +kernel
theorem dX6_renewCopy_30 : decode cX6_renewCopy 30 = .ok (.if_icmp .ge 8, 3) := by decide +kernel
theorem dX6_renewCopy_33 : decode cX6_renewCopy 33 = .ok (.bipush 16, 2) := by decide +kernel
theorem dX6_renewCopy_35 : decode cX6_renewCopy 35 = .ok (.goto 4, 3) := by decide +kernel
theorem dX6_renewCopy_38 : decode cX6_renewCopy 38 = .ok (.iconst 0, 1) := by decide +kernel
theorem dX6_renewCopy_39 : decode cX6_renewCopy 39 = .ok (.iadd, 1) := by decide +kernel
theorem dX6_renewCopy_40 : decode cX6_renewCopy 40 = .ok (.istore_n 1, 1) := by decide +kernel
theorem dX6_renewCopy_41 : decode cX6_renewCopy 41 = .ok (.aload_n 0, 1) := by decide +kernel
theorem dX6_renewCopy_42 : decode cX6_renewCopy 42 = .ok (.getfield 26, 3) := by decide +kernel
theorem dX6_renewCopy_45 : decode cX6_renewCopy 45 = .ok (.getfield 39, 3) := by decide +kernel
theorem dX6_renewCopy_48 : decode cX6_renewCopy 48 = .ok (.istore_n 2, 1) := by decide +kernel
theorem dX6_renewCopy_49 : decode cX6_renewCopy 49 = .ok (.aload_n 0, 1) := by decide +kernel
theorem dX6_renewCopy_50 : decode cX6_renewCopy 50 = .ok (.getfield 9, 3) := by decide +kernel
theorem dX6_renewCopy_53 : decode cX6_renewCopy 53 = .ok (.iconst (-1), 1) := by decide +kernel
theorem dX6_renewCopy_54 : decode cX6_renewCopy 54 = .ok (.if_icmp .eq 32, 3) := by decide +kernel
theorem dX6_renewCopy_57 : decode cX6_renewCopy 57 = .ok (.iload_n 1, 1) := by decide +kernel
theorem dX6_renewCopy_58 : decode cX6_renewCopy 58 = .ok (.iconst 4, 1) := by decide +kernel
theorem dX6_renewCopy_59 : decode cX6_renewCopy 59 = .ok (.if_icmp .gt 27, 3) := by decide +kernel
theorem dX6_renewCopy_62 : decode cX6_renewCopy 62 = .ok (.aload_n 0, 1) := by decide +kernel
theorem dX6_renewCopy_63 : decode cX6_renewCopy 63 = .ok (.getfield 26, 3) := by decide +kernel
theorem dX6_renewCopy_66 : decode cX6_renewCopy 66 = .ok (.aload_n 0, 1) := by decide +kernel
theorem dX6_renewCopy_67 : decode cX6_renewCopy 67 = .ok (.getfield 30, 3) := by decide +kernel
theorem dX6_renewCopy_70 : decode cX6_renewCopy 70 = .ok (.invokevirtual 73, 3) := by decide +kernel
theorem dX6_renewCopy_73 : decode cX6_renewCopy 73 = .ok (.aload_n 0, 1) := by decide +kernel
theorem dX6_renewCopy_74 : decode cX6_renewCopy 74 = .ok (.getfield 30, 3) := by decide +kernel
theorem dX6_renewCopy_77 : decode cX6_renewCopy 77 = .ok (.aload_n 0, 1) := by decide +kernel
theorem dX6_renewCopy_78 : decode cX6_renewCopy 78 = .ok (.getfield 26, 3) := by decide +kernel
theorem dX6_renewCopy_81 : decode cX6_renewCopy 81 = .ok (.invokevirtual 73, 3) := by decide +kernel
theorem dX6_renewCopy_84 : decode cX6_renewCopy 84 = .ok (.iadd, 1) := by decide +kernel
theorem dX6_renewCopy_85 : decode cX6_renewCopy 85 = .ok (.istore_n 2, 1) := by decide +kernel
theorem dX6_renewCopy_86 : decode cX6_renewCopy 86 = .ok (.aload_n 0, 1) := by decide +kernel
theorem dX6_renewCopy_87 : decode cX6_renewCopy 87 = .ok (.getfield 30, 3) := by decide +kernel
theorem dX6_renewCopy_90 : decode cX6_renewCopy 90 = .ok (.aload_n 0, 1) := by decide +kernel
theorem dX6_renewCopy_91 : decode cX6_renewCopy 91 = .ok (.getfield 26, 3) := by decide +kernel
theorem dX6_renewCopy_94 : decode cX6_renewCopy 94 = .ok (.invokevirtual 77, 3) := by decide +kernel
theorem dX6_renewCopy_97 : decode cX6_renewCopy 97 = .ok (.aload_n 0, 1) := by decide +kernel
theorem dX6_renewCopy_98 : decode cX6_renewCopy 98 = .ok (.aload_n 0, 1) := by decide +kernel
theorem dX6_renewCopy_99 : decode cX6_renewCopy 99 = .ok (.getfield 36, 3) := by decide +kernel
theorem dX6_renewCopy_102 : decode cX6_renewCopy 102 = .ok (.putfield 9, 3) := by decide +kernel
theorem dX6_renewCopy_105 : decode cX6_renewCopy 105 = .ok (.iload_n 2, 1) := by decide +kernel
theorem dX6_renewCopy_106 : decode cX6_renewCopy 106 = .ok (.ireturn, 1) := by decide +kernel
set_option maxRecDepth 20000 in
theorem ggX6_take_X4_become : GoodIn wsX6_take wsX4_become := goodIn_r _ [7, 8, 9, 10, 11, 12, 13, 14, 15, 16, 17, 18, 19, 6, 20, 21, 22, 23, 24, 25, 26, 27, 28, 29, 30, 31, 32, 44, 45, 46, 47, 48] (by decide +kernel) (by decide +kernel)
set_option maxRecDepth 20000 in
theorem gX6_take_X4_become : GoodIn wsX6_take (wsV RX6 77 RX4 yX4_become wsX4_become) := goodIn_app (goodIn_of _ (by decide +kernel)) ggX6_take_X4_become
theorem dX6_take_0 : decode cX6_take 0 = .ok (.aload_n 0, 1) := by decide +kernel
theorem dX6_take_1 : decode cX6_take 1 = .ok (.getfield 26, 3) := by decide +kernel
theorem dX6_take_4 : decode cX6_take 4 = .ok (.aload_n 1, 1) := by decide +kernel
theorem dX6_take_5 : decode cX6_take 5 = .ok (.invokevirtual 77, 3) := by decide +kernel
theorem dX6_take_8 : decode cX6_take 8 = .ok (.aload_n 0, 1) := by decide +kernel
theorem dX6_take_9 : decode cX6_take 9 = .ok (.aload_n 0, 1) := by decide +kernel
theorem dX6_take_10 : decode cX6_take 10 = .ok (.getfield 36, 3) := by decide +kernel
theorem dX6_take_13 : decode cX6_take 13 = .ok (.iconst 1, 1) := by decide +kernel
theorem dX6_take_14 : decode cX6_take 14 = .ok (.iadd, 1) := by decide +kernel
theorem dX6_take_15 : decode cX6_take 15 = .ok (.bipush 16, 2) := by decide +kernel
theorem dX6_take_17 : decode cX6_take 17 = .ok (.if_icmp .ge 12, 3) := by decide +kernel
theorem dX6_take_20 : decode cX6_take 20 = .ok (.aload_n 0, 1) := by decide +kernel
theorem dX6_take_21 : decode cX6_take 21 = .ok (.getfield 36, 3) := by decide +kernel
theorem dX6_take_24 : decode cX6_take 24 = .ok (.iconst 1, 1) := by decide +kernel
theorem dX6_take_25 : decode cX6_take 25 = .ok (.iadd, 1) := by decide +kernel
theorem dX6_take_26 : decode cX6_take 26 = .ok (.goto 4, 3) := by decide +kernel
theorem dX6_take_29 : decode cX6_take 29 = .ok (.iconst 0, 1) := by decide +kernel
theorem dX6_take_30 : decode cX6_take 30 = .ok (.putfield 36, 3) := by decide +kernel
theorem dX6_take_33 : decode cX6_take 33 = .ok (.return_, 1) := by decide +kernel
set_option maxRecDepth 20000 in
theorem ggX6_isFit_X6_isRowFit : GoodIn wsX6_isFit wsX6_isRowFit := goodIn_r _ [5, 6, 7, 8, 9, 10, 11, 12, 13, 14, 15, 16, 17, 18, 19, 20, 21, 22, 23, 24, 25, 26, 27, 28, 29, 30, 31, 32, 33, 34, 35, 36, 37, 38, 39, 40, 41, 42, 43, 44, 45, 46, 47, 48, 49, 50, 51, 52, 53, 54, 55, 56, 57, 58, 59, 60, 61, 67, 68, 69, 70, 71, 72, 73, 74, 75, 76, 77, 62, 63, 64, 65, 66, 78, 79] (by decide +kernel) (by decide +kernel)
set_option maxRecDepth 20000 in
theorem gX6_isFit_X6_isRowFit : GoodIn wsX6_isFit (wsV RX6 81 RX6 yX6_isRowFit wsX6_isRowFit) := goodIn_app (goodIn_of _ (by decide +kernel)) ggX6_isFit_X6_isRowFit
theorem dX6_isFit_0 : decode cX6_isFit 0 = .ok (.aload_n 1, 1) := by decide +kernel
theorem dX6_isFit_1 : decode cX6_isFit 1 = .ok (.getfield 39, 3) := by decide +kernel
theorem dX6_isFit_4 : decode cX6_isFit 4 = .ok (.bipush 20, 2) := by decide +kernel
theorem dX6_isFit_6 : decode cX6_isFit 6 = .ok (.if_icmp .gt 7, 3) := by decide +kernel
theorem dX6_isFit_9 : decode cX6_isFit 9 = .ok (.iconst 1, 1) := by decide +kernel
theorem dX6_isFit_10 : decode cX6_isFit 10 = .ok (.goto 4, 3) := by decide +kernel
theorem dX6_isFit_13 : decode cX6_isFit 13 = .ok (.iconst 0, 1) := by decide +kernel
theorem dX6_isFit_14 : decode cX6_isFit 14 = .ok (.istore_n 3, 1) := by decide +kernel
theorem dX6_isFit_15 : decode cX6_isFit 15 = .ok (.iconst 0, 1) := by decide +kernel
theorem dX6_isFit_16 : decode cX6_isFit 16 = .ok (.istore 4, 2) := by decide +kernel
theorem dX6_isFit_18 : decode cX6_isFit 18 = .ok (.iload 4, 2) := by decide +kernel
theorem dX6_isFit_20 : decode cX6_isFit 20 = .ok (.aload_n 1, 1) := by decide +kernel
theorem dX6_isFit_21 : decode cX6_isFit 21 = .ok (.getfield 39, 3) := by decide +kernel
theorem dX6_isFit_24 : decode cX6_isFit 24 = .ok (.if_icmp .ge 22, 3) := by decide +kernel
theorem dX6_isFit_27 : decode cX6_isFit 27 = .ok (.iload_n 3, 1) := by decide +kernel
theorem dX6_isFit_28 : decode cX6_isFit 28 = .ok (.ifCond .eq 18, 3) := by decide +kernel
theorem dX6_isFit_31 : decode cX6_isFit 31 = .ok (.aload_n 0, 1) := by decide +kernel
theorem dX6_isFit_32 : decode cX6_isFit 32 = .ok (.aload_n 1, 1) := by decide +kernel
theorem dX6_isFit_33 : decode cX6_isFit 33 = .ok (.iload 4, 2) := by decide +kernel
theorem dX6_isFit_35 : decode cX6_isFit 35 = .ok (.aload_n 2, 1) := by decide +kernel
theorem dX6_isFit_36 : decode cX6_isFit 36 = .ok (.invokevirtual 81, 3) := by decide +kernel
theorem dX6_isFit_39 : decode cX6_isFit 39 = .ok (.istore_n 3, 1) := by decide +kernel
theorem dX6_isFit_40 : decode cX6_isFit 40 = .ok (.iinc 4 1, 3) := by decide +kernel
theorem dX6_isFit_43 : decode cX6_isFit 43 = .ok (.goto (-25), 3) := by decide +kernel
theorem dX6_isFit_46 : decode cX6_isFit 46 = .ok (.iload_n 3, 1) := by decide +kernel
theorem dX6_isFit_47 : decode cX6_isFit 47 = .ok (.ireturn, 1) := by decide +kernel
set_option maxRecDepth 20000 in
theorem ggX6_isRowFit_X4_placeAt : GoodIn wsX6_isRowFit wsX4_placeAt := goodIn_r _ [6, 7, 8, 68, 69, 70, 71, 72] (by decide +kernel) (by decide +kernel)
set_option maxRecDepth 20000 in
theorem gX6_isRowFit_X4_placeAt : GoodIn wsX6_isRowFit (wsV RX6 46 RX4 yX4_placeAt wsX4_placeAt) := goodIn_app (goodIn_of _ (by decide +kernel)) ggX6_isRowFit_X4_placeAt
set_option maxRecDepth 20000 in
theorem ggX6_isRowFit_X4_sortAt : GoodIn wsX6_isRowFit wsX4_sortAt := goodIn_r _ [12, 7, 13, 68, 69, 70, 71, 72] (by decide +kernel) (by decide +kernel)
set_option maxRecDepth 20000 in
theorem gX6_isRowFit_X4_sortAt : GoodIn wsX6_isRowFit (wsV RX6 85 RX4 yX4_sortAt wsX4_sortAt) := goodIn_app (goodIn_of _ (by decide +kernel)) ggX6_isRowFit_X4_sortAt
set_option maxRecDepth 20000 in
theorem ggX6_isRowFit_X3_nameOf : GoodIn wsX6_isRowFit wsX3_nameOf := goodIn_r _ [17] (by decide +kernel) (by decide +kernel)
set_option maxRecDepth 20000 in
theorem gX6_isRowFit_X3_nameOf : GoodIn wsX6_isRowFit (va_wsS RX6 50 yX3_nameOf wsX3_nameOf) := goodIn_app (goodIn_of _ (by decide +kernel)) ggX6_isRowFit_X3_nameOf
set_option maxRecDepth 20000 in
theorem ggX6_isRowFit_X3_isUnder : GoodIn wsX6_isRowFit wsX3_isUnder := goodIn_r _ [20] (by decide +kernel) (by decide +kernel)
set_option maxRecDepth 20000 in
theorem gX6_isRowFit_X3_isUnder : GoodIn wsX6_isRowFit (va_wsS RX6 88 yX3_isUnder wsX3_isUnder) := goodIn_app (goodIn_of _ (by decide +kernel)) ggX6_isRowFit_X3_isUnder
set_option maxRecDepth 20000 in
theorem ggX6_isRowFit_X4_countAt : GoodIn wsX6_isRowFit wsX4_countAt := goodIn_r _ [24, 7, 8, 68, 69, 70, 71, 72] (by decide +kernel) (by decide +kernel)
set_option maxRecDepth 20000 in
theorem gX6_isRowFit_X4_countAt : GoodIn wsX6_isRowFit (wsV RX6 91 RX4 yX4_countAt wsX4_countAt) := goodIn_app (goodIn_of _ (by decide +kernel)) ggX6_isRowFit_X4_countAt
set_option maxRecDepth 20000 in
theorem ggX6_isRowFit_X3_isStar : GoodIn wsX6_isRowFit wsX3_isStar := goodIn_r _ [27, 28, 29, 16, 30] (by decide +kernel) (by decide +kernel)
set_option maxRecDepth 20000 in
theorem gX6_isRowFit_X3_isStar : GoodIn wsX6_isRowFit (va_wsS RX6 94 yX3_isStar wsX3_isStar) := goodIn_app (goodIn_of _ (by decide +kernel)) ggX6_isRowFit_X3_isStar
set_option maxRecDepth 20000 in
theorem ggX6_isRowFit_X4_isAnyElseUnder : GoodIn wsX6_isRowFit wsX4_isAnyElseUnder := goodIn_r _ [34, 7, 8, 35, 15, 16, 17, 36, 19, 20, 68, 69, 70, 71, 72] (by decide +kernel) (by decide +kernel)
set_option maxRecDepth 20000 in
theorem gX6_isRowFit_X4_isAnyElseUnder : GoodIn wsX6_isRowFit (wsV RX6 97 RX4 yX4_isAnyElseUnder wsX4_isAnyElseUnder) := goodIn_app (goodIn_of _ (by decide +kernel)) ggX6_isRowFit_X4_isAnyElseUnder
set_option maxRecDepth 20000 in
theorem ggX6_isRowFit_X4_numberAt : GoodIn wsX6_isRowFit wsX4_numberAt := goodIn_r _ [40, 7, 41, 68, 69, 70, 71, 72] (by decide +kernel) (by decide +kernel)
set_option maxRecDepth 20000 in
theorem gX6_isRowFit_X4_numberAt : GoodIn wsX6_isRowFit (wsV RX6 100 RX4 yX4_numberAt wsX4_numberAt) := goodIn_app (goodIn_of _ (by decide +kernel)) ggX6_isRowFit_X4_numberAt
set_option maxRecDepth 20000 in
theorem ggX6_isRowFit_X7_isAt : GoodIn wsX6_isRowFit wsX7_isAt := goodIn_r _ [46, 47, 48, 49, 50, 45, 51, 52, 73, 74, 57, 58, 59, 60, 61, 62, 63, 64, 65, 66, 67] (by decide +kernel) (by decide +kernel)
set_option maxRecDepth 20000 in
theorem gX6_isRowFit_X7_isAt : GoodIn wsX6_isRowFit (wsV RX6 103 RX7 yX7_isAt wsX7_isAt) := goodIn_app (goodIn_of _ (by decide +kernel)) ggX6_isRowFit_X7_isAt
set_option maxRecDepth 20000 in
theorem ggX6_isRowFit_X4_rowOf : GoodIn wsX6_isRowFit wsX4_rowOf := goodIn_r _ [56, 7, 8, 13, 68, 69, 70, 71, 72] (by decide +kernel) (by decide +kernel)
set_option maxRecDepth 20000 in
theorem gX6_isRowFit_X4_rowOf : GoodIn wsX6_isRowFit (wsV RX6 108 RX4 yX4_rowOf wsX4_rowOf) := goodIn_app (goodIn_of _ (by decide +kernel)) ggX6_isRowFit_X4_rowOf
theorem dX6_isRowFit_0 : decode cX6_isRowFit 0 = .ok (.aload_n 1, 1) := by decide +kernel
theorem dX6_isRowFit_1 : decode cX6_isRowFit 1 = .ok (.iload_n 2, 1) := by decide +kernel
theorem dX6_isRowFit_2 : decode cX6_isRowFit 2 = .ok (.invokevirtual 46, 3) := by decide +kernel
theorem dX6_isRowFit_5 : decode cX6_isRowFit 5 = .ok (.istore 4, 2) := by decide +kernel
theorem dX6_isRowFit_7 : decode cX6_isRowFit 7 = .ok (.aload_n 1, 1) := by decide +kernel
theorem dX6_isRowFit_8 : decode cX6_isRowFit 8 = .ok (.iload_n 2, 1) := by decide +kernel
theorem dX6_isRowFit_9 : decode cX6_isRowFit 9 = .ok (.invokevirtual 85, 3) := by decide +kernel
theorem dX6_isRowFit_12 : decode cX6_isRowFit 12 = .ok (.istore 5, 2) := by decide +kernel
theorem dX6_isRowFit_14 : decode cX6_isRowFit 14 = .ok (.iload 4, 2) := by decide +kernel
theorem dX6_isRowFit_16 : decode cX6_isRowFit 16 = .ok (.invokestatic 50, 3) := by decide +kernel
theorem dX6_isRowFit_19 : decode cX6_isRowFit 19 = .ok (.aload_n 0, 1) := by decide +kernel
theorem dX6_isRowFit_20 : decode cX6_isRowFit 20 = .ok (.getfield 33, 3) := by decide +kernel
theorem dX6_isRowFit_23 : decode cX6_isRowFit 23 = .ok (.invokestatic 88, 3) := by decide +kernel
theorem dX6_isRowFit_26 : decode cX6_isRowFit 26 = .ok (.ifCond .ne 5, 3) := by decide +kernel
theorem dX6_isRowFit_29 : decode cX6_isRowFit 29 = .ok (.iconst 0, 1) := by decide +kernel
theorem dX6_isRowFit_30 : decode cX6_isRowFit 30 = .ok (.ireturn, 1) := by decide +kernel
theorem dX6_isRowFit_31 : decode cX6_isRowFit 31 = .ok (.iload 5, 2) := by decide +kernel
theorem dX6_isRowFit_33 : decode cX6_isRowFit 33 = .ok (.tableswitch 116 1 4 #[31, 47, 70, 99], 31) := by decide +kernel
theorem dX6_isRowFit_64 : decode cX6_isRowFit 64 = .ok (.aload_n 1, 1) := by decide +kernel
theorem dX6_isRowFit_65 : decode cX6_isRowFit 65 = .ok (.iload 4, 2) := by decide +kernel
theorem dX6_isRowFit_67 : decode cX6_isRowFit 67 = .ok (.invokevirtual 91, 3) := by decide +kernel
theorem dX6_isRowFit_70 : decode cX6_isRowFit 70 = .ok (.iconst 1, 1) := by decide +kernel
theorem dX6_isRowFit_71 : decode cX6_isRowFit 71 = .ok (.if_icmp .ne 7, 3) := by decide +kernel
theorem dX6_isRowFit_74 : decode cX6_isRowFit 74 = .ok (.iconst 1, 1) := by decide +kernel
theorem dX6_isRowFit_75 : decode cX6_isRowFit 75 = .ok (.goto 4, 3) := by decide +kernel
theorem dX6_isRowFit_78 : decode cX6_isRowFit 78 = .ok (.iconst 0, 1) := by decide +kernel
theorem dX6_isRowFit_79 : decode cX6_isRowFit 79 = .ok (.ireturn, 1) := by decide +kernel
theorem dX6_isRowFit_80 : decode cX6_isRowFit 80 = .ok (.iload 4, 2) := by decide +kernel
theorem dX6_isRowFit_82 : decode cX6_isRowFit 82 = .ok (.invokestatic 94, 3) := by decide +kernel
theorem dX6_isRowFit_85 : decode cX6_isRowFit 85 = .ok (.ifCond .ne 16, 3) := by decide +kernel
theorem dX6_isRowFit_88 : decode cX6_isRowFit 88 = .ok (.aload_n 1, 1) := by decide +kernel
theorem dX6_isRowFit_89 : decode cX6_isRowFit 89 = .ok (.iload 4, 2) := by decide +kernel
theorem dX6_isRowFit_91 : decode cX6_isRowFit 91 = .ok (.invokevirtual 97, 3) := by decide +kernel
theorem dX6_isRowFit_94 : decode cX6_isRowFit 94 = .ok (.ifCond .ne 7, 3) := by decide +kernel
theorem dX6_isRowFit_97 : decode cX6_isRowFit 97 = .ok (.iconst 1, 1) := by decide +kernel
theorem dX6_isRowFit_98 : decode cX6_isRowFit 98 = .ok (.goto 4, 3) := by decide +kernel
theorem dX6_isRowFit_101 : decode cX6_isRowFit 101 = .ok (.iconst 0, 1) := by decide +kernel
theorem dX6_isRowFit_102 : decode cX6_isRowFit 102 = .ok (.ireturn, 1) := by decide +kernel
theorem dX6_isRowFit_103 : decode cX6_isRowFit 103 = .ok (.iload 4, 2) := by decide +kernel
theorem dX6_isRowFit_105 : decode cX6_isRowFit 105 = .ok (.aload_n 0, 1) := by decide +kernel
theorem dX6_isRowFit_106 : decode cX6_isRowFit 106 = .ok (.getfield 33, 3) := by decide +kernel
theorem dX6_isRowFit_109 : decode cX6_isRowFit 109 = .ok (.if_icmp .eq 21, 3) := by decide +kernel
theorem dX6_isRowFit_112 : decode cX6_isRowFit 112 = .ok (.aload_n 3, 1) := by decide +kernel
theorem dX6_isRowFit_113 : decode cX6_isRowFit 113 = .ok (.aload_n 1, 1) := by decide +kernel
theorem dX6_isRowFit_114 : decode cX6_isRowFit 114 = .ok (.iload_n 2, 1) := by decide +kernel
theorem dX6_isRowFit_115 : decode cX6_isRowFit 115 = .ok (.invokevirtual 100, 3) := by decide +kernel
theorem dX6_isRowFit_118 : decode cX6_isRowFit 118 = .ok (.iload 4, 2) := by decide +kernel
theorem dX6_isRowFit_120 : decode cX6_isRowFit 120 = .ok (.invokevirtual 103, 3) := by decide +kernel
theorem dX6_isRowFit_123 : decode cX6_isRowFit 123 = .ok (.ifCond .eq 7, 3) := by decide +kernel
theorem dX6_isRowFit_126 : decode cX6_isRowFit 126 = .ok (.iconst 1, 1) := by decide +kernel
theorem dX6_isRowFit_127 : decode cX6_isRowFit 127 = .ok (.goto 4, 3) := by decide +kernel
theorem dX6_isRowFit_130 : decode cX6_isRowFit 130 = .ok (.iconst 0, 1) := by decide +kernel
theorem dX6_isRowFit_131 : decode cX6_isRowFit 131 = .ok (.ireturn, 1) := by decide +kernel
theorem dX6_isRowFit_132 : decode cX6_isRowFit 132 = .ok (.aload_n 1, 1) := by decide +kernel
theorem dX6_isRowFit_133 : decode cX6_isRowFit 133 = .ok (.iload 4, 2) := by decide +kernel
theorem dX6_isRowFit_135 : decode cX6_isRowFit 135 = .ok (.iconst 3, 1) := by decide +kernel
theorem dX6_isRowFit_136 : decode cX6_isRowFit 136 = .ok (.invokevirtual 108, 3) := by decide +kernel
theorem dX6_isRowFit_139 : decode cX6_isRowFit 139 = .ok (.iconst (-1), 1) := by decide +kernel
theorem dX6_isRowFit_140 : decode cX6_isRowFit 140 = .ok (.if_icmp .eq 7, 3) := by decide +kernel
theorem dX6_isRowFit_143 : decode cX6_isRowFit 143 = .ok (.iconst 1, 1) := by decide +kernel
theorem dX6_isRowFit_144 : decode cX6_isRowFit 144 = .ok (.goto 4, 3) := by decide +kernel
theorem dX6_isRowFit_147 : decode cX6_isRowFit 147 = .ok (.iconst 0, 1) := by decide +kernel
theorem dX6_isRowFit_148 : decode cX6_isRowFit 148 = .ok (.ireturn, 1) := by decide +kernel
theorem dX6_isRowFit_149 : decode cX6_isRowFit 149 = .ok (.iconst 1, 1) := by decide +kernel
theorem dX6_isRowFit_150 : decode cX6_isRowFit 150 = .ok (.ireturn, 1) := by decide +kernel
theorem dX6_isAnswering_0 : decode cX6_isAnswering 0 = .ok (.aload_n 0, 1) := by decide +kernel
theorem dX6_isAnswering_1 : decode cX6_isAnswering 1 = .ok (.getfield 112, 3) := by decide +kernel
theorem dX6_isAnswering_4 : decode cX6_isAnswering 4 = .ok (.ifCond .eq 11, 3) := by decide +kernel
theorem dX6_isAnswering_7 : decode cX6_isAnswering 7 = .ok (.aload_n 0, 1) := by decide +kernel
theorem dX6_isAnswering_8 : decode cX6_isAnswering 8 = .ok (.getfield 9, 3) := by decide +kernel
theorem dX6_isAnswering_11 : decode cX6_isAnswering 11 = .ok (.iconst (-1), 1) := by decide +kernel
theorem dX6_isAnswering_12 : decode cX6_isAnswering 12 = .ok (.if_icmp .eq 7, 3) := by decide +kernel
theorem dX6_isAnswering_15 : decode cX6_isAnswering 15 = .ok (.iconst 1, 1) := by decide +kernel
theorem dX6_isAnswering_16 : decode cX6_isAnswering 16 = .ok (.goto 4, 3) := by decide +kernel
theorem dX6_isAnswering_19 : decode cX6_isAnswering 19 = .ok (.iconst 0, 1) := by decide +kernel
theorem dX6_isAnswering_20 : decode cX6_isAnswering 20 = .ok (.ireturn, 1) := by decide +kernel
theorem dX6_answering_0 : decode cX6_answering 0 = .ok (.aload_n 0, 1) := by decide +kernel
theorem dX6_answering_1 : decode cX6_answering 1 = .ok (.getfield 112, 3) := by decide +kernel
theorem dX6_answering_4 : decode cX6_answering 4 = .ok (.ifCond .eq 10, 3) := by decide +kernel
theorem dX6_answering_7 : decode cX6_answering 7 = .ok (.aload_n 0, 1) := by decide +kernel
theorem dX6_answering_8 : decode cX6_answering 8 = .ok (.getfield 30, 3) := by decide +kernel
theorem dX6_answering_11 : decode cX6_answering 11 = .ok (.goto 7, 3) := by decide +kernel
theorem dX6_answering_14 : decode cX6_answering 14 = .ok (.aload_n 0, 1) := by decide +kernel
theorem dX6_answering_15 : decode cX6_answering 15 = .ok (.getfield 26, 3) := by decide +kernel
theorem dX6_answering_18 : decode cX6_answering 18 = .ok (.areturn, 1) := by decide +kernel
set_option maxRecDepth 20000 in
theorem ggX6_answer_X6_isCutOff : GoodIn wsX6_answer wsX6_isCutOff := goodIn_r _ [9, 10, 11, 12, 13, 14, 15, 16, 17, 18, 19, 20, 21, 22, 23, 24, 25, 98, 99, 100, 101, 102] (by decide +kernel) (by decide +kernel)
set_option maxRecDepth 20000 in
theorem gX6_answer_X6_isCutOff : GoodIn wsX6_answer (va_wsS RX6 116 yX6_isCutOff wsX6_isCutOff) := goodIn_app (goodIn_of _ (by decide +kernel)) ggX6_answer_X6_isCutOff
set_option maxRecDepth 20000 in
theorem ggX6_answer_X6_answerCutOff : GoodIn wsX6_answer wsX6_answerCutOff := goodIn_r _ [28, 29, 30, 31, 32, 33, 34, 35, 36, 37, 10, 11, 12, 13, 14, 15, 16, 17, 18, 19, 20, 21, 22, 23, 24, 25, 38, 39, 40, 41, 42, 43, 44, 45, 46, 47, 48, 49, 50, 51, 103, 104, 105, 106, 107, 108, 109, 110, 98, 99, 100, 101, 102] (by decide +kernel) (by decide +kernel)
set_option maxRecDepth 20000 in
theorem gX6_answer_X6_answerCutOff : GoodIn wsX6_answer (va_wsS RX6 120 yX6_answerCutOff wsX6_answerCutOff) := goodIn_app (goodIn_of _ (by decide +kernel)) ggX6_answer_X6_answerCutOff
set_option maxRecDepth 20000 in
theorem ggX6_answer_X4_treeOver : GoodIn wsX6_answer wsX4_treeOver := goodIn_r _ [55, 15, 16, 17, 18, 19, 20, 21, 98, 99, 100, 101, 102] (by decide +kernel) (by decide +kernel)
set_option maxRecDepth 20000 in
theorem gX6_answer_X4_treeOver : GoodIn wsX6_answer (wsV RX6 124 RX4 yX4_treeOver wsX4_treeOver) := goodIn_app (goodIn_of _ (by decide +kernel)) ggX6_answer_X4_treeOver
set_option maxRecDepth 20000 in
theorem ggX6_answer_X4_placeAt : GoodIn wsX6_answer wsX4_placeAt := goodIn_r _ [25, 15, 16, 98, 99, 100, 101, 102] (by decide +kernel) (by decide +kernel)
set_option maxRecDepth 20000 in
theorem gX6_answer_X4_placeAt : GoodIn wsX6_answer (wsV RX6 46 RX4 yX4_placeAt wsX4_placeAt) := goodIn_app (goodIn_of _ (by decide +kernel)) ggX6_answer_X4_placeAt
set_option maxRecDepth 20000 in
theorem ggX6_answer_X4_numberAt : GoodIn wsX6_answer wsX4_numberAt := goodIn_r _ [46, 15, 47, 98, 99, 100, 101, 102] (by decide +kernel) (by decide +kernel)
set_option maxRecDepth 20000 in
theorem gX6_answer_X4_numberAt : GoodIn wsX6_answer (wsV RX6 100 RX4 yX4_numberAt wsX4_numberAt) := goodIn_app (goodIn_of _ (by decide +kernel)) ggX6_answer_X4_numberAt
set_option maxRecDepth 20000 in
theorem ggX6_answer_X3_moved : GoodIn wsX6_answer wsX3_moved := goodIn_r _ [58, 59, 60, 20, 61, 62, 63, 64, 65] (by decide +kernel) (by decide +kernel)
set_option maxRecDepth 20000 in
theorem gX6_answer_X3_moved : GoodIn wsX6_answer (va_wsS RX6 127 yX3_moved wsX3_moved) := goodIn_app (goodIn_of _ (by decide +kernel)) ggX6_answer_X3_moved
set_option maxRecDepth 20000 in
theorem ggX6_answer_X6_placeFor : GoodIn wsX6_answer wsX6_placeFor := goodIn_r _ [69, 5, 70, 71, 72, 13, 73, 16, 74, 75, 20, 76, 18, 19, 21, 98, 99, 100, 101, 102, 87, 88, 89, 90, 91, 92, 93, 94, 95, 96, 97] (by decide +kernel) (by decide +kernel)
set_option maxRecDepth 20000 in
theorem gX6_answer_X6_placeFor : GoodIn wsX6_answer (wsV RX6 131 RX6 yX6_placeFor wsX6_placeFor) := goodIn_app (goodIn_of _ (by decide +kernel)) ggX6_answer_X6_placeFor
set_option maxRecDepth 20000 in
theorem ggX6_answer_X4_rowOf : GoodIn wsX6_answer wsX4_rowOf := goodIn_r _ [51, 15, 16, 17, 98, 99, 100, 101, 102] (by decide +kernel) (by decide +kernel)
set_option maxRecDepth 20000 in
theorem gX6_answer_X4_rowOf : GoodIn wsX6_answer (wsV RX6 108 RX4 yX4_rowOf wsX4_rowOf) := goodIn_app (goodIn_of _ (by decide +kernel)) ggX6_answer_X4_rowOf
set_option maxRecDepth 20000 in
theorem ggX6_answer_X6_answerAt : GoodIn wsX6_answer wsX6_answerAt := goodIn_r _ [80, 1, 2, 3, 4, 81, 48, 49, 50, 13, 51, 15, 16, 17, 43, 44, 45, 46, 47, 38, 39, 40, 41, 42, 29, 30, 31, 32, 33, 34, 35, 36, 37, 82, 83, 84, 85, 87, 88, 89, 90, 91, 92, 93, 94, 95, 96, 97, 98, 99, 100, 101, 102, 103, 104, 105, 106, 107, 108, 109, 110] (by decide +kernel) (by decide +kernel)
set_option maxRecDepth 20000 in
theorem gX6_answer_X6_answerAt : GoodIn wsX6_answer (wsV RX6 135 RX6 yX6_answerAt wsX6_answerAt) := goodIn_app (goodIn_of _ (by decide +kernel)) ggX6_answer_X6_answerAt
set_option maxRecDepth 20000 in
theorem ggX6_answer_X4_lifeAt : GoodIn wsX6_answer wsX4_lifeAt := goodIn_r _ [41, 15, 42, 98, 99, 100, 101, 102] (by decide +kernel) (by decide +kernel)
set_option maxRecDepth 20000 in
theorem gX6_answer_X4_lifeAt : GoodIn wsX6_answer (wsV RX6 139 RX4 yX4_lifeAt wsX4_lifeAt) := goodIn_app (goodIn_of _ (by decide +kernel)) ggX6_answer_X4_lifeAt
set_option maxRecDepth 20000 in
theorem ggX6_answer_X3_isUnder : GoodIn wsX6_answer wsX3_isUnder := goodIn_r _ [21] (by decide +kernel) (by decide +kernel)
set_option maxRecDepth 20000 in
theorem gX6_answer_X3_isUnder : GoodIn wsX6_answer (va_wsS RX6 88 yX3_isUnder wsX3_isUnder) := goodIn_app (goodIn_of _ (by decide +kernel)) ggX6_answer_X3_isUnder
set_option maxRecDepth 20000 in
theorem ggX6_answer_X0_tell : GoodIn wsX6_answer wsX0_tell := goodIn_r _ [33, 34, 35, 36, 37, 103, 104, 105, 106, 107, 108, 109, 110] (by decide +kernel) (by decide +kernel)
set_option maxRecDepth 20000 in
theorem gX6_answer_X0_tell : GoodIn wsX6_answer (wsV RX6 147 RX0 yX0_tell wsX0_tell) := goodIn_app (goodIn_of _ (by decide +kernel)) ggX6_answer_X0_tell
theorem dX6_answer_0 : decode cX6_answer 0 = .ok (.iload_n 2, 1) := by decide +kernel
theorem dX6_answer_1 : decode cX6_answer 1 = .ok (.istore 5, 2) := by decide +kernel
theorem dX6_answer_3 : decode cX6_answer 3 = .ok (.bipush 50, 2) := by decide +kernel
theorem dX6_answer_5 : decode cX6_answer 5 = .ok (.istore 6, 2) := by decide +kernel
theorem dX6_answer_7 : decode cX6_answer 7 = .ok (.iconst 1, 1) := by decide +kernel
theorem dX6_answer_8 : decode cX6_answer 8 = .ok (.istore 7, 2) := by decide +kernel
theorem dX6_answer_10 : decode cX6_answer 10 = .ok (.iload 7, 2) := by decide +kernel
theorem dX6_answer_12 : decode cX6_answer 12 = .ok (.bipush 9, 2) := by decide +kernel
theorem dX6_answer_14 : decode cX6_answer 14 = .ok (.if_icmp .gt 193, 3) := by decide +kernel
theorem dX6_answer_17 : decode cX6_answer 17 = .ok (.aload_n 1, 1) := by decide +kernel
theorem dX6_answer_18 : decode cX6_answer 18 = .ok (.iload 5, 2) := by decide +kernel
theorem dX6_answer_20 : decode cX6_answer 20 = .ok (.iload_n 3, 1) := by decide +kernel
theorem dX6_answer_21 : decode cX6_answer 21 = .ok (.invokestatic 116, 3) := by decide +kernel
theorem dX6_answer_24 : decode cX6_answer 24 = .ok (.ifCond .eq 25, 3) := by decide +kernel
theorem dX6_answer_27 : decode cX6_answer 27 = .ok (.aload_n 1, 1) := by decide +kernel
theorem dX6_answer_28 : decode cX6_answer 28 = .ok (.iload 5, 2) := by decide +kernel
theorem dX6_answer_30 : decode cX6_answer 30 = .ok (.iload 6, 2) := by decide +kernel
theorem dX6_answer_32 : decode cX6_answer 32 = .ok (.iload 7, 2) := by decide +kernel
theorem dX6_answer_34 : decode cX6_answer 34 = .ok (.iconst 1, 1) := by decide +kernel
theorem dX6_answer_35 : decode cX6_answer 35 = .ok (.if_icmp .le 7, 3) := by decide +kernel
theorem dX6_answer_38 : decode cX6_answer 38 = .ok (.iconst 1, 1) := by decide +kernel
theorem dX6_answer_39 : decode cX6_answer 39 = .ok (.goto 4, 3) := by decide +kernel
theorem dX6_answer_42 : decode cX6_answer 42 = .ok (.iconst 0, 1) := by decide +kernel
theorem dX6_answer_43 : decode cX6_answer 43 = .ok (.aload 4, 2) := by decide +kernel
theorem dX6_answer_45 : decode cX6_answer 45 = .ok (.invokestatic 120, 3) := by decide +kernel
theorem dX6_answer_48 : decode cX6_answer 48 = .ok (.return_, 1) := by decide +kernel
theorem dX6_answer_49 : decode cX6_answer 49 = .ok (.aload_n 1, 1) := by decide +kernel
theorem dX6_answer_50 : decode cX6_answer 50 = .ok (.iload 5, 2) := by decide +kernel
theorem dX6_answer_52 : decode cX6_answer 52 = .ok (.invokevirtual 124, 3) := by decide +kernel
theorem dX6_answer_55 : decode cX6_answer 55 = .ok (.istore 8, 2) := by decide +kernel
theorem dX6_answer_57 : decode cX6_answer 57 = .ok (.iload 8, 2) := by decide +kernel
theorem dX6_answer_59 : decode cX6_answer 59 = .ok (.iconst (-1), 1) := by decide +kernel
theorem dX6_answer_60 : decode cX6_answer 60 = .ok (.if_icmp .ne 7, 3) := by decide +kernel
theorem dX6_answer_63 : decode cX6_answer 63 = .ok (.iconst (-1), 1) := by decide +kernel
theorem dX6_answer_64 : decode cX6_answer 64 = .ok (.goto 20, 3) := by decide +kernel
theorem dX6_answer_67 : decode cX6_answer 67 = .ok (.iload 5, 2) := by decide +kernel
theorem dX6_answer_69 : decode cX6_answer 69 = .ok (.aload_n 1, 1) := by decide +kernel
theorem dX6_answer_70 : decode cX6_answer 70 = .ok (.iload 8, 2) := by decide +kernel
theorem dX6_answer_72 : decode cX6_answer 72 = .ok (.invokevirtual 46, 3) := by decide +kernel
theorem dX6_answer_75 : decode cX6_answer 75 = .ok (.aload_n 1, 1) := by decide +kernel
theorem dX6_answer_76 : decode cX6_answer 76 = .ok (.iload 8, 2) := by decide +kernel
theorem dX6_answer_78 : decode cX6_answer 78 = .ok (.invokevirtual 100, 3) := by decide +kernel
theorem dX6_answer_81 : decode cX6_answer 81 = .ok (.invokestatic 127, 3) := by decide +kernel
theorem dX6_answer_84 : decode cX6_answer 84 = .ok (.istore 9, 2) := by decide +kernel
theorem dX6_answer_86 : decode cX6_answer 86 = .ok (.iload 8, 2) := by decide +kernel
theorem dX6_answer_88 : decode cX6_answer 88 = .ok (.iconst (-1), 1) := by decide +kernel
theorem dX6_answer_89 : decode cX6_answer 89 = .ok (.if_icmp .ne 55, 3) := by decide +kernel
theorem dX6_answer_92 : decode cX6_answer 92 = .ok (.aload_n 0, 1) := by decide +kernel
theorem dX6_answer_93 : decode cX6_answer 93 = .ok (.aload_n 1, 1) := by decide +kernel
theorem dX6_answer_94 : decode cX6_answer 94 = .ok (.iload 5, 2) := by decide +kernel
theorem dX6_answer_96 : decode cX6_answer 96 = .ok (.invokevirtual 131, 3) := by decide +kernel
theorem dX6_answer_99 : decode cX6_answer 99 = .ok (.istore 10, 2) := by decide +kernel
theorem dX6_answer_101 : decode cX6_answer 101 = .ok (.aload_n 1, 1) := by decide +kernel
theorem dX6_answer_102 : decode cX6_answer 102 = .ok (.iload 10, 2) := by decide +kernel
theorem dX6_answer_104 : decode cX6_answer 104 = .ok (.iconst 1, 1) := by decide +kernel
theorem dX6_answer_105 : decode cX6_answer 105 = .ok (.invokevirtual 108, 3) := by decide +kernel
theorem dX6_answer_108 : decode cX6_answer 108 = .ok (.istore 8, 2) := by decide +kernel
theorem dX6_answer_110 : decode cX6_answer 110 = .ok (.iload 8, 2) := by decide +kernel
theorem dX6_answer_112 : decode cX6_answer 112 = .ok (.iconst (-1), 1) := by decide +kernel
theorem dX6_answer_113 : decode cX6_answer 113 = .ok (.if_icmp .eq 8, 3) := by decide +kernel
theorem dX6_answer_116 : decode cX6_answer 116 = .ok (.iload_n 3, 1) := by decide +kernel
theorem dX6_answer_117 : decode cX6_answer 117 = .ok (.iconst 1, 1) := by decide +kernel
theorem dX6_answer_118 : decode cX6_answer 118 = .ok (.if_icmp .ne 18, 3) := by decide +kernel
theorem dX6_answer_121 : decode cX6_answer 121 = .ok (.aload_n 0, 1) := by decide +kernel
theorem dX6_answer_122 : decode cX6_answer 122 = .ok (.aload_n 1, 1) := by decide +kernel
theorem dX6_answer_123 : decode cX6_answer 123 = .ok (.iload 10, 2) := by decide +kernel
theorem dX6_answer_125 : decode cX6_answer 125 = .ok (.iload 5, 2) := by decide +kernel
theorem dX6_answer_127 : decode cX6_answer 127 = .ok (.iload_n 3, 1) := by decide +kernel
theorem dX6_answer_128 : decode cX6_answer 128 = .ok (.iload 6, 2) := by decide +kernel
theorem dX6_answer_130 : decode cX6_answer 130 = .ok (.aload 4, 2) := by decide +kernel
theorem dX6_answer_132 : decode cX6_answer 132 = .ok (.invokevirtual 135, 3) := by decide +kernel
theorem dX6_answer_135 : decode cX6_answer 135 = .ok (.return_, 1) := by decide +kernel
theorem dX6_answer_136 : decode cX6_answer 136 = .ok (.aload_n 1, 1) := by decide +kernel
theorem dX6_answer_137 : decode cX6_answer 137 = .ok (.iload 8, 2) := by decide +kernel
theorem dX6_answer_139 : decode cX6_answer 139 = .ok (.invokevirtual 100, 3) := by decide +kernel
theorem dX6_answer_142 : decode cX6_answer 142 = .ok (.istore 9, 2) := by decide +kernel
theorem dX6_answer_144 : decode cX6_answer 144 = .ok (.iload 6, 2) := by decide +kernel
theorem dX6_answer_146 : decode cX6_answer 146 = .ok (.aload_n 1, 1) := by decide +kernel
theorem dX6_answer_147 : decode cX6_answer 147 = .ok (.iload 8, 2) := by decide +kernel
theorem dX6_answer_149 : decode cX6_answer 149 = .ok (.invokevirtual 139, 3) := by decide +kernel
theorem dX6_answer_152 : decode cX6_answer 152 = .ok (.invokestatic 142, 3) := by decide +kernel
theorem dX6_answer_155 : decode cX6_answer 155 = .ok (.istore 6, 2) := by decide +kernel
theorem dX6_answer_157 : decode cX6_answer 157 = .ok (.iload 9, 2) := by decide +kernel
theorem dX6_answer_159 : decode cX6_answer 159 = .ok (.iconst (-1), 1) := by decide +kernel
theorem dX6_answer_160 : decode cX6_answer 160 = .ok (.if_icmp .eq 47, 3) := by decide +kernel
theorem dX6_answer_163 : decode cX6_answer 163 = .ok (.iload 7, 2) := by decide +kernel
theorem dX6_answer_165 : decode cX6_answer 165 = .ok (.bipush 9, 2) := by decide +kernel
theorem dX6_answer_167 : decode cX6_answer 167 = .ok (.if_icmp .ne 6, 3) := by decide +kernel
theorem dX6_answer_170 : decode cX6_answer 170 = .ok (.goto 37, 3) := by decide +kernel
theorem dX6_answer_173 : decode cX6_answer 173 = .ok (.iload 9, 2) := by decide +kernel
theorem dX6_answer_175 : decode cX6_answer 175 = .ok (.istore 5, 2) := by decide +kernel
theorem dX6_answer_177 : decode cX6_answer 177 = .ok (.iload 5, 2) := by decide +kernel
theorem dX6_answer_179 : decode cX6_answer 179 = .ok (.aload_n 0, 1) := by decide +kernel
theorem dX6_answer_180 : decode cX6_answer 180 = .ok (.getfield 33, 3) := by decide +kernel
theorem dX6_answer_183 : decode cX6_answer 183 = .ok (.invokestatic 88, 3) := by decide +kernel
theorem dX6_answer_186 : decode cX6_answer 186 = .ok (.ifCond .ne 15, 3) := by decide +kernel
theorem dX6_answer_189 : decode cX6_answer 189 = .ok (.aload 4, 2) := by decide +kernel
theorem dX6_answer_191 : decode cX6_answer 191 = .ok (.iconst 4, 1) := by decide +kernel
theorem dX6_answer_192 : decode cX6_answer 192 = .ok (.iconst (-1), 1) := by decide +kernel
theorem dX6_answer_193 : decode cX6_answer 193 = .ok (.iload 5, 2) := by decide +kernel
theorem dX6_answer_195 : decode cX6_answer 195 = .ok (.iload 6, 2) := by decide +kernel
theorem dX6_answer_197 : decode cX6_answer 197 = .ok (.invokevirtual 147, 3) := by decide +kernel
theorem dX6_answer_200 : decode cX6_answer 200 = .ok (.return_, 1) := by decide +kernel
theorem dX6_answer_201 : decode cX6_answer 201 = .ok (.iinc 7 1, 3) := by decide +kernel
theorem dX6_answer_204 : decode cX6_answer 204 = .ok (.goto (-194), 3) := by decide +kernel
theorem dX6_answer_207 : decode cX6_answer 207 = .ok (.aload 4, 2) := by decide +kernel
theorem dX6_answer_209 : decode cX6_answer 209 = .ok (.iconst 5, 1) := by decide +kernel
theorem dX6_answer_210 : decode cX6_answer 210 = .ok (.iconst (-1), 1) := by decide +kernel
theorem dX6_answer_211 : decode cX6_answer 211 = .ok (.iconst (-1), 1) := by decide +kernel
theorem dX6_answer_212 : decode cX6_answer 212 = .ok (.iconst 0, 1) := by decide +kernel
theorem dX6_answer_213 : decode cX6_answer 213 = .ok (.invokevirtual 147, 3) := by decide +kernel
theorem dX6_answer_216 : decode cX6_answer 216 = .ok (.return_, 1) := by decide +kernel
set_option maxRecDepth 20000 in
theorem ggX6_isCutOff_X4_cutOver : GoodIn wsX6_isCutOff wsX4_cutOver := goodIn_r _ [5, 6, 7, 8, 9, 10, 11, 12, 17, 18, 19, 20, 21] (by decide +kernel) (by decide +kernel)
set_option maxRecDepth 20000 in
theorem gX6_isCutOff_X4_cutOver : GoodIn wsX6_isCutOff (wsV RX6 153 RX4 yX4_cutOver wsX4_cutOver) := goodIn_app (goodIn_of _ (by decide +kernel)) ggX6_isCutOff_X4_cutOver
set_option maxRecDepth 20000 in
theorem ggX6_isCutOff_X4_placeAt : GoodIn wsX6_isCutOff wsX4_placeAt := goodIn_r _ [16, 6, 7, 17, 18, 19, 20, 21] (by decide +kernel) (by decide +kernel)
set_option maxRecDepth 20000 in
theorem gX6_isCutOff_X4_placeAt : GoodIn wsX6_isCutOff (wsV RX6 46 RX4 yX4_placeAt wsX4_placeAt) := goodIn_app (goodIn_of _ (by decide +kernel)) ggX6_isCutOff_X4_placeAt
theorem dX6_isCutOff_0 : decode cX6_isCutOff 0 = .ok (.aload_n 0, 1) := by decide +kernel
theorem dX6_isCutOff_1 : decode cX6_isCutOff 1 = .ok (.iload_n 1, 1) := by decide +kernel
theorem dX6_isCutOff_2 : decode cX6_isCutOff 2 = .ok (.invokevirtual 153, 3) := by decide +kernel
theorem dX6_isCutOff_5 : decode cX6_isCutOff 5 = .ok (.istore_n 3, 1) := by decide +kernel
theorem dX6_isCutOff_6 : decode cX6_isCutOff 6 = .ok (.iload_n 2, 1) := by decide +kernel
theorem dX6_isCutOff_7 : decode cX6_isCutOff 7 = .ok (.iconst 3, 1) := by decide +kernel
theorem dX6_isCutOff_8 : decode cX6_isCutOff 8 = .ok (.if_icmp .eq 8, 3) := by decide +kernel
theorem dX6_isCutOff_11 : decode cX6_isCutOff 11 = .ok (.iload_n 2, 1) := by decide +kernel
theorem dX6_isCutOff_12 : decode cX6_isCutOff 12 = .ok (.iconst 4, 1) := by decide +kernel
theorem dX6_isCutOff_13 : decode cX6_isCutOff 13 = .ok (.if_icmp .ne 16, 3) := by decide +kernel
theorem dX6_isCutOff_16 : decode cX6_isCutOff 16 = .ok (.aload_n 0, 1) := by decide +kernel
theorem dX6_isCutOff_17 : decode cX6_isCutOff 17 = .ok (.iload_n 3, 1) := by decide +kernel
theorem dX6_isCutOff_18 : decode cX6_isCutOff 18 = .ok (.invokevirtual 46, 3) := by decide +kernel
theorem dX6_isCutOff_21 : decode cX6_isCutOff 21 = .ok (.iload_n 1, 1) := by decide +kernel
theorem dX6_isCutOff_22 : decode cX6_isCutOff 22 = .ok (.if_icmp .ne 7, 3) := by decide +kernel
theorem dX6_isCutOff_25 : decode cX6_isCutOff 25 = .ok (.iconst 1, 1) := by decide +kernel
theorem dX6_isCutOff_26 : decode cX6_isCutOff 26 = .ok (.goto 4, 3) := by decide +kernel
theorem dX6_isCutOff_29 : decode cX6_isCutOff 29 = .ok (.iconst 0, 1) := by decide +kernel
theorem dX6_isCutOff_30 : decode cX6_isCutOff 30 = .ok (.istore 4, 2) := by decide +kernel
theorem dX6_isCutOff_32 : decode cX6_isCutOff 32 = .ok (.iload_n 3, 1) := by decide +kernel
theorem dX6_isCutOff_33 : decode cX6_isCutOff 33 = .ok (.iconst (-1), 1) := by decide +kernel
theorem dX6_isCutOff_34 : decode cX6_isCutOff 34 = .ok (.if_icmp .eq 12, 3) := by decide +kernel
theorem dX6_isCutOff_37 : decode cX6_isCutOff 37 = .ok (.iload 4, 2) := by decide +kernel
theorem dX6_isCutOff_39 : decode cX6_isCutOff 39 = .ok (.ifCond .ne 7, 3) := by decide +kernel
theorem dX6_isCutOff_42 : decode cX6_isCutOff 42 = .ok (.iconst 1, 1) := by decide +kernel
theorem dX6_isCutOff_43 : decode cX6_isCutOff 43 = .ok (.goto 4, 3) := by decide +kernel
theorem dX6_isCutOff_46 : decode cX6_isCutOff 46 = .ok (.iconst 0, 1) := by decide +kernel
theorem dX6_isCutOff_47 : decode cX6_isCutOff 47 = .ok (.ireturn, 1) := by decide +kernel
set_option maxRecDepth 20000 in
theorem ggX6_answerCutOff_X0_tell : GoodIn wsX6_answerCutOff wsX0_tell := goodIn_r _ [5, 6, 7, 8, 9, 40, 41, 42, 43, 44, 45, 46, 47] (by decide +kernel) (by decide +kernel)
set_option maxRecDepth 20000 in
theorem gX6_answerCutOff_X0_tell : GoodIn wsX6_answerCutOff (wsV RX6 147 RX0 yX0_tell wsX0_tell) := goodIn_app (goodIn_of _ (by decide +kernel)) ggX6_answerCutOff_X0_tell
set_option maxRecDepth 20000 in
theorem ggX6_answerCutOff_X4_cutOver : GoodIn wsX6_answerCutOff wsX4_cutOver := goodIn_r _ [14, 15, 16, 17, 18, 19, 20, 21, 48, 49, 50, 51, 52] (by decide +kernel) (by decide +kernel)
set_option maxRecDepth 20000 in
theorem gX6_answerCutOff_X4_cutOver : GoodIn wsX6_answerCutOff (wsV RX6 153 RX4 yX4_cutOver wsX4_cutOver) := goodIn_app (goodIn_of _ (by decide +kernel)) ggX6_answerCutOff_X4_cutOver
set_option maxRecDepth 20000 in
theorem ggX6_answerCutOff_X4_placeAt : GoodIn wsX6_answerCutOff wsX4_placeAt := goodIn_r _ [25, 15, 16, 48, 49, 50, 51, 52] (by decide +kernel) (by decide +kernel)
set_option maxRecDepth 20000 in
theorem gX6_answerCutOff_X4_placeAt : GoodIn wsX6_answerCutOff (wsV RX6 46 RX4 yX4_placeAt wsX4_placeAt) := goodIn_app (goodIn_of _ (by decide +kernel)) ggX6_answerCutOff_X4_placeAt
set_option maxRecDepth 20000 in
theorem ggX6_answerCutOff_X4_lifeAt : GoodIn wsX6_answerCutOff wsX4_lifeAt := goodIn_r _ [29, 15, 30, 48, 49, 50, 51, 52] (by decide +kernel) (by decide +kernel)
set_option maxRecDepth 20000 in
theorem gX6_answerCutOff_X4_lifeAt : GoodIn wsX6_answerCutOff (wsV RX6 139 RX4 yX4_lifeAt wsX4_lifeAt) := goodIn_app (goodIn_of _ (by decide +kernel)) ggX6_answerCutOff_X4_lifeAt
set_option maxRecDepth 20000 in
theorem ggX6_answerCutOff_X4_numberAt : GoodIn wsX6_answerCutOff wsX4_numberAt := goodIn_r _ [34, 15, 35, 48, 49, 50, 51, 52] (by decide +kernel) (by decide +kernel)
set_option maxRecDepth 20000 in
theorem gX6_answerCutOff_X4_numberAt : GoodIn wsX6_answerCutOff (wsV RX6 100 RX4 yX4_numberAt wsX4_numberAt) := goodIn_app (goodIn_of _ (by decide +kernel)) ggX6_answerCutOff_X4_numberAt
set_option maxRecDepth 20000 in
theorem ggX6_answerCutOff_X4_rowOf : GoodIn wsX6_answerCutOff wsX4_rowOf := goodIn_r _ [39, 15, 16, 17, 48, 49, 50, 51, 52] (by decide +kernel) (by decide +kernel)
set_option maxRecDepth 20000 in
theorem gX6_answerCutOff_X4_rowOf : GoodIn wsX6_answerCutOff (wsV RX6 108 RX4 yX4_rowOf wsX4_rowOf) := goodIn_app (goodIn_of _ (by decide +kernel)) ggX6_answerCutOff_X4_rowOf
theorem dX6_answerCutOff_0 : decode cX6_answerCutOff 0 = .ok (.iload_n 3, 1) := by decide +kernel
theorem dX6_answerCutOff_1 : decode cX6_answerCutOff 1 = .ok (.ifCond .eq 13, 3) := by decide +kernel
theorem dX6_answerCutOff_4 : decode cX6_answerCutOff 4 = .ok (.aload 4, 2) := by decide +kernel
theorem dX6_answerCutOff_6 : decode cX6_answerCutOff 6 = .ok (.iconst 4, 1) := by decide +kernel
theorem dX6_answerCutOff_7 : decode cX6_answerCutOff 7 = .ok (.iconst (-1), 1) := by decide +kernel
theorem dX6_answerCutOff_8 : decode cX6_answerCutOff 8 = .ok (.iload_n 1, 1) := by decide +kernel
theorem dX6_answerCutOff_9 : decode cX6_answerCutOff 9 = .ok (.iload_n 2, 1) := by decide +kernel
theorem dX6_answerCutOff_10 : decode cX6_answerCutOff 10 = .ok (.invokevirtual 147, 3) := by decide +kernel
theorem dX6_answerCutOff_13 : decode cX6_answerCutOff 13 = .ok (.return_, 1) := by decide +kernel
theorem dX6_answerCutOff_14 : decode cX6_answerCutOff 14 = .ok (.aload_n 0, 1) := by decide +kernel
theorem dX6_answerCutOff_15 : decode cX6_answerCutOff 15 = .ok (.iload_n 1, 1) := by decide +kernel
theorem dX6_answerCutOff_16 : decode cX6_answerCutOff 16 = .ok (.invokevirtual 153, 3) := by decide +kernel
theorem dX6_answerCutOff_19 : decode cX6_answerCutOff 19 = .ok (.istore 5, 2) := by decide +kernel
theorem dX6_answerCutOff_21 : decode cX6_answerCutOff 21 = .ok (.aload_n 0, 1) := by decide +kernel
theorem dX6_answerCutOff_22 : decode cX6_answerCutOff 22 = .ok (.iload 5, 2) := by decide +kernel
theorem dX6_answerCutOff_24 : decode cX6_answerCutOff 24 = .ok (.invokevirtual 46, 3) := by decide +kernel
theorem dX6_answerCutOff_27 : decode cX6_answerCutOff 27 = .ok (.istore 6, 2) := by decide +kernel
theorem dX6_answerCutOff_29 : decode cX6_answerCutOff 29 = .ok (.aload 4, 2) := by decide +kernel
theorem dX6_answerCutOff_31 : decode cX6_answerCutOff 31 = .ok (.iconst 3, 1) := by decide +kernel
theorem dX6_answerCutOff_32 : decode cX6_answerCutOff 32 = .ok (.iconst (-1), 1) := by decide +kernel
theorem dX6_answerCutOff_33 : decode cX6_answerCutOff 33 = .ok (.iload 6, 2) := by decide +kernel
theorem dX6_answerCutOff_35 : decode cX6_answerCutOff 35 = .ok (.aload_n 0, 1) := by decide +kernel
theorem dX6_answerCutOff_36 : decode cX6_answerCutOff 36 = .ok (.iload 5, 2) := by decide +kernel
theorem dX6_answerCutOff_38 : decode cX6_answerCutOff 38 = .ok (.invokevirtual 139, 3) := by decide +kernel
theorem dX6_answerCutOff_41 : decode cX6_answerCutOff 41 = .ok (.invokevirtual 147, 3) := by decide +kernel
theorem dX6_answerCutOff_44 : decode cX6_answerCutOff 44 = .ok (.aload 4, 2) := by decide +kernel
theorem dX6_answerCutOff_46 : decode cX6_answerCutOff 46 = .ok (.aload_n 0, 1) := by decide +kernel
theorem dX6_answerCutOff_47 : decode cX6_answerCutOff 47 = .ok (.iload 5, 2) := by decide +kernel
theorem dX6_answerCutOff_49 : decode cX6_answerCutOff 49 = .ok (.invokevirtual 100, 3) := by decide +kernel
theorem dX6_answerCutOff_52 : decode cX6_answerCutOff 52 = .ok (.putfield 156, 3) := by decide +kernel
theorem dX6_answerCutOff_55 : decode cX6_answerCutOff 55 = .ok (.aload 4, 2) := by decide +kernel
theorem dX6_answerCutOff_57 : decode cX6_answerCutOff 57 = .ok (.aload_n 0, 1) := by decide +kernel
theorem dX6_answerCutOff_58 : decode cX6_answerCutOff 58 = .ok (.aload_n 0, 1) := by decide +kernel
theorem dX6_answerCutOff_59 : decode cX6_answerCutOff 59 = .ok (.iload 6, 2) := by decide +kernel
theorem dX6_answerCutOff_61 : decode cX6_answerCutOff 61 = .ok (.iconst 4, 1) := by decide +kernel
theorem dX6_answerCutOff_62 : decode cX6_answerCutOff 62 = .ok (.invokevirtual 108, 3) := by decide +kernel
theorem dX6_answerCutOff_65 : decode cX6_answerCutOff 65 = .ok (.invokevirtual 100, 3) := by decide +kernel
theorem dX6_answerCutOff_68 : decode cX6_answerCutOff 68 = .ok (.putfield 159, 3) := by decide +kernel
theorem dX6_answerCutOff_71 : decode cX6_answerCutOff 71 = .ok (.return_, 1) := by decide +kernel
set_option maxRecDepth 20000 in
theorem ggX6_placeFor_X4_isThereBy : GoodIn wsX6_placeFor wsX4_isThereBy := goodIn_r _ [6, 7, 8, 9, 10, 11, 12, 13, 14, 15, 16, 17, 18, 19] (by decide +kernel) (by decide +kernel)
set_option maxRecDepth 20000 in
theorem gX6_placeFor_X4_isThereBy : GoodIn wsX6_placeFor (wsV RX6 62 RX4 yX4_isThereBy wsX4_isThereBy) := goodIn_app (goodIn_of _ (by decide +kernel)) ggX6_placeFor_X4_isThereBy
theorem dX6_placeFor_0 : decode cX6_placeFor 0 = .ok (.aload_n 1, 1) := by decide +kernel
theorem dX6_placeFor_1 : decode cX6_placeFor 1 = .ok (.aload_n 1, 1) := by decide +kernel
theorem dX6_placeFor_2 : decode cX6_placeFor 2 = .ok (.getfield 39, 3) := by decide +kernel
theorem dX6_placeFor_5 : decode cX6_placeFor 5 = .ok (.iload_n 2, 1) := by decide +kernel
theorem dX6_placeFor_6 : decode cX6_placeFor 6 = .ok (.invokevirtual 62, 3) := by decide +kernel
theorem dX6_placeFor_9 : decode cX6_placeFor 9 = .ok (.ifCond .eq 5, 3) := by decide +kernel
theorem dX6_placeFor_12 : decode cX6_placeFor 12 = .ok (.iload_n 2, 1) := by decide +kernel
theorem dX6_placeFor_13 : decode cX6_placeFor 13 = .ok (.ireturn, 1) := by decide +kernel
theorem dX6_placeFor_14 : decode cX6_placeFor 14 = .ok (.iload_n 2, 1) := by decide +kernel
theorem dX6_placeFor_15 : decode cX6_placeFor 15 = .ok (.istore_n 3, 1) := by decide +kernel
theorem dX6_placeFor_16 : decode cX6_placeFor 16 = .ok (.iconst 0, 1) := by decide +kernel
theorem dX6_placeFor_17 : decode cX6_placeFor 17 = .ok (.istore 4, 2) := by decide +kernel
theorem dX6_placeFor_19 : decode cX6_placeFor 19 = .ok (.iload 4, 2) := by decide +kernel
theorem dX6_placeFor_21 : decode cX6_placeFor 21 = .ok (.iconst 4, 1) := by decide +kernel
theorem dX6_placeFor_22 : decode cX6_placeFor 22 = .ok (.if_icmp .ge 37, 3) := by decide +kernel
theorem dX6_placeFor_25 : decode cX6_placeFor 25 = .ok (.iload_n 3, 1) := by decide +kernel
theorem dX6_placeFor_26 : decode cX6_placeFor 26 = .ok (.aload_n 0, 1) := by decide +kernel
theorem dX6_placeFor_27 : decode cX6_placeFor 27 = .ok (.getfield 33, 3) := by decide +kernel
theorem dX6_placeFor_30 : decode cX6_placeFor 30 = .ok (.if_icmp .eq 29, 3) := by decide +kernel
theorem dX6_placeFor_33 : decode cX6_placeFor 33 = .ok (.iload_n 3, 1) := by decide +kernel
theorem dX6_placeFor_34 : decode cX6_placeFor 34 = .ok (.bipush 10, 2) := by decide +kernel
theorem dX6_placeFor_36 : decode cX6_placeFor 36 = .ok (.idiv, 1) := by decide +kernel
theorem dX6_placeFor_37 : decode cX6_placeFor 37 = .ok (.istore_n 3, 1) := by decide +kernel
theorem dX6_placeFor_38 : decode cX6_placeFor 38 = .ok (.aload_n 1, 1) := by decide +kernel
theorem dX6_placeFor_39 : decode cX6_placeFor 39 = .ok (.aload_n 1, 1) := by decide +kernel
theorem dX6_placeFor_40 : decode cX6_placeFor 40 = .ok (.getfield 39, 3) := by decide +kernel
theorem dX6_placeFor_43 : decode cX6_placeFor 43 = .ok (.iload_n 3, 1) := by decide +kernel
theorem dX6_placeFor_44 : decode cX6_placeFor 44 = .ok (.invokevirtual 62, 3) := by decide +kernel
theorem dX6_placeFor_47 : decode cX6_placeFor 47 = .ok (.ifCond .eq 6, 3) := by decide +kernel
theorem dX6_placeFor_50 : decode cX6_placeFor 50 = .ok (.goto 9, 3) := by decide +kernel
theorem dX6_placeFor_53 : decode cX6_placeFor 53 = .ok (.iinc 4 1, 3) := by decide +kernel
theorem dX6_placeFor_56 : decode cX6_placeFor 56 = .ok (.goto (-37), 3) := by decide +kernel
theorem dX6_placeFor_59 : decode cX6_placeFor 59 = .ok (.iload_n 3, 1) := by decide +kernel
theorem dX6_placeFor_60 : decode cX6_placeFor 60 = .ok (.ifCond .ne 7, 3) := by decide +kernel
theorem dX6_placeFor_63 : decode cX6_placeFor 63 = .ok (.iconst (-1), 1) := by decide +kernel
theorem dX6_placeFor_64 : decode cX6_placeFor 64 = .ok (.goto 7, 3) := by decide +kernel
theorem dX6_placeFor_67 : decode cX6_placeFor 67 = .ok (.iload_n 3, 1) := by decide +kernel
theorem dX6_placeFor_68 : decode cX6_placeFor 68 = .ok (.bipush 10, 2) := by decide +kernel
theorem dX6_placeFor_70 : decode cX6_placeFor 70 = .ok (.imul, 1) := by decide +kernel
theorem dX6_placeFor_71 : decode cX6_placeFor 71 = .ok (.ireturn, 1) := by decide +kernel
set_option maxRecDepth 20000 in
theorem ggX6_answerAt_X4_rowOf : GoodIn wsX6_answerAt wsX4_rowOf := goodIn_r _ [10, 11, 12, 13, 48, 49, 50, 51, 52] (by decide +kernel) (by decide +kernel)
set_option maxRecDepth 20000 in
theorem gX6_answerAt_X4_rowOf : GoodIn wsX6_answerAt (wsV RX6 108 RX4 yX4_rowOf wsX4_rowOf) := goodIn_app (goodIn_of _ (by decide +kernel)) ggX6_answerAt_X4_rowOf
set_option maxRecDepth 20000 in
theorem ggX6_answerAt_X4_numberAt : GoodIn wsX6_answerAt wsX4_numberAt := goodIn_r _ [17, 11, 18, 48, 49, 50, 51, 52] (by decide +kernel) (by decide +kernel)
set_option maxRecDepth 20000 in
theorem gX6_answerAt_X4_numberAt : GoodIn wsX6_answerAt (wsV RX6 100 RX4 yX4_numberAt wsX4_numberAt) := goodIn_app (goodIn_of _ (by decide +kernel)) ggX6_answerAt_X4_numberAt
set_option maxRecDepth 20000 in
theorem ggX6_answerAt_X4_lifeAt : GoodIn wsX6_answerAt wsX4_lifeAt := goodIn_r _ [22, 11, 23, 48, 49, 50, 51, 52] (by decide +kernel) (by decide +kernel)
set_option maxRecDepth 20000 in
theorem gX6_answerAt_X4_lifeAt : GoodIn wsX6_answerAt (wsV RX6 139 RX4 yX4_lifeAt wsX4_lifeAt) := goodIn_app (goodIn_of _ (by decide +kernel)) ggX6_answerAt_X4_lifeAt
set_option maxRecDepth 20000 in
theorem ggX6_answerAt_X0_tell : GoodIn wsX6_answerAt wsX0_tell := goodIn_r _ [28, 29, 30, 31, 32, 53, 54, 55, 56, 57, 58, 59, 60] (by decide +kernel) (by decide +kernel)
set_option maxRecDepth 20000 in
theorem gX6_answerAt_X0_tell : GoodIn wsX6_answerAt (wsV RX6 147 RX0 yX0_tell wsX0_tell) := goodIn_app (goodIn_of _ (by decide +kernel)) ggX6_answerAt_X0_tell
set_option maxRecDepth 20000 in
theorem ggX6_answerAt_X4_countAt : GoodIn wsX6_answerAt wsX4_countAt := goodIn_r _ [36, 11, 12, 48, 49, 50, 51, 52] (by decide +kernel) (by decide +kernel)
set_option maxRecDepth 20000 in
theorem gX6_answerAt_X4_countAt : GoodIn wsX6_answerAt (wsV RX6 91 RX4 yX4_countAt wsX4_countAt) := goodIn_app (goodIn_of _ (by decide +kernel)) ggX6_answerAt_X4_countAt
theorem dX6_answerAt_0 : decode cX6_answerAt 0 = .ok (.aload_n 1, 1) := by decide +kernel
theorem dX6_answerAt_1 : decode cX6_answerAt 1 = .ok (.iload_n 2, 1) := by decide +kernel
theorem dX6_answerAt_2 : decode cX6_answerAt 2 = .ok (.iload 4, 2) := by decide +kernel
theorem dX6_answerAt_4 : decode cX6_answerAt 4 = .ok (.invokevirtual 108, 3) := by decide +kernel
theorem dX6_answerAt_7 : decode cX6_answerAt 7 = .ok (.istore 7, 2) := by decide +kernel
theorem dX6_answerAt_9 : decode cX6_answerAt 9 = .ok (.iload 7, 2) := by decide +kernel
theorem dX6_answerAt_11 : decode cX6_answerAt 11 = .ok (.iconst (-1), 1) := by decide +kernel
theorem dX6_answerAt_12 : decode cX6_answerAt 12 = .ok (.if_icmp .eq 28, 3) := by decide +kernel
theorem dX6_answerAt_15 : decode cX6_answerAt 15 = .ok (.aload 6, 2) := by decide +kernel
theorem dX6_answerAt_17 : decode cX6_answerAt 17 = .ok (.iconst 0, 1) := by decide +kernel
theorem dX6_answerAt_18 : decode cX6_answerAt 18 = .ok (.aload_n 1, 1) := by decide +kernel
theorem dX6_answerAt_19 : decode cX6_answerAt 19 = .ok (.iload 7, 2) := by decide +kernel
theorem dX6_answerAt_21 : decode cX6_answerAt 21 = .ok (.invokevirtual 100, 3) := by decide +kernel
theorem dX6_answerAt_24 : decode cX6_answerAt 24 = .ok (.iload_n 3, 1) := by decide +kernel
theorem dX6_answerAt_25 : decode cX6_answerAt 25 = .ok (.iload 5, 2) := by decide +kernel
theorem dX6_answerAt_27 : decode cX6_answerAt 27 = .ok (.aload_n 1, 1) := by decide +kernel
theorem dX6_answerAt_28 : decode cX6_answerAt 28 = .ok (.iload 7, 2) := by decide +kernel
theorem dX6_answerAt_30 : decode cX6_answerAt 30 = .ok (.invokevirtual 139, 3) := by decide +kernel
theorem dX6_answerAt_33 : decode cX6_answerAt 33 = .ok (.invokestatic 142, 3) := by decide +kernel
theorem dX6_answerAt_36 : decode cX6_answerAt 36 = .ok (.invokevirtual 147, 3) := by decide +kernel
theorem dX6_answerAt_39 : decode cX6_answerAt 39 = .ok (.return_, 1) := by decide +kernel
theorem dX6_answerAt_40 : decode cX6_answerAt 40 = .ok (.iload_n 2, 1) := by decide +kernel
theorem dX6_answerAt_41 : decode cX6_answerAt 41 = .ok (.iload_n 3, 1) := by decide +kernel
theorem dX6_answerAt_42 : decode cX6_answerAt 42 = .ok (.if_icmp .eq 11, 3) := by decide +kernel
theorem dX6_answerAt_45 : decode cX6_answerAt 45 = .ok (.aload_n 1, 1) := by decide +kernel
theorem dX6_answerAt_46 : decode cX6_answerAt 46 = .ok (.iload_n 2, 1) := by decide +kernel
theorem dX6_answerAt_47 : decode cX6_answerAt 47 = .ok (.invokevirtual 91, 3) := by decide +kernel
theorem dX6_answerAt_50 : decode cX6_answerAt 50 = .ok (.ifCond .le 7, 3) := by decide +kernel
theorem dX6_answerAt_53 : decode cX6_answerAt 53 = .ok (.iconst 1, 1) := by decide +kernel
theorem dX6_answerAt_54 : decode cX6_answerAt 54 = .ok (.goto 4, 3) := by decide +kernel
theorem dX6_answerAt_57 : decode cX6_answerAt 57 = .ok (.iconst 0, 1) := by decide +kernel
theorem dX6_answerAt_58 : decode cX6_answerAt 58 = .ok (.istore 8, 2) := by decide +kernel
theorem dX6_answerAt_60 : decode cX6_answerAt 60 = .ok (.aload 6, 2) := by decide +kernel
theorem dX6_answerAt_62 : decode cX6_answerAt 62 = .ok (.iload 8, 2) := by decide +kernel
theorem dX6_answerAt_64 : decode cX6_answerAt 64 = .ok (.ifCond .eq 7, 3) := by decide +kernel
theorem dX6_answerAt_67 : decode cX6_answerAt 67 = .ok (.iconst 1, 1) := by decide +kernel
theorem dX6_answerAt_68 : decode cX6_answerAt 68 = .ok (.goto 4, 3) := by decide +kernel
theorem dX6_answerAt_71 : decode cX6_answerAt 71 = .ok (.iconst 2, 1) := by decide +kernel
theorem dX6_answerAt_72 : decode cX6_answerAt 72 = .ok (.iconst (-1), 1) := by decide +kernel
theorem dX6_answerAt_73 : decode cX6_answerAt 73 = .ok (.iload_n 3, 1) := by decide +kernel
theorem dX6_answerAt_74 : decode cX6_answerAt 74 = .ok (.iload 5, 2) := by decide +kernel
theorem dX6_answerAt_76 : decode cX6_answerAt 76 = .ok (.aload_n 0, 1) := by decide +kernel
theorem dX6_answerAt_77 : decode cX6_answerAt 77 = .ok (.getfield 162, 3) := by decide +kernel
theorem dX6_answerAt_80 : decode cX6_answerAt 80 = .ok (.invokestatic 142, 3) := by decide +kernel
theorem dX6_answerAt_83 : decode cX6_answerAt 83 = .ok (.invokevirtual 147, 3) := by decide +kernel
theorem dX6_answerAt_86 : decode cX6_answerAt 86 = .ok (.return_, 1) := by decide +kernel
theorem dX6_changeKey_0 : decode cX6_changeKey 0 = .ok (.iload_n 1, 1) := by decide +kernel
theorem dX6_changeKey_1 : decode cX6_changeKey 1 = .ok (.ifCond .ne 10, 3) := by decide +kernel
theorem dX6_changeKey_4 : decode cX6_changeKey 4 = .ok (.aload_n 0, 1) := by decide +kernel
theorem dX6_changeKey_5 : decode cX6_changeKey 5 = .ok (.getfield 15, 3) := by decide +kernel
theorem dX6_changeKey_8 : decode cX6_changeKey 8 = .ok (.goto 7, 3) := by decide +kernel
theorem dX6_changeKey_11 : decode cX6_changeKey 11 = .ok (.aload_n 0, 1) := by decide +kernel
theorem dX6_changeKey_12 : decode cX6_changeKey 12 = .ok (.getfield 18, 3) := by decide +kernel
theorem dX6_changeKey_15 : decode cX6_changeKey 15 = .ok (.istore_n 3, 1) := by decide +kernel
theorem dX6_changeKey_16 : decode cX6_changeKey 16 = .ok (.iload_n 1, 1) := by decide +kernel
theorem dX6_changeKey_17 : decode cX6_changeKey 17 = .ok (.ifCond .ne 11, 3) := by decide +kernel
theorem dX6_changeKey_20 : decode cX6_changeKey 20 = .ok (.aload_n 0, 1) := by decide +kernel
theorem dX6_changeKey_21 : decode cX6_changeKey 21 = .ok (.iload_n 2, 1) := by decide +kernel
theorem dX6_changeKey_22 : decode cX6_changeKey 22 = .ok (.putfield 15, 3) := by decide +kernel
theorem dX6_changeKey_25 : decode cX6_changeKey 25 = .ok (.goto 8, 3) := by decide +kernel
theorem dX6_changeKey_28 : decode cX6_changeKey 28 = .ok (.aload_n 0, 1) := by decide +kernel
theorem dX6_changeKey_29 : decode cX6_changeKey 29 = .ok (.iload_n 2, 1) := by decide +kernel
theorem dX6_changeKey_30 : decode cX6_changeKey 30 = .ok (.putfield 18, 3) := by decide +kernel
theorem dX6_changeKey_33 : decode cX6_changeKey 33 = .ok (.iload_n 3, 1) := by decide +kernel
theorem dX6_changeKey_34 : decode cX6_changeKey 34 = .ok (.ireturn, 1) := by decide +kernel
set_option maxRecDepth 20000 in
theorem ggX6_isGoodFor_X6_isKeyFor : GoodIn wsX6_isGoodFor wsX6_isKeyFor := goodIn_r _ [8, 9, 10, 7, 11] (by decide +kernel) (by decide +kernel)
set_option maxRecDepth 20000 in
theorem gX6_isGoodFor_X6_isKeyFor : GoodIn wsX6_isGoodFor (va_wsS RX6 171 yX6_isKeyFor wsX6_isKeyFor) := goodIn_app (goodIn_of _ (by decide +kernel)) ggX6_isGoodFor_X6_isKeyFor
theorem dX6_isGoodFor_0 : decode cX6_isGoodFor 0 = .ok (.iload_n 2, 1) := by decide +kernel
theorem dX6_isGoodFor_1 : decode cX6_isGoodFor 1 = .ok (.aload_n 0, 1) := by decide +kernel
theorem dX6_isGoodFor_2 : decode cX6_isGoodFor 2 = .ok (.getfield 165, 3) := by decide +kernel
theorem dX6_isGoodFor_5 : decode cX6_isGoodFor 5 = .ok (.if_icmp .lt 15, 3) := by decide +kernel
theorem dX6_isGoodFor_8 : decode cX6_isGoodFor 8 = .ok (.iload_n 2, 1) := by decide +kernel
theorem dX6_isGoodFor_9 : decode cX6_isGoodFor 9 = .ok (.aload_n 0, 1) := by decide +kernel
theorem dX6_isGoodFor_10 : decode cX6_isGoodFor 10 = .ok (.getfield 168, 3) := by decide +kernel
theorem dX6_isGoodFor_13 : decode cX6_isGoodFor 13 = .ok (.if_icmp .gt 7, 3) := by decide +kernel
theorem dX6_isGoodFor_16 : decode cX6_isGoodFor 16 = .ok (.iconst 1, 1) := by decide +kernel
theorem dX6_isGoodFor_17 : decode cX6_isGoodFor 17 = .ok (.goto 4, 3) := by decide +kernel
theorem dX6_isGoodFor_20 : decode cX6_isGoodFor 20 = .ok (.iconst 0, 1) := by decide +kernel
theorem dX6_isGoodFor_21 : decode cX6_isGoodFor 21 = .ok (.istore_n 3, 1) := by decide +kernel
theorem dX6_isGoodFor_22 : decode cX6_isGoodFor 22 = .ok (.iload_n 3, 1) := by decide +kernel
theorem dX6_isGoodFor_23 : decode cX6_isGoodFor 23 = .ok (.ifCond .eq 29, 3) := by decide +kernel
theorem dX6_isGoodFor_26 : decode cX6_isGoodFor 26 = .ok (.aload_n 0, 1) := by decide +kernel
theorem dX6_isGoodFor_27 : decode cX6_isGoodFor 27 = .ok (.getfield 15, 3) := by decide +kernel
theorem dX6_isGoodFor_30 : decode cX6_isGoodFor 30 = .ok (.iload_n 1, 1) := by decide +kernel
theorem dX6_isGoodFor_31 : decode cX6_isGoodFor 31 = .ok (.invokestatic 171, 3) := by decide +kernel
theorem dX6_isGoodFor_34 : decode cX6_isGoodFor 34 = .ok (.ifCond .ne 14, 3) := by decide +kernel
theorem dX6_isGoodFor_37 : decode cX6_isGoodFor 37 = .ok (.aload_n 0, 1) := by decide +kernel
theorem dX6_isGoodFor_38 : decode cX6_isGoodFor 38 = .ok (.getfield 18, 3) := by decide +kernel
theorem dX6_isGoodFor_41 : decode cX6_isGoodFor 41 = .ok (.iload_n 1, 1) := by decide +kernel
theorem dX6_isGoodFor_42 : decode cX6_isGoodFor 42 = .ok (.invokestatic 171, 3) := by decide +kernel
theorem dX6_isGoodFor_45 : decode cX6_isGoodFor 45 = .ok (.ifCond .eq 7, 3) := by decide +kernel
theorem dX6_isGoodFor_48 : decode cX6_isGoodFor 48 = .ok (.iconst 1, 1) := by decide +kernel
theorem dX6_isGoodFor_49 : decode cX6_isGoodFor 49 = .ok (.goto 4, 3) := by decide +kernel
theorem dX6_isGoodFor_52 : decode cX6_isGoodFor 52 = .ok (.iconst 0, 1) := by decide +kernel
theorem dX6_isGoodFor_53 : decode cX6_isGoodFor 53 = .ok (.ireturn, 1) := by decide +kernel
set_option maxRecDepth 20000 in
theorem ggX6_isKeyFor_X6_numberOfKey : GoodIn wsX6_isKeyFor wsX6_numberOfKey := goodIn_r _ [4] (by decide +kernel) (by decide +kernel)
set_option maxRecDepth 20000 in
theorem gX6_isKeyFor_X6_numberOfKey : GoodIn wsX6_isKeyFor (va_wsS RX6 174 yX6_numberOfKey wsX6_numberOfKey) := goodIn_app (goodIn_of _ (by decide +kernel)) ggX6_isKeyFor_X6_numberOfKey
theorem dX6_isKeyFor_0 : decode cX6_isKeyFor 0 = .ok (.iload_n 0, 1) := by decide +kernel
theorem dX6_isKeyFor_1 : decode cX6_isKeyFor 1 = .ok (.iconst (-1), 1) := by decide +kernel
theorem dX6_isKeyFor_2 : decode cX6_isKeyFor 2 = .ok (.if_icmp .eq 15, 3) := by decide +kernel
theorem dX6_isKeyFor_5 : decode cX6_isKeyFor 5 = .ok (.iload_n 0, 1) := by decide +kernel
theorem dX6_isKeyFor_6 : decode cX6_isKeyFor 6 = .ok (.invokestatic 174, 3) := by decide +kernel
theorem dX6_isKeyFor_9 : decode cX6_isKeyFor 9 = .ok (.iload_n 1, 1) := by decide +kernel
theorem dX6_isKeyFor_10 : decode cX6_isKeyFor 10 = .ok (.if_icmp .ne 7, 3) := by decide +kernel
theorem dX6_isKeyFor_13 : decode cX6_isKeyFor 13 = .ok (.iconst 1, 1) := by decide +kernel
theorem dX6_isKeyFor_14 : decode cX6_isKeyFor 14 = .ok (.goto 4, 3) := by decide +kernel
theorem dX6_isKeyFor_17 : decode cX6_isKeyFor 17 = .ok (.iconst 0, 1) := by decide +kernel
theorem dX6_isKeyFor_18 : decode cX6_isKeyFor 18 = .ok (.ireturn, 1) := by decide +kernel
theorem dX6_numberOfKey_0 : decode cX6_numberOfKey 0 = .ok (.iload_n 0, 1) := by decide +kernel
theorem dX6_numberOfKey_1 : decode cX6_numberOfKey 1 = .ok (.bipush 31, 2) := by decide +kernel
theorem dX6_numberOfKey_3 : decode cX6_numberOfKey 3 = .ok (.imul, 1) := by decide +kernel
theorem dX6_numberOfKey_4 : decode cX6_numberOfKey 4 = .ok (.bipush 7, 2) := by decide +kernel
theorem dX6_numberOfKey_6 : decode cX6_numberOfKey 6 = .ok (.iadd, 1) := by decide +kernel
theorem dX6_numberOfKey_7 : decode cX6_numberOfKey 7 = .ok (.sipush 997, 3) := by decide +kernel
theorem dX6_numberOfKey_10 : decode cX6_numberOfKey 10 = .ok (.irem, 1) := by decide +kernel
theorem dX6_numberOfKey_11 : decode cX6_numberOfKey 11 = .ok (.ireturn, 1) := by decide +kernel
set_option maxRecDepth 20000 in
theorem ggX7_init_X6_init : GoodIn wsX7_init wsX6_init := goodIn_r _ [10, 11, 2, 3, 12, 13, 14, 15, 16, 17, 18, 19, 20, 21, 22, 23, 24, 25, 26, 27, 28, 31, 32, 33, 34, 35, 36, 37, 38, 39, 40, 41, 42, 43, 44, 45, 46] (by decide +kernel) (by decide +kernel)
set_option maxRecDepth 20000 in
theorem gX7_init_X6_init_n17 : GoodIn wsX7_init (wsX6_init) := ggX7_init_X6_init
theorem dX7_init_0 : decode cX7_init 0 = .ok (.aload_n 0, 1) := by decide +kernel
theorem dX7_init_1 : decode cX7_init 1 = .ok (.invokespecial 3, 3) := by decide +kernel
theorem dX7_init_4 : decode cX7_init 4 = .ok (.aload_n 0, 1) := by decide +kernel
theorem dX7_init_5 : decode cX7_init 5 = .ok (.bipush 6, 2) := by decide +kernel
theorem dX7_init_7 : decode cX7_init 7 = .ok (.anewarray 9, 3) := by decide +kernel
theorem dX7_init_10 : decode cX7_init 10 = .ok (.putfield 11, 3) := by decide +kernel
theorem dX7_init_13 : decode cX7_init 13 = .ok (.iconst 0, 1) := by decide +kernel
theorem dX7_init_14 : decode cX7_init 14 = .ok (.istore_n 1, 1) := by decide +kernel
theorem dX7_init_15 : decode cX7_init 15 = .ok (.iload_n 1, 1) := by decide +kernel
theorem dX7_init_16 : decode cX7_init 16 = .ok (.aload_n 0, 1) := by decide +kernel
theorem dX7_init_17 : decode cX7_init 17 = .ok (.getfield 11, 3) := by decide +kernel
theorem dX7_init_20 : decode cX7_init 20 = .ok (.arraylength, 1) := by decide +kernel
theorem dX7_init_21 : decode cX7_init 21 = .ok (.if_icmp .ge 22, 3) := by decide +kernel
theorem dX7_init_24 : decode cX7_init 24 = .ok (.aload_n 0, 1) := by decide +kernel
theorem dX7_init_25 : decode cX7_init 25 = .ok (.getfield 11, 3) := by decide +kernel
theorem dX7_init_28 : decode cX7_init 28 = .ok (.iload_n 1, 1) := by decide +kernel
theorem dX7_init_29 : decode cX7_init 29 = .ok (.new 9, 3) := by decide +kernel
theorem dX7_init_32 : decode cX7_init 32 = .ok (.dup, 1) := by decide +kernel
theorem dX7_init_33 : decode cX7_init 33 = .ok (.invokespecial 17, 3) := by decide +kernel
theorem dX7_init_36 : decode cX7_init 36 = .ok (.aastore, 1) := by decide +kernel
theorem dX7_init_37 : decode cX7_init 37 = .ok (.iinc 1 1, 3) := by decide +kernel
theorem dX7_init_40 : decode cX7_init 40 = .ok (.goto (-25), 3) := by decide +kernel
theorem dX7_init_43 : decode cX7_init 43 = .ok (.aload_n 0, 1) := by decide +kernel
theorem dX7_init_44 : decode cX7_init 44 = .ok (.getfield 11, 3) := by decide +kernel
theorem dX7_init_47 : decode cX7_init 47 = .ok (.iconst 0, 1) := by decide +kernel
theorem dX7_init_48 : decode cX7_init 48 = .ok (.aaload, 1) := by decide +kernel
theorem dX7_init_49 : decode cX7_init 49 = .ok (.bipush 10, 2) := by decide +kernel
theorem dX7_init_51 : decode cX7_init 51 = .ok (.putfield 18, 3) := by decide +kernel
theorem dX7_init_54 : decode cX7_init 54 = .ok (.aload_n 0, 1) := by decide +kernel
theorem dX7_init_55 : decode cX7_init 55 = .ok (.iconst 1, 1) := by decide +kernel
theorem dX7_init_56 : decode cX7_init 56 = .ok (.putfield 22, 3) := by decide +kernel
theorem dX7_init_59 : decode cX7_init 59 = .ok (.return_, 1) := by decide +kernel
theorem dX7_at_0 : decode cX7_at 0 = .ok (.iload_n 1, 1) := by decide +kernel
theorem dX7_at_1 : decode cX7_at 1 = .ok (.ifCond .lt 29, 3) := by decide +kernel
theorem dX7_at_4 : decode cX7_at 4 = .ok (.iload_n 1, 1) := by decide +kernel
theorem dX7_at_5 : decode cX7_at 5 = .ok (.aload_n 0, 1) := by decide +kernel
theorem dX7_at_6 : decode cX7_at 6 = .ok (.getfield 22, 3) := by decide +kernel
theorem dX7_at_9 : decode cX7_at 9 = .ok (.if_icmp .ge 21, 3) := by decide +kernel
theorem dX7_at_12 : decode cX7_at 12 = .ok (.iload_n 1, 1) := by decide +kernel
theorem dX7_at_13 : decode cX7_at 13 = .ok (.aload_n 0, 1) := by decide +kernel
theorem dX7_at_14 : decode cX7_at 14 = .ok (.getfield 11, 3) := by decide +kernel
theorem dX7_at_17 : decode cX7_at 17 = .ok (.arraylength, 1) := by decide +kernel
theorem dX7_at_18 : decode cX7_at 18 = .ok (.if_icmp .ge 12, 3) := by decide +kernel
theorem dX7_at_21 : decode cX7_at 21 = .ok (.aload_n 0, 1) := by decide +kernel
theorem dX7_at_22 : decode cX7_at 22 = .ok (.getfield 11, 3) := by decide +kernel
theorem dX7_at_25 : decode cX7_at 25 = .ok (.iload_n 1, 1) := by decide +kernel
theorem dX7_at_26 : decode cX7_at 26 = .ok (.aaload, 1) := by decide +kernel
theorem dX7_at_27 : decode cX7_at 27 = .ok (.goto 9, 3) := by decide +kernel
theorem dX7_at_30 : decode cX7_at 30 = .ok (.aload_n 0, 1) := by decide +kernel
theorem dX7_at_31 : decode cX7_at 31 = .ok (.getfield 11, 3) := by decide +kernel
theorem dX7_at_34 : decode cX7_at 34 = .ok (.iconst 0, 1) := by decide +kernel
theorem dX7_at_35 : decode cX7_at 35 = .ok (.aaload, 1) := by decide +kernel
theorem dX7_at_36 : decode cX7_at 36 = .ok (.areturn, 1) := by decide +kernel
set_option maxRecDepth 20000 in
theorem ggX7_isAt_X7_at : GoodIn wsX7_isAt wsX7_at := goodIn_r _ [6, 1, 7, 8, 9] (by decide +kernel) (by decide +kernel)
set_option maxRecDepth 20000 in
theorem gX7_isAt_X7_at : GoodIn wsX7_isAt (wsV RX7 25 RX7 yX7_at wsX7_at) := goodIn_app (goodIn_of _ (by decide +kernel)) ggX7_isAt_X7_at
theorem dX7_isAt_0 : decode cX7_isAt 0 = .ok (.iload_n 1, 1) := by decide +kernel
theorem dX7_isAt_1 : decode cX7_isAt 1 = .ok (.ifCond .lt 27, 3) := by decide +kernel
theorem dX7_isAt_4 : decode cX7_isAt 4 = .ok (.iload_n 1, 1) := by decide +kernel
theorem dX7_isAt_5 : decode cX7_isAt 5 = .ok (.aload_n 0, 1) := by decide +kernel
theorem dX7_isAt_6 : decode cX7_isAt 6 = .ok (.getfield 22, 3) := by decide +kernel
theorem dX7_isAt_9 : decode cX7_isAt 9 = .ok (.if_icmp .ge 19, 3) := by decide +kernel
theorem dX7_isAt_12 : decode cX7_isAt 12 = .ok (.aload_n 0, 1) := by decide +kernel
theorem dX7_isAt_13 : decode cX7_isAt 13 = .ok (.iload_n 1, 1) := by decide +kernel
theorem dX7_isAt_14 : decode cX7_isAt 14 = .ok (.invokevirtual 25, 3) := by decide +kernel
theorem dX7_isAt_17 : decode cX7_isAt 17 = .ok (.getfield 29, 3) := by decide +kernel
theorem dX7_isAt_20 : decode cX7_isAt 20 = .ok (.iload_n 2, 1) := by decide +kernel
theorem dX7_isAt_21 : decode cX7_isAt 21 = .ok (.if_icmp .ne 7, 3) := by decide +kernel
theorem dX7_isAt_24 : decode cX7_isAt 24 = .ok (.iconst 1, 1) := by decide +kernel
theorem dX7_isAt_25 : decode cX7_isAt 25 = .ok (.goto 4, 3) := by decide +kernel
theorem dX7_isAt_28 : decode cX7_isAt 28 = .ok (.iconst 0, 1) := by decide +kernel
theorem dX7_isAt_29 : decode cX7_isAt 29 = .ok (.ireturn, 1) := by decide +kernel
set_option maxRecDepth 20000 in
theorem ggX7_isOneAt_X7_at : GoodIn wsX7_isOneAt wsX7_at := goodIn_r _ [6, 1, 7, 8, 9] (by decide +kernel) (by decide +kernel)
set_option maxRecDepth 20000 in
theorem gX7_isOneAt_X7_at : GoodIn wsX7_isOneAt (wsV RX7 25 RX7 yX7_at wsX7_at) := goodIn_app (goodIn_of _ (by decide +kernel)) ggX7_isOneAt_X7_at
theorem dX7_isOneAt_0 : decode cX7_isOneAt 0 = .ok (.iconst 0, 1) := by decide +kernel
theorem dX7_isOneAt_1 : decode cX7_isOneAt 1 = .ok (.istore_n 2, 1) := by decide +kernel
theorem dX7_isOneAt_2 : decode cX7_isOneAt 2 = .ok (.iload_n 2, 1) := by decide +kernel
theorem dX7_isOneAt_3 : decode cX7_isOneAt 3 = .ok (.aload_n 0, 1) := by decide +kernel
theorem dX7_isOneAt_4 : decode cX7_isOneAt 4 = .ok (.getfield 22, 3) := by decide +kernel
theorem dX7_isOneAt_7 : decode cX7_isOneAt 7 = .ok (.if_icmp .ge 23, 3) := by decide +kernel
theorem dX7_isOneAt_10 : decode cX7_isOneAt 10 = .ok (.aload_n 0, 1) := by decide +kernel
theorem dX7_isOneAt_11 : decode cX7_isOneAt 11 = .ok (.iload_n 2, 1) := by decide +kernel
theorem dX7_isOneAt_12 : decode cX7_isOneAt 12 = .ok (.invokevirtual 25, 3) := by decide +kernel
theorem dX7_isOneAt_15 : decode cX7_isOneAt 15 = .ok (.getfield 29, 3) := by decide +kernel
theorem dX7_isOneAt_18 : decode cX7_isOneAt 18 = .ok (.iload_n 1, 1) := by decide +kernel
theorem dX7_isOneAt_19 : decode cX7_isOneAt 19 = .ok (.if_icmp .ne 5, 3) := by decide +kernel
theorem dX7_isOneAt_22 : decode cX7_isOneAt 22 = .ok (.iconst 1, 1) := by decide +kernel
theorem dX7_isOneAt_23 : decode cX7_isOneAt 23 = .ok (.ireturn, 1) := by decide +kernel
theorem dX7_isOneAt_24 : decode cX7_isOneAt 24 = .ok (.iinc 2 1, 3) := by decide +kernel
theorem dX7_isOneAt_27 : decode cX7_isOneAt 27 = .ok (.goto (-25), 3) := by decide +kernel
theorem dX7_isOneAt_30 : decode cX7_isOneAt 30 = .ok (.iconst 0, 1) := by decide +kernel
theorem dX7_isOneAt_31 : decode cX7_isOneAt 31 = .ok (.ireturn, 1) := by decide +kernel
set_option maxRecDepth 20000 in
theorem ggX7_make_X7_at : GoodIn wsX7_make wsX7_at := goodIn_r _ [6, 1, 7, 8, 9] (by decide +kernel) (by decide +kernel)
set_option maxRecDepth 20000 in
theorem gX7_make_X7_at : GoodIn wsX7_make (wsV RX7 25 RX7 yX7_at wsX7_at) := goodIn_app (goodIn_of _ (by decide +kernel)) ggX7_make_X7_at
theorem dX7_make_0 : decode cX7_make 0 = .ok (.aload_n 0, 1) := by decide +kernel
theorem dX7_make_1 : decode cX7_make 1 = .ok (.getfield 22, 3) := by decide +kernel
theorem dX7_make_4 : decode cX7_make 4 = .ok (.istore_n 3, 1) := by decide +kernel
theorem dX7_make_5 : decode cX7_make 5 = .ok (.aload_n 0, 1) := by decide +kernel
theorem dX7_make_6 : decode cX7_make 6 = .ok (.dup, 1) := by decide +kernel
theorem dX7_make_7 : decode cX7_make 7 = .ok (.getfield 22, 3) := by decide +kernel
theorem dX7_make_10 : decode cX7_make 10 = .ok (.iconst 1, 1) := by decide +kernel
theorem dX7_make_11 : decode cX7_make 11 = .ok (.iadd, 1) := by decide +kernel
theorem dX7_make_12 : decode cX7_make 12 = .ok (.putfield 22, 3) := by decide +kernel
theorem dX7_make_15 : decode cX7_make 15 = .ok (.aload_n 0, 1) := by decide +kernel
theorem dX7_make_16 : decode cX7_make 16 = .ok (.iload_n 3, 1) := by decide +kernel
theorem dX7_make_17 : decode cX7_make 17 = .ok (.invokevirtual 25, 3) := by decide +kernel
theorem dX7_make_20 : decode cX7_make 20 = .ok (.astore 4, 2) := by decide +kernel
theorem dX7_make_22 : decode cX7_make 22 = .ok (.aload 4, 2) := by decide +kernel
theorem dX7_make_24 : decode cX7_make 24 = .ok (.iload_n 1, 1) := by decide +kernel
theorem dX7_make_25 : decode cX7_make 25 = .ok (.putfield 29, 3) := by decide +kernel
theorem dX7_make_28 : decode cX7_make 28 = .ok (.aload 4, 2) := by decide +kernel
theorem dX7_make_30 : decode cX7_make 30 = .ok (.iload_n 2, 1) := by decide +kernel
theorem dX7_make_31 : decode cX7_make 31 = .ok (.putfield 18, 3) := by decide +kernel
theorem dX7_make_34 : decode cX7_make 34 = .ok (.iload_n 3, 1) := by decide +kernel
theorem dX7_make_35 : decode cX7_make 35 = .ok (.ireturn, 1) := by decide +kernel
