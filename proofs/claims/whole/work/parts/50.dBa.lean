set_option maxRecDepth 20000 in
theorem ggX8_init_X7_init : GoodIn wsX8_init wsX7_init := goodIn_r _ [23, 24, 2, 3, 25, 26, 27, 28, 29, 30, 31, 32, 33, 34, 35, 36, 37, 38, 39, 40, 41, 42, 43, 44, 45, 46, 47, 48, 49, 93, 94, 130, 131, 132, 133, 134, 135, 136, 137, 138, 139, 140, 141, 142, 143, 144, 145] (by decide +kernel) (by decide +kernel)
set_option maxRecDepth 20000 in
theorem gX8_init_X7_init : GoodIn wsX8_init (wsX7_init) := ggX8_init_X7_init
set_option maxRecDepth 20000 in
theorem ggX8_init_X1_init : GoodIn wsX8_init wsX1_init := goodIn_r _ [51, 52, 2, 3, 45, 53, 54, 55, 56, 57, 58, 37, 38, 59, 60, 42, 43, 44, 46, 47, 48, 49, 100, 101, 102, 103, 104, 105, 106, 141, 142, 143, 144, 145] (by decide +kernel) (by decide +kernel)
set_option maxRecDepth 20000 in
theorem gX8_init_X1_init_n18 : GoodIn wsX8_init (wsX1_init) := ggX8_init_X1_init
set_option maxRecDepth 20000 in
theorem ggX8_init_X5_init : GoodIn wsX8_init wsX5_init := goodIn_r _ [63, 64, 2, 3, 65, 66, 67, 68, 69, 17, 18, 70, 71, 72, 73, 74, 75, 45, 76, 77, 78, 79, 80, 81, 82, 83, 84, 85, 86, 87, 88, 89, 90, 91, 92, 146, 147, 148, 149, 150, 151, 152, 153, 154, 155, 156, 107, 108, 109, 110, 111, 112, 113, 114, 115, 116, 117, 118, 119, 120, 121, 122, 123, 124, 125, 126, 127, 128, 129] (by decide +kernel) (by decide +kernel)
set_option maxRecDepth 20000 in
theorem gX8_init_X5_init : GoodIn wsX8_init (wsX5_init) := ggX8_init_X5_init
set_option maxRecDepth 20000 in
theorem ggX8_init_X0_init : GoodIn wsX8_init wsX0_init := goodIn_r _ [86, 87, 2, 3, 88, 89, 90, 91, 92, 122, 123, 124, 125, 126, 127, 128, 129] (by decide +kernel) (by decide +kernel)
set_option maxRecDepth 20000 in
theorem gX8_init_X0_init_n34 : GoodIn wsX8_init (wsX0_init) := ggX8_init_X0_init
theorem dX8_init_0 : decode cX8_init 0 = .ok (.aload_n 0, 1) := by decide +kernel
theorem dX8_init_1 : decode cX8_init 1 = .ok (.invokespecial 1, 3) := by decide +kernel
theorem dX8_init_4 : decode cX8_init 4 = .ok (.aload_n 0, 1) := by decide +kernel
theorem dX8_init_5 : decode cX8_init 5 = .ok (.new 7, 3) := by decide +kernel
theorem dX8_init_8 : decode cX8_init 8 = .ok (.dup, 1) := by decide +kernel
theorem dX8_init_9 : decode cX8_init 9 = .ok (.invokespecial 9, 3) := by decide +kernel
theorem dX8_init_12 : decode cX8_init 12 = .ok (.putfield 10, 3) := by decide +kernel
theorem dX8_init_15 : decode cX8_init 15 = .ok (.aload_n 0, 1) := by decide +kernel
theorem dX8_init_16 : decode cX8_init 16 = .ok (.new 16, 3) := by decide +kernel
theorem dX8_init_19 : decode cX8_init 19 = .ok (.dup, 1) := by decide +kernel
theorem dX8_init_20 : decode cX8_init 20 = .ok (.invokespecial 18, 3) := by decide +kernel
theorem dX8_init_23 : decode cX8_init 23 = .ok (.putfield 19, 3) := by decide +kernel
theorem dX8_init_26 : decode cX8_init 26 = .ok (.aload_n 0, 1) := by decide +kernel
theorem dX8_init_27 : decode cX8_init 27 = .ok (.new 23, 3) := by decide +kernel
theorem dX8_init_30 : decode cX8_init 30 = .ok (.dup, 1) := by decide +kernel
theorem dX8_init_31 : decode cX8_init 31 = .ok (.aload_n 0, 1) := by decide +kernel
theorem dX8_init_32 : decode cX8_init 32 = .ok (.getfield 10, 3) := by decide +kernel
theorem dX8_init_35 : decode cX8_init 35 = .ok (.invokespecial 25, 3) := by decide +kernel
theorem dX8_init_38 : decode cX8_init 38 = .ok (.putfield 28, 3) := by decide +kernel
theorem dX8_init_41 : decode cX8_init 41 = .ok (.aload_n 0, 1) := by decide +kernel
theorem dX8_init_42 : decode cX8_init 42 = .ok (.new 32, 3) := by decide +kernel
theorem dX8_init_45 : decode cX8_init 45 = .ok (.dup, 1) := by decide +kernel
theorem dX8_init_46 : decode cX8_init 46 = .ok (.invokespecial 34, 3) := by decide +kernel
theorem dX8_init_49 : decode cX8_init 49 = .ok (.putfield 35, 3) := by decide +kernel
theorem dX8_init_52 : decode cX8_init 52 = .ok (.aload_n 0, 1) := by decide +kernel
theorem dX8_init_53 : decode cX8_init 53 = .ok (.new 32, 3) := by decide +kernel
theorem dX8_init_56 : decode cX8_init 56 = .ok (.dup, 1) := by decide +kernel
theorem dX8_init_57 : decode cX8_init 57 = .ok (.invokespecial 34, 3) := by decide +kernel
theorem dX8_init_60 : decode cX8_init 60 = .ok (.putfield 39, 3) := by decide +kernel
theorem dX8_init_63 : decode cX8_init 63 = .ok (.return_, 1) := by decide +kernel
set_option maxRecDepth 20000 in
theorem ggX8_zone_X3_isName : GoodIn wsX8_zone wsX3_isName := goodIn_r _ [9] (by decide +kernel) (by decide +kernel)
set_option maxRecDepth 20000 in
theorem gX8_zone_X3_isName : GoodIn wsX8_zone (va_wsS RX8 42 yX3_isName wsX3_isName) := goodIn_app (goodIn_of _ (by decide +kernel)) ggX8_zone_X3_isName
set_option maxRecDepth 20000 in
theorem ggX8_zone_X8_isLife : GoodIn wsX8_zone wsX8_isLife := goodIn_r _ [13] (by decide +kernel) (by decide +kernel)
set_option maxRecDepth 20000 in
theorem gX8_zone_X8_isLife : GoodIn wsX8_zone (va_wsS RX8 48 yX8_isLife wsX8_isLife) := goodIn_app (goodIn_of _ (by decide +kernel)) ggX8_zone_X8_isLife
set_option maxRecDepth 20000 in
theorem ggX8_zone_X7_isOneAt : GoodIn wsX8_zone wsX7_isOneAt := goodIn_r _ [18, 19, 20, 21, 22, 17, 23, 24, 34, 35, 36, 37, 38, 39, 40, 41, 42, 43, 44, 45, 46] (by decide +kernel) (by decide +kernel)
set_option maxRecDepth 20000 in
theorem gX8_zone_X7_isOneAt : GoodIn wsX8_zone (wsV RX8 62 RX7 yX7_isOneAt wsX7_isOneAt) := goodIn_app (goodIn_of _ (by decide +kernel)) ggX8_zone_X7_isOneAt
set_option maxRecDepth 20000 in
theorem ggX8_zone_X7_make : GoodIn wsX8_zone wsX7_make := goodIn_r _ [28, 19, 20, 21, 22, 17, 23, 24, 34, 35, 36, 37, 38, 39, 40, 41, 42, 43, 44, 45, 46] (by decide +kernel) (by decide +kernel)
set_option maxRecDepth 20000 in
theorem gX8_zone_X7_make : GoodIn wsX8_zone (wsV RX8 70 RX7 yX7_make wsX7_make) := goodIn_app (goodIn_of _ (by decide +kernel)) ggX8_zone_X7_make
theorem dX8_zone_0 : decode cX8_zone 0 = .ok (.iload_n 1, 1) := by decide +kernel
theorem dX8_zone_1 : decode cX8_zone 1 = .ok (.ifCond .eq 17, 3) := by decide +kernel
theorem dX8_zone_4 : decode cX8_zone 4 = .ok (.iload_n 1, 1) := by decide +kernel
theorem dX8_zone_5 : decode cX8_zone 5 = .ok (.invokestatic 42, 3) := by decide +kernel
theorem dX8_zone_8 : decode cX8_zone 8 = .ok (.ifCond .eq 10, 3) := by decide +kernel
theorem dX8_zone_11 : decode cX8_zone 11 = .ok (.iload_n 2, 1) := by decide +kernel
theorem dX8_zone_12 : decode cX8_zone 12 = .ok (.invokestatic 48, 3) := by decide +kernel
theorem dX8_zone_15 : decode cX8_zone 15 = .ok (.ifCond .ne 13, 3) := by decide +kernel
theorem dX8_zone_18 : decode cX8_zone 18 = .ok (.new 51, 3) := by decide +kernel
theorem dX8_zone_21 : decode cX8_zone 21 = .ok (.dup, 1) := by decide +kernel
theorem dX8_zone_22 : decode cX8_zone 22 = .ok (.ldc 53, 2) := by decide +kernel
theorem dX8_zone_24 : decode cX8_zone 24 = .ok (.invokespecial 55, 3) := by decide +kernel
theorem dX8_zone_27 : decode cX8_zone 27 = .ok (.athrow, 1) := by decide +kernel
theorem dX8_zone_28 : decode cX8_zone 28 = .ok (.aload_n 0, 1) := by decide +kernel
theorem dX8_zone_29 : decode cX8_zone 29 = .ok (.getfield 10, 3) := by decide +kernel
theorem dX8_zone_32 : decode cX8_zone 32 = .ok (.getfield 58, 3) := by decide +kernel
theorem dX8_zone_35 : decode cX8_zone 35 = .ok (.bipush 6, 2) := by decide +kernel
theorem dX8_zone_37 : decode cX8_zone 37 = .ok (.if_icmp .ge 14, 3) := by decide +kernel
theorem dX8_zone_40 : decode cX8_zone 40 = .ok (.aload_n 0, 1) := by decide +kernel
theorem dX8_zone_41 : decode cX8_zone 41 = .ok (.getfield 10, 3) := by decide +kernel
theorem dX8_zone_44 : decode cX8_zone 44 = .ok (.iload_n 1, 1) := by decide +kernel
theorem dX8_zone_45 : decode cX8_zone 45 = .ok (.invokevirtual 62, 3) := by decide +kernel
theorem dX8_zone_48 : decode cX8_zone 48 = .ok (.ifCond .eq 13, 3) := by decide +kernel
theorem dX8_zone_51 : decode cX8_zone 51 = .ok (.new 65, 3) := by decide +kernel
theorem dX8_zone_54 : decode cX8_zone 54 = .ok (.dup, 1) := by decide +kernel
theorem dX8_zone_55 : decode cX8_zone 55 = .ok (.ldc 67, 2) := by decide +kernel
theorem dX8_zone_57 : decode cX8_zone 57 = .ok (.invokespecial 69, 3) := by decide +kernel
theorem dX8_zone_60 : decode cX8_zone 60 = .ok (.athrow, 1) := by decide +kernel
theorem dX8_zone_61 : decode cX8_zone 61 = .ok (.aload_n 0, 1) := by decide +kernel
theorem dX8_zone_62 : decode cX8_zone 62 = .ok (.getfield 10, 3) := by decide +kernel
theorem dX8_zone_65 : decode cX8_zone 65 = .ok (.iload_n 1, 1) := by decide +kernel
theorem dX8_zone_66 : decode cX8_zone 66 = .ok (.iload_n 2, 1) := by decide +kernel
theorem dX8_zone_67 : decode cX8_zone 67 = .ok (.invokevirtual 70, 3) := by decide +kernel
theorem dX8_zone_70 : decode cX8_zone 70 = .ok (.ireturn, 1) := by decide +kernel
set_option maxRecDepth 20000 in
theorem ggX8_need_X8_checkPlaceAndSort : GoodIn wsX8_need wsX8_checkPlaceAndSort := goodIn_ca (goodIn_r _ [5, 6, 7, 8, 9, 10, 11, 12, 13, 14, 15, 16, 17, 18, 19, 4, 20] (by decide +kernel) (by decide +kernel)) (goodIn_sub (fun _ h => List.mem_cons_of_mem _ (List.mem_append_left _ (List.mem_append_right _ h))) (by decide +kernel))
set_option maxRecDepth 20000 in
theorem gX8_need_X8_checkPlaceAndSort : GoodIn wsX8_need (va_wsS RX8 74 yX8_checkPlaceAndSort wsX8_checkPlaceAndSort) := goodIn_app (goodIn_of _ (by decide +kernel)) ggX8_need_X8_checkPlaceAndSort
set_option maxRecDepth 20000 in
theorem ggX8_need_X8_checkRoomToTell : GoodIn wsX8_need wsX8_checkRoomToTell := goodIn_ca (goodIn_r _ [24, 25, 26, 1, 38, 39, 40, 41, 42, 43, 44, 45, 46, 47, 48, 49] (by decide +kernel) (by decide +kernel)) (goodIn_sub (fun _ h => List.mem_cons_of_mem _ (List.mem_append_right _ h)) (by decide +kernel))
set_option maxRecDepth 20000 in
theorem gX8_need_X8_checkRoomToTell : GoodIn wsX8_need (wsV RX8 78 RX8 yX8_checkRoomToTell wsX8_checkRoomToTell) := goodIn_app (goodIn_of _ (by decide +kernel)) ggX8_need_X8_checkRoomToTell
set_option maxRecDepth 20000 in
theorem ggX8_need_X1_tell : GoodIn wsX8_need wsX1_tell := goodIn_r _ [31, 32, 33, 34, 35, 36, 37, 43, 44, 45, 46, 47, 48, 49] (by decide +kernel) (by decide +kernel)
set_option maxRecDepth 20000 in
theorem gX8_need_X1_tell : GoodIn wsX8_need (wsV RX8 81 RX1 yX1_tell wsX1_tell) := goodIn_app (goodIn_of _ (by decide +kernel)) ggX8_need_X1_tell
theorem dX8_need_0 : decode cX8_need 0 = .ok (.iload_n 1, 1) := by decide +kernel
theorem dX8_need_1 : decode cX8_need 1 = .ok (.iload_n 2, 1) := by decide +kernel
theorem dX8_need_2 : decode cX8_need 2 = .ok (.invokestatic 74, 3) := by decide +kernel
theorem dX8_need_5 : decode cX8_need 5 = .ok (.aload_n 0, 1) := by decide +kernel
theorem dX8_need_6 : decode cX8_need 6 = .ok (.invokevirtual 78, 3) := by decide +kernel
theorem dX8_need_9 : decode cX8_need 9 = .ok (.aload_n 0, 1) := by decide +kernel
theorem dX8_need_10 : decode cX8_need 10 = .ok (.getfield 19, 3) := by decide +kernel
theorem dX8_need_13 : decode cX8_need 13 = .ok (.iload_n 3, 1) := by decide +kernel
theorem dX8_need_14 : decode cX8_need 14 = .ok (.ifCond .eq 7, 3) := by decide +kernel
theorem dX8_need_17 : decode cX8_need 17 = .ok (.iconst 0, 1) := by decide +kernel
theorem dX8_need_18 : decode cX8_need 18 = .ok (.goto 4, 3) := by decide +kernel
theorem dX8_need_21 : decode cX8_need 21 = .ok (.iconst 1, 1) := by decide +kernel
theorem dX8_need_22 : decode cX8_need 22 = .ok (.iload_n 1, 1) := by decide +kernel
theorem dX8_need_23 : decode cX8_need 23 = .ok (.iload_n 2, 1) := by decide +kernel
theorem dX8_need_24 : decode cX8_need 24 = .ok (.iconst 0, 1) := by decide +kernel
theorem dX8_need_25 : decode cX8_need 25 = .ok (.iconst 0, 1) := by decide +kernel
theorem dX8_need_26 : decode cX8_need 26 = .ok (.invokevirtual 81, 3) := by decide +kernel
theorem dX8_need_29 : decode cX8_need 29 = .ok (.ireturn, 1) := by decide +kernel
set_option maxRecDepth 20000 in
theorem ggX8_put_X8_checkPlaceAndSort : GoodIn wsX8_put wsX8_checkPlaceAndSort := goodIn_ca (goodIn_r _ [7, 1, 2, 8, 9, 10, 11, 12, 13, 14, 15, 16, 17, 18, 19, 6, 20] (by decide +kernel) (by decide +kernel)) (goodIn_sub (fun _ h => List.mem_cons_of_mem _ (List.mem_append_left _ (List.mem_append_right _ h))) (by decide +kernel))
set_option maxRecDepth 20000 in
theorem gX8_put_X8_checkPlaceAndSort : GoodIn wsX8_put (va_wsS RX8 74 yX8_checkPlaceAndSort wsX8_checkPlaceAndSort) := goodIn_app (goodIn_of _ (by decide +kernel)) ggX8_put_X8_checkPlaceAndSort
set_option maxRecDepth 20000 in
theorem ggX8_put_X8_isNumberOf : GoodIn wsX8_put wsX8_isNumberOf := goodIn_r _ [23, 24, 13, 10, 14] (by decide +kernel) (by decide +kernel)
set_option maxRecDepth 20000 in
theorem gX8_put_X8_isNumberOf : GoodIn wsX8_put (va_wsS RX8 85 yX8_isNumberOf wsX8_isNumberOf) := goodIn_app (goodIn_of _ (by decide +kernel)) ggX8_put_X8_isNumberOf
set_option maxRecDepth 20000 in
theorem ggX8_put_X8_isLife : GoodIn wsX8_put wsX8_isLife := goodIn_r _ [27] (by decide +kernel) (by decide +kernel)
set_option maxRecDepth 20000 in
theorem gX8_put_X8_isLife : GoodIn wsX8_put (va_wsS RX8 48 yX8_isLife wsX8_isLife) := goodIn_app (goodIn_of _ (by decide +kernel)) ggX8_put_X8_isLife
set_option maxRecDepth 20000 in
theorem ggX8_put_X8_checkRoomToTell : GoodIn wsX8_put wsX8_checkRoomToTell := goodIn_ca (goodIn_r _ [31, 32, 33, 3, 45, 46, 47, 48, 49, 50, 51, 52, 53, 54, 55, 56] (by decide +kernel) (by decide +kernel)) (goodIn_sub (fun _ h => List.mem_cons_of_mem _ (List.mem_append_right _ h)) (by decide +kernel))
set_option maxRecDepth 20000 in
theorem gX8_put_X8_checkRoomToTell : GoodIn wsX8_put (wsV RX8 78 RX8 yX8_checkRoomToTell wsX8_checkRoomToTell) := goodIn_app (goodIn_of _ (by decide +kernel)) ggX8_put_X8_checkRoomToTell
set_option maxRecDepth 20000 in
theorem ggX8_put_X1_tell : GoodIn wsX8_put wsX1_tell := goodIn_r _ [38, 39, 40, 41, 42, 43, 44, 50, 51, 52, 53, 54, 55, 56] (by decide +kernel) (by decide +kernel)
set_option maxRecDepth 20000 in
theorem gX8_put_X1_tell : GoodIn wsX8_put (wsV RX8 81 RX1 yX1_tell wsX1_tell) := goodIn_app (goodIn_of _ (by decide +kernel)) ggX8_put_X1_tell
theorem dX8_put_0 : decode cX8_put 0 = .ok (.iload_n 1, 1) := by decide +kernel
theorem dX8_put_1 : decode cX8_put 1 = .ok (.iload_n 2, 1) := by decide +kernel
theorem dX8_put_2 : decode cX8_put 2 = .ok (.invokestatic 74, 3) := by decide +kernel
theorem dX8_put_5 : decode cX8_put 5 = .ok (.iload_n 2, 1) := by decide +kernel
theorem dX8_put_6 : decode cX8_put 6 = .ok (.iload_n 3, 1) := by decide +kernel
theorem dX8_put_7 : decode cX8_put 7 = .ok (.invokestatic 85, 3) := by decide +kernel
theorem dX8_put_10 : decode cX8_put 10 = .ok (.ifCond .eq 11, 3) := by decide +kernel
theorem dX8_put_13 : decode cX8_put 13 = .ok (.iload 4, 2) := by decide +kernel
theorem dX8_put_15 : decode cX8_put 15 = .ok (.invokestatic 48, 3) := by decide +kernel
theorem dX8_put_18 : decode cX8_put 18 = .ok (.ifCond .ne 13, 3) := by decide +kernel
theorem dX8_put_21 : decode cX8_put 21 = .ok (.new 51, 3) := by decide +kernel
theorem dX8_put_24 : decode cX8_put 24 = .ok (.dup, 1) := by decide +kernel
theorem dX8_put_25 : decode cX8_put 25 = .ok (.ldc 89, 2) := by decide +kernel
theorem dX8_put_27 : decode cX8_put 27 = .ok (.invokespecial 55, 3) := by decide +kernel
theorem dX8_put_30 : decode cX8_put 30 = .ok (.athrow, 1) := by decide +kernel
theorem dX8_put_31 : decode cX8_put 31 = .ok (.aload_n 0, 1) := by decide +kernel
theorem dX8_put_32 : decode cX8_put 32 = .ok (.invokevirtual 78, 3) := by decide +kernel
theorem dX8_put_35 : decode cX8_put 35 = .ok (.aload_n 0, 1) := by decide +kernel
theorem dX8_put_36 : decode cX8_put 36 = .ok (.getfield 19, 3) := by decide +kernel
theorem dX8_put_39 : decode cX8_put 39 = .ok (.iconst 2, 1) := by decide +kernel
theorem dX8_put_40 : decode cX8_put 40 = .ok (.iload_n 1, 1) := by decide +kernel
theorem dX8_put_41 : decode cX8_put 41 = .ok (.iload_n 2, 1) := by decide +kernel
theorem dX8_put_42 : decode cX8_put 42 = .ok (.iload_n 3, 1) := by decide +kernel
theorem dX8_put_43 : decode cX8_put 43 = .ok (.iload 4, 2) := by decide +kernel
theorem dX8_put_45 : decode cX8_put 45 = .ok (.invokevirtual 81, 3) := by decide +kernel
theorem dX8_put_48 : decode cX8_put 48 = .ok (.ireturn, 1) := by decide +kernel
set_option maxRecDepth 20000 in
theorem ggX8_drop_X8_checkPlaceAndSort : GoodIn wsX8_drop wsX8_checkPlaceAndSort := goodIn_ca (goodIn_r _ [5, 6, 7, 8, 9, 10, 11, 12, 13, 14, 15, 16, 17, 18, 19, 4, 20] (by decide +kernel) (by decide +kernel)) (goodIn_sub (fun _ h => List.mem_cons_of_mem _ (List.mem_append_left _ (List.mem_append_right _ h))) (by decide +kernel))
set_option maxRecDepth 20000 in
theorem gX8_drop_X8_checkPlaceAndSort : GoodIn wsX8_drop (va_wsS RX8 74 yX8_checkPlaceAndSort wsX8_checkPlaceAndSort) := goodIn_app (goodIn_of _ (by decide +kernel)) ggX8_drop_X8_checkPlaceAndSort
set_option maxRecDepth 20000 in
theorem ggX8_drop_X8_checkRoomToTell : GoodIn wsX8_drop wsX8_checkRoomToTell := goodIn_ca (goodIn_r _ [24, 25, 26, 1, 38, 39, 40, 41, 42, 43, 44, 45, 46, 47, 48, 49] (by decide +kernel) (by decide +kernel)) (goodIn_sub (fun _ h => List.mem_cons_of_mem _ (List.mem_append_right _ h)) (by decide +kernel))
set_option maxRecDepth 20000 in
theorem gX8_drop_X8_checkRoomToTell : GoodIn wsX8_drop (wsV RX8 78 RX8 yX8_checkRoomToTell wsX8_checkRoomToTell) := goodIn_app (goodIn_of _ (by decide +kernel)) ggX8_drop_X8_checkRoomToTell
set_option maxRecDepth 20000 in
theorem ggX8_drop_X1_tell : GoodIn wsX8_drop wsX1_tell := goodIn_r _ [31, 32, 33, 34, 35, 36, 37, 43, 44, 45, 46, 47, 48, 49] (by decide +kernel) (by decide +kernel)
set_option maxRecDepth 20000 in
theorem gX8_drop_X1_tell : GoodIn wsX8_drop (wsV RX8 81 RX1 yX1_tell wsX1_tell) := goodIn_app (goodIn_of _ (by decide +kernel)) ggX8_drop_X1_tell
theorem dX8_drop_0 : decode cX8_drop 0 = .ok (.iload_n 1, 1) := by decide +kernel
theorem dX8_drop_1 : decode cX8_drop 1 = .ok (.iload_n 2, 1) := by decide +kernel
theorem dX8_drop_2 : decode cX8_drop 2 = .ok (.invokestatic 74, 3) := by decide +kernel
theorem dX8_drop_5 : decode cX8_drop 5 = .ok (.aload_n 0, 1) := by decide +kernel
theorem dX8_drop_6 : decode cX8_drop 6 = .ok (.invokevirtual 78, 3) := by decide +kernel
theorem dX8_drop_9 : decode cX8_drop 9 = .ok (.aload_n 0, 1) := by decide +kernel
theorem dX8_drop_10 : decode cX8_drop 10 = .ok (.getfield 19, 3) := by decide +kernel
theorem dX8_drop_13 : decode cX8_drop 13 = .ok (.iconst 3, 1) := by decide +kernel
theorem dX8_drop_14 : decode cX8_drop 14 = .ok (.iload_n 1, 1) := by decide +kernel
theorem dX8_drop_15 : decode cX8_drop 15 = .ok (.iload_n 2, 1) := by decide +kernel
theorem dX8_drop_16 : decode cX8_drop 16 = .ok (.iconst 0, 1) := by decide +kernel
theorem dX8_drop_17 : decode cX8_drop 17 = .ok (.iconst 0, 1) := by decide +kernel
theorem dX8_drop_18 : decode cX8_drop 18 = .ok (.invokevirtual 81, 3) := by decide +kernel
theorem dX8_drop_21 : decode cX8_drop 21 = .ok (.ireturn, 1) := by decide +kernel
set_option maxRecDepth 20000 in
theorem ggX8_update_X8_checkZone : GoodIn wsX8_update wsX8_checkZone := goodIn_ca (goodIn_r _ [7, 8, 9, 2, 129, 130, 131, 132, 133, 134, 135] (by decide +kernel) (by decide +kernel)) (goodIn_sub (fun _ h => List.mem_cons_of_mem _ (List.mem_append_right _ h)) (by decide +kernel))
set_option maxRecDepth 20000 in
theorem gX8_update_X8_checkZone : GoodIn wsX8_update (wsV RX8 91 RX8 yX8_checkZone wsX8_checkZone) := goodIn_app (goodIn_of _ (by decide +kernel)) ggX8_update_X8_checkZone
set_option maxRecDepth 20000 in
theorem ggX8_update_X7_at : GoodIn wsX8_update wsX7_at := goodIn_r _ [14, 15, 16, 134, 135] (by decide +kernel) (by decide +kernel)
set_option maxRecDepth 20000 in
theorem gX8_update_X7_at : GoodIn wsX8_update (wsV RX8 95 RX7 yX7_at wsX7_at) := goodIn_app (goodIn_of _ (by decide +kernel)) ggX8_update_X7_at
set_option maxRecDepth 20000 in
theorem ggX8_update_X1_doTo : GoodIn wsX8_update wsX1_doTo := goodIn_r _ [21, 22, 23, 24, 25, 26, 27, 28, 29, 30, 31, 32, 33, 34, 35, 36, 37, 38, 39, 40, 41, 42, 43, 44, 45, 46, 47, 48, 49, 50, 51, 52, 53, 54, 55, 56, 20, 57, 58, 59, 60, 61, 62, 63, 64, 65, 66, 67, 68, 69, 70, 71, 72, 73, 74, 75, 76, 77, 78, 79, 80, 81, 82, 83, 84, 85, 86, 87, 88, 89, 90, 91, 92, 93, 94, 95, 96, 97, 98, 99, 100, 101, 102, 103, 104, 105, 106, 107, 108, 109, 110, 111, 112, 113, 114, 115, 116, 117, 118, 13, 119, 15, 120, 11, 12, 14, 16, 121, 122, 123, 124, 125, 126, 127, 128, 136, 137, 138, 139, 140, 141, 142, 143, 144, 145, 146, 147, 148, 149, 150, 151, 152, 153, 154, 155, 156, 157, 158, 134, 135] (by decide +kernel) (by decide +kernel)
set_option maxRecDepth 20000 in
theorem gX8_update_X1_doTo : GoodIn wsX8_update (wsV RX8 99 RX1 yX1_doTo wsX1_doTo) := goodIn_app (goodIn_of _ (by decide +kernel)) ggX8_update_X1_doTo
theorem dX8_update_0 : decode cX8_update 0 = .ok (.aload_n 0, 1) := by decide +kernel
theorem dX8_update_1 : decode cX8_update 1 = .ok (.iload_n 1, 1) := by decide +kernel
theorem dX8_update_2 : decode cX8_update 2 = .ok (.invokevirtual 91, 3) := by decide +kernel
theorem dX8_update_5 : decode cX8_update 5 = .ok (.aload_n 0, 1) := by decide +kernel
theorem dX8_update_6 : decode cX8_update 6 = .ok (.getfield 19, 3) := by decide +kernel
theorem dX8_update_9 : decode cX8_update 9 = .ok (.aload_n 0, 1) := by decide +kernel
theorem dX8_update_10 : decode cX8_update 10 = .ok (.getfield 10, 3) := by decide +kernel
theorem dX8_update_13 : decode cX8_update 13 = .ok (.iload_n 1, 1) := by decide +kernel
theorem dX8_update_14 : decode cX8_update 14 = .ok (.invokevirtual 95, 3) := by decide +kernel
theorem dX8_update_17 : decode cX8_update 17 = .ok (.aload_n 0, 1) := by decide +kernel
theorem dX8_update_18 : decode cX8_update 18 = .ok (.getfield 10, 3) := by decide +kernel
theorem dX8_update_21 : decode cX8_update 21 = .ok (.invokevirtual 99, 3) := by decide +kernel
theorem dX8_update_24 : decode cX8_update 24 = .ok (.ireturn, 1) := by decide +kernel
set_option maxRecDepth 20000 in
theorem ggX8_zoneHas_X8_checkZone : GoodIn wsX8_zoneHas wsX8_checkZone := goodIn_ca (goodIn_r _ [8, 9, 10, 3, 67, 68, 69, 70, 71, 72, 73] (by decide +kernel) (by decide +kernel)) (goodIn_sub (fun _ h => List.mem_cons_of_mem _ (List.mem_append_right _ h)) (by decide +kernel))
set_option maxRecDepth 20000 in
theorem gX8_zoneHas_X8_checkZone : GoodIn wsX8_zoneHas (wsV RX8 91 RX8 yX8_checkZone wsX8_checkZone) := goodIn_app (goodIn_of _ (by decide +kernel)) ggX8_zoneHas_X8_checkZone
set_option maxRecDepth 20000 in
theorem ggX8_zoneHas_X7_at : GoodIn wsX8_zoneHas wsX7_at := goodIn_r _ [15, 16, 17, 72, 73] (by decide +kernel) (by decide +kernel)
set_option maxRecDepth 20000 in
theorem gX8_zoneHas_X7_at : GoodIn wsX8_zoneHas (wsV RX8 95 RX7 yX7_at wsX7_at) := goodIn_app (goodIn_of _ (by decide +kernel)) ggX8_zoneHas_X7_at
set_option maxRecDepth 20000 in
theorem ggX8_zoneHas_X6_detail : GoodIn wsX8_zoneHas wsX6_detail := goodIn_r _ [22, 23, 24, 25, 26, 27, 28, 29, 21, 30, 31, 32, 33, 34, 35, 36, 37, 38, 39, 40, 41, 42, 43, 44, 45, 46, 47, 48, 49, 50, 51, 52, 53, 54, 55, 56, 57, 58, 59, 60, 61, 62, 63, 64, 65, 66, 74, 75, 76, 77, 78, 79, 80, 81, 82, 83, 84, 85, 86, 87, 88, 89] (by decide +kernel) (by decide +kernel)
set_option maxRecDepth 20000 in
theorem gX8_zoneHas_X6_detail : GoodIn wsX8_zoneHas (wsV RX8 105 RX6 yX6_detail wsX6_detail) := goodIn_app (goodIn_of _ (by decide +kernel)) ggX8_zoneHas_X6_detail
theorem dX8_zoneHas_0 : decode cX8_zoneHas 0 = .ok (.aload_n 0, 1) := by decide +kernel
theorem dX8_zoneHas_1 : decode cX8_zoneHas 1 = .ok (.iload_n 1, 1) := by decide +kernel
theorem dX8_zoneHas_2 : decode cX8_zoneHas 2 = .ok (.invokevirtual 91, 3) := by decide +kernel
theorem dX8_zoneHas_5 : decode cX8_zoneHas 5 = .ok (.iload_n 2, 1) := by decide +kernel
theorem dX8_zoneHas_6 : decode cX8_zoneHas 6 = .ok (.ifCond .lt 8, 3) := by decide +kernel
theorem dX8_zoneHas_9 : decode cX8_zoneHas 9 = .ok (.iload_n 2, 1) := by decide +kernel
theorem dX8_zoneHas_10 : decode cX8_zoneHas 10 = .ok (.iconst 4, 1) := by decide +kernel
theorem dX8_zoneHas_11 : decode cX8_zoneHas 11 = .ok (.if_icmp .le 13, 3) := by decide +kernel
theorem dX8_zoneHas_14 : decode cX8_zoneHas 14 = .ok (.new 51, 3) := by decide +kernel
theorem dX8_zoneHas_17 : decode cX8_zoneHas 17 = .ok (.dup, 1) := by decide +kernel
theorem dX8_zoneHas_18 : decode cX8_zoneHas 18 = .ok (.ldc 103, 2) := by decide +kernel
theorem dX8_zoneHas_20 : decode cX8_zoneHas 20 = .ok (.invokespecial 55, 3) := by decide +kernel
theorem dX8_zoneHas_23 : decode cX8_zoneHas 23 = .ok (.athrow, 1) := by decide +kernel
theorem dX8_zoneHas_24 : decode cX8_zoneHas 24 = .ok (.aload_n 0, 1) := by decide +kernel
theorem dX8_zoneHas_25 : decode cX8_zoneHas 25 = .ok (.getfield 10, 3) := by decide +kernel
theorem dX8_zoneHas_28 : decode cX8_zoneHas 28 = .ok (.iload_n 1, 1) := by decide +kernel
theorem dX8_zoneHas_29 : decode cX8_zoneHas 29 = .ok (.invokevirtual 95, 3) := by decide +kernel
theorem dX8_zoneHas_32 : decode cX8_zoneHas 32 = .ok (.iload_n 2, 1) := by decide +kernel
theorem dX8_zoneHas_33 : decode cX8_zoneHas 33 = .ok (.invokevirtual 105, 3) := by decide +kernel
theorem dX8_zoneHas_36 : decode cX8_zoneHas 36 = .ok (.ireturn, 1) := by decide +kernel
set_option maxRecDepth 20000 in
theorem ggX8_record_X8_checkZone : GoodIn wsX8_record wsX8_checkZone := goodIn_ca (goodIn_r _ [6, 7, 8, 1, 47, 48, 49, 50, 51, 63, 64] (by decide +kernel) (by decide +kernel)) (goodIn_sub (fun _ h => List.mem_cons_of_mem _ (List.mem_append_left _ (List.mem_append_right _ h))) (by decide +kernel))
set_option maxRecDepth 20000 in
theorem gX8_record_X8_checkZone : GoodIn wsX8_record (wsV RX8 91 RX8 yX8_checkZone wsX8_checkZone) := goodIn_app (goodIn_of _ (by decide +kernel)) ggX8_record_X8_checkZone
set_option maxRecDepth 20000 in
theorem ggX8_record_X8_checkPlaceAndSort : GoodIn wsX8_record wsX8_checkPlaceAndSort := goodIn_ca (goodIn_r _ [11, 12, 13, 14, 15, 16, 17, 18, 19, 20, 21, 22, 23, 24, 25, 5, 26] (by decide +kernel) (by decide +kernel)) (goodIn_sub (fun _ h => List.mem_cons_of_mem _ (List.mem_append_right _ h)) (by decide +kernel))
set_option maxRecDepth 20000 in
theorem gX8_record_X8_checkPlaceAndSort : GoodIn wsX8_record (va_wsS RX8 74 yX8_checkPlaceAndSort wsX8_checkPlaceAndSort) := goodIn_app (goodIn_of _ (by decide +kernel)) ggX8_record_X8_checkPlaceAndSort
set_option maxRecDepth 20000 in
theorem ggX8_record_X7_at : GoodIn wsX8_record wsX7_at := goodIn_r _ [31, 32, 33, 63, 64] (by decide +kernel) (by decide +kernel)
set_option maxRecDepth 20000 in
theorem gX8_record_X7_at : GoodIn wsX8_record (wsV RX8 95 RX7 yX7_at wsX7_at) := goodIn_app (goodIn_of _ (by decide +kernel)) ggX8_record_X7_at
set_option maxRecDepth 20000 in
theorem ggX8_record_X4_rowOf : GoodIn wsX8_record wsX4_rowOf := goodIn_r _ [38, 39, 40, 41, 65, 66, 67, 68, 69] (by decide +kernel) (by decide +kernel)
set_option maxRecDepth 20000 in
theorem gX8_record_X4_rowOf : GoodIn wsX8_record (wsV RX8 115 RX4 yX4_rowOf wsX4_rowOf) := goodIn_app (goodIn_of _ (by decide +kernel)) ggX8_record_X4_rowOf
set_option maxRecDepth 20000 in
theorem ggX8_record_X4_numberAt : GoodIn wsX8_record wsX4_numberAt := goodIn_r _ [45, 39, 46, 65, 66, 67, 68, 69] (by decide +kernel) (by decide +kernel)
set_option maxRecDepth 20000 in
theorem gX8_record_X4_numberAt : GoodIn wsX8_record (wsV RX8 120 RX4 yX4_numberAt wsX4_numberAt) := goodIn_app (goodIn_of _ (by decide +kernel)) ggX8_record_X4_numberAt
theorem dX8_record_0 : decode cX8_record 0 = .ok (.aload_n 0, 1) := by decide +kernel
theorem dX8_record_1 : decode cX8_record 1 = .ok (.iload_n 1, 1) := by decide +kernel
theorem dX8_record_2 : decode cX8_record 2 = .ok (.invokevirtual 91, 3) := by decide +kernel
theorem dX8_record_5 : decode cX8_record 5 = .ok (.iload_n 2, 1) := by decide +kernel
theorem dX8_record_6 : decode cX8_record 6 = .ok (.iload_n 3, 1) := by decide +kernel
theorem dX8_record_7 : decode cX8_record 7 = .ok (.invokestatic 74, 3) := by decide +kernel
theorem dX8_record_10 : decode cX8_record 10 = .ok (.aload_n 0, 1) := by decide +kernel
theorem dX8_record_11 : decode cX8_record 11 = .ok (.getfield 10, 3) := by decide +kernel
theorem dX8_record_14 : decode cX8_record 14 = .ok (.iload_n 1, 1) := by decide +kernel
theorem dX8_record_15 : decode cX8_record 15 = .ok (.invokevirtual 95, 3) := by decide +kernel
theorem dX8_record_18 : decode cX8_record 18 = .ok (.getfield 111, 3) := by decide +kernel
theorem dX8_record_21 : decode cX8_record 21 = .ok (.astore 4, 2) := by decide +kernel
theorem dX8_record_23 : decode cX8_record 23 = .ok (.aload 4, 2) := by decide +kernel
theorem dX8_record_25 : decode cX8_record 25 = .ok (.aload 4, 2) := by decide +kernel
theorem dX8_record_27 : decode cX8_record 27 = .ok (.iload_n 2, 1) := by decide +kernel
theorem dX8_record_28 : decode cX8_record 28 = .ok (.iload_n 3, 1) := by decide +kernel
theorem dX8_record_29 : decode cX8_record 29 = .ok (.invokevirtual 115, 3) := by decide +kernel
theorem dX8_record_32 : decode cX8_record 32 = .ok (.invokevirtual 120, 3) := by decide +kernel
theorem dX8_record_35 : decode cX8_record 35 = .ok (.ireturn, 1) := by decide +kernel
set_option maxRecDepth 20000 in
theorem ggX8_bringUp_X8_checkZone : GoodIn wsX8_bringUp wsX8_checkZone := goodIn_ca (goodIn_r _ [6, 7, 8, 1, 63, 64, 65, 66, 67, 68, 69] (by decide +kernel) (by decide +kernel)) (goodIn_sub (fun _ h => List.mem_cons_of_mem _ (List.mem_append_right _ h)) (by decide +kernel))
set_option maxRecDepth 20000 in
theorem gX8_bringUp_X8_checkZone : GoodIn wsX8_bringUp (wsV RX8 91 RX8 yX8_checkZone wsX8_checkZone) := goodIn_app (goodIn_of _ (by decide +kernel)) ggX8_bringUp_X8_checkZone
set_option maxRecDepth 20000 in
theorem ggX8_bringUp_X7_at : GoodIn wsX8_bringUp wsX7_at := goodIn_r _ [13, 14, 15, 68, 69] (by decide +kernel) (by decide +kernel)
set_option maxRecDepth 20000 in
theorem gX8_bringUp_X7_at : GoodIn wsX8_bringUp (wsV RX8 95 RX7 yX7_at wsX7_at) := goodIn_app (goodIn_of _ (by decide +kernel)) ggX8_bringUp_X7_at
set_option maxRecDepth 20000 in
theorem ggX8_bringUp_X6_renewCopy : GoodIn wsX8_bringUp wsX6_renewCopy := goodIn_r _ [20, 21, 22, 23, 24, 25, 26, 27, 28, 29, 30, 31, 32, 33, 34, 35, 36, 37, 38, 39, 40, 41, 42, 43, 44, 45, 46, 47, 48, 49, 50, 51, 52, 53, 54, 55, 56, 57, 58, 59, 60, 61, 62, 70, 71, 72, 73, 74, 75, 76, 77, 78, 79, 80, 81, 82, 83, 84, 85] (by decide +kernel) (by decide +kernel)
set_option maxRecDepth 20000 in
theorem gX8_bringUp_X6_renewCopy : GoodIn wsX8_bringUp (wsV RX8 123 RX6 yX6_renewCopy wsX6_renewCopy) := goodIn_app (goodIn_of _ (by decide +kernel)) ggX8_bringUp_X6_renewCopy
theorem dX8_bringUp_0 : decode cX8_bringUp 0 = .ok (.aload_n 0, 1) := by decide +kernel
theorem dX8_bringUp_1 : decode cX8_bringUp 1 = .ok (.iload_n 1, 1) := by decide +kernel
theorem dX8_bringUp_2 : decode cX8_bringUp 2 = .ok (.invokevirtual 91, 3) := by decide +kernel
theorem dX8_bringUp_5 : decode cX8_bringUp 5 = .ok (.aload_n 0, 1) := by decide +kernel
theorem dX8_bringUp_6 : decode cX8_bringUp 6 = .ok (.getfield 10, 3) := by decide +kernel
theorem dX8_bringUp_9 : decode cX8_bringUp 9 = .ok (.iload_n 1, 1) := by decide +kernel
theorem dX8_bringUp_10 : decode cX8_bringUp 10 = .ok (.invokevirtual 95, 3) := by decide +kernel
theorem dX8_bringUp_13 : decode cX8_bringUp 13 = .ok (.invokevirtual 123, 3) := by decide +kernel
theorem dX8_bringUp_16 : decode cX8_bringUp 16 = .ok (.ireturn, 1) := by decide +kernel
set_option maxRecDepth 20000 in
theorem ggX8_setDead_X8_checkZone : GoodIn wsX8_setDead wsX8_checkZone := goodIn_ca (goodIn_r _ [6, 7, 8, 1, 16, 17, 18, 19, 20, 32, 33] (by decide +kernel) (by decide +kernel)) (goodIn_sub (fun _ h => List.mem_cons_of_mem _ (List.mem_append_right _ h)) (by decide +kernel))
set_option maxRecDepth 20000 in
theorem gX8_setDead_X8_checkZone : GoodIn wsX8_setDead (wsV RX8 91 RX8 yX8_checkZone wsX8_checkZone) := goodIn_app (goodIn_of _ (by decide +kernel)) ggX8_setDead_X8_checkZone
set_option maxRecDepth 20000 in
theorem ggX8_setDead_X7_at : GoodIn wsX8_setDead wsX7_at := goodIn_r _ [13, 14, 15, 32, 33] (by decide +kernel) (by decide +kernel)
set_option maxRecDepth 20000 in
theorem gX8_setDead_X7_at : GoodIn wsX8_setDead (wsV RX8 95 RX7 yX7_at wsX7_at) := goodIn_app (goodIn_of _ (by decide +kernel)) ggX8_setDead_X7_at
theorem dX8_setDead_0 : decode cX8_setDead 0 = .ok (.aload_n 0, 1) := by decide +kernel
theorem dX8_setDead_1 : decode cX8_setDead 1 = .ok (.iload_n 1, 1) := by decide +kernel
theorem dX8_setDead_2 : decode cX8_setDead 2 = .ok (.invokevirtual 91, 3) := by decide +kernel
theorem dX8_setDead_5 : decode cX8_setDead 5 = .ok (.aload_n 0, 1) := by decide +kernel
theorem dX8_setDead_6 : decode cX8_setDead 6 = .ok (.getfield 10, 3) := by decide +kernel
theorem dX8_setDead_9 : decode cX8_setDead 9 = .ok (.iload_n 1, 1) := by decide +kernel
theorem dX8_setDead_10 : decode cX8_setDead 10 = .ok (.invokevirtual 95, 3) := by decide +kernel
theorem dX8_setDead_13 : decode cX8_setDead 13 = .ok (.iload_n 2, 1) := by decide +kernel
theorem dX8_setDead_14 : decode cX8_setDead 14 = .ok (.putfield 127, 3) := by decide +kernel
theorem dX8_setDead_17 : decode cX8_setDead 17 = .ok (.return_, 1) := by decide +kernel
set_option maxRecDepth 20000 in
theorem ggX8_ask_X8_checkZone : GoodIn wsX8_ask wsX8_checkZone := goodIn_ca (goodIn_r _ [9, 10, 11, 3, 121, 122, 123, 124, 125, 145, 146] (by decide +kernel) (by decide +kernel)) (goodIn_sub (fun _ h => List.mem_cons_of_mem _ (List.mem_append_left _ (List.mem_append_right _ h))) (by decide +kernel))
set_option maxRecDepth 20000 in
theorem gX8_ask_X8_checkZone : GoodIn wsX8_ask (wsV RX8 91 RX8 yX8_checkZone wsX8_checkZone) := goodIn_app (goodIn_of _ (by decide +kernel)) ggX8_ask_X8_checkZone
set_option maxRecDepth 20000 in
theorem ggX8_ask_X8_checkNameAndSort : GoodIn wsX8_ask wsX8_checkNameAndSort := goodIn_ca (goodIn_r _ [14, 15, 16, 17, 18, 19, 20, 21, 22, 8, 23] (by decide +kernel) (by decide +kernel)) (goodIn_sub (fun _ h => List.mem_cons_of_mem _ (List.mem_append_right _ h)) (by decide +kernel))
set_option maxRecDepth 20000 in
theorem gX8_ask_X8_checkNameAndSort : GoodIn wsX8_ask (va_wsS RX8 131 yX8_checkNameAndSort wsX8_checkNameAndSort) := goodIn_app (goodIn_of _ (by decide +kernel)) ggX8_ask_X8_checkNameAndSort
set_option maxRecDepth 20000 in
theorem ggX8_ask_X7_at : GoodIn wsX8_ask wsX7_at := goodIn_r _ [28, 29, 30, 145, 146] (by decide +kernel) (by decide +kernel)
set_option maxRecDepth 20000 in
theorem gX8_ask_X7_at : GoodIn wsX8_ask (wsV RX8 95 RX7 yX7_at wsX7_at) := goodIn_app (goodIn_of _ (by decide +kernel)) ggX8_ask_X7_at
set_option maxRecDepth 20000 in
theorem ggX8_ask_X3_isUnder : GoodIn wsX8_ask wsX3_isUnder := goodIn_r _ [33] (by decide +kernel) (by decide +kernel)
set_option maxRecDepth 20000 in
theorem gX8_ask_X3_isUnder : GoodIn wsX8_ask (va_wsS RX8 137 yX3_isUnder wsX3_isUnder) := goodIn_app (goodIn_of _ (by decide +kernel)) ggX8_ask_X3_isUnder
set_option maxRecDepth 20000 in
theorem ggX8_ask_X6_answer : GoodIn wsX8_ask wsX6_answer := goodIn_r _ [38, 39, 40, 41, 42, 43, 44, 45, 37, 46, 47, 48, 49, 50, 51, 52, 53, 54, 55, 32, 19, 33, 56, 57, 58, 59, 60, 61, 62, 63, 64, 65, 66, 67, 68, 69, 70, 71, 72, 73, 74, 75, 76, 77, 78, 79, 80, 81, 82, 83, 84, 85, 86, 87, 88, 89, 90, 91, 92, 93, 94, 95, 96, 97, 98, 99, 100, 101, 102, 103, 104, 105, 106, 107, 108, 109, 110, 111, 112, 113, 114, 115, 116, 117, 118, 119, 120, 126, 127, 128, 129, 130, 131, 132, 133, 134, 135, 136, 147, 148, 149, 150, 151, 137, 138, 139, 140, 141, 142, 143, 144] (by decide +kernel) (by decide +kernel)
set_option maxRecDepth 20000 in
theorem gX8_ask_X6_answer : GoodIn wsX8_ask (wsV RX8 142 RX6 yX6_answer wsX6_answer) := goodIn_app (goodIn_of _ (by decide +kernel)) ggX8_ask_X6_answer
theorem dX8_ask_0 : decode cX8_ask 0 = .ok (.aload_n 0, 1) := by decide +kernel
theorem dX8_ask_1 : decode cX8_ask 1 = .ok (.iload_n 1, 1) := by decide +kernel
theorem dX8_ask_2 : decode cX8_ask 2 = .ok (.invokevirtual 91, 3) := by decide +kernel
theorem dX8_ask_5 : decode cX8_ask 5 = .ok (.iload_n 2, 1) := by decide +kernel
theorem dX8_ask_6 : decode cX8_ask 6 = .ok (.iload_n 3, 1) := by decide +kernel
theorem dX8_ask_7 : decode cX8_ask 7 = .ok (.invokestatic 131, 3) := by decide +kernel
theorem dX8_ask_10 : decode cX8_ask 10 = .ok (.aload_n 0, 1) := by decide +kernel
theorem dX8_ask_11 : decode cX8_ask 11 = .ok (.getfield 10, 3) := by decide +kernel
theorem dX8_ask_14 : decode cX8_ask 14 = .ok (.iload_n 1, 1) := by decide +kernel
theorem dX8_ask_15 : decode cX8_ask 15 = .ok (.invokevirtual 95, 3) := by decide +kernel
theorem dX8_ask_18 : decode cX8_ask 18 = .ok (.astore 4, 2) := by decide +kernel
theorem dX8_ask_20 : decode cX8_ask 20 = .ok (.iload_n 2, 1) := by decide +kernel
theorem dX8_ask_21 : decode cX8_ask 21 = .ok (.aload 4, 2) := by decide +kernel
theorem dX8_ask_23 : decode cX8_ask 23 = .ok (.getfield 134, 3) := by decide +kernel
theorem dX8_ask_26 : decode cX8_ask 26 = .ok (.invokestatic 137, 3) := by decide +kernel
theorem dX8_ask_29 : decode cX8_ask 29 = .ok (.ifCond .ne 13, 3) := by decide +kernel
theorem dX8_ask_32 : decode cX8_ask 32 = .ok (.new 65, 3) := by decide +kernel
theorem dX8_ask_35 : decode cX8_ask 35 = .ok (.dup, 1) := by decide +kernel
theorem dX8_ask_36 : decode cX8_ask 36 = .ok (.ldc 140, 2) := by decide +kernel
theorem dX8_ask_38 : decode cX8_ask 38 = .ok (.invokespecial 69, 3) := by decide +kernel
theorem dX8_ask_41 : decode cX8_ask 41 = .ok (.athrow, 1) := by decide +kernel
theorem dX8_ask_42 : decode cX8_ask 42 = .ok (.aload 4, 2) := by decide +kernel
theorem dX8_ask_44 : decode cX8_ask 44 = .ok (.aload 4, 2) := by decide +kernel
theorem dX8_ask_46 : decode cX8_ask 46 = .ok (.getfield 111, 3) := by decide +kernel
theorem dX8_ask_49 : decode cX8_ask 49 = .ok (.iload_n 2, 1) := by decide +kernel
theorem dX8_ask_50 : decode cX8_ask 50 = .ok (.iload_n 3, 1) := by decide +kernel
theorem dX8_ask_51 : decode cX8_ask 51 = .ok (.aload_n 0, 1) := by decide +kernel
theorem dX8_ask_52 : decode cX8_ask 52 = .ok (.getfield 35, 3) := by decide +kernel
theorem dX8_ask_55 : decode cX8_ask 55 = .ok (.invokevirtual 142, 3) := by decide +kernel
theorem dX8_ask_58 : decode cX8_ask 58 = .ok (.aload_n 0, 1) := by decide +kernel
theorem dX8_ask_59 : decode cX8_ask 59 = .ok (.getfield 35, 3) := by decide +kernel
theorem dX8_ask_62 : decode cX8_ask 62 = .ok (.iconst 1, 1) := by decide +kernel
theorem dX8_ask_63 : decode cX8_ask 63 = .ok (.putfield 146, 3) := by decide +kernel
theorem dX8_ask_66 : decode cX8_ask 66 = .ok (.aload_n 0, 1) := by decide +kernel
theorem dX8_ask_67 : decode cX8_ask 67 = .ok (.getfield 35, 3) := by decide +kernel
theorem dX8_ask_70 : decode cX8_ask 70 = .ok (.iconst 0, 1) := by decide +kernel
theorem dX8_ask_71 : decode cX8_ask 71 = .ok (.putfield 149, 3) := by decide +kernel
theorem dX8_ask_74 : decode cX8_ask 74 = .ok (.aload_n 0, 1) := by decide +kernel
theorem dX8_ask_75 : decode cX8_ask 75 = .ok (.getfield 35, 3) := by decide +kernel
theorem dX8_ask_78 : decode cX8_ask 78 = .ok (.getfield 152, 3) := by decide +kernel
theorem dX8_ask_81 : decode cX8_ask 81 = .ok (.ireturn, 1) := by decide +kernel
set_option maxRecDepth 20000 in
theorem ggX8_told_X0_detail : GoodIn wsX8_told wsX0_detail := goodIn_r _ [8, 9, 10, 11, 12, 13, 14, 20, 21, 22, 23, 24, 25, 26, 27] (by decide +kernel) (by decide +kernel)
set_option maxRecDepth 20000 in
theorem gX8_told_X0_detail : GoodIn wsX8_told (wsV RX8 157 RX0 yX0_detail wsX0_detail) := goodIn_app (goodIn_of _ (by decide +kernel)) ggX8_told_X0_detail
theorem dX8_told_0 : decode cX8_told 0 = .ok (.iload_n 1, 1) := by decide +kernel
theorem dX8_told_1 : decode cX8_told 1 = .ok (.ifCond .lt 8, 3) := by decide +kernel
