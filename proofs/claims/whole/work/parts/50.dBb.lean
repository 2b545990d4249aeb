theorem dX8_told_4 : decode cX8_told 4 = .ok (.iload_n 1, 1) := by decide +kernel
theorem dX8_told_5 : decode cX8_told 5 = .ok (.iconst 4, 1) := by decide +kernel
theorem dX8_told_6 : decode cX8_told 6 = .ok (.if_icmp .le 13, 3) := by decide +kernel
theorem dX8_told_9 : decode cX8_told 9 = .ok (.new 51, 3) := by decide +kernel
theorem dX8_told_12 : decode cX8_told 12 = .ok (.dup, 1) := by decide +kernel
theorem dX8_told_13 : decode cX8_told 13 = .ok (.ldc 155, 2) := by decide +kernel
theorem dX8_told_15 : decode cX8_told 15 = .ok (.invokespecial 55, 3) := by decide +kernel
theorem dX8_told_18 : decode cX8_told 18 = .ok (.athrow, 1) := by decide +kernel
theorem dX8_told_19 : decode cX8_told 19 = .ok (.aload_n 0, 1) := by decide +kernel
theorem dX8_told_20 : decode cX8_told 20 = .ok (.getfield 35, 3) := by decide +kernel
theorem dX8_told_23 : decode cX8_told 23 = .ok (.iload_n 1, 1) := by decide +kernel
theorem dX8_told_24 : decode cX8_told 24 = .ok (.invokevirtual 157, 3) := by decide +kernel
theorem dX8_told_27 : decode cX8_told 27 = .ok (.ireturn, 1) := by decide +kernel
set_option maxRecDepth 20000 in
theorem ggX8_neighbour_X8_checkZone : GoodIn wsX8_neighbour wsX8_checkZone := goodIn_ca (goodIn_r _ [8, 9, 10, 3, 74, 75, 76, 77, 78, 79, 80] (by decide +kernel) (by decide +kernel)) (goodIn_sub (fun _ h => List.mem_cons_of_mem _ (List.mem_append_right _ h)) (by decide +kernel))
set_option maxRecDepth 20000 in
theorem gX8_neighbour_X8_checkZone : GoodIn wsX8_neighbour (wsV RX8 91 RX8 yX8_checkZone wsX8_checkZone) := goodIn_app (goodIn_of _ (by decide +kernel)) ggX8_neighbour_X8_checkZone
set_option maxRecDepth 20000 in
theorem ggX8_neighbour_X3_isPlace : GoodIn wsX8_neighbour wsX3_isPlace := goodIn_r _ [14, 15, 16, 13, 17, 18, 19, 20] (by decide +kernel) (by decide +kernel)
set_option maxRecDepth 20000 in
theorem gX8_neighbour_X3_isPlace : GoodIn wsX8_neighbour (va_wsS RX8 158 yX3_isPlace wsX3_isPlace) := goodIn_app (goodIn_of _ (by decide +kernel)) ggX8_neighbour_X3_isPlace
set_option maxRecDepth 20000 in
theorem ggX8_neighbour_X7_at : GoodIn wsX8_neighbour wsX7_at := goodIn_r _ [25, 26, 27, 79, 80] (by decide +kernel) (by decide +kernel)
set_option maxRecDepth 20000 in
theorem gX8_neighbour_X7_at : GoodIn wsX8_neighbour (wsV RX8 95 RX7 yX7_at wsX7_at) := goodIn_app (goodIn_of _ (by decide +kernel)) ggX8_neighbour_X7_at
set_option maxRecDepth 20000 in
theorem ggX8_neighbour_X6_nearest : GoodIn wsX8_neighbour wsX6_nearest := goodIn_r _ [32, 33, 34, 35, 36, 37, 38, 39, 40, 41, 42, 43, 44, 31, 45, 46, 47, 13, 48, 49, 50, 51, 52, 53, 54, 55, 56, 57, 58, 59, 60, 61, 62, 63, 64, 65, 66, 67, 68, 69, 70, 71, 72, 73, 81, 82, 83, 84, 85, 86, 87, 88, 89, 90, 91, 92, 93, 94, 95, 96] (by decide +kernel) (by decide +kernel)
set_option maxRecDepth 20000 in
theorem gX8_neighbour_X6_nearest : GoodIn wsX8_neighbour (wsV RX8 163 RX6 yX6_nearest wsX6_nearest) := goodIn_app (goodIn_of _ (by decide +kernel)) ggX8_neighbour_X6_nearest
theorem dX8_neighbour_0 : decode cX8_neighbour 0 = .ok (.aload_n 0, 1) := by decide +kernel
theorem dX8_neighbour_1 : decode cX8_neighbour 1 = .ok (.iload_n 1, 1) := by decide +kernel
theorem dX8_neighbour_2 : decode cX8_neighbour 2 = .ok (.invokevirtual 91, 3) := by decide +kernel
theorem dX8_neighbour_5 : decode cX8_neighbour 5 = .ok (.iload_n 2, 1) := by decide +kernel
theorem dX8_neighbour_6 : decode cX8_neighbour 6 = .ok (.invokestatic 158, 3) := by decide +kernel
theorem dX8_neighbour_9 : decode cX8_neighbour 9 = .ok (.ifCond .ne 13, 3) := by decide +kernel
theorem dX8_neighbour_12 : decode cX8_neighbour 12 = .ok (.new 51, 3) := by decide +kernel
theorem dX8_neighbour_15 : decode cX8_neighbour 15 = .ok (.dup, 1) := by decide +kernel
theorem dX8_neighbour_16 : decode cX8_neighbour 16 = .ok (.ldc 161, 2) := by decide +kernel
theorem dX8_neighbour_18 : decode cX8_neighbour 18 = .ok (.invokespecial 55, 3) := by decide +kernel
theorem dX8_neighbour_21 : decode cX8_neighbour 21 = .ok (.athrow, 1) := by decide +kernel
theorem dX8_neighbour_22 : decode cX8_neighbour 22 = .ok (.aload_n 0, 1) := by decide +kernel
theorem dX8_neighbour_23 : decode cX8_neighbour 23 = .ok (.getfield 10, 3) := by decide +kernel
theorem dX8_neighbour_26 : decode cX8_neighbour 26 = .ok (.iload_n 1, 1) := by decide +kernel
theorem dX8_neighbour_27 : decode cX8_neighbour 27 = .ok (.invokevirtual 95, 3) := by decide +kernel
theorem dX8_neighbour_30 : decode cX8_neighbour 30 = .ok (.iload_n 2, 1) := by decide +kernel
theorem dX8_neighbour_31 : decode cX8_neighbour 31 = .ok (.iload_n 3, 1) := by decide +kernel
theorem dX8_neighbour_32 : decode cX8_neighbour 32 = .ok (.invokevirtual 163, 3) := by decide +kernel
theorem dX8_neighbour_35 : decode cX8_neighbour 35 = .ok (.ireturn, 1) := by decide +kernel
set_option maxRecDepth 20000 in
theorem ggX8_resolve_X8_checkNameAndSort : GoodIn wsX8_resolve wsX8_checkNameAndSort := goodIn_ca (goodIn_r _ [6, 7, 8, 9, 10, 11, 12, 13, 14, 5, 15] (by decide +kernel) (by decide +kernel)) (goodIn_sub (fun _ h => List.mem_cons_of_mem _ (List.mem_append_right _ h)) (by decide +kernel))
set_option maxRecDepth 20000 in
theorem gX8_resolve_X8_checkNameAndSort : GoodIn wsX8_resolve (va_wsS RX8 131 yX8_checkNameAndSort wsX8_checkNameAndSort) := goodIn_app (goodIn_of _ (by decide +kernel)) ggX8_resolve_X8_checkNameAndSort
set_option maxRecDepth 20000 in
theorem ggX8_resolve_X5_run : GoodIn wsX8_resolve wsX5_run := goodIn_r _ [20, 21, 22, 23, 24, 25, 26, 27, 28, 29, 30, 31, 32, 33, 34, 35, 36, 37, 19, 38, 39, 40, 41, 42, 43, 44, 45, 46, 47, 48, 49, 50, 51, 52, 53, 54, 55, 56, 57, 58, 59, 60, 61, 62, 63, 64, 65, 66, 67, 68, 69, 70, 71, 72, 73, 74, 75, 76, 77, 78, 79, 80, 81, 82, 83, 84, 85, 86, 87, 88, 89, 90, 91, 92, 93, 94, 95, 96, 97, 98, 99, 100, 101, 102, 11, 103, 104, 105, 106, 107, 108, 109, 110, 111, 112, 113, 114, 115, 116, 117, 118, 119, 120, 121, 122, 123, 124, 125, 126, 127, 128, 129, 130, 131, 132, 133, 134, 135, 136, 137, 138, 139, 140, 141, 142, 143, 144, 145, 146, 147, 148, 149, 150, 151, 152, 153, 154, 155, 156, 157, 158, 159, 160, 161, 162, 163, 164, 165, 166, 167, 168, 169, 170, 171, 172, 173, 174, 175, 176, 177, 178, 179, 180, 181, 182, 183, 184, 185, 186, 187, 188, 189, 190, 191, 192, 193, 194, 195, 196, 197, 198, 199, 200, 201, 202, 203, 204, 205, 206, 207, 208, 209, 210, 211, 212, 213, 214, 215, 216, 217, 218, 219, 220, 221, 222, 223, 224, 225, 226, 227, 228, 229, 230, 231, 232, 233, 234, 235, 236, 237, 238, 239, 240, 241, 242, 243, 244, 245, 246, 247, 248, 249, 250, 264, 265, 266, 267, 268, 269, 270, 271, 272, 273, 274, 275, 276, 277, 278, 256, 257, 258, 259, 260, 261, 262, 263, 279, 280, 281, 282, 283, 284, 285, 286, 287, 288, 289, 290, 291, 292, 293, 294, 295, 296, 297, 298, 299, 300, 301, 302, 303, 304, 305, 306, 307] (by decide +kernel) (by decide +kernel)
set_option maxRecDepth 20000 in
theorem gX8_resolve_X5_run : GoodIn wsX8_resolve (wsV RX8 167 RX5 yX5_run wsX5_run) := goodIn_app (goodIn_of _ (by decide +kernel)) ggX8_resolve_X5_run
theorem dX8_resolve_0 : decode cX8_resolve 0 = .ok (.iload_n 1, 1) := by decide +kernel
theorem dX8_resolve_1 : decode cX8_resolve 1 = .ok (.iload_n 2, 1) := by decide +kernel
theorem dX8_resolve_2 : decode cX8_resolve 2 = .ok (.invokestatic 131, 3) := by decide +kernel
theorem dX8_resolve_5 : decode cX8_resolve 5 = .ok (.aload_n 0, 1) := by decide +kernel
theorem dX8_resolve_6 : decode cX8_resolve 6 = .ok (.getfield 28, 3) := by decide +kernel
theorem dX8_resolve_9 : decode cX8_resolve 9 = .ok (.iload_n 1, 1) := by decide +kernel
theorem dX8_resolve_10 : decode cX8_resolve 10 = .ok (.iload_n 2, 1) := by decide +kernel
theorem dX8_resolve_11 : decode cX8_resolve 11 = .ok (.iconst 0, 1) := by decide +kernel
theorem dX8_resolve_12 : decode cX8_resolve 12 = .ok (.aload_n 0, 1) := by decide +kernel
theorem dX8_resolve_13 : decode cX8_resolve 13 = .ok (.getfield 35, 3) := by decide +kernel
theorem dX8_resolve_16 : decode cX8_resolve 16 = .ok (.invokevirtual 167, 3) := by decide +kernel
theorem dX8_resolve_19 : decode cX8_resolve 19 = .ok (.aload_n 0, 1) := by decide +kernel
theorem dX8_resolve_20 : decode cX8_resolve 20 = .ok (.getfield 35, 3) := by decide +kernel
theorem dX8_resolve_23 : decode cX8_resolve 23 = .ok (.getfield 152, 3) := by decide +kernel
theorem dX8_resolve_26 : decode cX8_resolve 26 = .ok (.ireturn, 1) := by decide +kernel
set_option maxRecDepth 20000 in
theorem ggX8_resolveAnew_X8_checkNameAndSort : GoodIn wsX8_resolveAnew wsX8_checkNameAndSort := goodIn_ca (goodIn_r _ [6, 7, 8, 9, 10, 11, 12, 13, 14, 5, 15] (by decide +kernel) (by decide +kernel)) (goodIn_sub (fun _ h => List.mem_cons_of_mem _ (List.mem_append_right _ h)) (by decide +kernel))
set_option maxRecDepth 20000 in
theorem gX8_resolveAnew_X8_checkNameAndSort : GoodIn wsX8_resolveAnew (va_wsS RX8 131 yX8_checkNameAndSort wsX8_checkNameAndSort) := goodIn_app (goodIn_of _ (by decide +kernel)) ggX8_resolveAnew_X8_checkNameAndSort
set_option maxRecDepth 20000 in
theorem ggX8_resolveAnew_X5_run : GoodIn wsX8_resolveAnew wsX5_run := goodIn_r _ [20, 21, 22, 23, 24, 25, 26, 27, 28, 29, 30, 31, 32, 33, 34, 35, 36, 37, 19, 38, 39, 40, 41, 42, 43, 44, 45, 46, 47, 48, 49, 50, 51, 52, 53, 54, 55, 56, 57, 58, 59, 60, 61, 62, 63, 64, 65, 66, 67, 68, 69, 70, 71, 72, 73, 74, 75, 76, 77, 78, 79, 80, 81, 82, 83, 84, 85, 86, 87, 88, 89, 90, 91, 92, 93, 94, 95, 96, 97, 98, 99, 100, 101, 102, 11, 103, 104, 105, 106, 107, 108, 109, 110, 111, 112, 113, 114, 115, 116, 117, 118, 119, 120, 121, 122, 123, 124, 125, 126, 127, 128, 129, 130, 131, 132, 133, 134, 135, 136, 137, 138, 139, 140, 141, 142, 143, 144, 145, 146, 147, 148, 149, 150, 151, 152, 153, 154, 155, 156, 157, 158, 159, 160, 161, 162, 163, 164, 165, 166, 167, 168, 169, 170, 171, 172, 173, 174, 175, 176, 177, 178, 179, 180, 181, 182, 183, 184, 185, 186, 187, 188, 189, 190, 191, 192, 193, 194, 195, 196, 197, 198, 199, 200, 201, 202, 203, 204, 205, 206, 207, 208, 209, 210, 211, 212, 213, 214, 215, 216, 217, 218, 219, 220, 221, 222, 223, 224, 225, 226, 227, 228, 229, 230, 231, 232, 233, 234, 235, 236, 237, 238, 239, 240, 241, 242, 243, 244, 245, 246, 247, 248, 249, 250, 264, 265, 266, 267, 268, 269, 270, 271, 272, 273, 274, 275, 276, 277, 278, 256, 257, 258, 259, 260, 261, 262, 263, 279, 280, 281, 282, 283, 284, 285, 286, 287, 288, 289, 290, 291, 292, 293, 294, 295, 296, 297, 298, 299, 300, 301, 302, 303, 304, 305, 306, 307] (by decide +kernel) (by decide +kernel)
set_option maxRecDepth 20000 in
theorem gX8_resolveAnew_X5_run : GoodIn wsX8_resolveAnew (wsV RX8 167 RX5 yX5_run wsX5_run) := goodIn_app (goodIn_of _ (by decide +kernel)) ggX8_resolveAnew_X5_run
theorem dX8_resolveAnew_0 : decode cX8_resolveAnew 0 = .ok (.iload_n 1, 1) := by decide +kernel
theorem dX8_resolveAnew_1 : decode cX8_resolveAnew 1 = .ok (.iload_n 2, 1) := by decide +kernel
theorem dX8_resolveAnew_2 : decode cX8_resolveAnew 2 = .ok (.invokestatic 131, 3) := by decide +kernel
theorem dX8_resolveAnew_5 : decode cX8_resolveAnew 5 = .ok (.aload_n 0, 1) := by decide +kernel
theorem dX8_resolveAnew_6 : decode cX8_resolveAnew 6 = .ok (.getfield 28, 3) := by decide +kernel
theorem dX8_resolveAnew_9 : decode cX8_resolveAnew 9 = .ok (.iload_n 1, 1) := by decide +kernel
theorem dX8_resolveAnew_10 : decode cX8_resolveAnew 10 = .ok (.iload_n 2, 1) := by decide +kernel
theorem dX8_resolveAnew_11 : decode cX8_resolveAnew 11 = .ok (.iconst 1, 1) := by decide +kernel
theorem dX8_resolveAnew_12 : decode cX8_resolveAnew 12 = .ok (.aload_n 0, 1) := by decide +kernel
theorem dX8_resolveAnew_13 : decode cX8_resolveAnew 13 = .ok (.getfield 35, 3) := by decide +kernel
theorem dX8_resolveAnew_16 : decode cX8_resolveAnew 16 = .ok (.invokevirtual 167, 3) := by decide +kernel
theorem dX8_resolveAnew_19 : decode cX8_resolveAnew 19 = .ok (.aload_n 0, 1) := by decide +kernel
theorem dX8_resolveAnew_20 : decode cX8_resolveAnew 20 = .ok (.getfield 35, 3) := by decide +kernel
theorem dX8_resolveAnew_23 : decode cX8_resolveAnew 23 = .ok (.getfield 152, 3) := by decide +kernel
theorem dX8_resolveAnew_26 : decode cX8_resolveAnew 26 = .ok (.ireturn, 1) := by decide +kernel
set_option maxRecDepth 20000 in
theorem ggX8_forget_X2_clear : GoodIn wsX8_forget wsX2_clear := goodIn_r _ [6, 7, 8, 9, 10, 11, 5, 12, 13, 14, 15, 16, 17, 18, 19, 40, 41, 42, 43, 44, 45, 46, 47, 48, 49, 50] (by decide +kernel) (by decide +kernel)
set_option maxRecDepth 20000 in
theorem gX8_forget_X2_clear : GoodIn wsX8_forget (wsV RX8 178 RX2 yX2_clear wsX2_clear) := goodIn_app (goodIn_of _ (by decide +kernel)) ggX8_forget_X2_clear
theorem dX8_forget_0 : decode cX8_forget 0 = .ok (.aload_n 0, 1) := by decide +kernel
theorem dX8_forget_1 : decode cX8_forget 1 = .ok (.getfield 28, 3) := by decide +kernel
theorem dX8_forget_4 : decode cX8_forget 4 = .ok (.getfield 171, 3) := by decide +kernel
theorem dX8_forget_7 : decode cX8_forget 7 = .ok (.aload_n 0, 1) := by decide +kernel
theorem dX8_forget_8 : decode cX8_forget 8 = .ok (.getfield 28, 3) := by decide +kernel
theorem dX8_forget_11 : decode cX8_forget 11 = .ok (.getfield 175, 3) := by decide +kernel
theorem dX8_forget_14 : decode cX8_forget 14 = .ok (.invokevirtual 178, 3) := by decide +kernel
theorem dX8_forget_17 : decode cX8_forget 17 = .ok (.ireturn, 1) := by decide +kernel
theorem dX8_pass_0 : decode cX8_pass 0 = .ok (.iload_n 1, 1) := by decide +kernel
theorem dX8_pass_1 : decode cX8_pass 1 = .ok (.iconst 1, 1) := by decide +kernel
theorem dX8_pass_2 : decode cX8_pass 2 = .ok (.if_icmp .lt 9, 3) := by decide +kernel
theorem dX8_pass_5 : decode cX8_pass 5 = .ok (.iload_n 1, 1) := by decide +kernel
theorem dX8_pass_6 : decode cX8_pass 6 = .ok (.bipush 100, 2) := by decide +kernel
theorem dX8_pass_8 : decode cX8_pass 8 = .ok (.if_icmp .le 13, 3) := by decide +kernel
theorem dX8_pass_11 : decode cX8_pass 11 = .ok (.new 51, 3) := by decide +kernel
theorem dX8_pass_14 : decode cX8_pass 14 = .ok (.dup, 1) := by decide +kernel
theorem dX8_pass_15 : decode cX8_pass 15 = .ok (.ldc 183, 2) := by decide +kernel
theorem dX8_pass_17 : decode cX8_pass 17 = .ok (.invokespecial 55, 3) := by decide +kernel
theorem dX8_pass_20 : decode cX8_pass 20 = .ok (.athrow, 1) := by decide +kernel
theorem dX8_pass_21 : decode cX8_pass 21 = .ok (.aload_n 0, 1) := by decide +kernel
theorem dX8_pass_22 : decode cX8_pass 22 = .ok (.getfield 28, 3) := by decide +kernel
theorem dX8_pass_25 : decode cX8_pass 25 = .ok (.dup, 1) := by decide +kernel
theorem dX8_pass_26 : decode cX8_pass 26 = .ok (.getfield 175, 3) := by decide +kernel
theorem dX8_pass_29 : decode cX8_pass 29 = .ok (.iload_n 1, 1) := by decide +kernel
theorem dX8_pass_30 : decode cX8_pass 30 = .ok (.iadd, 1) := by decide +kernel
theorem dX8_pass_31 : decode cX8_pass 31 = .ok (.putfield 175, 3) := by decide +kernel
theorem dX8_pass_34 : decode cX8_pass 34 = .ok (.aload_n 0, 1) := by decide +kernel
theorem dX8_pass_35 : decode cX8_pass 35 = .ok (.getfield 28, 3) := by decide +kernel
theorem dX8_pass_38 : decode cX8_pass 38 = .ok (.getfield 175, 3) := by decide +kernel
theorem dX8_pass_41 : decode cX8_pass 41 = .ok (.ireturn, 1) := by decide +kernel
set_option maxRecDepth 20000 in
theorem ggX8_setKey_X8_checkZone : GoodIn wsX8_setKey wsX8_checkZone := goodIn_ca (goodIn_r _ [8, 9, 10, 3, 28, 29, 30, 31, 32, 33, 34] (by decide +kernel) (by decide +kernel)) (goodIn_sub (fun _ h => List.mem_cons_of_mem _ (List.mem_append_right _ h)) (by decide +kernel))
set_option maxRecDepth 20000 in
theorem gX8_setKey_X8_checkZone : GoodIn wsX8_setKey (wsV RX8 91 RX8 yX8_checkZone wsX8_checkZone) := goodIn_app (goodIn_of _ (by decide +kernel)) ggX8_setKey_X8_checkZone
set_option maxRecDepth 20000 in
theorem ggX8_setKey_X8_isKeyOrNone : GoodIn wsX8_setKey wsX8_isKeyOrNone := goodIn_r _ [13] (by decide +kernel) (by decide +kernel)
set_option maxRecDepth 20000 in
theorem gX8_setKey_X8_isKeyOrNone : GoodIn wsX8_setKey (va_wsS RX8 185 yX8_isKeyOrNone wsX8_isKeyOrNone) := goodIn_app (goodIn_of _ (by decide +kernel)) ggX8_setKey_X8_isKeyOrNone
set_option maxRecDepth 20000 in
theorem ggX8_setKey_X7_at : GoodIn wsX8_setKey wsX7_at := goodIn_r _ [18, 19, 20, 33, 34] (by decide +kernel) (by decide +kernel)
set_option maxRecDepth 20000 in
theorem gX8_setKey_X7_at : GoodIn wsX8_setKey (wsV RX8 95 RX7 yX7_at wsX7_at) := goodIn_app (goodIn_of _ (by decide +kernel)) ggX8_setKey_X7_at
set_option maxRecDepth 20000 in
theorem ggX8_setKey_X6_changeKey : GoodIn wsX8_setKey wsX6_changeKey := goodIn_r _ [25, 26, 27, 35, 36, 37, 38, 39, 40, 41, 42, 43, 44, 45] (by decide +kernel) (by decide +kernel)
set_option maxRecDepth 20000 in
theorem gX8_setKey_X6_changeKey : GoodIn wsX8_setKey (wsV RX8 190 RX6 yX6_changeKey wsX6_changeKey) := goodIn_app (goodIn_of _ (by decide +kernel)) ggX8_setKey_X6_changeKey
theorem dX8_setKey_0 : decode cX8_setKey 0 = .ok (.aload_n 0, 1) := by decide +kernel
theorem dX8_setKey_1 : decode cX8_setKey 1 = .ok (.iload_n 1, 1) := by decide +kernel
theorem dX8_setKey_2 : decode cX8_setKey 2 = .ok (.invokevirtual 91, 3) := by decide +kernel
theorem dX8_setKey_5 : decode cX8_setKey 5 = .ok (.iload_n 2, 1) := by decide +kernel
theorem dX8_setKey_6 : decode cX8_setKey 6 = .ok (.ifCond .lt 15, 3) := by decide +kernel
theorem dX8_setKey_9 : decode cX8_setKey 9 = .ok (.iload_n 2, 1) := by decide +kernel
theorem dX8_setKey_10 : decode cX8_setKey 10 = .ok (.iconst 1, 1) := by decide +kernel
theorem dX8_setKey_11 : decode cX8_setKey 11 = .ok (.if_icmp .gt 10, 3) := by decide +kernel
theorem dX8_setKey_14 : decode cX8_setKey 14 = .ok (.iload_n 3, 1) := by decide +kernel
theorem dX8_setKey_15 : decode cX8_setKey 15 = .ok (.invokestatic 185, 3) := by decide +kernel
theorem dX8_setKey_18 : decode cX8_setKey 18 = .ok (.ifCond .ne 13, 3) := by decide +kernel
theorem dX8_setKey_21 : decode cX8_setKey 21 = .ok (.new 51, 3) := by decide +kernel
theorem dX8_setKey_24 : decode cX8_setKey 24 = .ok (.dup, 1) := by decide +kernel
theorem dX8_setKey_25 : decode cX8_setKey 25 = .ok (.ldc 188, 2) := by decide +kernel
theorem dX8_setKey_27 : decode cX8_setKey 27 = .ok (.invokespecial 55, 3) := by decide +kernel
theorem dX8_setKey_30 : decode cX8_setKey 30 = .ok (.athrow, 1) := by decide +kernel
theorem dX8_setKey_31 : decode cX8_setKey 31 = .ok (.aload_n 0, 1) := by decide +kernel
theorem dX8_setKey_32 : decode cX8_setKey 32 = .ok (.getfield 10, 3) := by decide +kernel
theorem dX8_setKey_35 : decode cX8_setKey 35 = .ok (.iload_n 1, 1) := by decide +kernel
theorem dX8_setKey_36 : decode cX8_setKey 36 = .ok (.invokevirtual 95, 3) := by decide +kernel
theorem dX8_setKey_39 : decode cX8_setKey 39 = .ok (.iload_n 2, 1) := by decide +kernel
theorem dX8_setKey_40 : decode cX8_setKey 40 = .ok (.iload_n 3, 1) := by decide +kernel
theorem dX8_setKey_41 : decode cX8_setKey 41 = .ok (.invokevirtual 190, 3) := by decide +kernel
theorem dX8_setKey_44 : decode cX8_setKey 44 = .ok (.ireturn, 1) := by decide +kernel
set_option maxRecDepth 20000 in
theorem ggX8_setWindow_X8_checkZone : GoodIn wsX8_setWindow wsX8_checkZone := goodIn_ca (goodIn_r _ [8, 9, 10, 3, 18, 19, 20, 21, 22, 34, 35] (by decide +kernel) (by decide +kernel)) (goodIn_sub (fun _ h => List.mem_cons_of_mem _ (List.mem_append_right _ h)) (by decide +kernel))
set_option maxRecDepth 20000 in
theorem gX8_setWindow_X8_checkZone : GoodIn wsX8_setWindow (wsV RX8 91 RX8 yX8_checkZone wsX8_checkZone) := goodIn_app (goodIn_of _ (by decide +kernel)) ggX8_setWindow_X8_checkZone
set_option maxRecDepth 20000 in
theorem ggX8_setWindow_X7_at : GoodIn wsX8_setWindow wsX7_at := goodIn_r _ [15, 16, 17, 34, 35] (by decide +kernel) (by decide +kernel)
set_option maxRecDepth 20000 in
theorem gX8_setWindow_X7_at : GoodIn wsX8_setWindow (wsV RX8 95 RX7 yX7_at wsX7_at) := goodIn_app (goodIn_of _ (by decide +kernel)) ggX8_setWindow_X7_at
theorem dX8_setWindow_0 : decode cX8_setWindow 0 = .ok (.aload_n 0, 1) := by decide +kernel
theorem dX8_setWindow_1 : decode cX8_setWindow 1 = .ok (.iload_n 1, 1) := by decide +kernel
theorem dX8_setWindow_2 : decode cX8_setWindow 2 = .ok (.invokevirtual 91, 3) := by decide +kernel
theorem dX8_setWindow_5 : decode cX8_setWindow 5 = .ok (.iload_n 2, 1) := by decide +kernel
theorem dX8_setWindow_6 : decode cX8_setWindow 6 = .ok (.ifCond .lt 15, 3) := by decide +kernel
theorem dX8_setWindow_9 : decode cX8_setWindow 9 = .ok (.iload_n 3, 1) := by decide +kernel
theorem dX8_setWindow_10 : decode cX8_setWindow 10 = .ok (.iload_n 2, 1) := by decide +kernel
theorem dX8_setWindow_11 : decode cX8_setWindow 11 = .ok (.if_icmp .lt 10, 3) := by decide +kernel
theorem dX8_setWindow_14 : decode cX8_setWindow 14 = .ok (.iload_n 3, 1) := by decide +kernel
theorem dX8_setWindow_15 : decode cX8_setWindow 15 = .ok (.sipush 10000, 3) := by decide +kernel
theorem dX8_setWindow_18 : decode cX8_setWindow 18 = .ok (.if_icmp .le 13, 3) := by decide +kernel
theorem dX8_setWindow_21 : decode cX8_setWindow 21 = .ok (.new 51, 3) := by decide +kernel
theorem dX8_setWindow_24 : decode cX8_setWindow 24 = .ok (.dup, 1) := by decide +kernel
theorem dX8_setWindow_25 : decode cX8_setWindow 25 = .ok (.ldc 193, 2) := by decide +kernel
theorem dX8_setWindow_27 : decode cX8_setWindow 27 = .ok (.invokespecial 55, 3) := by decide +kernel
theorem dX8_setWindow_30 : decode cX8_setWindow 30 = .ok (.athrow, 1) := by decide +kernel
theorem dX8_setWindow_31 : decode cX8_setWindow 31 = .ok (.aload_n 0, 1) := by decide +kernel
theorem dX8_setWindow_32 : decode cX8_setWindow 32 = .ok (.getfield 10, 3) := by decide +kernel
theorem dX8_setWindow_35 : decode cX8_setWindow 35 = .ok (.iload_n 1, 1) := by decide +kernel
theorem dX8_setWindow_36 : decode cX8_setWindow 36 = .ok (.invokevirtual 95, 3) := by decide +kernel
theorem dX8_setWindow_39 : decode cX8_setWindow 39 = .ok (.astore 4, 2) := by decide +kernel
theorem dX8_setWindow_41 : decode cX8_setWindow 41 = .ok (.aload 4, 2) := by decide +kernel
theorem dX8_setWindow_43 : decode cX8_setWindow 43 = .ok (.iload_n 2, 1) := by decide +kernel
theorem dX8_setWindow_44 : decode cX8_setWindow 44 = .ok (.putfield 195, 3) := by decide +kernel
theorem dX8_setWindow_47 : decode cX8_setWindow 47 = .ok (.aload 4, 2) := by decide +kernel
theorem dX8_setWindow_49 : decode cX8_setWindow 49 = .ok (.iload_n 3, 1) := by decide +kernel
theorem dX8_setWindow_50 : decode cX8_setWindow 50 = .ok (.putfield 198, 3) := by decide +kernel
theorem dX8_setWindow_53 : decode cX8_setWindow 53 = .ok (.return_, 1) := by decide +kernel
set_option maxRecDepth 20000 in
theorem ggX8_setAnchor_X8_isKeyOrNone : GoodIn wsX8_setAnchor wsX8_isKeyOrNone := goodIn_r _ [7] (by decide +kernel) (by decide +kernel)
set_option maxRecDepth 20000 in
theorem gX8_setAnchor_X8_isKeyOrNone : GoodIn wsX8_setAnchor (va_wsS RX8 185 yX8_isKeyOrNone wsX8_isKeyOrNone) := goodIn_app (goodIn_of _ (by decide +kernel)) ggX8_setAnchor_X8_isKeyOrNone
theorem dX8_setAnchor_0 : decode cX8_setAnchor 0 = .ok (.iload_n 1, 1) := by decide +kernel
theorem dX8_setAnchor_1 : decode cX8_setAnchor 1 = .ok (.invokestatic 185, 3) := by decide +kernel
theorem dX8_setAnchor_4 : decode cX8_setAnchor 4 = .ok (.ifCond .ne 13, 3) := by decide +kernel
theorem dX8_setAnchor_7 : decode cX8_setAnchor 7 = .ok (.new 51, 3) := by decide +kernel
theorem dX8_setAnchor_10 : decode cX8_setAnchor 10 = .ok (.dup, 1) := by decide +kernel
theorem dX8_setAnchor_11 : decode cX8_setAnchor 11 = .ok (.ldc 201, 2) := by decide +kernel
theorem dX8_setAnchor_13 : decode cX8_setAnchor 13 = .ok (.invokespecial 55, 3) := by decide +kernel
theorem dX8_setAnchor_16 : decode cX8_setAnchor 16 = .ok (.athrow, 1) := by decide +kernel
theorem dX8_setAnchor_17 : decode cX8_setAnchor 17 = .ok (.aload_n 0, 1) := by decide +kernel
theorem dX8_setAnchor_18 : decode cX8_setAnchor 18 = .ok (.getfield 28, 3) := by decide +kernel
theorem dX8_setAnchor_21 : decode cX8_setAnchor 21 = .ok (.getfield 203, 3) := by decide +kernel
theorem dX8_setAnchor_24 : decode cX8_setAnchor 24 = .ok (.istore_n 2, 1) := by decide +kernel
theorem dX8_setAnchor_25 : decode cX8_setAnchor 25 = .ok (.aload_n 0, 1) := by decide +kernel
theorem dX8_setAnchor_26 : decode cX8_setAnchor 26 = .ok (.getfield 28, 3) := by decide +kernel
theorem dX8_setAnchor_29 : decode cX8_setAnchor 29 = .ok (.iload_n 1, 1) := by decide +kernel
theorem dX8_setAnchor_30 : decode cX8_setAnchor 30 = .ok (.putfield 203, 3) := by decide +kernel
theorem dX8_setAnchor_33 : decode cX8_setAnchor 33 = .ok (.iload_n 2, 1) := by decide +kernel
theorem dX8_setAnchor_34 : decode cX8_setAnchor 34 = .ok (.ireturn, 1) := by decide +kernel
set_option maxRecDepth 20000 in
theorem ggX8_trust_X8_checkNameAndSort : GoodIn wsX8_trust wsX8_checkNameAndSort := goodIn_ca (goodIn_r _ [6, 7, 8, 9, 10, 11, 12, 13, 14, 5, 15] (by decide +kernel) (by decide +kernel)) (goodIn_sub (fun _ h => List.mem_cons_of_mem _ (List.mem_append_right _ h)) (by decide +kernel))
set_option maxRecDepth 20000 in
theorem gX8_trust_X8_checkNameAndSort : GoodIn wsX8_trust (va_wsS RX8 131 yX8_checkNameAndSort wsX8_checkNameAndSort) := goodIn_app (goodIn_of _ (by decide +kernel)) ggX8_trust_X8_checkNameAndSort
set_option maxRecDepth 20000 in
theorem ggX8_trust_X5_run : GoodIn wsX8_trust wsX5_run := goodIn_r _ [20, 21, 22, 23, 24, 25, 26, 27, 28, 29, 30, 31, 32, 33, 34, 35, 36, 37, 19, 38, 39, 40, 41, 42, 43, 44, 45, 46, 47, 48, 49, 50, 51, 52, 53, 54, 55, 56, 57, 58, 59, 60, 61, 62, 63, 64, 65, 66, 67, 68, 69, 70, 71, 72, 73, 74, 75, 76, 77, 78, 79, 80, 81, 82, 83, 84, 85, 86, 87, 88, 89, 90, 91, 92, 93, 94, 95, 96, 97, 98, 99, 100, 101, 102, 11, 103, 104, 105, 106, 107, 108, 109, 110, 111, 112, 113, 114, 115, 116, 117, 118, 119, 120, 121, 122, 123, 124, 125, 126, 127, 128, 129, 130, 131, 132, 133, 134, 135, 136, 137, 138, 139, 140, 141, 142, 143, 144, 145, 146, 147, 148, 149, 150, 151, 152, 153, 154, 155, 156, 157, 158, 159, 160, 161, 162, 163, 164, 165, 166, 167, 168, 169, 170, 171, 172, 173, 174, 175, 176, 177, 178, 179, 180, 181, 182, 183, 184, 185, 186, 187, 188, 189, 190, 191, 192, 193, 194, 195, 196, 197, 198, 199, 200, 201, 202, 203, 204, 205, 206, 207, 208, 209, 210, 211, 212, 213, 214, 215, 216, 217, 218, 219, 220, 221, 222, 223, 224, 225, 226, 227, 228, 229, 230, 231, 232, 233, 234, 235, 236, 237, 238, 239, 240, 241, 242, 243, 244, 245, 246, 247, 248, 249, 250, 264, 265, 266, 267, 268, 269, 270, 271, 272, 273, 274, 275, 276, 277, 278, 256, 257, 258, 259, 260, 261, 262, 263, 279, 280, 281, 282, 283, 284, 285, 286, 287, 288, 289, 290, 291, 292, 293, 294, 295, 296, 297, 298, 299, 300, 301, 302, 303, 304, 305, 306, 307] (by decide +kernel) (by decide +kernel)
set_option maxRecDepth 20000 in
theorem gX8_trust_X5_run : GoodIn wsX8_trust (wsV RX8 167 RX5 yX5_run wsX5_run) := goodIn_app (goodIn_of _ (by decide +kernel)) ggX8_trust_X5_run
theorem dX8_trust_0 : decode cX8_trust 0 = .ok (.iload_n 1, 1) := by decide +kernel
theorem dX8_trust_1 : decode cX8_trust 1 = .ok (.iload_n 2, 1) := by decide +kernel
theorem dX8_trust_2 : decode cX8_trust 2 = .ok (.invokestatic 131, 3) := by decide +kernel
theorem dX8_trust_5 : decode cX8_trust 5 = .ok (.aload_n 0, 1) := by decide +kernel
theorem dX8_trust_6 : decode cX8_trust 6 = .ok (.getfield 28, 3) := by decide +kernel
theorem dX8_trust_9 : decode cX8_trust 9 = .ok (.iload_n 1, 1) := by decide +kernel
theorem dX8_trust_10 : decode cX8_trust 10 = .ok (.iload_n 2, 1) := by decide +kernel
theorem dX8_trust_11 : decode cX8_trust 11 = .ok (.iconst 1, 1) := by decide +kernel
theorem dX8_trust_12 : decode cX8_trust 12 = .ok (.aload_n 0, 1) := by decide +kernel
theorem dX8_trust_13 : decode cX8_trust 13 = .ok (.getfield 39, 3) := by decide +kernel
theorem dX8_trust_16 : decode cX8_trust 16 = .ok (.invokevirtual 167, 3) := by decide +kernel
theorem dX8_trust_19 : decode cX8_trust 19 = .ok (.aload_n 0, 1) := by decide +kernel
theorem dX8_trust_20 : decode cX8_trust 20 = .ok (.getfield 39, 3) := by decide +kernel
theorem dX8_trust_23 : decode cX8_trust 23 = .ok (.getfield 152, 3) := by decide +kernel
theorem dX8_trust_26 : decode cX8_trust 26 = .ok (.bipush 6, 2) := by decide +kernel
theorem dX8_trust_28 : decode cX8_trust 28 = .ok (.if_icmp .ne 7, 3) := by decide +kernel
theorem dX8_trust_31 : decode cX8_trust 31 = .ok (.iconst (-1), 1) := by decide +kernel
theorem dX8_trust_32 : decode cX8_trust 32 = .ok (.goto 10, 3) := by decide +kernel
theorem dX8_trust_35 : decode cX8_trust 35 = .ok (.aload_n 0, 1) := by decide +kernel
theorem dX8_trust_36 : decode cX8_trust 36 = .ok (.getfield 28, 3) := by decide +kernel
theorem dX8_trust_39 : decode cX8_trust 39 = .ok (.getfield 206, 3) := by decide +kernel
theorem dX8_trust_42 : decode cX8_trust 42 = .ok (.ireturn, 1) := by decide +kernel
theorem dX8_checkZone_0 : decode cX8_checkZone 0 = .ok (.iload_n 1, 1) := by decide +kernel
theorem dX8_checkZone_1 : decode cX8_checkZone 1 = .ok (.ifCond .lt 14, 3) := by decide +kernel
theorem dX8_checkZone_4 : decode cX8_checkZone 4 = .ok (.iload_n 1, 1) := by decide +kernel
theorem dX8_checkZone_5 : decode cX8_checkZone 5 = .ok (.aload_n 0, 1) := by decide +kernel
theorem dX8_checkZone_6 : decode cX8_checkZone 6 = .ok (.getfield 10, 3) := by decide +kernel
theorem dX8_checkZone_9 : decode cX8_checkZone 9 = .ok (.getfield 58, 3) := by decide +kernel
theorem dX8_checkZone_12 : decode cX8_checkZone 12 = .ok (.if_icmp .lt 13, 3) := by decide +kernel
theorem dX8_checkZone_15 : decode cX8_checkZone 15 = .ok (.new 209, 3) := by decide +kernel
theorem dX8_checkZone_18 : decode cX8_checkZone 18 = .ok (.dup, 1) := by decide +kernel
theorem dX8_checkZone_19 : decode cX8_checkZone 19 = .ok (.ldc 211, 2) := by decide +kernel
theorem dX8_checkZone_21 : decode cX8_checkZone 21 = .ok (.invokespecial 213, 3) := by decide +kernel
theorem dX8_checkZone_24 : decode cX8_checkZone 24 = .ok (.athrow, 1) := by decide +kernel
theorem dX8_checkZone_25 : decode cX8_checkZone 25 = .ok (.return_, 1) := by decide +kernel
theorem dX8_checkRoomToTell_0 : decode cX8_checkRoomToTell 0 = .ok (.aload_n 0, 1) := by decide +kernel
theorem dX8_checkRoomToTell_1 : decode cX8_checkRoomToTell 1 = .ok (.getfield 19, 3) := by decide +kernel
theorem dX8_checkRoomToTell_4 : decode cX8_checkRoomToTell 4 = .ok (.getfield 214, 3) := by decide +kernel
theorem dX8_checkRoomToTell_7 : decode cX8_checkRoomToTell 7 = .ok (.bipush 10, 2) := by decide +kernel
theorem dX8_checkRoomToTell_9 : decode cX8_checkRoomToTell 9 = .ok (.if_icmp .lt 13, 3) := by decide +kernel
theorem dX8_checkRoomToTell_12 : decode cX8_checkRoomToTell 12 = .ok (.new 65, 3) := by decide +kernel
theorem dX8_checkRoomToTell_15 : decode cX8_checkRoomToTell 15 = .ok (.dup, 1) := by decide +kernel
theorem dX8_checkRoomToTell_16 : decode cX8_checkRoomToTell 16 = .ok (.ldc 215, 2) := by decide +kernel
theorem dX8_checkRoomToTell_18 : decode cX8_checkRoomToTell 18 = .ok (.invokespecial 69, 3) := by decide +kernel
theorem dX8_checkRoomToTell_21 : decode cX8_checkRoomToTell 21 = .ok (.athrow, 1) := by decide +kernel
theorem dX8_checkRoomToTell_22 : decode cX8_checkRoomToTell 22 = .ok (.return_, 1) := by decide +kernel
set_option maxRecDepth 20000 in
theorem ggX8_checkPlaceAndSort_X3_isPlace : GoodIn wsX8_checkPlaceAndSort wsX3_isPlace := goodIn_r _ [6, 7, 8, 5, 9, 10, 11, 12] (by decide +kernel) (by decide +kernel)
set_option maxRecDepth 20000 in
theorem gX8_checkPlaceAndSort_X3_isPlace : GoodIn wsX8_checkPlaceAndSort (va_wsS RX8 158 yX3_isPlace wsX3_isPlace) := goodIn_app (goodIn_of _ (by decide +kernel)) ggX8_checkPlaceAndSort_X3_isPlace
set_option maxRecDepth 20000 in
theorem ggX8_checkPlaceAndSort_X8_isSort : GoodIn wsX8_checkPlaceAndSort wsX8_isSort := goodIn_r _ [16] (by decide +kernel) (by decide +kernel)
set_option maxRecDepth 20000 in
theorem gX8_checkPlaceAndSort_X8_isSort : GoodIn wsX8_checkPlaceAndSort (va_wsS RX8 217 yX8_isSort wsX8_isSort) := goodIn_app (goodIn_of _ (by decide +kernel)) ggX8_checkPlaceAndSort_X8_isSort
theorem dX8_checkPlaceAndSort_0 : decode cX8_checkPlaceAndSort 0 = .ok (.iload_n 0, 1) := by decide +kernel
theorem dX8_checkPlaceAndSort_1 : decode cX8_checkPlaceAndSort 1 = .ok (.invokestatic 158, 3) := by decide +kernel
theorem dX8_checkPlaceAndSort_4 : decode cX8_checkPlaceAndSort 4 = .ok (.ifCond .eq 10, 3) := by decide +kernel
theorem dX8_checkPlaceAndSort_7 : decode cX8_checkPlaceAndSort 7 = .ok (.iload_n 1, 1) := by decide +kernel
theorem dX8_checkPlaceAndSort_8 : decode cX8_checkPlaceAndSort 8 = .ok (.invokestatic 217, 3) := by decide +kernel
theorem dX8_checkPlaceAndSort_11 : decode cX8_checkPlaceAndSort 11 = .ok (.ifCond .ne 13, 3) := by decide +kernel
theorem dX8_checkPlaceAndSort_14 : decode cX8_checkPlaceAndSort 14 = .ok (.new 51, 3) := by decide +kernel
theorem dX8_checkPlaceAndSort_17 : decode cX8_checkPlaceAndSort 17 = .ok (.dup, 1) := by decide +kernel
theorem dX8_checkPlaceAndSort_18 : decode cX8_checkPlaceAndSort 18 = .ok (.ldc 220, 2) := by decide +kernel
theorem dX8_checkPlaceAndSort_20 : decode cX8_checkPlaceAndSort 20 = .ok (.invokespecial 55, 3) := by decide +kernel
theorem dX8_checkPlaceAndSort_23 : decode cX8_checkPlaceAndSort 23 = .ok (.athrow, 1) := by decide +kernel
theorem dX8_checkPlaceAndSort_24 : decode cX8_checkPlaceAndSort 24 = .ok (.return_, 1) := by decide +kernel
set_option maxRecDepth 20000 in
theorem ggX8_checkNameAndSort_X3_isName : GoodIn wsX8_checkNameAndSort wsX3_isName := goodIn_r _ [6] (by decide +kernel) (by decide +kernel)
set_option maxRecDepth 20000 in
theorem gX8_checkNameAndSort_X3_isName : GoodIn wsX8_checkNameAndSort (va_wsS RX8 42 yX3_isName wsX3_isName) := goodIn_app (goodIn_of _ (by decide +kernel)) ggX8_checkNameAndSort_X3_isName
set_option maxRecDepth 20000 in
theorem ggX8_checkNameAndSort_X8_isSort : GoodIn wsX8_checkNameAndSort wsX8_isSort := goodIn_r _ [10] (by decide +kernel) (by decide +kernel)
set_option maxRecDepth 20000 in
theorem gX8_checkNameAndSort_X8_isSort : GoodIn wsX8_checkNameAndSort (va_wsS RX8 217 yX8_isSort wsX8_isSort) := goodIn_app (goodIn_of _ (by decide +kernel)) ggX8_checkNameAndSort_X8_isSort
theorem dX8_checkNameAndSort_0 : decode cX8_checkNameAndSort 0 = .ok (.iload_n 0, 1) := by decide +kernel
theorem dX8_checkNameAndSort_1 : decode cX8_checkNameAndSort 1 = .ok (.invokestatic 42, 3) := by decide +kernel
theorem dX8_checkNameAndSort_4 : decode cX8_checkNameAndSort 4 = .ok (.ifCond .eq 10, 3) := by decide +kernel
theorem dX8_checkNameAndSort_7 : decode cX8_checkNameAndSort 7 = .ok (.iload_n 1, 1) := by decide +kernel
theorem dX8_checkNameAndSort_8 : decode cX8_checkNameAndSort 8 = .ok (.invokestatic 217, 3) := by decide +kernel
theorem dX8_checkNameAndSort_11 : decode cX8_checkNameAndSort 11 = .ok (.ifCond .ne 13, 3) := by decide +kernel
theorem dX8_checkNameAndSort_14 : decode cX8_checkNameAndSort 14 = .ok (.new 51, 3) := by decide +kernel
theorem dX8_checkNameAndSort_17 : decode cX8_checkNameAndSort 17 = .ok (.dup, 1) := by decide +kernel
theorem dX8_checkNameAndSort_18 : decode cX8_checkNameAndSort 18 = .ok (.ldc 220, 2) := by decide +kernel
theorem dX8_checkNameAndSort_20 : decode cX8_checkNameAndSort 20 = .ok (.invokespecial 55, 3) := by decide +kernel
theorem dX8_checkNameAndSort_23 : decode cX8_checkNameAndSort 23 = .ok (.athrow, 1) := by decide +kernel
theorem dX8_checkNameAndSort_24 : decode cX8_checkNameAndSort 24 = .ok (.return_, 1) := by decide +kernel
theorem dX8_isSort_0 : decode cX8_isSort 0 = .ok (.iload_n 0, 1) := by decide +kernel
theorem dX8_isSort_1 : decode cX8_isSort 1 = .ok (.ifCond .lt 12, 3) := by decide +kernel
theorem dX8_isSort_4 : decode cX8_isSort 4 = .ok (.iload_n 0, 1) := by decide +kernel
theorem dX8_isSort_5 : decode cX8_isSort 5 = .ok (.iconst 4, 1) := by decide +kernel
theorem dX8_isSort_6 : decode cX8_isSort 6 = .ok (.if_icmp .gt 7, 3) := by decide +kernel
theorem dX8_isSort_9 : decode cX8_isSort 9 = .ok (.iconst 1, 1) := by decide +kernel
theorem dX8_isSort_10 : decode cX8_isSort 10 = .ok (.goto 4, 3) := by decide +kernel
theorem dX8_isSort_13 : decode cX8_isSort 13 = .ok (.iconst 0, 1) := by decide +kernel
theorem dX8_isSort_14 : decode cX8_isSort 14 = .ok (.ireturn, 1) := by decide +kernel
theorem dX8_isLife_0 : decode cX8_isLife 0 = .ok (.iload_n 0, 1) := by decide +kernel
theorem dX8_isLife_1 : decode cX8_isLife 1 = .ok (.iconst 1, 1) := by decide +kernel
theorem dX8_isLife_2 : decode cX8_isLife 2 = .ok (.if_icmp .lt 13, 3) := by decide +kernel
theorem dX8_isLife_5 : decode cX8_isLife 5 = .ok (.iload_n 0, 1) := by decide +kernel
theorem dX8_isLife_6 : decode cX8_isLife 6 = .ok (.bipush 50, 2) := by decide +kernel
theorem dX8_isLife_8 : decode cX8_isLife 8 = .ok (.if_icmp .gt 7, 3) := by decide +kernel
theorem dX8_isLife_11 : decode cX8_isLife 11 = .ok (.iconst 1, 1) := by decide +kernel
theorem dX8_isLife_12 : decode cX8_isLife 12 = .ok (.goto 4, 3) := by decide +kernel
theorem dX8_isLife_15 : decode cX8_isLife 15 = .ok (.iconst 0, 1) := by decide +kernel
theorem dX8_isLife_16 : decode cX8_isLife 16 = .ok (.ireturn, 1) := by decide +kernel
theorem dX8_isKeyOrNone_0 : decode cX8_isKeyOrNone 0 = .ok (.iload_n 0, 1) := by decide +kernel
theorem dX8_isKeyOrNone_1 : decode cX8_isKeyOrNone 1 = .ok (.iconst (-1), 1) := by decide +kernel
theorem dX8_isKeyOrNone_2 : decode cX8_isKeyOrNone 2 = .ok (.if_icmp .eq 13, 3) := by decide +kernel
theorem dX8_isKeyOrNone_5 : decode cX8_isKeyOrNone 5 = .ok (.iload_n 0, 1) := by decide +kernel
theorem dX8_isKeyOrNone_6 : decode cX8_isKeyOrNone 6 = .ok (.ifCond .lt 13, 3) := by decide +kernel
theorem dX8_isKeyOrNone_9 : decode cX8_isKeyOrNone 9 = .ok (.iload_n 0, 1) := by decide +kernel
theorem dX8_isKeyOrNone_10 : decode cX8_isKeyOrNone 10 = .ok (.bipush 100, 2) := by decide +kernel
theorem dX8_isKeyOrNone_12 : decode cX8_isKeyOrNone 12 = .ok (.if_icmp .ge 7, 3) := by decide +kernel
theorem dX8_isKeyOrNone_15 : decode cX8_isKeyOrNone 15 = .ok (.iconst 1, 1) := by decide +kernel
theorem dX8_isKeyOrNone_16 : decode cX8_isKeyOrNone 16 = .ok (.goto 4, 3) := by decide +kernel
theorem dX8_isKeyOrNone_19 : decode cX8_isKeyOrNone 19 = .ok (.iconst 0, 1) := by decide +kernel
theorem dX8_isKeyOrNone_20 : decode cX8_isKeyOrNone 20 = .ok (.ireturn, 1) := by decide +kernel
set_option maxRecDepth 20000 in
theorem ggX8_isNumberOf_X3_isName : GoodIn wsX8_isNumberOf wsX3_isName := goodIn_r _ [4] (by decide +kernel) (by decide +kernel)
set_option maxRecDepth 20000 in
theorem gX8_isNumberOf_X3_isName : GoodIn wsX8_isNumberOf (va_wsS RX8 42 yX3_isName wsX3_isName) := goodIn_app (goodIn_of _ (by decide +kernel)) ggX8_isNumberOf_X3_isName
theorem dX8_isNumberOf_0 : decode cX8_isNumberOf 0 = .ok (.iload_n 0, 1) := by decide +kernel
theorem dX8_isNumberOf_1 : decode cX8_isNumberOf 1 = .ok (.iconst 1, 1) := by decide +kernel
theorem dX8_isNumberOf_2 : decode cX8_isNumberOf 2 = .ok (.if_icmp .eq 8, 3) := by decide +kernel
theorem dX8_isNumberOf_5 : decode cX8_isNumberOf 5 = .ok (.iload_n 0, 1) := by decide +kernel
theorem dX8_isNumberOf_6 : decode cX8_isNumberOf 6 = .ok (.iconst 2, 1) := by decide +kernel
theorem dX8_isNumberOf_7 : decode cX8_isNumberOf 7 = .ok (.if_icmp .ne 8, 3) := by decide +kernel
theorem dX8_isNumberOf_10 : decode cX8_isNumberOf 10 = .ok (.iload_n 1, 1) := by decide +kernel
theorem dX8_isNumberOf_11 : decode cX8_isNumberOf 11 = .ok (.invokestatic 42, 3) := by decide +kernel
theorem dX8_isNumberOf_14 : decode cX8_isNumberOf 14 = .ok (.ireturn, 1) := by decide +kernel
theorem dX8_isNumberOf_15 : decode cX8_isNumberOf 15 = .ok (.iload_n 0, 1) := by decide +kernel
theorem dX8_isNumberOf_16 : decode cX8_isNumberOf 16 = .ok (.ifCond .ne 8, 3) := by decide +kernel
theorem dX8_isNumberOf_19 : decode cX8_isNumberOf 19 = .ok (.bipush 99, 2) := by decide +kernel
theorem dX8_isNumberOf_21 : decode cX8_isNumberOf 21 = .ok (.goto 15, 3) := by decide +kernel
theorem dX8_isNumberOf_24 : decode cX8_isNumberOf 24 = .ok (.iload_n 0, 1) := by decide +kernel
theorem dX8_isNumberOf_25 : decode cX8_isNumberOf 25 = .ok (.iconst 3, 1) := by decide +kernel
theorem dX8_isNumberOf_26 : decode cX8_isNumberOf 26 = .ok (.if_icmp .ne 7, 3) := by decide +kernel
theorem dX8_isNumberOf_29 : decode cX8_isNumberOf 29 = .ok (.iconst 5, 1) := by decide +kernel
theorem dX8_isNumberOf_30 : decode cX8_isNumberOf 30 = .ok (.goto 6, 3) := by decide +kernel
theorem dX8_isNumberOf_33 : decode cX8_isNumberOf 33 = .ok (.sipush 996, 3) := by decide +kernel
theorem dX8_isNumberOf_36 : decode cX8_isNumberOf 36 = .ok (.istore_n 2, 1) := by decide +kernel
theorem dX8_isNumberOf_37 : decode cX8_isNumberOf 37 = .ok (.iload_n 1, 1) := by decide +kernel
theorem dX8_isNumberOf_38 : decode cX8_isNumberOf 38 = .ok (.ifCond .lt 12, 3) := by decide +kernel
theorem dX8_isNumberOf_41 : decode cX8_isNumberOf 41 = .ok (.iload_n 1, 1) := by decide +kernel
theorem dX8_isNumberOf_42 : decode cX8_isNumberOf 42 = .ok (.iload_n 2, 1) := by decide +kernel
theorem dX8_isNumberOf_43 : decode cX8_isNumberOf 43 = .ok (.if_icmp .gt 7, 3) := by decide +kernel
theorem dX8_isNumberOf_46 : decode cX8_isNumberOf 46 = .ok (.iconst 1, 1) := by decide +kernel
theorem dX8_isNumberOf_47 : decode cX8_isNumberOf 47 = .ok (.goto 4, 3) := by decide +kernel
theorem dX8_isNumberOf_50 : decode cX8_isNumberOf 50 = .ok (.iconst 0, 1) := by decide +kernel
theorem dX8_isNumberOf_51 : decode cX8_isNumberOf 51 = .ok (.ireturn, 1) := by decide +kernel
