theorem dJ9_max_7cf53_0 : decode cJ9_max_7cf53 0 = .ok (.iload_n 0, 1) := by decide +kernel
theorem dJ9_max_7cf53_1 : decode cJ9_max_7cf53 1 = .ok (.iload_n 1, 1) := by decide +kernel
theorem dJ9_max_7cf53_2 : decode cJ9_max_7cf53 2 = .ok (.if_icmp .lt 7, 3) := by decide +kernel
theorem dJ9_max_7cf53_5 : decode cJ9_max_7cf53 5 = .ok (.iload_n 0, 1) := by decide +kernel
theorem dJ9_max_7cf53_6 : decode cJ9_max_7cf53 6 = .ok (.goto 4, 3) := by decide +kernel
theorem dJ9_max_7cf53_9 : decode cJ9_max_7cf53 9 = .ok (.iload_n 1, 1) := by decide +kernel
theorem dJ9_max_7cf53_10 : decode cJ9_max_7cf53 10 = .ok (.ireturn, 1) := by decide +kernel
theorem dJ9_min_7cf53_0 : decode cJ9_min_7cf53 0 = .ok (.iload_n 0, 1) := by decide +kernel
theorem dJ9_min_7cf53_1 : decode cJ9_min_7cf53 1 = .ok (.iload_n 1, 1) := by decide +kernel
theorem dJ9_min_7cf53_2 : decode cJ9_min_7cf53 2 = .ok (.if_icmp .gt 7, 3) := by decide +kernel
theorem dJ9_min_7cf53_5 : decode cJ9_min_7cf53 5 = .ok (.iload_n 0, 1) := by decide +kernel
theorem dJ9_min_7cf53_6 : decode cJ9_min_7cf53 6 = .ok (.goto 4, 3) := by decide +kernel
theorem dJ9_min_7cf53_9 : decode cJ9_min_7cf53 9 = .ok (.iload_n 1, 1) := by decide +kernel
theorem dJ9_min_7cf53_10 : decode cJ9_min_7cf53 10 = .ok (.ireturn, 1) := by decide +kernel
set_option maxRecDepth 20000 in
theorem ggL_zone_X8_zone : GoodIn wsL_zone wsX8_zone := goodIn_ca (goodIn_ca (goodIn_r _ [7, 8, 9, 10, 11, 12, 13, 14, 15, 16, 17, 18, 6, 19, 20, 21, 22, 23, 24, 25, 26, 27, 28, 29, 30, 31, 32, 33, 34, 35, 36, 37, 38, 39, 40, 41, 42, 43, 44, 45, 46, 47, 48, 49, 50, 51, 52] rfl (by decide +kernel)) (goodIn_sub (fun _ h => List.mem_cons_of_mem _ (List.mem_append_left _ (List.mem_append_right _ h))) (by decide +kernel))) (goodIn_sub (fun _ h => List.mem_cons_of_mem _ (List.mem_append_right _ h)) (by decide +kernel))
set_option maxRecDepth 20000 in
theorem gL_zone_X8_zone : GoodIn wsL_zone (wsV RL 7 RX8 yX8_zone wsX8_zone) := goodIn_app (goodIn_of _ (by decide +kernel)) ggL_zone_X8_zone
theorem dL_zone_0 : decode cL_zone 0 = .ok (.aload_n 3, 1) := by decide +kernel
theorem dL_zone_1 : decode cL_zone 1 = .ok (.iconst 0, 1) := by decide +kernel
theorem dL_zone_2 : decode cL_zone 2 = .ok (.aload_n 0, 1) := by decide +kernel
theorem dL_zone_3 : decode cL_zone 3 = .ok (.iload_n 1, 1) := by decide +kernel
theorem dL_zone_4 : decode cL_zone 4 = .ok (.iload_n 2, 1) := by decide +kernel
theorem dL_zone_5 : decode cL_zone 5 = .ok (.invokevirtual 7, 3) := by decide +kernel
theorem dL_zone_8 : decode cL_zone 8 = .ok (.i2l, 1) := by decide +kernel
theorem dL_zone_9 : decode cL_zone 9 = .ok (.lastore, 1) := by decide +kernel
theorem dL_zone_10 : decode cL_zone 10 = .ok (.goto 11, 3) := by decide +kernel
theorem dL_zone_13 : decode cL_zone 13 = .ok (.astore 4, 2) := by decide +kernel
theorem dL_zone_15 : decode cL_zone 15 = .ok (.iconst 1, 1) := by decide +kernel
theorem dL_zone_16 : decode cL_zone 16 = .ok (.ireturn, 1) := by decide +kernel
theorem dL_zone_17 : decode cL_zone 17 = .ok (.astore 4, 2) := by decide +kernel
theorem dL_zone_19 : decode cL_zone 19 = .ok (.iconst 2, 1) := by decide +kernel
theorem dL_zone_20 : decode cL_zone 20 = .ok (.ireturn, 1) := by decide +kernel
theorem dL_zone_21 : decode cL_zone 21 = .ok (.iconst 0, 1) := by decide +kernel
theorem dL_zone_22 : decode cL_zone 22 = .ok (.ireturn, 1) := by decide +kernel
set_option maxRecDepth 20000 in
theorem ggL_need_X8_need : GoodIn wsL_need wsX8_need := goodIn_ca (goodIn_ca (goodIn_r _ [7, 8, 9, 10, 6, 11, 12, 13, 14, 15, 16, 17, 18, 19, 20, 21, 22, 23, 24, 25, 26, 27, 28, 29, 30, 31, 32, 33, 34, 35, 36, 37, 38, 39, 40, 41, 42, 43, 44, 45, 46, 47, 48, 49, 50, 51, 52, 53, 54, 55] rfl (by decide +kernel)) (goodIn_sub (fun _ h => List.mem_cons_of_mem _ (List.mem_append_left _ (List.mem_append_right _ h))) (by decide +kernel))) (goodIn_sub (fun _ h => List.mem_cons_of_mem _ (List.mem_append_right _ h)) (by decide +kernel))
set_option maxRecDepth 20000 in
theorem gL_need_X8_need : GoodIn wsL_need (wsV RL 17 RX8 yX8_need wsX8_need) := goodIn_app (goodIn_of _ (by decide +kernel)) ggL_need_X8_need
theorem dL_need_0 : decode cL_need 0 = .ok (.aload 4, 2) := by decide +kernel
theorem dL_need_2 : decode cL_need 2 = .ok (.iconst 0, 1) := by decide +kernel
theorem dL_need_3 : decode cL_need 3 = .ok (.aload_n 0, 1) := by decide +kernel
theorem dL_need_4 : decode cL_need 4 = .ok (.iload_n 1, 1) := by decide +kernel
theorem dL_need_5 : decode cL_need 5 = .ok (.iload_n 2, 1) := by decide +kernel
theorem dL_need_6 : decode cL_need 6 = .ok (.iload_n 3, 1) := by decide +kernel
theorem dL_need_7 : decode cL_need 7 = .ok (.invokevirtual 17, 3) := by decide +kernel
theorem dL_need_10 : decode cL_need 10 = .ok (.i2l, 1) := by decide +kernel
theorem dL_need_11 : decode cL_need 11 = .ok (.lastore, 1) := by decide +kernel
theorem dL_need_12 : decode cL_need 12 = .ok (.goto 11, 3) := by decide +kernel
theorem dL_need_15 : decode cL_need 15 = .ok (.astore 5, 2) := by decide +kernel
theorem dL_need_17 : decode cL_need 17 = .ok (.iconst 1, 1) := by decide +kernel
theorem dL_need_18 : decode cL_need 18 = .ok (.ireturn, 1) := by decide +kernel
theorem dL_need_19 : decode cL_need 19 = .ok (.astore 5, 2) := by decide +kernel
theorem dL_need_21 : decode cL_need 21 = .ok (.iconst 2, 1) := by decide +kernel
theorem dL_need_22 : decode cL_need 22 = .ok (.ireturn, 1) := by decide +kernel
theorem dL_need_23 : decode cL_need 23 = .ok (.iconst 0, 1) := by decide +kernel
theorem dL_need_24 : decode cL_need 24 = .ok (.ireturn, 1) := by decide +kernel
set_option maxRecDepth 20000 in
theorem ggL_put_X8_put : GoodIn wsL_put wsX8_put := goodIn_ca (goodIn_ca (goodIn_r _ [7, 8, 9, 10, 11, 12, 6, 13, 14, 15, 16, 17, 18, 19, 20, 21, 22, 23, 24, 25, 26, 27, 28, 29, 30, 31, 32, 33, 34, 35, 36, 37, 38, 39, 40, 41, 42, 43, 44, 45, 46, 47, 48, 49, 50, 51, 52, 53, 54, 55, 56, 57, 58, 59, 60, 61, 62] rfl (by decide +kernel)) (goodIn_sub (fun _ h => List.mem_cons_of_mem _ (List.mem_append_left _ (List.mem_append_right _ h))) (by decide +kernel))) (goodIn_sub (fun _ h => List.mem_cons_of_mem _ (List.mem_append_right _ h)) (by decide +kernel))
set_option maxRecDepth 20000 in
theorem gL_put_X8_put : GoodIn wsL_put (wsV RL 21 RX8 yX8_put wsX8_put) := goodIn_app (goodIn_of _ (by decide +kernel)) ggL_put_X8_put
theorem dL_put_0 : decode cL_put 0 = .ok (.aload 5, 2) := by decide +kernel
theorem dL_put_2 : decode cL_put 2 = .ok (.iconst 0, 1) := by decide +kernel
theorem dL_put_3 : decode cL_put 3 = .ok (.aload_n 0, 1) := by decide +kernel
theorem dL_put_4 : decode cL_put 4 = .ok (.iload_n 1, 1) := by decide +kernel
theorem dL_put_5 : decode cL_put 5 = .ok (.iload_n 2, 1) := by decide +kernel
theorem dL_put_6 : decode cL_put 6 = .ok (.iload_n 3, 1) := by decide +kernel
theorem dL_put_7 : decode cL_put 7 = .ok (.iload 4, 2) := by decide +kernel
theorem dL_put_9 : decode cL_put 9 = .ok (.invokevirtual 21, 3) := by decide +kernel
theorem dL_put_12 : decode cL_put 12 = .ok (.i2l, 1) := by decide +kernel
theorem dL_put_13 : decode cL_put 13 = .ok (.lastore, 1) := by decide +kernel
theorem dL_put_14 : decode cL_put 14 = .ok (.goto 11, 3) := by decide +kernel
theorem dL_put_17 : decode cL_put 17 = .ok (.astore 6, 2) := by decide +kernel
theorem dL_put_19 : decode cL_put 19 = .ok (.iconst 1, 1) := by decide +kernel
theorem dL_put_20 : decode cL_put 20 = .ok (.ireturn, 1) := by decide +kernel
theorem dL_put_21 : decode cL_put 21 = .ok (.astore 6, 2) := by decide +kernel
theorem dL_put_23 : decode cL_put 23 = .ok (.iconst 2, 1) := by decide +kernel
theorem dL_put_24 : decode cL_put 24 = .ok (.ireturn, 1) := by decide +kernel
theorem dL_put_25 : decode cL_put 25 = .ok (.iconst 0, 1) := by decide +kernel
theorem dL_put_26 : decode cL_put 26 = .ok (.ireturn, 1) := by decide +kernel
set_option maxRecDepth 20000 in
theorem ggL_drop_X8_drop : GoodIn wsL_drop wsX8_drop := goodIn_ca (goodIn_ca (goodIn_r _ [7, 8, 9, 10, 6, 11, 12, 13, 14, 15, 16, 17, 18, 19, 20, 21, 22, 23, 24, 25, 26, 27, 28, 29, 30, 31, 32, 33, 34, 35, 36, 37, 38, 39, 40, 41, 42, 43, 44, 45, 46, 47, 48, 49, 50, 51, 52, 53, 54, 55] rfl (by decide +kernel)) (goodIn_sub (fun _ h => List.mem_cons_of_mem _ (List.mem_append_left _ (List.mem_append_right _ h))) (by decide +kernel))) (goodIn_sub (fun _ h => List.mem_cons_of_mem _ (List.mem_append_right _ h)) (by decide +kernel))
set_option maxRecDepth 20000 in
theorem gL_drop_X8_drop : GoodIn wsL_drop (wsV RL 25 RX8 yX8_drop wsX8_drop) := goodIn_app (goodIn_of _ (by decide +kernel)) ggL_drop_X8_drop
theorem dL_drop_0 : decode cL_drop 0 = .ok (.aload_n 3, 1) := by decide +kernel
theorem dL_drop_1 : decode cL_drop 1 = .ok (.iconst 0, 1) := by decide +kernel
theorem dL_drop_2 : decode cL_drop 2 = .ok (.aload_n 0, 1) := by decide +kernel
theorem dL_drop_3 : decode cL_drop 3 = .ok (.iload_n 1, 1) := by decide +kernel
theorem dL_drop_4 : decode cL_drop 4 = .ok (.iload_n 2, 1) := by decide +kernel
theorem dL_drop_5 : decode cL_drop 5 = .ok (.invokevirtual 25, 3) := by decide +kernel
theorem dL_drop_8 : decode cL_drop 8 = .ok (.i2l, 1) := by decide +kernel
theorem dL_drop_9 : decode cL_drop 9 = .ok (.lastore, 1) := by decide +kernel
theorem dL_drop_10 : decode cL_drop 10 = .ok (.goto 11, 3) := by decide +kernel
theorem dL_drop_13 : decode cL_drop 13 = .ok (.astore 4, 2) := by decide +kernel
theorem dL_drop_15 : decode cL_drop 15 = .ok (.iconst 1, 1) := by decide +kernel
theorem dL_drop_16 : decode cL_drop 16 = .ok (.ireturn, 1) := by decide +kernel
theorem dL_drop_17 : decode cL_drop 17 = .ok (.astore 4, 2) := by decide +kernel
theorem dL_drop_19 : decode cL_drop 19 = .ok (.iconst 2, 1) := by decide +kernel
theorem dL_drop_20 : decode cL_drop 20 = .ok (.ireturn, 1) := by decide +kernel
theorem dL_drop_21 : decode cL_drop 21 = .ok (.iconst 0, 1) := by decide +kernel
theorem dL_drop_22 : decode cL_drop 22 = .ok (.ireturn, 1) := by decide +kernel
set_option maxRecDepth 20000 in
theorem ggL_update_X8_update : GoodIn wsL_update wsX8_update := goodIn_ca (goodIn_r _ [6, 7, 8, 9, 10, 11, 5, 12, 13, 14, 15, 16, 17, 18, 19, 20, 21, 22, 23, 24, 25, 26, 27, 28, 29, 30, 31, 32, 33, 34, 35, 36, 37, 38, 39, 40, 41, 42, 43, 44, 45, 46, 47, 48, 49, 50, 51, 52, 53, 54, 55, 56, 57, 58, 59, 60, 61, 62, 63, 64, 65, 66, 67, 68, 69, 70, 71, 72, 73, 74, 75, 76, 77, 78, 79, 80, 81, 82, 83, 84, 85, 86, 87, 88, 89, 90, 91, 92, 93, 94, 95, 96, 97, 98, 99, 100, 101, 102, 103, 104, 105, 106, 107, 108, 109, 110, 111, 112, 113, 114, 115, 116, 117, 118, 119, 120, 121, 122, 123, 124, 125, 126, 127, 128, 129, 130, 131, 132, 133, 134, 135, 136, 137, 138, 139, 140, 141, 142, 143, 144, 145, 146, 147, 148, 149, 150, 151, 152, 153, 154, 155, 156, 157, 158, 159, 160, 161, 162, 163] rfl (by decide +kernel)) (goodIn_sub (fun _ h => List.mem_cons_of_mem _ (List.mem_append_right _ h)) (by decide +kernel))
set_option maxRecDepth 20000 in
theorem gL_update_X8_update : GoodIn wsL_update (wsV RL 28 RX8 yX8_update wsX8_update) := goodIn_app (goodIn_of _ (by decide +kernel)) ggL_update_X8_update
theorem dL_update_0 : decode cL_update 0 = .ok (.aload_n 2, 1) := by decide +kernel
theorem dL_update_1 : decode cL_update 1 = .ok (.iconst 0, 1) := by decide +kernel
theorem dL_update_2 : decode cL_update 2 = .ok (.aload_n 0, 1) := by decide +kernel
theorem dL_update_3 : decode cL_update 3 = .ok (.iload_n 1, 1) := by decide +kernel
theorem dL_update_4 : decode cL_update 4 = .ok (.invokevirtual 28, 3) := by decide +kernel
theorem dL_update_7 : decode cL_update 7 = .ok (.ifCond .eq 7, 3) := by decide +kernel
theorem dL_update_10 : decode cL_update 10 = .ok (.lconst 1, 1) := by decide +kernel
theorem dL_update_11 : decode cL_update 11 = .ok (.goto 4, 3) := by decide +kernel
theorem dL_update_14 : decode cL_update 14 = .ok (.lconst 0, 1) := by decide +kernel
theorem dL_update_15 : decode cL_update 15 = .ok (.lastore, 1) := by decide +kernel
theorem dL_update_16 : decode cL_update 16 = .ok (.goto 6, 3) := by decide +kernel
theorem dL_update_19 : decode cL_update 19 = .ok (.astore_n 3, 1) := by decide +kernel
theorem dL_update_20 : decode cL_update 20 = .ok (.iconst 1, 1) := by decide +kernel
theorem dL_update_21 : decode cL_update 21 = .ok (.ireturn, 1) := by decide +kernel
theorem dL_update_22 : decode cL_update 22 = .ok (.iconst 0, 1) := by decide +kernel
theorem dL_update_23 : decode cL_update 23 = .ok (.ireturn, 1) := by decide +kernel
set_option maxRecDepth 20000 in
theorem ggL_zoneHas_X8_zoneHas : GoodIn wsL_zoneHas wsX8_zoneHas := goodIn_ca (goodIn_ca (goodIn_r _ [7, 8, 9, 10, 11, 12, 13, 6, 14, 15, 16, 17, 18, 19, 20, 21, 22, 23, 24, 25, 26, 27, 28, 29, 30, 31, 32, 33, 34, 35, 36, 37, 38, 39, 40, 41, 42, 43, 44, 45, 46, 47, 48, 49, 50, 51, 52, 53, 54, 55, 56, 57, 58, 59, 60, 61, 62, 63, 64, 65, 66, 67, 68, 69, 70, 71, 72, 73, 74, 75, 76, 77, 78, 79, 80, 81, 82, 83, 84, 85, 86, 87, 88, 89, 90, 91, 92, 93, 94, 95] rfl (by decide +kernel)) (goodIn_sub (fun _ h => List.mem_cons_of_mem _ (List.mem_append_left _ (List.mem_append_right _ h))) (by decide +kernel))) (goodIn_sub (fun _ h => List.mem_cons_of_mem _ (List.mem_append_right _ h)) (by decide +kernel))
set_option maxRecDepth 20000 in
theorem gL_zoneHas_X8_zoneHas : GoodIn wsL_zoneHas (wsV RL 34 RX8 yX8_zoneHas wsX8_zoneHas) := goodIn_app (goodIn_of _ (by decide +kernel)) ggL_zoneHas_X8_zoneHas
theorem dL_zoneHas_0 : decode cL_zoneHas 0 = .ok (.aload_n 3, 1) := by decide +kernel
theorem dL_zoneHas_1 : decode cL_zoneHas 1 = .ok (.iconst 0, 1) := by decide +kernel
theorem dL_zoneHas_2 : decode cL_zoneHas 2 = .ok (.aload_n 0, 1) := by decide +kernel
theorem dL_zoneHas_3 : decode cL_zoneHas 3 = .ok (.iload_n 1, 1) := by decide +kernel
theorem dL_zoneHas_4 : decode cL_zoneHas 4 = .ok (.iload_n 2, 1) := by decide +kernel
theorem dL_zoneHas_5 : decode cL_zoneHas 5 = .ok (.invokevirtual 34, 3) := by decide +kernel
theorem dL_zoneHas_8 : decode cL_zoneHas 8 = .ok (.i2l, 1) := by decide +kernel
theorem dL_zoneHas_9 : decode cL_zoneHas 9 = .ok (.lastore, 1) := by decide +kernel
theorem dL_zoneHas_10 : decode cL_zoneHas 10 = .ok (.goto 11, 3) := by decide +kernel
theorem dL_zoneHas_13 : decode cL_zoneHas 13 = .ok (.astore 4, 2) := by decide +kernel
theorem dL_zoneHas_15 : decode cL_zoneHas 15 = .ok (.iconst 1, 1) := by decide +kernel
theorem dL_zoneHas_16 : decode cL_zoneHas 16 = .ok (.ireturn, 1) := by decide +kernel
theorem dL_zoneHas_17 : decode cL_zoneHas 17 = .ok (.astore 4, 2) := by decide +kernel
theorem dL_zoneHas_19 : decode cL_zoneHas 19 = .ok (.iconst 2, 1) := by decide +kernel
theorem dL_zoneHas_20 : decode cL_zoneHas 20 = .ok (.ireturn, 1) := by decide +kernel
theorem dL_zoneHas_21 : decode cL_zoneHas 21 = .ok (.iconst 0, 1) := by decide +kernel
theorem dL_zoneHas_22 : decode cL_zoneHas 22 = .ok (.ireturn, 1) := by decide +kernel
set_option maxRecDepth 20000 in
theorem ggL_record_X8_record : GoodIn wsL_record wsX8_record := goodIn_ca (goodIn_ca (goodIn_r _ [7, 8, 9, 10, 11, 6, 12, 13, 14, 15, 16, 17, 18, 19, 20, 21, 22, 23, 24, 25, 26, 27, 28, 29, 30, 31, 32, 33, 34, 35, 36, 37, 38, 39, 40, 41, 42, 43, 44, 45, 46, 47, 48, 49, 50, 51, 52, 53, 54, 55, 56, 57, 58, 59, 60, 61, 62, 63, 64, 65, 66, 67, 68, 69, 70, 71, 72, 73, 74, 75] rfl (by decide +kernel)) (goodIn_sub (fun _ h => List.mem_cons_of_mem _ (List.mem_append_left _ (List.mem_append_right _ h))) (by decide +kernel))) (goodIn_sub (fun _ h => List.mem_cons_of_mem _ (List.mem_append_right _ h)) (by decide +kernel))
set_option maxRecDepth 20000 in
theorem gL_record_X8_record : GoodIn wsL_record (wsV RL 37 RX8 yX8_record wsX8_record) := goodIn_app (goodIn_of _ (by decide +kernel)) ggL_record_X8_record
theorem dL_record_0 : decode cL_record 0 = .ok (.aload 4, 2) := by decide +kernel
theorem dL_record_2 : decode cL_record 2 = .ok (.iconst 0, 1) := by decide +kernel
theorem dL_record_3 : decode cL_record 3 = .ok (.aload_n 0, 1) := by decide +kernel
theorem dL_record_4 : decode cL_record 4 = .ok (.iload_n 1, 1) := by decide +kernel
theorem dL_record_5 : decode cL_record 5 = .ok (.iload_n 2, 1) := by decide +kernel
theorem dL_record_6 : decode cL_record 6 = .ok (.iload_n 3, 1) := by decide +kernel
theorem dL_record_7 : decode cL_record 7 = .ok (.invokevirtual 37, 3) := by decide +kernel
theorem dL_record_10 : decode cL_record 10 = .ok (.i2l, 1) := by decide +kernel
theorem dL_record_11 : decode cL_record 11 = .ok (.lastore, 1) := by decide +kernel
theorem dL_record_12 : decode cL_record 12 = .ok (.goto 11, 3) := by decide +kernel
theorem dL_record_15 : decode cL_record 15 = .ok (.astore 5, 2) := by decide +kernel
theorem dL_record_17 : decode cL_record 17 = .ok (.iconst 1, 1) := by decide +kernel
theorem dL_record_18 : decode cL_record 18 = .ok (.ireturn, 1) := by decide +kernel
theorem dL_record_19 : decode cL_record 19 = .ok (.astore 5, 2) := by decide +kernel
theorem dL_record_21 : decode cL_record 21 = .ok (.iconst 2, 1) := by decide +kernel
theorem dL_record_22 : decode cL_record 22 = .ok (.ireturn, 1) := by decide +kernel
theorem dL_record_23 : decode cL_record 23 = .ok (.iconst 0, 1) := by decide +kernel
theorem dL_record_24 : decode cL_record 24 = .ok (.ireturn, 1) := by decide +kernel
set_option maxRecDepth 20000 in
theorem ggL_bringUp_X8_bringUp : GoodIn wsL_bringUp wsX8_bringUp := goodIn_ca (goodIn_r _ [6, 7, 8, 9, 10, 5, 11, 12, 13, 14, 15, 16, 17, 18, 19, 20, 21, 22, 23, 24, 25, 26, 27, 28, 29, 30, 31, 32, 33, 34, 35, 36, 37, 38, 39, 40, 41, 42, 43, 44, 45, 46, 47, 48, 49, 50, 51, 52, 53, 54, 55, 56, 57, 58, 59, 60, 61, 62, 63, 64, 65, 66, 67, 68, 69, 70, 71, 72, 73, 74, 75, 76, 77, 78, 79, 80, 81, 82, 83, 84, 85, 86, 87, 88, 89, 90] rfl (by decide +kernel)) (goodIn_sub (fun _ h => List.mem_cons_of_mem _ (List.mem_append_right _ h)) (by decide +kernel))
set_option maxRecDepth 20000 in
theorem gL_bringUp_X8_bringUp : GoodIn wsL_bringUp (wsV RL 41 RX8 yX8_bringUp wsX8_bringUp) := goodIn_app (goodIn_of _ (by decide +kernel)) ggL_bringUp_X8_bringUp
theorem dL_bringUp_0 : decode cL_bringUp 0 = .ok (.aload_n 2, 1) := by decide +kernel
theorem dL_bringUp_1 : decode cL_bringUp 1 = .ok (.iconst 0, 1) := by decide +kernel
theorem dL_bringUp_2 : decode cL_bringUp 2 = .ok (.aload_n 0, 1) := by decide +kernel
theorem dL_bringUp_3 : decode cL_bringUp 3 = .ok (.iload_n 1, 1) := by decide +kernel
theorem dL_bringUp_4 : decode cL_bringUp 4 = .ok (.invokevirtual 41, 3) := by decide +kernel
theorem dL_bringUp_7 : decode cL_bringUp 7 = .ok (.i2l, 1) := by decide +kernel
theorem dL_bringUp_8 : decode cL_bringUp 8 = .ok (.lastore, 1) := by decide +kernel
theorem dL_bringUp_9 : decode cL_bringUp 9 = .ok (.goto 6, 3) := by decide +kernel
theorem dL_bringUp_12 : decode cL_bringUp 12 = .ok (.astore_n 3, 1) := by decide +kernel
theorem dL_bringUp_13 : decode cL_bringUp 13 = .ok (.iconst 1, 1) := by decide +kernel
theorem dL_bringUp_14 : decode cL_bringUp 14 = .ok (.ireturn, 1) := by decide +kernel
theorem dL_bringUp_15 : decode cL_bringUp 15 = .ok (.iconst 0, 1) := by decide +kernel
theorem dL_bringUp_16 : decode cL_bringUp 16 = .ok (.ireturn, 1) := by decide +kernel
set_option maxRecDepth 20000 in
theorem ggL_setDead_X8_setDead : GoodIn wsL_setDead wsX8_setDead := goodIn_ca (goodIn_r _ [6, 7, 8, 9, 10, 5, 11, 12, 13, 14, 15, 16, 17, 18, 19, 20, 21, 22, 23, 24, 25, 26, 27, 28, 29, 30, 31, 32, 33, 34, 35, 36, 37, 38] rfl (by decide +kernel)) (goodIn_sub (fun _ h => List.mem_cons_of_mem _ (List.mem_append_right _ h)) (by decide +kernel))
set_option maxRecDepth 20000 in
theorem gL_setDead_X8_setDead : GoodIn wsL_setDead (wsV RL 45 RX8 yX8_setDead wsX8_setDead) := goodIn_app (goodIn_of _ (by decide +kernel)) ggL_setDead_X8_setDead
theorem dL_setDead_0 : decode cL_setDead 0 = .ok (.aload_n 0, 1) := by decide +kernel
theorem dL_setDead_1 : decode cL_setDead 1 = .ok (.iload_n 1, 1) := by decide +kernel
theorem dL_setDead_2 : decode cL_setDead 2 = .ok (.iload_n 2, 1) := by decide +kernel
theorem dL_setDead_3 : decode cL_setDead 3 = .ok (.invokevirtual 45, 3) := by decide +kernel
theorem dL_setDead_6 : decode cL_setDead 6 = .ok (.goto 6, 3) := by decide +kernel
theorem dL_setDead_9 : decode cL_setDead 9 = .ok (.astore_n 3, 1) := by decide +kernel
theorem dL_setDead_10 : decode cL_setDead 10 = .ok (.iconst 1, 1) := by decide +kernel
theorem dL_setDead_11 : decode cL_setDead 11 = .ok (.ireturn, 1) := by decide +kernel
theorem dL_setDead_12 : decode cL_setDead 12 = .ok (.iconst 0, 1) := by decide +kernel
theorem dL_setDead_13 : decode cL_setDead 13 = .ok (.ireturn, 1) := by decide +kernel
set_option maxRecDepth 20000 in
theorem ggL_ask_X8_ask : GoodIn wsL_ask wsX8_ask := goodIn_ca (goodIn_ca (goodIn_ca (goodIn_r _ [8, 9, 10, 11, 12, 13, 14, 15, 7, 16, 17, 18, 19, 20, 21, 22, 23, 24, 25, 26, 27, 28, 29, 30, 31, 32, 33, 34, 35, 36, 37, 38, 39, 40, 41, 42, 43, 44, 45, 46, 47, 48, 49, 50, 51, 52, 53, 54, 55, 56, 57, 58, 59, 60, 61, 62, 63, 64, 65, 66, 67, 68, 69, 70, 71, 72, 73, 74, 75, 76, 77, 78, 79, 80, 81, 82, 83, 84, 85, 86, 87, 88, 89, 90, 91, 92, 93, 94, 95, 96, 97, 98, 99, 100, 101, 102, 103, 104, 105, 106, 107, 108, 109, 110, 111, 112, 113, 114, 115, 116, 117, 118, 119, 120, 121, 122, 123, 124, 125, 126, 127, 128, 129, 130, 131, 132, 133, 134, 135, 136, 137, 138, 139, 140, 141, 142, 143, 144, 145, 146, 147, 148, 149, 150, 151, 152, 153, 154, 155, 156, 157, 158] rfl (by decide +kernel)) (goodIn_sub (fun _ h => List.mem_cons_of_mem _ (List.mem_append_left _ (List.mem_append_left _ (List.mem_append_right _ h)))) (by decide +kernel))) (goodIn_sub (fun _ h => List.mem_cons_of_mem _ (List.mem_append_left _ (List.mem_append_right _ h))) (by decide +kernel))) (goodIn_sub (fun _ h => List.mem_cons_of_mem _ (List.mem_append_right _ h)) (by decide +kernel))
set_option maxRecDepth 20000 in
theorem gL_ask_X8_ask : GoodIn wsL_ask (wsV RL 49 RX8 yX8_ask wsX8_ask) := goodIn_app (goodIn_of _ (by decide +kernel)) ggL_ask_X8_ask
theorem dL_ask_0 : decode cL_ask 0 = .ok (.aload 4, 2) := by decide +kernel
theorem dL_ask_2 : decode cL_ask 2 = .ok (.iconst 0, 1) := by decide +kernel
theorem dL_ask_3 : decode cL_ask 3 = .ok (.aload_n 0, 1) := by decide +kernel
theorem dL_ask_4 : decode cL_ask 4 = .ok (.iload_n 1, 1) := by decide +kernel
theorem dL_ask_5 : decode cL_ask 5 = .ok (.iload_n 2, 1) := by decide +kernel
theorem dL_ask_6 : decode cL_ask 6 = .ok (.iload_n 3, 1) := by decide +kernel
theorem dL_ask_7 : decode cL_ask 7 = .ok (.invokevirtual 49, 3) := by decide +kernel
theorem dL_ask_10 : decode cL_ask 10 = .ok (.i2l, 1) := by decide +kernel
theorem dL_ask_11 : decode cL_ask 11 = .ok (.lastore, 1) := by decide +kernel
theorem dL_ask_12 : decode cL_ask 12 = .ok (.goto 15, 3) := by decide +kernel
theorem dL_ask_15 : decode cL_ask 15 = .ok (.astore 5, 2) := by decide +kernel
theorem dL_ask_17 : decode cL_ask 17 = .ok (.iconst 1, 1) := by decide +kernel
theorem dL_ask_18 : decode cL_ask 18 = .ok (.ireturn, 1) := by decide +kernel
theorem dL_ask_19 : decode cL_ask 19 = .ok (.astore 5, 2) := by decide +kernel
theorem dL_ask_21 : decode cL_ask 21 = .ok (.iconst 2, 1) := by decide +kernel
theorem dL_ask_22 : decode cL_ask 22 = .ok (.ireturn, 1) := by decide +kernel
theorem dL_ask_23 : decode cL_ask 23 = .ok (.astore 5, 2) := by decide +kernel
theorem dL_ask_25 : decode cL_ask 25 = .ok (.iconst 3, 1) := by decide +kernel
theorem dL_ask_26 : decode cL_ask 26 = .ok (.ireturn, 1) := by decide +kernel
theorem dL_ask_27 : decode cL_ask 27 = .ok (.iconst 0, 1) := by decide +kernel
theorem dL_ask_28 : decode cL_ask 28 = .ok (.ireturn, 1) := by decide +kernel
set_option maxRecDepth 20000 in
theorem ggL_told_X8_told : GoodIn wsL_told wsX8_told := goodIn_ca (goodIn_r _ [6, 7, 8, 9, 10, 11, 12, 13, 14, 15, 16, 17, 18, 19, 20, 21, 22, 23, 24, 25, 26, 27, 28, 29, 30, 31, 32, 33] rfl (by decide +kernel)) (goodIn_sub (fun _ h => List.mem_cons_of_mem _ (List.mem_append_right _ h)) (by decide +kernel))
set_option maxRecDepth 20000 in
theorem gL_told_X8_told : GoodIn wsL_told (wsV RL 52 RX8 yX8_told wsX8_told) := goodIn_app (goodIn_of _ (by decide +kernel)) ggL_told_X8_told
theorem dL_told_0 : decode cL_told 0 = .ok (.aload_n 2, 1) := by decide +kernel
theorem dL_told_1 : decode cL_told 1 = .ok (.iconst 0, 1) := by decide +kernel
theorem dL_told_2 : decode cL_told 2 = .ok (.aload_n 0, 1) := by decide +kernel
theorem dL_told_3 : decode cL_told 3 = .ok (.iload_n 1, 1) := by decide +kernel
theorem dL_told_4 : decode cL_told 4 = .ok (.invokevirtual 52, 3) := by decide +kernel
theorem dL_told_7 : decode cL_told 7 = .ok (.i2l, 1) := by decide +kernel
theorem dL_told_8 : decode cL_told 8 = .ok (.lastore, 1) := by decide +kernel
theorem dL_told_9 : decode cL_told 9 = .ok (.goto 6, 3) := by decide +kernel
theorem dL_told_12 : decode cL_told 12 = .ok (.astore_n 3, 1) := by decide +kernel
theorem dL_told_13 : decode cL_told 13 = .ok (.iconst 1, 1) := by decide +kernel
theorem dL_told_14 : decode cL_told 14 = .ok (.ireturn, 1) := by decide +kernel
theorem dL_told_15 : decode cL_told 15 = .ok (.iconst 0, 1) := by decide +kernel
theorem dL_told_16 : decode cL_told 16 = .ok (.ireturn, 1) := by decide +kernel
set_option maxRecDepth 20000 in
theorem ggL_neighbour_X8_neighbour : GoodIn wsL_neighbour wsX8_neighbour := goodIn_ca (goodIn_ca (goodIn_r _ [7, 8, 9, 10, 11, 12, 13, 6, 14, 15, 16, 17, 18, 19, 20, 21, 22, 23, 24, 25, 26, 27, 28, 29, 30, 31, 32, 33, 34, 35, 36, 37, 38, 39, 40, 41, 42, 43, 44, 45, 46, 47, 48, 49, 50, 51, 52, 53, 54, 55, 56, 57, 58, 59, 60, 61, 62, 63, 64, 65, 66, 67, 68, 69, 70, 71, 72, 73, 74, 75, 76, 77, 78, 79, 80, 81, 82, 83, 84, 85, 86, 87, 88, 89, 90, 91, 92, 93, 94, 95, 96, 97, 98, 99, 100, 101, 102] rfl (by decide +kernel)) (goodIn_sub (fun _ h => List.mem_cons_of_mem _ (List.mem_append_left _ (List.mem_append_right _ h))) (by decide +kernel))) (goodIn_sub (fun _ h => List.mem_cons_of_mem _ (List.mem_append_right _ h)) (by decide +kernel))
set_option maxRecDepth 20000 in
theorem gL_neighbour_X8_neighbour : GoodIn wsL_neighbour (wsV RL 55 RX8 yX8_neighbour wsX8_neighbour) := goodIn_app (goodIn_of _ (by decide +kernel)) ggL_neighbour_X8_neighbour
theorem dL_neighbour_0 : decode cL_neighbour 0 = .ok (.aload 4, 2) := by decide +kernel
theorem dL_neighbour_2 : decode cL_neighbour 2 = .ok (.iconst 0, 1) := by decide +kernel
theorem dL_neighbour_3 : decode cL_neighbour 3 = .ok (.aload_n 0, 1) := by decide +kernel
theorem dL_neighbour_4 : decode cL_neighbour 4 = .ok (.iload_n 1, 1) := by decide +kernel
theorem dL_neighbour_5 : decode cL_neighbour 5 = .ok (.iload_n 2, 1) := by decide +kernel
theorem dL_neighbour_6 : decode cL_neighbour 6 = .ok (.iload_n 3, 1) := by decide +kernel
theorem dL_neighbour_7 : decode cL_neighbour 7 = .ok (.invokevirtual 55, 3) := by decide +kernel
theorem dL_neighbour_10 : decode cL_neighbour 10 = .ok (.i2l, 1) := by decide +kernel
theorem dL_neighbour_11 : decode cL_neighbour 11 = .ok (.lastore, 1) := by decide +kernel
theorem dL_neighbour_12 : decode cL_neighbour 12 = .ok (.goto 11, 3) := by decide +kernel
theorem dL_neighbour_15 : decode cL_neighbour 15 = .ok (.astore 5, 2) := by decide +kernel
theorem dL_neighbour_17 : decode cL_neighbour 17 = .ok (.iconst 1, 1) := by decide +kernel
theorem dL_neighbour_18 : decode cL_neighbour 18 = .ok (.ireturn, 1) := by decide +kernel
theorem dL_neighbour_19 : decode cL_neighbour 19 = .ok (.astore 5, 2) := by decide +kernel
theorem dL_neighbour_21 : decode cL_neighbour 21 = .ok (.iconst 2, 1) := by decide +kernel
theorem dL_neighbour_22 : decode cL_neighbour 22 = .ok (.ireturn, 1) := by decide +kernel
theorem dL_neighbour_23 : decode cL_neighbour 23 = .ok (.iconst 0, 1) := by decide +kernel
theorem dL_neighbour_24 : decode cL_neighbour 24 = .ok (.ireturn, 1) := by decide +kernel
set_option maxRecDepth 20000 in
theorem ggL_resolve_X8_resolve : GoodIn wsL_resolve wsX8_resolve := goodIn_ca (goodIn_r _ [6, 7, 8, 9, 10, 5, 11, 12, 13, 14, 15, 16, 17, 18, 19, 20, 21, 22, 23, 24, 25, 26, 27, 28, 29, 30, 31, 32, 33, 34, 35, 36, 37, 38, 39, 40, 41, 42, 43, 44, 45, 46, 47, 48, 49, 50, 51, 52, 53, 54, 55, 56, 57, 58, 59, 60, 61, 62, 63, 64, 65, 66, 67, 68, 69, 70, 71, 72, 73, 74, 75, 76, 77, 78, 79, 80, 81, 82, 83, 84, 85, 86, 87, 88, 89, 90, 91, 92, 93, 94, 95, 96, 97, 98, 99, 100, 101, 102, 103, 104, 105, 106, 107, 108, 109, 110, 111, 112, 113, 114, 115, 116, 117, 118, 119, 120, 121, 122, 123, 124, 125, 126, 127, 128, 129, 130, 131, 132, 133, 134, 135, 136, 137, 138, 139, 140, 141, 142, 143, 144, 145, 146, 147, 148, 149, 150, 151, 152, 153, 154, 155, 156, 157, 158, 159, 160, 161, 162, 163, 164, 165, 166, 167, 168, 169, 170, 171, 172, 173, 174, 175, 176, 177, 178, 179, 180, 181, 182, 183, 184, 185, 186, 187, 188, 189, 190, 191, 192, 193, 194, 195, 196, 197, 198, 199, 200, 201, 202, 203, 204, 205, 206, 207, 208, 209, 210, 211, 212, 213, 214, 215, 216, 217, 218, 219, 220, 221, 222, 223, 224, 225, 226, 227, 228, 229, 230, 231, 232, 233, 234, 235, 236, 237, 238, 239, 240, 241, 242, 243, 244, 245, 246, 247, 248, 249, 250, 251, 252, 253, 254, 255, 256, 257, 258, 259, 260, 261, 262, 263, 264, 265, 266, 267, 268, 269, 270, 271, 272, 273, 274, 275, 276, 277, 278, 279, 280, 281, 282, 283, 284, 285, 286, 287, 288, 289, 290, 291, 292, 293, 294, 295, 296, 297, 298, 299, 300, 301, 302, 303, 304, 305, 306, 307, 308, 309, 310, 311, 312] rfl (by decide +kernel)) (goodIn_sub (fun _ h => List.mem_cons_of_mem _ (List.mem_append_right _ h)) (by decide +kernel))
set_option maxRecDepth 20000 in
theorem gL_resolve_X8_resolve : GoodIn wsL_resolve (wsV RL 58 RX8 yX8_resolve wsX8_resolve) := goodIn_app (goodIn_of _ (by decide +kernel)) ggL_resolve_X8_resolve
theorem dL_resolve_0 : decode cL_resolve 0 = .ok (.aload_n 3, 1) := by decide +kernel
theorem dL_resolve_1 : decode cL_resolve 1 = .ok (.iconst 0, 1) := by decide +kernel
theorem dL_resolve_2 : decode cL_resolve 2 = .ok (.aload_n 0, 1) := by decide +kernel
theorem dL_resolve_3 : decode cL_resolve 3 = .ok (.iload_n 1, 1) := by decide +kernel
theorem dL_resolve_4 : decode cL_resolve 4 = .ok (.iload_n 2, 1) := by decide +kernel
theorem dL_resolve_5 : decode cL_resolve 5 = .ok (.invokevirtual 58, 3) := by decide +kernel
theorem dL_resolve_8 : decode cL_resolve 8 = .ok (.i2l, 1) := by decide +kernel
theorem dL_resolve_9 : decode cL_resolve 9 = .ok (.lastore, 1) := by decide +kernel
theorem dL_resolve_10 : decode cL_resolve 10 = .ok (.goto 7, 3) := by decide +kernel
theorem dL_resolve_13 : decode cL_resolve 13 = .ok (.astore 4, 2) := by decide +kernel
theorem dL_resolve_15 : decode cL_resolve 15 = .ok (.iconst 1, 1) := by decide +kernel
theorem dL_resolve_16 : decode cL_resolve 16 = .ok (.ireturn, 1) := by decide +kernel
theorem dL_resolve_17 : decode cL_resolve 17 = .ok (.iconst 0, 1) := by decide +kernel
theorem dL_resolve_18 : decode cL_resolve 18 = .ok (.ireturn, 1) := by decide +kernel
set_option maxRecDepth 20000 in
theorem ggL_resolveAnew_X8_resolveAnew : GoodIn wsL_resolveAnew wsX8_resolveAnew := goodIn_ca (goodIn_r _ [6, 7, 8, 9, 10, 5, 11, 12, 13, 14, 15, 16, 17, 18, 19, 20, 21, 22, 23, 24, 25, 26, 27, 28, 29, 30, 31, 32, 33, 34, 35, 36, 37, 38, 39, 40, 41, 42, 43, 44, 45, 46, 47, 48, 49, 50, 51, 52, 53, 54, 55, 56, 57, 58, 59, 60, 61, 62, 63, 64, 65, 66, 67, 68, 69, 70, 71, 72, 73, 74, 75, 76, 77, 78, 79, 80, 81, 82, 83, 84, 85, 86, 87, 88, 89, 90, 91, 92, 93, 94, 95, 96, 97, 98, 99, 100, 101, 102, 103, 104, 105, 106, 107, 108, 109, 110, 111, 112, 113, 114, 115, 116, 117, 118, 119, 120, 121, 122, 123, 124, 125, 126, 127, 128, 129, 130, 131, 132, 133, 134, 135, 136, 137, 138, 139, 140, 141, 142, 143, 144, 145, 146, 147, 148, 149, 150, 151, 152, 153, 154, 155, 156, 157, 158, 159, 160, 161, 162, 163, 164, 165, 166, 167, 168, 169, 170, 171, 172, 173, 174, 175, 176, 177, 178, 179, 180, 181, 182, 183, 184, 185, 186, 187, 188, 189, 190, 191, 192, 193, 194, 195, 196, 197, 198, 199, 200, 201, 202, 203, 204, 205, 206, 207, 208, 209, 210, 211, 212, 213, 214, 215, 216, 217, 218, 219, 220, 221, 222, 223, 224, 225, 226, 227, 228, 229, 230, 231, 232, 233, 234, 235, 236, 237, 238, 239, 240, 241, 242, 243, 244, 245, 246, 247, 248, 249, 250, 251, 252, 253, 254, 255, 256, 257, 258, 259, 260, 261, 262, 263, 264, 265, 266, 267, 268, 269, 270, 271, 272, 273, 274, 275, 276, 277, 278, 279, 280, 281, 282, 283, 284, 285, 286, 287, 288, 289, 290, 291, 292, 293, 294, 295, 296, 297, 298, 299, 300, 301, 302, 303, 304, 305, 306, 307, 308, 309, 310, 311, 312] rfl (by decide +kernel)) (goodIn_sub (fun _ h => List.mem_cons_of_mem _ (List.mem_append_right _ h)) (by decide +kernel))
set_option maxRecDepth 20000 in
theorem gL_resolveAnew_X8_resolveAnew : GoodIn wsL_resolveAnew (wsV RL 61 RX8 yX8_resolveAnew wsX8_resolveAnew) := goodIn_app (goodIn_of _ (by decide +kernel)) ggL_resolveAnew_X8_resolveAnew
theorem dL_resolveAnew_0 : decode cL_resolveAnew 0 = .ok (.aload_n 3, 1) := by decide +kernel
theorem dL_resolveAnew_1 : decode cL_resolveAnew 1 = .ok (.iconst 0, 1) := by decide +kernel
theorem dL_resolveAnew_2 : decode cL_resolveAnew 2 = .ok (.aload_n 0, 1) := by decide +kernel
theorem dL_resolveAnew_3 : decode cL_resolveAnew 3 = .ok (.iload_n 1, 1) := by decide +kernel
theorem dL_resolveAnew_4 : decode cL_resolveAnew 4 = .ok (.iload_n 2, 1) := by decide +kernel
theorem dL_resolveAnew_5 : decode cL_resolveAnew 5 = .ok (.invokevirtual 61, 3) := by decide +kernel
theorem dL_resolveAnew_8 : decode cL_resolveAnew 8 = .ok (.i2l, 1) := by decide +kernel
theorem dL_resolveAnew_9 : decode cL_resolveAnew 9 = .ok (.lastore, 1) := by decide +kernel
theorem dL_resolveAnew_10 : decode cL_resolveAnew 10 = .ok (.goto 7, 3) := by decide +kernel
theorem dL_resolveAnew_13 : decode cL_resolveAnew 13 = .ok (.astore 4, 2) := by decide +kernel
theorem dL_resolveAnew_15 : decode cL_resolveAnew 15 = .ok (.iconst 1, 1) := by decide +kernel
theorem dL_resolveAnew_16 : decode cL_resolveAnew 16 = .ok (.ireturn, 1) := by decide +kernel
theorem dL_resolveAnew_17 : decode cL_resolveAnew 17 = .ok (.iconst 0, 1) := by decide +kernel
theorem dL_resolveAnew_18 : decode cL_resolveAnew 18 = .ok (.ireturn, 1) := by decide +kernel
set_option maxRecDepth 20000 in
theorem ggL_pass_X8_pass : GoodIn wsL_pass wsX8_pass := goodIn_ca (goodIn_r _ [6, 7, 8, 9, 10, 11, 12, 13, 14, 15, 16, 17, 18, 19, 20, 21, 22, 23, 24, 25, 26, 27, 28, 29] rfl (by decide +kernel)) (goodIn_sub (fun _ h => List.mem_cons_of_mem _ (List.mem_append_right _ h)) (by decide +kernel))
set_option maxRecDepth 20000 in
theorem gL_pass_X8_pass : GoodIn wsL_pass (wsV RL 64 RX8 yX8_pass wsX8_pass) := goodIn_app (goodIn_of _ (by decide +kernel)) ggL_pass_X8_pass
theorem dL_pass_0 : decode cL_pass 0 = .ok (.aload_n 2, 1) := by decide +kernel
theorem dL_pass_1 : decode cL_pass 1 = .ok (.iconst 0, 1) := by decide +kernel
theorem dL_pass_2 : decode cL_pass 2 = .ok (.aload_n 0, 1) := by decide +kernel
theorem dL_pass_3 : decode cL_pass 3 = .ok (.iload_n 1, 1) := by decide +kernel
theorem dL_pass_4 : decode cL_pass 4 = .ok (.invokevirtual 64, 3) := by decide +kernel
theorem dL_pass_7 : decode cL_pass 7 = .ok (.i2l, 1) := by decide +kernel
theorem dL_pass_8 : decode cL_pass 8 = .ok (.lastore, 1) := by decide +kernel
theorem dL_pass_9 : decode cL_pass 9 = .ok (.goto 6, 3) := by decide +kernel
theorem dL_pass_12 : decode cL_pass 12 = .ok (.astore_n 3, 1) := by decide +kernel
theorem dL_pass_13 : decode cL_pass 13 = .ok (.iconst 1, 1) := by decide +kernel
theorem dL_pass_14 : decode cL_pass 14 = .ok (.ireturn, 1) := by decide +kernel
theorem dL_pass_15 : decode cL_pass 15 = .ok (.iconst 0, 1) := by decide +kernel
theorem dL_pass_16 : decode cL_pass 16 = .ok (.ireturn, 1) := by decide +kernel
set_option maxRecDepth 20000 in
theorem ggL_setKey_X8_setKey : GoodIn wsL_setKey wsX8_setKey := goodIn_ca (goodIn_ca (goodIn_r _ [7, 8, 9, 10, 11, 12, 13, 6, 14, 15, 16, 17, 18, 19, 20, 21, 22, 23, 24, 25, 26, 27, 28, 29, 30, 31, 32, 33, 34, 35, 36, 37, 38, 39, 40, 41, 42, 43, 44, 45, 46, 47, 48, 49, 50, 51] rfl (by decide +kernel)) (goodIn_sub (fun _ h => List.mem_cons_of_mem _ (List.mem_append_left _ (List.mem_append_right _ h))) (by decide +kernel))) (goodIn_sub (fun _ h => List.mem_cons_of_mem _ (List.mem_append_right _ h)) (by decide +kernel))
set_option maxRecDepth 20000 in
theorem gL_setKey_X8_setKey : GoodIn wsL_setKey (wsV RL 67 RX8 yX8_setKey wsX8_setKey) := goodIn_app (goodIn_of _ (by decide +kernel)) ggL_setKey_X8_setKey
theorem dL_setKey_0 : decode cL_setKey 0 = .ok (.aload 4, 2) := by decide +kernel
theorem dL_setKey_2 : decode cL_setKey 2 = .ok (.iconst 0, 1) := by decide +kernel
theorem dL_setKey_3 : decode cL_setKey 3 = .ok (.aload_n 0, 1) := by decide +kernel
theorem dL_setKey_4 : decode cL_setKey 4 = .ok (.iload_n 1, 1) := by decide +kernel
theorem dL_setKey_5 : decode cL_setKey 5 = .ok (.iload_n 2, 1) := by decide +kernel
theorem dL_setKey_6 : decode cL_setKey 6 = .ok (.iload_n 3, 1) := by decide +kernel
theorem dL_setKey_7 : decode cL_setKey 7 = .ok (.invokevirtual 67, 3) := by decide +kernel
theorem dL_setKey_10 : decode cL_setKey 10 = .ok (.i2l, 1) := by decide +kernel
theorem dL_setKey_11 : decode cL_setKey 11 = .ok (.lastore, 1) := by decide +kernel
theorem dL_setKey_12 : decode cL_setKey 12 = .ok (.goto 11, 3) := by decide +kernel
theorem dL_setKey_15 : decode cL_setKey 15 = .ok (.astore 5, 2) := by decide +kernel
theorem dL_setKey_17 : decode cL_setKey 17 = .ok (.iconst 1, 1) := by decide +kernel
theorem dL_setKey_18 : decode cL_setKey 18 = .ok (.ireturn, 1) := by decide +kernel
theorem dL_setKey_19 : decode cL_setKey 19 = .ok (.astore 5, 2) := by decide +kernel
theorem dL_setKey_21 : decode cL_setKey 21 = .ok (.iconst 2, 1) := by decide +kernel
theorem dL_setKey_22 : decode cL_setKey 22 = .ok (.ireturn, 1) := by decide +kernel
theorem dL_setKey_23 : decode cL_setKey 23 = .ok (.iconst 0, 1) := by decide +kernel
theorem dL_setKey_24 : decode cL_setKey 24 = .ok (.ireturn, 1) := by decide +kernel
set_option maxRecDepth 20000 in
theorem ggL_setWindow_X8_setWindow : GoodIn wsL_setWindow wsX8_setWindow := goodIn_ca (goodIn_ca (goodIn_r _ [7, 8, 9, 10, 11, 12, 13, 6, 14, 15, 16, 17, 18, 19, 20, 21, 22, 23, 24, 25, 26, 27, 28, 29, 30, 31, 32, 33, 34, 35, 36, 37, 38, 39, 40, 41] rfl (by decide +kernel)) (goodIn_sub (fun _ h => List.mem_cons_of_mem _ (List.mem_append_left _ (List.mem_append_right _ h))) (by decide +kernel))) (goodIn_sub (fun _ h => List.mem_cons_of_mem _ (List.mem_append_right _ h)) (by decide +kernel))
set_option maxRecDepth 20000 in
theorem gL_setWindow_X8_setWindow : GoodIn wsL_setWindow (wsV RL 70 RX8 yX8_setWindow wsX8_setWindow) := goodIn_app (goodIn_of _ (by decide +kernel)) ggL_setWindow_X8_setWindow
theorem dL_setWindow_0 : decode cL_setWindow 0 = .ok (.aload_n 0, 1) := by decide +kernel
theorem dL_setWindow_1 : decode cL_setWindow 1 = .ok (.iload_n 1, 1) := by decide +kernel
theorem dL_setWindow_2 : decode cL_setWindow 2 = .ok (.iload_n 2, 1) := by decide +kernel
theorem dL_setWindow_3 : decode cL_setWindow 3 = .ok (.iload_n 3, 1) := by decide +kernel
theorem dL_setWindow_4 : decode cL_setWindow 4 = .ok (.invokevirtual 70, 3) := by decide +kernel
theorem dL_setWindow_7 : decode cL_setWindow 7 = .ok (.goto 11, 3) := by decide +kernel
theorem dL_setWindow_10 : decode cL_setWindow 10 = .ok (.astore 4, 2) := by decide +kernel
theorem dL_setWindow_12 : decode cL_setWindow 12 = .ok (.iconst 1, 1) := by decide +kernel
theorem dL_setWindow_13 : decode cL_setWindow 13 = .ok (.ireturn, 1) := by decide +kernel
theorem dL_setWindow_14 : decode cL_setWindow 14 = .ok (.astore 4, 2) := by decide +kernel
theorem dL_setWindow_16 : decode cL_setWindow 16 = .ok (.iconst 2, 1) := by decide +kernel
theorem dL_setWindow_17 : decode cL_setWindow 17 = .ok (.ireturn, 1) := by decide +kernel
theorem dL_setWindow_18 : decode cL_setWindow 18 = .ok (.iconst 0, 1) := by decide +kernel
theorem dL_setWindow_19 : decode cL_setWindow 19 = .ok (.ireturn, 1) := by decide +kernel
set_option maxRecDepth 20000 in
theorem ggL_setAnchor_X8_setAnchor : GoodIn wsL_setAnchor wsX8_setAnchor := goodIn_ca (goodIn_r _ [6, 7, 8, 9, 10, 11, 5, 12, 13, 14, 15, 16, 17, 18, 19, 20, 21, 22, 23, 24, 25, 26, 27, 28, 29, 30, 31, 32] rfl (by decide +kernel)) (goodIn_sub (fun _ h => List.mem_cons_of_mem _ (List.mem_append_right _ h)) (by decide +kernel))
set_option maxRecDepth 20000 in
theorem gL_setAnchor_X8_setAnchor : GoodIn wsL_setAnchor (wsV RL 74 RX8 yX8_setAnchor wsX8_setAnchor) := goodIn_app (goodIn_of _ (by decide +kernel)) ggL_setAnchor_X8_setAnchor
theorem dL_setAnchor_0 : decode cL_setAnchor 0 = .ok (.aload_n 2, 1) := by decide +kernel
theorem dL_setAnchor_1 : decode cL_setAnchor 1 = .ok (.iconst 0, 1) := by decide +kernel
theorem dL_setAnchor_2 : decode cL_setAnchor 2 = .ok (.aload_n 0, 1) := by decide +kernel
theorem dL_setAnchor_3 : decode cL_setAnchor 3 = .ok (.iload_n 1, 1) := by decide +kernel
theorem dL_setAnchor_4 : decode cL_setAnchor 4 = .ok (.invokevirtual 74, 3) := by decide +kernel
theorem dL_setAnchor_7 : decode cL_setAnchor 7 = .ok (.i2l, 1) := by decide +kernel
theorem dL_setAnchor_8 : decode cL_setAnchor 8 = .ok (.lastore, 1) := by decide +kernel
theorem dL_setAnchor_9 : decode cL_setAnchor 9 = .ok (.goto 6, 3) := by decide +kernel
theorem dL_setAnchor_12 : decode cL_setAnchor 12 = .ok (.astore_n 3, 1) := by decide +kernel
theorem dL_setAnchor_13 : decode cL_setAnchor 13 = .ok (.iconst 1, 1) := by decide +kernel
theorem dL_setAnchor_14 : decode cL_setAnchor 14 = .ok (.ireturn, 1) := by decide +kernel
theorem dL_setAnchor_15 : decode cL_setAnchor 15 = .ok (.iconst 0, 1) := by decide +kernel
theorem dL_setAnchor_16 : decode cL_setAnchor 16 = .ok (.ireturn, 1) := by decide +kernel
set_option maxRecDepth 20000 in
theorem ggL_trust_X8_trust : GoodIn wsL_trust wsX8_trust := goodIn_ca (goodIn_r _ [6, 7, 8, 9, 10, 5, 11, 12, 13, 14, 15, 16, 17, 18, 19, 20, 21, 22, 23, 24, 25, 26, 27, 28, 29, 30, 31, 32, 33, 34, 35, 36, 37, 38, 39, 40, 41, 42, 43, 44, 45, 46, 47, 48, 49, 50, 51, 52, 53, 54, 55, 56, 57, 58, 59, 60, 61, 62, 63, 64, 65, 66, 67, 68, 69, 70, 71, 72, 73, 74, 75, 76, 77, 78, 79, 80, 81, 82, 83, 84, 85, 86, 87, 88, 89, 90, 91, 92, 93, 94, 95, 96, 97, 98, 99, 100, 101, 102, 103, 104, 105, 106, 107, 108, 109, 110, 111, 112, 113, 114, 115, 116, 117, 118, 119, 120, 121, 122, 123, 124, 125, 126, 127, 128, 129, 130, 131, 132, 133, 134, 135, 136, 137, 138, 139, 140, 141, 142, 143, 144, 145, 146, 147, 148, 149, 150, 151, 152, 153, 154, 155, 156, 157, 158, 159, 160, 161, 162, 163, 164, 165, 166, 167, 168, 169, 170, 171, 172, 173, 174, 175, 176, 177, 178, 179, 180, 181, 182, 183, 184, 185, 186, 187, 188, 189, 190, 191, 192, 193, 194, 195, 196, 197, 198, 199, 200, 201, 202, 203, 204, 205, 206, 207, 208, 209, 210, 211, 212, 213, 214, 215, 216, 217, 218, 219, 220, 221, 222, 223, 224, 225, 226, 227, 228, 229, 230, 231, 232, 233, 234, 235, 236, 237, 238, 239, 240, 241, 242, 243, 244, 245, 246, 247, 248, 249, 250, 251, 252, 253, 254, 255, 256, 257, 258, 259, 260, 261, 262, 263, 264, 265, 266, 267, 268, 269, 270, 271, 272, 273, 274, 275, 276, 277, 278, 279, 280, 281, 282, 283, 284, 285, 286, 287, 288, 289, 290, 291, 292, 293, 294, 295, 296, 297, 298, 299, 300, 301, 302, 303, 304, 305, 306, 307, 308, 309, 310, 311, 312] rfl (by decide +kernel)) (goodIn_sub (fun _ h => List.mem_cons_of_mem _ (List.mem_append_right _ h)) (by decide +kernel))
set_option maxRecDepth 20000 in
theorem gL_trust_X8_trust : GoodIn wsL_trust (wsV RL 77 RX8 yX8_trust wsX8_trust) := goodIn_app (goodIn_of _ (by decide +kernel)) ggL_trust_X8_trust
theorem dL_trust_0 : decode cL_trust 0 = .ok (.aload_n 3, 1) := by decide +kernel
theorem dL_trust_1 : decode cL_trust 1 = .ok (.iconst 0, 1) := by decide +kernel
theorem dL_trust_2 : decode cL_trust 2 = .ok (.aload_n 0, 1) := by decide +kernel
theorem dL_trust_3 : decode cL_trust 3 = .ok (.iload_n 1, 1) := by decide +kernel
theorem dL_trust_4 : decode cL_trust 4 = .ok (.iload_n 2, 1) := by decide +kernel
theorem dL_trust_5 : decode cL_trust 5 = .ok (.invokevirtual 77, 3) := by decide +kernel
theorem dL_trust_8 : decode cL_trust 8 = .ok (.i2l, 1) := by decide +kernel
