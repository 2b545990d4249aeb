theorem dL_trust_9 : decode cL_trust 9 = .ok (.lastore, 1) := by decide +kernel
theorem dL_trust_10 : decode cL_trust 10 = .ok (.goto 7, 3) := by decide +kernel
theorem dL_trust_13 : decode cL_trust 13 = .ok (.astore 4, 2) := by decide +kernel
theorem dL_trust_15 : decode cL_trust 15 = .ok (.iconst 1, 1) := by decide +kernel
theorem dL_trust_16 : decode cL_trust 16 = .ok (.ireturn, 1) := by decide +kernel
theorem dL_trust_17 : decode cL_trust 17 = .ok (.iconst 0, 1) := by decide +kernel
theorem dL_trust_18 : decode cL_trust 18 = .ok (.ireturn, 1) := by decide +kernel
set_option maxRecDepth 20000 in
theorem ggL_law_X8_init : GoodIn wsL_law wsX8_init := goodIn_r _ [9, 10, 11, 12, 13, 14, 15, 16, 17, 18, 19, 20, 21, 22, 23, 24, 25, 26, 27, 28, 29, 30, 31, 32, 33, 34, 35, 36, 37, 38, 39, 40, 41, 42, 43, 44, 45, 46, 47, 48, 49, 50, 51, 52, 53, 54, 55, 56, 57, 58, 59, 60, 61, 62, 63, 64, 65, 66, 67, 68, 69, 70, 71, 72, 73, 74, 75, 76, 77, 78, 79, 80, 81, 82, 83, 84, 85, 86, 87, 88, 89, 90, 91, 92, 93, 94, 95, 96, 97, 98, 99, 100, 101, 956, 957, 914, 915, 916, 917, 918, 958, 959, 960, 961, 962, 963, 964, 965, 966, 967, 968, 969, 970, 971, 972, 973, 974, 975, 976, 977, 978, 979, 980, 981, 982, 983, 984, 985, 986, 987, 988, 989, 990, 991, 992, 993, 994, 995, 996, 997, 998, 999, 1000, 1001, 1002, 1003, 1004, 1005, 1006, 1007, 1008, 1009, 1010, 1011, 1012, 1013, 1014] rfl (by decide +kernel)
set_option maxRecDepth 20000 in
theorem gL_law_X8_init : GoodIn wsL_law (wsX8_init) := ggL_law_X8_init
set_option maxRecDepth 20000 in
theorem ggL_law_X9_init : GoodIn wsL_law wsX9_init := goodIn_r _ [104, 105, 11, 12, 106, 54, 107, 108, 109, 110, 111, 112, 113, 114, 115, 116, 117, 118, 119, 120, 121, 122, 123, 124, 125, 126, 127, 128, 129, 130, 131, 132, 133, 134, 135, 919, 920, 921, 922, 923, 924, 925, 926, 927, 928, 929, 930, 931, 932, 933, 934, 935, 936, 937, 938, 939, 940, 941, 942, 943, 944, 945, 946, 947, 948, 949, 950, 951, 952, 953, 954, 955] rfl (by decide +kernel)
set_option maxRecDepth 20000 in
theorem gL_law_X9_init : GoodIn wsL_law (wsX9_init) := ggL_law_X9_init
set_option maxRecDepth 20000 in
theorem ggL_law_L_zone : GoodIn wsL_law wsL_zone := goodIn_ca (goodIn_ca (goodIn_r _ [139, 140, 141, 142, 143, 144, 2, 145, 146, 147, 148, 149, 16, 150, 151, 152, 153, 154, 155, 156, 157, 158, 159, 15, 160, 38, 161, 162, 163, 164, 35, 165, 166, 167, 168, 914, 915, 916, 917, 918, 956, 957, 988, 989, 990, 991, 992, 993, 994, 995, 996, 997, 998] rfl (by decide +kernel)) (goodIn_sub (fun _ h => List.mem_append_left _ (List.mem_append_left _ (List.mem_append_right _ h))) (by decide +kernel))) (goodIn_sub (fun _ h => List.mem_append_left _ (List.mem_append_right _ h)) (by decide +kernel))
set_option maxRecDepth 20000 in
theorem gL_law_L_zone : GoodIn wsL_law (va_wsS RL 84 yL_zone wsL_zone) := goodIn_app (goodIn_of _ (by decide +kernel)) ggL_law_L_zone
set_option maxRecDepth 20000 in
theorem ggL_law_X9_zone : GoodIn wsL_law wsX9_zone := goodIn_r _ [172, 106, 107, 108, 173, 174, 5, 175, 176, 177, 178, 179, 180, 181, 182, 183, 919, 920, 921, 922, 923, 924, 925, 926, 927, 928, 929, 930, 931, 932, 933, 934, 935, 936, 937, 938, 939, 940, 941, 942, 943, 944, 945, 946, 947, 948, 949, 950, 951, 952, 953, 954, 955] rfl (by decide +kernel)
set_option maxRecDepth 20000 in
theorem gL_law_X9_zone : GoodIn wsL_law (wsV RL 89 RX9 yX9_zone wsX9_zone) := goodIn_app (goodIn_of _ (by decide +kernel)) ggL_law_X9_zone
set_option maxRecDepth 20000 in
theorem ggL_law_X9_thrown : GoodIn wsL_law wsX9_thrown := goodIn_r _ [187, 183, 919, 920, 921, 922, 923, 924, 925, 926, 927, 928, 929, 930, 931, 932, 933, 934, 935, 936, 937, 938, 939, 940, 941, 942, 943, 944, 945, 946, 947, 948, 949, 950, 951, 952, 953, 954, 955] rfl (by decide +kernel)
set_option maxRecDepth 20000 in
theorem gL_law_X9_thrown : GoodIn wsL_law (wsV RL 90 RX9 yX9_thrown wsX9_thrown) := goodIn_app (goodIn_of _ (by decide +kernel)) ggL_law_X9_thrown
set_option maxRecDepth 20000 in
theorem ggL_law_L_need : GoodIn wsL_law wsL_need := goodIn_ca (goodIn_ca (goodIn_r _ [190, 140, 141, 191, 192, 193, 2, 194, 20, 195, 196, 197, 146, 147, 198, 199, 152, 200, 201, 151, 153, 202, 203, 204, 205, 206, 207, 208, 209, 210, 211, 148, 149, 212, 213, 214, 19, 215, 216, 62, 63, 64, 65, 66, 914, 915, 916, 917, 918, 958, 959, 960, 961, 962, 963, 964] rfl (by decide +kernel)) (goodIn_sub (fun _ h => List.mem_append_left _ (List.mem_append_left _ (List.mem_append_right _ h))) (by decide +kernel))) (goodIn_sub (fun _ h => List.mem_append_left _ (List.mem_append_right _ h)) (by decide +kernel))
set_option maxRecDepth 20000 in
theorem gL_law_L_need : GoodIn wsL_law (va_wsS RL 94 yL_need wsL_need) := goodIn_app (goodIn_of _ (by decide +kernel)) ggL_law_L_need
set_option maxRecDepth 20000 in
theorem ggL_law_X9_need : GoodIn wsL_law wsX9_need := goodIn_r _ [220, 221, 222, 223, 5, 224, 225, 122, 123, 124, 125, 126, 226, 227, 228, 173, 174, 175, 176, 177, 178, 229, 230, 231, 179, 180, 181, 182, 183, 919, 920, 921, 922, 923, 924, 925, 926, 927, 928, 929, 930, 931, 932, 933, 934, 935, 936, 937, 938, 939, 940, 941, 942, 943, 944, 945, 946, 947, 948, 949, 950, 951, 952, 953, 954, 955] rfl (by decide +kernel)
set_option maxRecDepth 20000 in
theorem gL_law_X9_need : GoodIn wsL_law (wsV RL 97 RX9 yX9_need wsX9_need) := goodIn_app (goodIn_of _ (by decide +kernel)) ggL_law_X9_need
set_option maxRecDepth 20000 in
theorem ggL_law_L_put : GoodIn wsL_law wsL_put := goodIn_ca (goodIn_ca (goodIn_r _ [234, 140, 141, 235, 236, 237, 2, 238, 146, 147, 20, 195, 196, 197, 198, 199, 152, 200, 201, 151, 153, 202, 203, 204, 205, 206, 207, 239, 240, 241, 150, 154, 155, 156, 208, 209, 210, 211, 148, 149, 212, 213, 214, 19, 215, 216, 62, 63, 64, 65, 66, 914, 915, 916, 917, 918, 958, 959, 960, 961, 962, 963, 964] rfl (by decide +kernel)) (goodIn_sub (fun _ h => List.mem_append_left _ (List.mem_append_left _ (List.mem_append_right _ h))) (by decide +kernel))) (goodIn_sub (fun _ h => List.mem_append_left _ (List.mem_append_right _ h)) (by decide +kernel))
set_option maxRecDepth 20000 in
theorem gL_law_L_put : GoodIn wsL_law (va_wsS RL 98 yL_put wsL_put) := goodIn_app (goodIn_of _ (by decide +kernel)) ggL_law_L_put
set_option maxRecDepth 20000 in
theorem ggL_law_X9_put : GoodIn wsL_law wsX9_put := goodIn_r _ [245, 246, 247, 5, 248, 176, 177, 178, 173, 174, 175, 221, 222, 223, 224, 225, 122, 123, 124, 125, 126, 226, 227, 228, 229, 230, 231, 179, 180, 181, 182, 183, 919, 920, 921, 922, 923, 924, 925, 926, 927, 928, 929, 930, 931, 932, 933, 934, 935, 936, 937, 938, 939, 940, 941, 942, 943, 944, 945, 946, 947, 948, 949, 950, 951, 952, 953, 954, 955] rfl (by decide +kernel)
set_option maxRecDepth 20000 in
theorem gL_law_X9_put : GoodIn wsL_law (wsV RL 101 RX9 yX9_put wsX9_put) := goodIn_app (goodIn_of _ (by decide +kernel)) ggL_law_X9_put
set_option maxRecDepth 20000 in
theorem ggL_law_L_drop : GoodIn wsL_law wsL_drop := goodIn_ca (goodIn_ca (goodIn_r _ [251, 140, 141, 252, 253, 254, 2, 255, 20, 195, 196, 197, 146, 147, 198, 199, 152, 200, 201, 151, 153, 202, 203, 204, 205, 206, 207, 208, 209, 210, 211, 148, 149, 212, 213, 214, 19, 215, 216, 62, 63, 64, 65, 66, 914, 915, 916, 917, 918, 958, 959, 960, 961, 962, 963, 964] rfl (by decide +kernel)) (goodIn_sub (fun _ h => List.mem_append_left _ (List.mem_append_left _ (List.mem_append_right _ h))) (by decide +kernel))) (goodIn_sub (fun _ h => List.mem_append_left _ (List.mem_append_right _ h)) (by decide +kernel))
set_option maxRecDepth 20000 in
theorem gL_law_L_drop : GoodIn wsL_law (va_wsS RL 102 yL_drop wsL_drop) := goodIn_app (goodIn_of _ (by decide +kernel)) ggL_law_L_drop
set_option maxRecDepth 20000 in
theorem ggL_law_X9_drop : GoodIn wsL_law wsX9_drop := goodIn_r _ [259, 221, 222, 223, 5, 224, 225, 122, 123, 124, 125, 126, 226, 227, 228, 173, 174, 175, 176, 177, 178, 229, 230, 231, 179, 180, 181, 182, 183, 919, 920, 921, 922, 923, 924, 925, 926, 927, 928, 929, 930, 931, 932, 933, 934, 935, 936, 937, 938, 939, 940, 941, 942, 943, 944, 945, 946, 947, 948, 949, 950, 951, 952, 953, 954, 955] rfl (by decide +kernel)
set_option maxRecDepth 20000 in
theorem gL_law_X9_drop : GoodIn wsL_law (wsV RL 104 RX9 yX9_drop wsX9_drop) := goodIn_app (goodIn_of _ (by decide +kernel)) ggL_law_X9_drop
set_option maxRecDepth 20000 in
theorem ggL_law_L_update : GoodIn wsL_law wsL_update := goodIn_ca (goodIn_r _ [262, 263, 264, 265, 266, 2, 267, 20, 16, 268, 269, 270, 271, 272, 273, 274, 162, 163, 15, 164, 38, 35, 275, 276, 277, 19, 278, 68, 216, 279, 280, 281, 47, 282, 283, 55, 284, 285, 286, 287, 56, 57, 58, 288, 289, 290, 291, 292, 293, 294, 295, 296, 297, 298, 299, 300, 301, 302, 303, 304, 305, 306, 307, 62, 63, 64, 308, 309, 310, 311, 312, 313, 314, 315, 65, 66, 316, 317, 318, 319, 320, 321, 322, 323, 324, 325, 326, 327, 37, 328, 329, 330, 331, 332, 333, 334, 335, 336, 337, 152, 338, 339, 340, 341, 342, 343, 344, 345, 346, 203, 204, 201, 151, 153, 347, 348, 349, 350, 351, 352, 353, 354, 355, 356, 357, 161, 358, 359, 360, 361, 362, 48, 363, 364, 914, 915, 916, 917, 918, 956, 957, 958, 959, 960, 961, 962, 963, 964, 988, 989, 990, 991, 992, 993, 994, 995, 996, 997, 998, 999, 1000, 1001, 1002, 1003] rfl (by decide +kernel)) (goodIn_sub (fun _ h => List.mem_append_right _ h) (by decide +kernel))
set_option maxRecDepth 20000 in
theorem gL_law_L_update : GoodIn wsL_law (va_wsS RL 105 yL_update wsL_update) := goodIn_app (goodIn_of _ (by decide +kernel)) ggL_law_L_update
set_option maxRecDepth 20000 in
theorem ggL_law_X9_update : GoodIn wsL_law wsX9_update := goodIn_r _ [368, 225, 109, 369, 370, 371, 5, 372, 106, 176, 177, 178, 373, 374, 375, 376, 183, 377, 378, 379, 380, 117, 118, 119, 120, 121, 381, 382, 383, 384, 385, 386, 387, 388, 122, 123, 124, 125, 126, 389, 390, 391, 392, 393, 394, 395, 396, 397, 398, 399, 400, 107, 401, 402, 403, 404, 405, 406, 407, 408, 409, 410, 411, 412, 413, 414, 415, 919, 920, 921, 922, 923, 924, 925, 926, 927, 928, 929, 930, 931, 932, 933, 934, 935, 936, 937, 938, 939, 940, 941, 942, 943, 944, 945, 946, 947, 948, 949, 950, 951, 952, 953, 954, 955] rfl (by decide +kernel)
set_option maxRecDepth 20000 in
theorem gL_law_X9_update : GoodIn wsL_law (wsV RL 108 RX9 yX9_update wsX9_update) := goodIn_app (goodIn_of _ (by decide +kernel)) ggL_law_X9_update
set_option maxRecDepth 20000 in
theorem ggL_law_L_zoneHas : GoodIn wsL_law wsL_zoneHas := goodIn_ca (goodIn_ca (goodIn_r _ [418, 263, 140, 419, 420, 421, 2, 422, 146, 147, 16, 268, 269, 270, 271, 272, 273, 274, 162, 163, 15, 164, 38, 35, 423, 424, 425, 37, 426, 333, 363, 48, 42, 427, 428, 429, 430, 334, 289, 290, 47, 291, 283, 55, 336, 337, 152, 338, 431, 432, 433, 434, 435, 436, 437, 438, 439, 440, 441, 351, 442, 443, 444, 445, 56, 352, 340, 341, 288, 446, 447, 448, 449, 914, 915, 916, 917, 918, 956, 957, 988, 989, 990, 991, 992, 993, 994, 995, 996, 997, 998, 999, 1000, 1001, 1002, 1003] rfl (by decide +kernel)) (goodIn_sub (fun _ h => List.mem_append_left _ (List.mem_append_left _ (List.mem_append_right _ h))) (by decide +kernel))) (goodIn_sub (fun _ h => List.mem_append_right _ h) (by decide +kernel))
set_option maxRecDepth 20000 in
theorem gL_law_L_zoneHas : GoodIn wsL_law (va_wsS RL 109 yL_zoneHas wsL_zoneHas) := goodIn_app (goodIn_of _ (by decide +kernel)) ggL_law_L_zoneHas
set_option maxRecDepth 20000 in
theorem ggL_law_X9_zoneHas : GoodIn wsL_law wsX9_zoneHas := goodIn_r _ [453, 107, 109, 117, 110, 369, 370, 371, 5, 372, 106, 176, 177, 178, 179, 180, 181, 182, 183, 454, 455, 456, 457, 118, 407, 408, 409, 401, 402, 403, 410, 411, 412, 413, 414, 415, 458, 459, 460, 461, 119, 404, 405, 406, 462, 463, 464, 465, 919, 920, 921, 922, 923, 924, 925, 926, 927, 928, 929, 930, 931, 932, 933, 934, 935, 936, 937, 938, 939, 940, 941, 942, 943, 944, 945, 946, 947, 948, 949, 950, 951, 952, 953, 954, 955] rfl (by decide +kernel)
set_option maxRecDepth 20000 in
theorem gL_law_X9_zoneHas : GoodIn wsL_law (wsV RL 111 RX9 yX9_zoneHas wsX9_zoneHas) := goodIn_app (goodIn_of _ (by decide +kernel)) ggL_law_X9_zoneHas
set_option maxRecDepth 20000 in
theorem ggL_law_L_record : GoodIn wsL_law wsL_record := goodIn_ca (goodIn_ca (goodIn_r _ [468, 263, 140, 469, 470, 471, 2, 472, 16, 268, 269, 270, 271, 272, 273, 195, 196, 197, 146, 147, 198, 199, 152, 200, 201, 151, 153, 202, 203, 204, 205, 206, 207, 274, 162, 163, 15, 164, 38, 35, 473, 309, 310, 47, 311, 283, 55, 56, 474, 297, 298, 299, 57, 914, 915, 916, 917, 918, 988, 989, 990, 991, 992, 993, 994, 995, 996, 997, 998, 956, 957, 999, 1000, 1001, 1002, 1003] rfl (by decide +kernel)) (goodIn_sub (fun _ h => List.mem_append_right _ h) (by decide +kernel))) (goodIn_sub (fun _ h => List.mem_append_left _ (List.mem_append_left _ (List.mem_append_right _ h))) (by decide +kernel))
set_option maxRecDepth 20000 in
theorem gL_law_L_record : GoodIn wsL_law (va_wsS RL 112 yL_record wsL_record) := goodIn_app (goodIn_of _ (by decide +kernel)) ggL_law_L_record
set_option maxRecDepth 20000 in
theorem ggL_law_X9_record : GoodIn wsL_law wsX9_record := goodIn_r _ [478, 120, 369, 370, 371, 5, 372, 106, 176, 177, 178, 226, 227, 228, 173, 174, 175, 229, 230, 231, 179, 180, 181, 182, 183, 389, 390, 391, 392, 117, 118, 119, 919, 920, 921, 922, 923, 924, 925, 926, 927, 928, 929, 930, 931, 932, 933, 934, 935, 936, 937, 938, 939, 940, 941, 942, 943, 944, 945, 946, 947, 948, 949, 950, 951, 952, 953, 954, 955] rfl (by decide +kernel)
set_option maxRecDepth 20000 in
theorem gL_law_X9_record : GoodIn wsL_law (wsV RL 115 RX9 yX9_record wsX9_record) := goodIn_app (goodIn_of _ (by decide +kernel)) ggL_law_X9_record
set_option maxRecDepth 20000 in
theorem ggL_law_L_bringUp : GoodIn wsL_law wsL_bringUp := goodIn_ca (goodIn_r _ [481, 263, 482, 483, 484, 2, 485, 16, 268, 269, 270, 271, 272, 273, 274, 162, 163, 15, 164, 38, 35, 486, 487, 488, 37, 489, 42, 363, 48, 49, 490, 491, 492, 47, 493, 283, 288, 289, 290, 291, 55, 292, 293, 294, 295, 56, 320, 309, 310, 311, 296, 297, 298, 299, 57, 300, 301, 302, 303, 58, 364, 280, 281, 282, 284, 285, 286, 287, 914, 915, 916, 917, 918, 956, 957, 988, 989, 990, 991, 992, 993, 994, 995, 996, 997, 998, 999, 1000, 1001, 1002, 1003] rfl (by decide +kernel)) (goodIn_sub (fun _ h => List.mem_append_right _ h) (by decide +kernel))
set_option maxRecDepth 20000 in
theorem gL_law_L_bringUp : GoodIn wsL_law (va_wsS RL 116 yL_bringUp wsL_bringUp) := goodIn_app (goodIn_of _ (by decide +kernel)) ggL_law_L_bringUp
set_option maxRecDepth 20000 in
theorem ggL_law_X9_bringUp : GoodIn wsL_law wsX9_bringUp := goodIn_r _ [497, 109, 110, 117, 369, 370, 371, 5, 372, 106, 176, 177, 178, 373, 374, 375, 376, 183, 498, 499, 500, 501, 118, 119, 120, 121, 389, 390, 391, 392, 377, 378, 379, 380, 381, 382, 383, 384, 919, 920, 921, 922, 923, 924, 925, 926, 927, 928, 929, 930, 931, 932, 933, 934, 935, 936, 937, 938, 939, 940, 941, 942, 943, 944, 945, 946, 947, 948, 949, 950, 951, 952, 953, 954, 955] rfl (by decide +kernel)
set_option maxRecDepth 20000 in
theorem gL_law_X9_bringUp : GoodIn wsL_law (wsV RL 118 RX9 yX9_bringUp wsX9_bringUp) := goodIn_app (goodIn_of _ (by decide +kernel)) ggL_law_X9_bringUp
set_option maxRecDepth 20000 in
theorem ggL_law_L_setDead : GoodIn wsL_law wsL_setDead := goodIn_ca (goodIn_r _ [504, 263, 505, 506, 507, 2, 508, 16, 268, 269, 270, 271, 272, 273, 274, 162, 163, 15, 164, 38, 35, 914, 915, 916, 917, 918, 988, 989, 990, 991, 992, 993, 994, 995, 996, 997, 998, 956, 957] rfl (by decide +kernel)) (goodIn_sub (fun _ h => List.mem_append_right _ h) (by decide +kernel))
set_option maxRecDepth 20000 in
theorem gL_law_L_setDead : GoodIn wsL_law (va_wsS RL 119 yL_setDead wsL_setDead) := goodIn_app (goodIn_of _ (by decide +kernel)) ggL_law_L_setDead
set_option maxRecDepth 20000 in
theorem ggL_law_X9_setDead : GoodIn wsL_law wsX9_setDead := goodIn_r _ [512, 112, 369, 370, 371, 5, 372, 106, 176, 177, 178, 373, 374, 375, 376, 183, 919, 920, 921, 922, 923, 924, 925, 926, 927, 928, 929, 930, 931, 932, 933, 934, 935, 936, 937, 938, 939, 940, 941, 942, 943, 944, 945, 946, 947, 948, 949, 950, 951, 952, 953, 954, 955] rfl (by decide +kernel)
set_option maxRecDepth 20000 in
theorem gL_law_X9_setDead : GoodIn wsL_law (wsV RL 122 RX9 yX9_setDead wsX9_setDead) := goodIn_app (goodIn_of _ (by decide +kernel)) ggL_law_X9_setDead
set_option maxRecDepth 20000 in
theorem ggL_law_L_ask : GoodIn wsL_law wsL_ask := goodIn_ca (goodIn_ca (goodIn_ca (goodIn_r _ [515, 263, 140, 141, 516, 517, 518, 2, 519, 148, 149, 16, 28, 268, 269, 270, 271, 272, 273, 520, 521, 522, 146, 147, 150, 151, 152, 153, 205, 206, 207, 274, 162, 163, 15, 164, 38, 35, 523, 340, 341, 524, 525, 526, 37, 527, 528, 285, 286, 287, 333, 529, 530, 531, 532, 443, 444, 47, 445, 283, 55, 56, 352, 334, 289, 290, 291, 533, 534, 535, 536, 537, 538, 27, 539, 97, 98, 99, 540, 541, 301, 302, 303, 58, 353, 297, 298, 299, 57, 358, 309, 310, 311, 542, 543, 544, 545, 546, 547, 548, 549, 432, 433, 434, 435, 436, 437, 550, 551, 552, 553, 446, 447, 448, 449, 351, 337, 338, 554, 555, 556, 557, 558, 342, 343, 344, 345, 339, 914, 915, 916, 917, 918, 988, 989, 990, 991, 992, 993, 994, 995, 996, 997, 998, 980, 981, 982, 983, 984, 985, 986, 987, 956, 957, 999, 1000, 1001, 1002, 1003] rfl (by decide +kernel)) (goodIn_sub (fun _ h => List.mem_append_left _ (List.mem_append_right _ h)) (by decide +kernel))) (goodIn_sub (fun _ h => List.mem_append_right _ h) (by decide +kernel))) (goodIn_sub (fun _ h => List.mem_append_left _ (List.mem_append_left _ (List.mem_append_right _ h))) (by decide +kernel))
set_option maxRecDepth 20000 in
theorem gL_law_L_ask : GoodIn wsL_law (va_wsS RL 123 yL_ask wsL_ask) := goodIn_app (goodIn_of _ (by decide +kernel)) ggL_law_L_ask
set_option maxRecDepth 20000 in
theorem ggL_law_X9_ask : GoodIn wsL_law wsX9_ask := goodIn_r _ [562, 107, 563, 564, 565, 173, 174, 5, 175, 176, 177, 178, 369, 370, 371, 372, 106, 404, 405, 406, 407, 408, 409, 410, 411, 412, 413, 414, 415, 566, 567, 568, 569, 183, 570, 571, 572, 573, 118, 121, 120, 108, 574, 575, 576, 577, 117, 119, 578, 579, 580, 581, 582, 583, 584, 585, 586, 587, 588, 589, 590, 591, 401, 402, 403, 592, 593, 594, 595, 389, 390, 391, 392, 596, 597, 598, 599, 600, 601, 602, 603, 604, 605, 606, 607, 135, 919, 920, 921, 922, 923, 924, 925, 926, 927, 928, 929, 930, 931, 932, 933, 934, 935, 936, 937, 938, 939, 940, 941, 942, 943, 944, 945, 946, 947, 948, 949, 950, 951, 952, 953, 954, 955] rfl (by decide +kernel)
set_option maxRecDepth 20000 in
theorem gL_law_X9_ask : GoodIn wsL_law (wsV RL 125 RX9 yX9_ask wsX9_ask) := goodIn_app (goodIn_of _ (by decide +kernel)) ggL_law_X9_ask
set_option maxRecDepth 20000 in
theorem ggL_law_L_told : GoodIn wsL_law wsL_told := goodIn_ca (goodIn_r _ [610, 140, 611, 612, 613, 2, 614, 146, 147, 28, 615, 616, 617, 27, 618, 97, 98, 99, 540, 619, 620, 914, 915, 916, 917, 918, 980, 981, 982, 983, 984, 985, 986, 987] rfl (by decide +kernel)) (goodIn_sub (fun _ h => List.mem_append_left _ (List.mem_append_left _ (List.mem_append_right _ h))) (by decide +kernel))
set_option maxRecDepth 20000 in
theorem gL_law_L_told : GoodIn wsL_law (va_wsS RL 126 yL_told wsL_told) := goodIn_app (goodIn_of _ (by decide +kernel)) ggL_law_L_told
set_option maxRecDepth 20000 in
theorem ggL_law_X9_told : GoodIn wsL_law wsX9_told := goodIn_r _ [624, 135, 176, 177, 5, 178, 373, 374, 375, 376, 183, 919, 920, 921, 922, 923, 924, 925, 926, 927, 928, 929, 930, 931, 932, 933, 934, 935, 936, 937, 938, 939, 940, 941, 942, 943, 944, 945, 946, 947, 948, 949, 950, 951, 952, 953, 954, 955] rfl (by decide +kernel)
set_option maxRecDepth 20000 in
theorem gL_law_X9_told : GoodIn wsL_law (wsV RL 128 RX9 yX9_told wsX9_told) := goodIn_app (goodIn_of _ (by decide +kernel)) ggL_law_X9_told
set_option maxRecDepth 20000 in
theorem ggL_law_L_neighbour : GoodIn wsL_law wsL_neighbour := goodIn_ca (goodIn_ca (goodIn_r _ [627, 263, 140, 628, 629, 630, 2, 631, 146, 147, 16, 268, 269, 270, 271, 272, 273, 198, 199, 152, 200, 201, 151, 153, 202, 203, 204, 274, 162, 163, 15, 164, 38, 35, 632, 633, 634, 37, 635, 48, 333, 334, 289, 290, 47, 291, 283, 55, 636, 637, 638, 639, 640, 641, 642, 549, 432, 433, 434, 435, 436, 437, 438, 439, 440, 441, 351, 337, 338, 442, 443, 444, 445, 56, 352, 340, 341, 288, 336, 431, 914, 915, 916, 917, 918, 956, 957, 988, 989, 990, 991, 992, 993, 994, 995, 996, 997, 998, 999, 1000, 1001, 1002, 1003] rfl (by decide +kernel)) (goodIn_sub (fun _ h => List.mem_append_left _ (List.mem_append_left _ (List.mem_append_right _ h))) (by decide +kernel))) (goodIn_sub (fun _ h => List.mem_append_right _ h) (by decide +kernel))
set_option maxRecDepth 20000 in
theorem gL_law_L_neighbour : GoodIn wsL_law (va_wsS RL 129 yL_neighbour wsL_neighbour) := goodIn_app (goodIn_of _ (by decide +kernel)) ggL_law_L_neighbour
set_option maxRecDepth 20000 in
theorem ggL_law_X9_neighbour : GoodIn wsL_law wsX9_neighbour := goodIn_r _ [646, 117, 107, 118, 369, 370, 371, 5, 372, 106, 176, 177, 178, 226, 227, 228, 173, 174, 175, 229, 230, 231, 179, 180, 181, 182, 183, 407, 408, 409, 401, 402, 403, 410, 411, 412, 413, 414, 415, 647, 648, 649, 650, 458, 459, 460, 461, 119, 404, 405, 406, 651, 652, 653, 919, 920, 921, 922, 923, 924, 925, 926, 927, 928, 929, 930, 931, 932, 933, 934, 935, 936, 937, 938, 939, 940, 941, 942, 943, 944, 945, 946, 947, 948, 949, 950, 951, 952, 953, 954, 955] rfl (by decide +kernel)
set_option maxRecDepth 20000 in
theorem gL_law_X9_neighbour : GoodIn wsL_law (wsV RL 131 RX9 yX9_neighbour wsX9_neighbour) := goodIn_app (goodIn_of _ (by decide +kernel)) ggL_law_X9_neighbour
set_option maxRecDepth 20000 in
theorem ggL_law_L_resolve : GoodIn wsL_law wsL_resolve := goodIn_ca (goodIn_r _ [656, 140, 657, 658, 659, 2, 660, 24, 28, 520, 521, 522, 146, 147, 150, 151, 152, 153, 205, 206, 207, 661, 662, 663, 23, 664, 79, 665, 666, 285, 286, 287, 667, 668, 669, 670, 671, 672, 673, 674, 675, 676, 677, 678, 679, 680, 681, 682, 683, 684, 685, 686, 77, 687, 688, 689, 690, 76, 691, 692, 85, 86, 693, 694, 695, 696, 91, 90, 697, 698, 699, 700, 701, 702, 703, 704, 87, 88, 89, 705, 537, 538, 27, 539, 97, 98, 99, 540, 706, 707, 708, 709, 710, 80, 81, 711, 712, 713, 714, 715, 162, 163, 15, 164, 38, 35, 716, 340, 341, 717, 718, 719, 720, 93, 721, 722, 37, 723, 724, 725, 726, 727, 728, 729, 43, 44, 730, 731, 732, 733, 734, 735, 736, 737, 738, 739, 740, 741, 742, 42, 743, 744, 745, 746, 49, 48, 747, 525, 526, 527, 528, 333, 529, 530, 531, 532, 443, 444, 47, 445, 283, 55, 56, 352, 334, 289, 290, 291, 533, 534, 535, 536, 541, 301, 302, 303, 58, 353, 297, 298, 299, 57, 358, 309, 310, 311, 542, 543, 544, 545, 546, 547, 548, 549, 432, 433, 434, 435, 436, 437, 550, 551, 552, 553, 446, 447, 448, 449, 351, 337, 338, 554, 555, 556, 557, 558, 342, 343, 344, 345, 339, 748, 749, 750, 751, 752, 753, 754, 755, 756, 757, 758, 759, 92, 760, 761, 762, 763, 764, 765, 766, 767, 768, 769, 770, 771, 772, 773, 774, 775, 776, 777, 778, 779, 780, 781, 914, 915, 916, 917, 918, 980, 981, 982, 983, 984, 985, 986, 987, 965, 966, 967, 968, 969, 970, 971, 972, 973, 974, 975, 976, 977, 978, 979, 1004, 1005, 1006, 1007, 1008, 1009, 1010, 1011, 1012, 1013, 1014, 956, 957, 988, 989, 990, 991, 992, 993, 994, 995, 996, 997, 998, 999, 1000, 1001, 1002, 1003] rfl (by decide +kernel)) (goodIn_sub (fun _ h => List.mem_append_left _ (List.mem_append_left _ (List.mem_append_right _ h))) (by decide +kernel))
set_option maxRecDepth 20000 in
theorem gL_law_L_resolve : GoodIn wsL_law (va_wsS RL 132 yL_resolve wsL_resolve) := goodIn_app (goodIn_of _ (by decide +kernel)) ggL_law_L_resolve
set_option maxRecDepth 20000 in
theorem ggL_law_X9_resolve : GoodIn wsL_law wsX9_resolve := goodIn_r _ [785, 786, 787, 5, 788, 173, 174, 175, 176, 177, 178, 373, 374, 375, 376, 183, 789, 790, 791, 792, 793, 794, 134, 133, 130, 565, 116, 112, 110, 564, 563, 120, 127, 795, 796, 797, 798, 799, 128, 129, 800, 801, 802, 803, 131, 132, 804, 805, 806, 807, 106, 107, 404, 405, 406, 407, 408, 409, 410, 411, 412, 413, 414, 415, 808, 809, 810, 811, 812, 813, 814, 815, 113, 114, 115, 816, 817, 818, 819, 604, 605, 606, 607, 135, 570, 571, 572, 573, 118, 121, 108, 574, 575, 576, 577, 117, 119, 578, 579, 580, 581, 582, 583, 584, 585, 586, 587, 588, 589, 590, 591, 401, 402, 403, 592, 593, 594, 595, 389, 390, 391, 392, 596, 597, 598, 599, 600, 601, 602, 603, 820, 821, 822, 823, 824, 825, 826, 827, 919, 920, 921, 922, 923, 924, 925, 926, 927, 928, 929, 930, 931, 932, 933, 934, 935, 936, 937, 938, 939, 940, 941, 942, 943, 944, 945, 946, 947, 948, 949, 950, 951, 952, 953, 954, 955] rfl (by decide +kernel)
set_option maxRecDepth 20000 in
theorem gL_law_X9_resolve : GoodIn wsL_law (wsV RL 134 RX9 yX9_resolve wsX9_resolve) := goodIn_app (goodIn_of _ (by decide +kernel)) ggL_law_X9_resolve
set_option maxRecDepth 20000 in
theorem ggL_law_L_resolveAnew : GoodIn wsL_law wsL_resolveAnew := goodIn_ca (goodIn_r _ [830, 140, 831, 832, 833, 2, 834, 24, 28, 520, 521, 522, 146, 147, 150, 151, 152, 153, 205, 206, 207, 661, 662, 663, 23, 664, 79, 665, 666, 285, 286, 287, 667, 668, 669, 670, 671, 672, 673, 674, 675, 676, 677, 678, 679, 680, 681, 682, 683, 684, 685, 686, 77, 687, 688, 689, 690, 76, 691, 692, 85, 86, 693, 694, 695, 696, 91, 90, 697, 698, 699, 700, 701, 702, 703, 704, 87, 88, 89, 705, 537, 538, 27, 539, 97, 98, 99, 540, 706, 707, 708, 709, 710, 80, 81, 711, 712, 713, 714, 715, 162, 163, 15, 164, 38, 35, 716, 340, 341, 717, 718, 719, 720, 93, 721, 722, 37, 723, 724, 725, 726, 727, 728, 729, 43, 44, 730, 731, 732, 733, 734, 735, 736, 737, 738, 739, 740, 741, 742, 42, 743, 744, 745, 746, 49, 48, 747, 525, 526, 527, 528, 333, 529, 530, 531, 532, 443, 444, 47, 445, 283, 55, 56, 352, 334, 289, 290, 291, 533, 534, 535, 536, 541, 301, 302, 303, 58, 353, 297, 298, 299, 57, 358, 309, 310, 311, 542, 543, 544, 545, 546, 547, 548, 549, 432, 433, 434, 435, 436, 437, 550, 551, 552, 553, 446, 447, 448, 449, 351, 337, 338, 554, 555, 556, 557, 558, 342, 343, 344, 345, 339, 748, 749, 750, 751, 752, 753, 754, 755, 756, 757, 758, 759, 92, 760, 761, 762, 763, 764, 765, 766, 767, 768, 769, 770, 771, 772, 773, 774, 775, 776, 777, 778, 779, 780, 781, 914, 915, 916, 917, 918, 980, 981, 982, 983, 984, 985, 986, 987, 965, 966, 967, 968, 969, 970, 971, 972, 973, 974, 975, 976, 977, 978, 979, 1004, 1005, 1006, 1007, 1008, 1009, 1010, 1011, 1012, 1013, 1014, 956, 957, 988, 989, 990, 991, 992, 993, 994, 995, 996, 997, 998, 999, 1000, 1001, 1002, 1003] rfl (by decide +kernel)) (goodIn_sub (fun _ h => List.mem_append_left _ (List.mem_append_left _ (List.mem_append_right _ h))) (by decide +kernel))
set_option maxRecDepth 20000 in
theorem gL_law_L_resolveAnew : GoodIn wsL_law (va_wsS RL 135 yL_resolveAnew wsL_resolveAnew) := goodIn_app (goodIn_of _ (by decide +kernel)) ggL_law_L_resolveAnew
set_option maxRecDepth 20000 in
theorem ggL_law_X9_resolveAnew : GoodIn wsL_law wsX9_resolveAnew := goodIn_r _ [838, 786, 787, 5, 788, 173, 174, 175, 176, 177, 178, 373, 374, 375, 376, 183, 789, 790, 791, 792, 793, 794, 134, 133, 130, 565, 116, 112, 110, 564, 563, 120, 127, 795, 796, 797, 798, 799, 128, 129, 800, 801, 802, 803, 131, 132, 804, 805, 806, 807, 106, 107, 404, 405, 406, 407, 408, 409, 410, 411, 412, 413, 414, 415, 808, 809, 810, 811, 812, 813, 814, 815, 113, 114, 115, 816, 817, 818, 819, 604, 605, 606, 607, 135, 570, 571, 572, 573, 118, 121, 108, 574, 575, 576, 577, 117, 119, 578, 579, 580, 581, 582, 583, 584, 585, 586, 587, 588, 589, 590, 591, 401, 402, 403, 592, 593, 594, 595, 389, 390, 391, 392, 596, 597, 598, 599, 600, 601, 602, 603, 820, 821, 822, 823, 824, 825, 826, 827, 919, 920, 921, 922, 923, 924, 925, 926, 927, 928, 929, 930, 931, 932, 933, 934, 935, 936, 937, 938, 939, 940, 941, 942, 943, 944, 945, 946, 947, 948, 949, 950, 951, 952, 953, 954, 955] rfl (by decide +kernel)
set_option maxRecDepth 20000 in
theorem gL_law_X9_resolveAnew : GoodIn wsL_law (wsV RL 137 RX9 yX9_resolveAnew wsX9_resolveAnew) := goodIn_app (goodIn_of _ (by decide +kernel)) ggL_law_X9_resolveAnew
set_option maxRecDepth 20000 in
theorem ggL_law_X8_forget : GoodIn wsL_law wsX8_forget := goodIn_r _ [842, 24, 843, 844, 845, 76, 846, 692, 93, 847, 694, 695, 696, 91, 90, 697, 698, 699, 700, 85, 914, 915, 916, 917, 918, 965, 966, 967, 968, 969, 970, 971, 972, 973, 974, 975, 976, 977, 978, 979, 1004, 1005, 1006, 1007, 1008, 1009, 1010, 1011, 1012, 1013, 1014] rfl (by decide +kernel)
set_option maxRecDepth 20000 in
theorem gL_law_X8_forget : GoodIn wsL_law (wsV RL 138 RX8 yX8_forget wsX8_forget) := goodIn_app (goodIn_of _ (by decide +kernel)) ggL_law_X8_forget
set_option maxRecDepth 20000 in
theorem ggL_law_X9_forget : GoodIn wsL_law wsX9_forget := goodIn_r _ [851, 183, 799, 794, 134, 133, 127, 919, 920, 921, 922, 923, 924, 925, 926, 927, 928, 929, 930, 931, 932, 933, 934, 935, 936, 937, 938, 939, 940, 941, 942, 943, 944, 945, 946, 947, 948, 949, 950, 951, 952, 953, 954, 955] rfl (by decide +kernel)
set_option maxRecDepth 20000 in
theorem gL_law_X9_forget : GoodIn wsL_law (wsV RL 141 RX9 yX9_forget wsX9_forget) := goodIn_app (goodIn_of _ (by decide +kernel)) ggL_law_X9_forget
set_option maxRecDepth 20000 in
theorem ggL_law_L_pass : GoodIn wsL_law wsL_pass := goodIn_ca (goodIn_r _ [854, 140, 855, 856, 857, 2, 858, 146, 147, 24, 914, 915, 916, 917, 918, 965, 966, 967, 968, 969, 970, 971, 972, 973, 974, 975, 976, 977, 978, 979] rfl (by decide +kernel)) (goodIn_sub (fun _ h => List.mem_append_left _ (List.mem_append_left _ (List.mem_append_right _ h))) (by decide +kernel))
set_option maxRecDepth 20000 in
theorem gL_law_L_pass : GoodIn wsL_law (va_wsS RL 142 yL_pass wsL_pass) := goodIn_app (goodIn_of _ (by decide +kernel)) ggL_law_L_pass
set_option maxRecDepth 20000 in
theorem ggL_law_X9_pass : GoodIn wsL_law wsX9_pass := goodIn_r _ [862, 794, 176, 177, 5, 178, 373, 374, 375, 376, 183, 919, 920, 921, 922, 923, 924, 925, 926, 927, 928, 929, 930, 931, 932, 933, 934, 935, 936, 937, 938, 939, 940, 941, 942, 943, 944, 945, 946, 947, 948, 949, 950, 951, 952, 953, 954, 955] rfl (by decide +kernel)
set_option maxRecDepth 20000 in
theorem gL_law_X9_pass : GoodIn wsL_law (wsV RL 144 RX9 yX9_pass wsX9_pass) := goodIn_app (goodIn_of _ (by decide +kernel)) ggL_law_X9_pass
set_option maxRecDepth 20000 in
theorem ggL_law_L_setKey : GoodIn wsL_law wsL_setKey := goodIn_ca (goodIn_ca (goodIn_r _ [865, 263, 140, 866, 867, 868, 2, 869, 146, 147, 16, 268, 269, 270, 271, 272, 273, 870, 871, 872, 274, 162, 163, 15, 164, 38, 35, 873, 874, 875, 37, 876, 43, 44, 914, 915, 916, 917, 918, 956, 957, 988, 989, 990, 991, 992, 993, 994, 995, 996, 997, 998] rfl (by decide +kernel)) (goodIn_sub (fun _ h => List.mem_append_left _ (List.mem_append_left _ (List.mem_append_right _ h))) (by decide +kernel))) (goodIn_sub (fun _ h => List.mem_append_right _ h) (by decide +kernel))
set_option maxRecDepth 20000 in
theorem gL_law_L_setKey : GoodIn wsL_law (va_wsS RL 145 yL_setKey wsL_setKey) := goodIn_app (goodIn_of _ (by decide +kernel)) ggL_law_L_setKey
set_option maxRecDepth 20000 in
theorem ggL_law_X9_setKey : GoodIn wsL_law wsX9_setKey := goodIn_r _ [880, 113, 369, 370, 371, 5, 372, 106, 176, 177, 178, 179, 180, 181, 182, 183, 919, 920, 921, 922, 923, 924, 925, 926, 927, 928, 929, 930, 931, 932, 933, 934, 935, 936, 937, 938, 939, 940, 941, 942, 943, 944, 945, 946, 947, 948, 949, 950, 951, 952, 953, 954, 955] rfl (by decide +kernel)
set_option maxRecDepth 20000 in
theorem gL_law_X9_setKey : GoodIn wsL_law (wsV RL 147 RX9 yX9_setKey wsX9_setKey) := goodIn_app (goodIn_of _ (by decide +kernel)) ggL_law_X9_setKey
set_option maxRecDepth 20000 in
theorem ggL_law_L_setWindow : GoodIn wsL_law wsL_setWindow := goodIn_ca (goodIn_ca (goodIn_r _ [883, 263, 140, 884, 885, 886, 2, 887, 146, 147, 16, 268, 269, 270, 271, 272, 273, 274, 162, 163, 15, 164, 38, 35, 914, 915, 916, 917, 918, 988, 989, 990, 991, 992, 993, 994, 995, 996, 997, 998, 956, 957] rfl (by decide +kernel)) (goodIn_sub (fun _ h => List.mem_append_left _ (List.mem_append_left _ (List.mem_append_right _ h))) (by decide +kernel))) (goodIn_sub (fun _ h => List.mem_append_right _ h) (by decide +kernel))
set_option maxRecDepth 20000 in
theorem gL_law_L_setWindow : GoodIn wsL_law (va_wsS RL 148 yL_setWindow wsL_setWindow) := goodIn_app (goodIn_of _ (by decide +kernel)) ggL_law_L_setWindow
set_option maxRecDepth 20000 in
theorem ggL_law_X9_setWindow : GoodIn wsL_law wsX9_setWindow := goodIn_r _ [891, 114, 115, 369, 370, 371, 5, 372, 106, 176, 177, 178, 179, 180, 181, 182, 183, 919, 920, 921, 922, 923, 924, 925, 926, 927, 928, 929, 930, 931, 932, 933, 934, 935, 936, 937, 938, 939, 940, 941, 942, 943, 944, 945, 946, 947, 948, 949, 950, 951, 952, 953, 954, 955] rfl (by decide +kernel)
set_option maxRecDepth 20000 in
theorem gL_law_X9_setWindow : GoodIn wsL_law (wsV RL 151 RX9 yX9_setWindow wsX9_setWindow) := goodIn_app (goodIn_of _ (by decide +kernel)) ggL_law_X9_setWindow
set_option maxRecDepth 20000 in
theorem ggL_law_L_setAnchor : GoodIn wsL_law wsL_setAnchor := goodIn_ca (goodIn_r _ [894, 140, 895, 896, 897, 2, 898, 146, 147, 24, 870, 871, 872, 914, 915, 916, 917, 918, 965, 966, 967, 968, 969, 970, 971, 972, 973, 974, 975, 976, 977, 978, 979] rfl (by decide +kernel)) (goodIn_sub (fun _ h => List.mem_append_left _ (List.mem_append_left _ (List.mem_append_right _ h))) (by decide +kernel))
set_option maxRecDepth 20000 in
theorem gL_law_L_setAnchor : GoodIn wsL_law (va_wsS RL 152 yL_setAnchor wsL_setAnchor) := goodIn_app (goodIn_of _ (by decide +kernel)) ggL_law_L_setAnchor
set_option maxRecDepth 20000 in
theorem ggL_law_X9_setAnchor : GoodIn wsL_law wsX9_setAnchor := goodIn_r _ [902, 116, 176, 177, 5, 178, 373, 374, 375, 376, 183, 919, 920, 921, 922, 923, 924, 925, 926, 927, 928, 929, 930, 931, 932, 933, 934, 935, 936, 937, 938, 939, 940, 941, 942, 943, 944, 945, 946, 947, 948, 949, 950, 951, 952, 953, 954, 955] rfl (by decide +kernel)
set_option maxRecDepth 20000 in
theorem gL_law_X9_setAnchor : GoodIn wsL_law (wsV RL 154 RX9 yX9_setAnchor wsX9_setAnchor) := goodIn_app (goodIn_of _ (by decide +kernel)) ggL_law_X9_setAnchor
set_option maxRecDepth 20000 in
theorem ggL_law_L_trust : GoodIn wsL_law wsL_trust := goodIn_ca (goodIn_r _ [905, 140, 906, 907, 908, 2, 909, 24, 29, 520, 521, 522, 146, 147, 150, 151, 152, 153, 205, 206, 207, 661, 662, 663, 23, 664, 79, 665, 666, 285, 286, 287, 667, 668, 669, 670, 671, 672, 673, 674, 675, 676, 677, 678, 679, 680, 681, 682, 683, 684, 685, 686, 77, 687, 688, 689, 690, 76, 691, 692, 85, 86, 693, 694, 695, 696, 91, 90, 697, 698, 699, 700, 701, 702, 703, 704, 87, 88, 89, 705, 537, 538, 27, 539, 97, 98, 99, 540, 706, 707, 708, 709, 710, 80, 81, 711, 712, 713, 714, 715, 162, 163, 15, 164, 38, 35, 716, 340, 341, 717, 718, 719, 720, 93, 721, 722, 37, 723, 724, 725, 726, 727, 728, 729, 43, 44, 730, 731, 732, 733, 734, 735, 736, 737, 738, 739, 740, 741, 742, 42, 743, 744, 745, 746, 49, 48, 747, 525, 526, 527, 528, 333, 529, 530, 531, 532, 443, 444, 47, 445, 283, 55, 56, 352, 334, 289, 290, 291, 533, 534, 535, 536, 541, 301, 302, 303, 58, 353, 297, 298, 299, 57, 358, 309, 310, 311, 542, 543, 544, 545, 546, 547, 548, 549, 432, 433, 434, 435, 436, 437, 550, 551, 552, 553, 446, 447, 448, 449, 351, 337, 338, 554, 555, 556, 557, 558, 342, 343, 344, 345, 339, 748, 749, 750, 751, 752, 753, 754, 755, 756, 757, 758, 759, 92, 760, 761, 762, 763, 764, 765, 766, 767, 768, 769, 770, 771, 772, 773, 774, 775, 776, 777, 778, 779, 780, 781, 914, 915, 916, 917, 918, 980, 981, 982, 983, 984, 985, 986, 987, 965, 966, 967, 968, 969, 970, 971, 972, 973, 974, 975, 976, 977, 978, 979, 1004, 1005, 1006, 1007, 1008, 1009, 1010, 1011, 1012, 1013, 1014, 956, 957, 988, 989, 990, 991, 992, 993, 994, 995, 996, 997, 998, 999, 1000, 1001, 1002, 1003] rfl (by decide +kernel)) (goodIn_sub (fun _ h => List.mem_append_left _ (List.mem_append_left _ (List.mem_append_right _ h))) (by decide +kernel))
set_option maxRecDepth 20000 in
theorem gL_law_L_trust : GoodIn wsL_law (va_wsS RL 155 yL_trust wsL_trust) := goodIn_app (goodIn_of _ (by decide +kernel)) ggL_law_L_trust
set_option maxRecDepth 20000 in
theorem ggL_law_X9_trust : GoodIn wsL_law wsX9_trust := goodIn_r _ [913, 793, 786, 787, 5, 788, 173, 174, 175, 176, 177, 178, 373, 374, 375, 376, 183, 789, 790, 791, 792, 794, 134, 133, 130, 565, 116, 112, 110, 564, 563, 120, 127, 795, 796, 797, 798, 799, 128, 129, 800, 801, 802, 803, 131, 132, 804, 805, 806, 807, 106, 107, 404, 405, 406, 407, 408, 409, 410, 411, 412, 413, 414, 415, 808, 809, 810, 811, 812, 813, 814, 815, 113, 114, 115, 816, 817, 818, 819, 604, 605, 606, 607, 135, 570, 571, 572, 573, 118, 121, 108, 574, 575, 576, 577, 117, 119, 578, 579, 580, 581, 582, 583, 584, 585, 586, 587, 588, 589, 590, 591, 401, 402, 403, 592, 593, 594, 595, 389, 390, 391, 392, 596, 597, 598, 599, 600, 601, 602, 603, 820, 821, 822, 823, 824, 825, 826, 827, 919, 920, 921, 922, 923, 924, 925, 926, 927, 928, 929, 930, 931, 932, 933, 934, 935, 936, 937, 938, 939, 940, 941, 942, 943, 944, 945, 946, 947, 948, 949, 950, 951, 952, 953, 954, 955] rfl (by decide +kernel)
set_option maxRecDepth 20000 in
theorem gL_law_X9_trust : GoodIn wsL_law (wsV RL 157 RX9 yX9_trust wsX9_trust) := goodIn_app (goodIn_of _ (by decide +kernel)) ggL_law_X9_trust
theorem dL_law_0 : decode cL_law 0 = .ok (.new 8, 3) := by decide +kernel
theorem dL_law_3 : decode cL_law 3 = .ok (.dup, 1) := by decide +kernel
theorem dL_law_4 : decode cL_law 4 = .ok (.invokespecial 80, 3) := by decide +kernel
theorem dL_law_7 : decode cL_law 7 = .ok (.astore_n 1, 1) := by decide +kernel
theorem dL_law_8 : decode cL_law 8 = .ok (.new 81, 3) := by decide +kernel
theorem dL_law_11 : decode cL_law 11 = .ok (.dup, 1) := by decide +kernel
theorem dL_law_12 : decode cL_law 12 = .ok (.invokespecial 83, 3) := by decide +kernel
theorem dL_law_15 : decode cL_law 15 = .ok (.astore_n 2, 1) := by decide +kernel
theorem dL_law_16 : decode cL_law 16 = .ok (.iconst 1, 1) := by decide +kernel
theorem dL_law_17 : decode cL_law 17 = .ok (.newarray .long, 2) := by decide +kernel
theorem dL_law_19 : decode cL_law 19 = .ok (.astore_n 3, 1) := by decide +kernel
theorem dL_law_20 : decode cL_law 20 = .ok (.iconst 0, 1) := by decide +kernel
theorem dL_law_21 : decode cL_law 21 = .ok (.istore 4, 2) := by decide +kernel
theorem dL_law_23 : decode cL_law 23 = .ok (.iload 4, 2) := by decide +kernel
theorem dL_law_25 : decode cL_law 25 = .ok (.aload_n 0, 1) := by decide +kernel
theorem dL_law_26 : decode cL_law 26 = .ok (.arraylength, 1) := by decide +kernel
theorem dL_law_27 : decode cL_law 27 = .ok (.iconst 5, 1) := by decide +kernel
theorem dL_law_28 : decode cL_law 28 = .ok (.isub, 1) := by decide +kernel
theorem dL_law_29 : decode cL_law 29 = .ok (.if_icmp .gt 1465, 3) := by decide +kernel
theorem dL_law_32 : decode cL_law 32 = .ok (.aload_n 0, 1) := by decide +kernel
theorem dL_law_33 : decode cL_law 33 = .ok (.iload 4, 2) := by decide +kernel
theorem dL_law_35 : decode cL_law 35 = .ok (.iaload, 1) := by decide +kernel
theorem dL_law_36 : decode cL_law 36 = .ok (.bipush 31, 2) := by decide +kernel
theorem dL_law_38 : decode cL_law 38 = .ok (.iand, 1) := by decide +kernel
theorem dL_law_39 : decode cL_law 39 = .ok (.tableswitch 1449 0 19 #[93, 161, 257, 349, 417, 480, 548, 628, 684, 748, 828, 884, 980, 1048, 1116, 1129, 1185, 1265, 1325, 1381], 93) := by decide +kernel
theorem dL_law_132 : decode cL_law 132 = .ok (.aload_n 1, 1) := by decide +kernel
theorem dL_law_133 : decode cL_law 133 = .ok (.aload_n 0, 1) := by decide +kernel
theorem dL_law_134 : decode cL_law 134 = .ok (.iload 4, 2) := by decide +kernel
theorem dL_law_136 : decode cL_law 136 = .ok (.iconst 1, 1) := by decide +kernel
theorem dL_law_137 : decode cL_law 137 = .ok (.iadd, 1) := by decide +kernel
theorem dL_law_138 : decode cL_law 138 = .ok (.iaload, 1) := by decide +kernel
theorem dL_law_139 : decode cL_law 139 = .ok (.aload_n 0, 1) := by decide +kernel
theorem dL_law_140 : decode cL_law 140 = .ok (.iload 4, 2) := by decide +kernel
theorem dL_law_142 : decode cL_law 142 = .ok (.iconst 2, 1) := by decide +kernel
theorem dL_law_143 : decode cL_law 143 = .ok (.iadd, 1) := by decide +kernel
theorem dL_law_144 : decode cL_law 144 = .ok (.iaload, 1) := by decide +kernel
theorem dL_law_145 : decode cL_law 145 = .ok (.aload_n 3, 1) := by decide +kernel
theorem dL_law_146 : decode cL_law 146 = .ok (.invokestatic 84, 3) := by decide +kernel
theorem dL_law_149 : decode cL_law 149 = .ok (.istore 5, 2) := by decide +kernel
theorem dL_law_151 : decode cL_law 151 = .ok (.aload_n 2, 1) := by decide +kernel
theorem dL_law_152 : decode cL_law 152 = .ok (.aload_n 0, 1) := by decide +kernel
theorem dL_law_153 : decode cL_law 153 = .ok (.iload 4, 2) := by decide +kernel
theorem dL_law_155 : decode cL_law 155 = .ok (.iconst 1, 1) := by decide +kernel
theorem dL_law_156 : decode cL_law 156 = .ok (.iadd, 1) := by decide +kernel
theorem dL_law_157 : decode cL_law 157 = .ok (.iaload, 1) := by decide +kernel
theorem dL_law_158 : decode cL_law 158 = .ok (.aload_n 0, 1) := by decide +kernel
theorem dL_law_159 : decode cL_law 159 = .ok (.iload 4, 2) := by decide +kernel
theorem dL_law_161 : decode cL_law 161 = .ok (.iconst 2, 1) := by decide +kernel
theorem dL_law_162 : decode cL_law 162 = .ok (.iadd, 1) := by decide +kernel
theorem dL_law_163 : decode cL_law 163 = .ok (.iaload, 1) := by decide +kernel
theorem dL_law_164 : decode cL_law 164 = .ok (.invokevirtual 89, 3) := by decide +kernel
theorem dL_law_167 : decode cL_law 167 = .ok (.istore 6, 2) := by decide +kernel
theorem dL_law_169 : decode cL_law 169 = .ok (.aload_n 2, 1) := by decide +kernel
theorem dL_law_170 : decode cL_law 170 = .ok (.invokevirtual 90, 3) := by decide +kernel
theorem dL_law_173 : decode cL_law 173 = .ok (.iload 5, 2) := by decide +kernel
theorem dL_law_175 : decode cL_law 175 = .ok (.if_icmp .eq 5, 3) := by decide +kernel
theorem dL_law_178 : decode cL_law 178 = .ok (.iconst 0, 1) := by decide +kernel
theorem dL_law_179 : decode cL_law 179 = .ok (.ireturn, 1) := by decide +kernel
theorem dL_law_180 : decode cL_law 180 = .ok (.iload 5, 2) := by decide +kernel
theorem dL_law_182 : decode cL_law 182 = .ok (.ifCond .ne 15, 3) := by decide +kernel
theorem dL_law_185 : decode cL_law 185 = .ok (.aload_n 3, 1) := by decide +kernel
theorem dL_law_186 : decode cL_law 186 = .ok (.iconst 0, 1) := by decide +kernel
theorem dL_law_187 : decode cL_law 187 = .ok (.laload, 1) := by decide +kernel
theorem dL_law_188 : decode cL_law 188 = .ok (.iload 6, 2) := by decide +kernel
theorem dL_law_190 : decode cL_law 190 = .ok (.i2l, 1) := by decide +kernel
theorem dL_law_191 : decode cL_law 191 = .ok (.lcmp, 1) := by decide +kernel
theorem dL_law_192 : decode cL_law 192 = .ok (.ifCond .eq 5, 3) := by decide +kernel
theorem dL_law_195 : decode cL_law 195 = .ok (.iconst 0, 1) := by decide +kernel
theorem dL_law_196 : decode cL_law 196 = .ok (.ireturn, 1) := by decide +kernel
theorem dL_law_197 : decode cL_law 197 = .ok (.goto 1291, 3) := by decide +kernel
theorem dL_law_200 : decode cL_law 200 = .ok (.aload_n 1, 1) := by decide +kernel
theorem dL_law_201 : decode cL_law 201 = .ok (.aload_n 0, 1) := by decide +kernel
theorem dL_law_202 : decode cL_law 202 = .ok (.iload 4, 2) := by decide +kernel
theorem dL_law_204 : decode cL_law 204 = .ok (.iconst 1, 1) := by decide +kernel
theorem dL_law_205 : decode cL_law 205 = .ok (.iadd, 1) := by decide +kernel
theorem dL_law_206 : decode cL_law 206 = .ok (.iaload, 1) := by decide +kernel
theorem dL_law_207 : decode cL_law 207 = .ok (.aload_n 0, 1) := by decide +kernel
theorem dL_law_208 : decode cL_law 208 = .ok (.iload 4, 2) := by decide +kernel
theorem dL_law_210 : decode cL_law 210 = .ok (.iconst 2, 1) := by decide +kernel
theorem dL_law_211 : decode cL_law 211 = .ok (.iadd, 1) := by decide +kernel
theorem dL_law_212 : decode cL_law 212 = .ok (.iaload, 1) := by decide +kernel
theorem dL_law_213 : decode cL_law 213 = .ok (.aload_n 0, 1) := by decide +kernel
theorem dL_law_214 : decode cL_law 214 = .ok (.iload 4, 2) := by decide +kernel
theorem dL_law_216 : decode cL_law 216 = .ok (.iconst 3, 1) := by decide +kernel
theorem dL_law_217 : decode cL_law 217 = .ok (.iadd, 1) := by decide +kernel
theorem dL_law_218 : decode cL_law 218 = .ok (.iaload, 1) := by decide +kernel
theorem dL_law_219 : decode cL_law 219 = .ok (.ifCond .eq 7, 3) := by decide +kernel
theorem dL_law_222 : decode cL_law 222 = .ok (.iconst 1, 1) := by decide +kernel
theorem dL_law_223 : decode cL_law 223 = .ok (.goto 4, 3) := by decide +kernel
theorem dL_law_226 : decode cL_law 226 = .ok (.iconst 0, 1) := by decide +kernel
theorem dL_law_227 : decode cL_law 227 = .ok (.aload_n 3, 1) := by decide +kernel
theorem dL_law_228 : decode cL_law 228 = .ok (.invokestatic 94, 3) := by decide +kernel
theorem dL_law_231 : decode cL_law 231 = .ok (.istore 5, 2) := by decide +kernel
theorem dL_law_233 : decode cL_law 233 = .ok (.aload_n 2, 1) := by decide +kernel
theorem dL_law_234 : decode cL_law 234 = .ok (.aload_n 0, 1) := by decide +kernel
theorem dL_law_235 : decode cL_law 235 = .ok (.iload 4, 2) := by decide +kernel
theorem dL_law_237 : decode cL_law 237 = .ok (.iconst 1, 1) := by decide +kernel
theorem dL_law_238 : decode cL_law 238 = .ok (.iadd, 1) := by decide +kernel
theorem dL_law_239 : decode cL_law 239 = .ok (.iaload, 1) := by decide +kernel
theorem dL_law_240 : decode cL_law 240 = .ok (.aload_n 0, 1) := by decide +kernel
theorem dL_law_241 : decode cL_law 241 = .ok (.iload 4, 2) := by decide +kernel
theorem dL_law_243 : decode cL_law 243 = .ok (.iconst 2, 1) := by decide +kernel
theorem dL_law_244 : decode cL_law 244 = .ok (.iadd, 1) := by decide +kernel
theorem dL_law_245 : decode cL_law 245 = .ok (.iaload, 1) := by decide +kernel
theorem dL_law_246 : decode cL_law 246 = .ok (.aload_n 0, 1) := by decide +kernel
theorem dL_law_247 : decode cL_law 247 = .ok (.iload 4, 2) := by decide +kernel
theorem dL_law_249 : decode cL_law 249 = .ok (.iconst 3, 1) := by decide +kernel
theorem dL_law_250 : decode cL_law 250 = .ok (.iadd, 1) := by decide +kernel
theorem dL_law_251 : decode cL_law 251 = .ok (.iaload, 1) := by decide +kernel
theorem dL_law_252 : decode cL_law 252 = .ok (.ifCond .eq 7, 3) := by decide +kernel
theorem dL_law_255 : decode cL_law 255 = .ok (.iconst 1, 1) := by decide +kernel
theorem dL_law_256 : decode cL_law 256 = .ok (.goto 4, 3) := by decide +kernel
theorem dL_law_259 : decode cL_law 259 = .ok (.iconst 0, 1) := by decide +kernel
theorem dL_law_260 : decode cL_law 260 = .ok (.invokevirtual 97, 3) := by decide +kernel
theorem dL_law_263 : decode cL_law 263 = .ok (.istore 6, 2) := by decide +kernel
theorem dL_law_265 : decode cL_law 265 = .ok (.aload_n 2, 1) := by decide +kernel
theorem dL_law_266 : decode cL_law 266 = .ok (.invokevirtual 90, 3) := by decide +kernel
theorem dL_law_269 : decode cL_law 269 = .ok (.iload 5, 2) := by decide +kernel
theorem dL_law_271 : decode cL_law 271 = .ok (.if_icmp .eq 5, 3) := by decide +kernel
theorem dL_law_274 : decode cL_law 274 = .ok (.iconst 0, 1) := by decide +kernel
theorem dL_law_275 : decode cL_law 275 = .ok (.ireturn, 1) := by decide +kernel
theorem dL_law_276 : decode cL_law 276 = .ok (.iload 5, 2) := by decide +kernel
theorem dL_law_278 : decode cL_law 278 = .ok (.ifCond .ne 15, 3) := by decide +kernel
theorem dL_law_281 : decode cL_law 281 = .ok (.aload_n 3, 1) := by decide +kernel
theorem dL_law_282 : decode cL_law 282 = .ok (.iconst 0, 1) := by decide +kernel
theorem dL_law_283 : decode cL_law 283 = .ok (.laload, 1) := by decide +kernel
theorem dL_law_284 : decode cL_law 284 = .ok (.iload 6, 2) := by decide +kernel
theorem dL_law_286 : decode cL_law 286 = .ok (.i2l, 1) := by decide +kernel
theorem dL_law_287 : decode cL_law 287 = .ok (.lcmp, 1) := by decide +kernel
theorem dL_law_288 : decode cL_law 288 = .ok (.ifCond .eq 5, 3) := by decide +kernel
theorem dL_law_291 : decode cL_law 291 = .ok (.iconst 0, 1) := by decide +kernel
theorem dL_law_292 : decode cL_law 292 = .ok (.ireturn, 1) := by decide +kernel
theorem dL_law_293 : decode cL_law 293 = .ok (.goto 1195, 3) := by decide +kernel
theorem dL_law_296 : decode cL_law 296 = .ok (.aload_n 1, 1) := by decide +kernel
theorem dL_law_297 : decode cL_law 297 = .ok (.aload_n 0, 1) := by decide +kernel
theorem dL_law_298 : decode cL_law 298 = .ok (.iload 4, 2) := by decide +kernel
theorem dL_law_300 : decode cL_law 300 = .ok (.iconst 1, 1) := by decide +kernel
theorem dL_law_301 : decode cL_law 301 = .ok (.iadd, 1) := by decide +kernel
theorem dL_law_302 : decode cL_law 302 = .ok (.iaload, 1) := by decide +kernel
theorem dL_law_303 : decode cL_law 303 = .ok (.aload_n 0, 1) := by decide +kernel
theorem dL_law_304 : decode cL_law 304 = .ok (.iload 4, 2) := by decide +kernel
theorem dL_law_306 : decode cL_law 306 = .ok (.iconst 2, 1) := by decide +kernel
theorem dL_law_307 : decode cL_law 307 = .ok (.iadd, 1) := by decide +kernel
theorem dL_law_308 : decode cL_law 308 = .ok (.iaload, 1) := by decide +kernel
theorem dL_law_309 : decode cL_law 309 = .ok (.aload_n 0, 1) := by decide +kernel
theorem dL_law_310 : decode cL_law 310 = .ok (.iload 4, 2) := by decide +kernel
theorem dL_law_312 : decode cL_law 312 = .ok (.iconst 3, 1) := by decide +kernel
theorem dL_law_313 : decode cL_law 313 = .ok (.iadd, 1) := by decide +kernel
theorem dL_law_314 : decode cL_law 314 = .ok (.iaload, 1) := by decide +kernel
theorem dL_law_315 : decode cL_law 315 = .ok (.aload_n 0, 1) := by decide +kernel
theorem dL_law_316 : decode cL_law 316 = .ok (.iload 4, 2) := by decide +kernel
theorem dL_law_318 : decode cL_law 318 = .ok (.iconst 4, 1) := by decide +kernel
theorem dL_law_319 : decode cL_law 319 = .ok (.iadd, 1) := by decide +kernel
theorem dL_law_320 : decode cL_law 320 = .ok (.iaload, 1) := by decide +kernel
theorem dL_law_321 : decode cL_law 321 = .ok (.aload_n 3, 1) := by decide +kernel
theorem dL_law_322 : decode cL_law 322 = .ok (.invokestatic 98, 3) := by decide +kernel
theorem dL_law_325 : decode cL_law 325 = .ok (.istore 5, 2) := by decide +kernel
theorem dL_law_327 : decode cL_law 327 = .ok (.aload_n 2, 1) := by decide +kernel
theorem dL_law_328 : decode cL_law 328 = .ok (.aload_n 0, 1) := by decide +kernel
theorem dL_law_329 : decode cL_law 329 = .ok (.iload 4, 2) := by decide +kernel
theorem dL_law_331 : decode cL_law 331 = .ok (.iconst 1, 1) := by decide +kernel
theorem dL_law_332 : decode cL_law 332 = .ok (.iadd, 1) := by decide +kernel
theorem dL_law_333 : decode cL_law 333 = .ok (.iaload, 1) := by decide +kernel
theorem dL_law_334 : decode cL_law 334 = .ok (.aload_n 0, 1) := by decide +kernel
theorem dL_law_335 : decode cL_law 335 = .ok (.iload 4, 2) := by decide +kernel
theorem dL_law_337 : decode cL_law 337 = .ok (.iconst 2, 1) := by decide +kernel
theorem dL_law_338 : decode cL_law 338 = .ok (.iadd, 1) := by decide +kernel
theorem dL_law_339 : decode cL_law 339 = .ok (.iaload, 1) := by decide +kernel
theorem dL_law_340 : decode cL_law 340 = .ok (.aload_n 0, 1) := by decide +kernel
theorem dL_law_341 : decode cL_law 341 = .ok (.iload 4, 2) := by decide +kernel
theorem dL_law_343 : decode cL_law 343 = .ok (.iconst 3, 1) := by decide +kernel
theorem dL_law_344 : decode cL_law 344 = .ok (.iadd, 1) := by decide +kernel
theorem dL_law_345 : decode cL_law 345 = .ok (.iaload, 1) := by decide +kernel
theorem dL_law_346 : decode cL_law 346 = .ok (.aload_n 0, 1) := by decide +kernel
theorem dL_law_347 : decode cL_law 347 = .ok (.iload 4, 2) := by decide +kernel
theorem dL_law_349 : decode cL_law 349 = .ok (.iconst 4, 1) := by decide +kernel
theorem dL_law_350 : decode cL_law 350 = .ok (.iadd, 1) := by decide +kernel
theorem dL_law_351 : decode cL_law 351 = .ok (.iaload, 1) := by decide +kernel
theorem dL_law_352 : decode cL_law 352 = .ok (.invokevirtual 101, 3) := by decide +kernel
theorem dL_law_355 : decode cL_law 355 = .ok (.istore 6, 2) := by decide +kernel
theorem dL_law_357 : decode cL_law 357 = .ok (.aload_n 2, 1) := by decide +kernel
theorem dL_law_358 : decode cL_law 358 = .ok (.invokevirtual 90, 3) := by decide +kernel
theorem dL_law_361 : decode cL_law 361 = .ok (.iload 5, 2) := by decide +kernel
theorem dL_law_363 : decode cL_law 363 = .ok (.if_icmp .eq 5, 3) := by decide +kernel
theorem dL_law_366 : decode cL_law 366 = .ok (.iconst 0, 1) := by decide +kernel
theorem dL_law_367 : decode cL_law 367 = .ok (.ireturn, 1) := by decide +kernel
theorem dL_law_368 : decode cL_law 368 = .ok (.iload 5, 2) := by decide +kernel
theorem dL_law_370 : decode cL_law 370 = .ok (.ifCond .ne 15, 3) := by decide +kernel
theorem dL_law_373 : decode cL_law 373 = .ok (.aload_n 3, 1) := by decide +kernel
theorem dL_law_374 : decode cL_law 374 = .ok (.iconst 0, 1) := by decide +kernel
theorem dL_law_375 : decode cL_law 375 = .ok (.laload, 1) := by decide +kernel
theorem dL_law_376 : decode cL_law 376 = .ok (.iload 6, 2) := by decide +kernel
theorem dL_law_378 : decode cL_law 378 = .ok (.i2l, 1) := by decide +kernel
theorem dL_law_379 : decode cL_law 379 = .ok (.lcmp, 1) := by decide +kernel
theorem dL_law_380 : decode cL_law 380 = .ok (.ifCond .eq 5, 3) := by decide +kernel
theorem dL_law_383 : decode cL_law 383 = .ok (.iconst 0, 1) := by decide +kernel
theorem dL_law_384 : decode cL_law 384 = .ok (.ireturn, 1) := by decide +kernel
theorem dL_law_385 : decode cL_law 385 = .ok (.goto 1103, 3) := by decide +kernel
theorem dL_law_388 : decode cL_law 388 = .ok (.aload_n 1, 1) := by decide +kernel
theorem dL_law_389 : decode cL_law 389 = .ok (.aload_n 0, 1) := by decide +kernel
theorem dL_law_390 : decode cL_law 390 = .ok (.iload 4, 2) := by decide +kernel
