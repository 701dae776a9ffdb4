set_option maxRecDepth 20000 in
theorem ggL_others_L_low : GoodIn wsL_others wsL_low := goodIn_r _ [5, 6] (by decide +kernel) (by decide +kernel)
set_option maxRecDepth 20000 in
theorem gL_others_L_low : GoodIn wsL_others (va_wsS RL 111 yL_low wsL_low) := goodIn_app (goodIn_of _ (by decide +kernel)) ggL_others_L_low
set_option maxRecDepth 20000 in
theorem ggL_others_L_come : GoodIn wsL_others wsL_come := goodIn_ca (goodIn_ca (goodIn_r _ [9, 10, 11, 12, 13, 14, 15, 16, 17, 18, 19, 20, 21, 22, 23, 24, 25, 26, 27, 28, 29, 30, 31, 32, 33, 34, 35, 36, 37, 38, 39, 40, 41, 42, 43, 44, 45, 46, 47, 48, 49, 50, 51, 52, 53, 54, 55, 56, 57, 58, 59, 60, 61, 62, 63, 64, 65, 66, 67, 68, 69, 70, 71, 72, 73, 74, 75, 76, 77, 78, 79, 80, 81, 82, 83, 84, 85, 86, 87, 88, 89, 90, 257, 258, 259, 260, 261, 262, 263, 264, 265, 266, 267, 268, 269, 270, 271, 272, 273, 274] (by decide +kernel) (by decide +kernel)) (goodIn_sub (fun _ h => List.mem_cons_of_mem _ (List.mem_append_left _ (List.mem_append_right _ h))) (by decide +kernel))) (goodIn_sub (fun _ h => List.mem_cons_of_mem _ (List.mem_append_right _ h)) (by decide +kernel))
set_option maxRecDepth 20000 in
theorem gL_others_L_come : GoodIn wsL_others (va_wsS RL 126 yL_come wsL_come) := goodIn_app (goodIn_of _ (by decide +kernel)) ggL_others_L_come
set_option maxRecDepth 20000 in
theorem ggL_others_L_men : GoodIn wsL_others wsL_men := goodIn_r _ [93] (by decide +kernel) (by decide +kernel)
set_option maxRecDepth 20000 in
theorem gL_others_L_men : GoodIn wsL_others (va_wsS RL 59 yL_men wsL_men) := goodIn_app (goodIn_of _ (by decide +kernel)) ggL_others_L_men
set_option maxRecDepth 20000 in
theorem ggL_others_L_leave : GoodIn wsL_others wsL_leave := goodIn_ca (goodIn_ca (goodIn_r _ [96, 10, 11, 97, 98, 99, 15, 100, 17, 18, 19, 20, 21, 22, 23, 24, 25, 101, 102, 103, 29, 104, 31, 32, 33, 34, 35, 36, 37, 38, 39, 40, 41, 42, 43, 44, 45, 46, 47, 48, 49, 50, 51, 52, 53, 54, 55, 56, 57, 58, 59, 60, 61, 62, 63, 64, 65, 66, 67, 68, 69, 70, 71, 72, 73, 74, 75, 76, 77, 78, 105, 106, 107, 108, 83, 84, 85, 86, 257, 258, 259, 260, 261, 262, 263, 264, 265, 266, 267, 268, 269, 270, 271, 272, 273, 274] (by decide +kernel) (by decide +kernel)) (goodIn_sub (fun _ h => List.mem_cons_of_mem _ (List.mem_append_left _ (List.mem_append_right _ h))) (by decide +kernel))) (goodIn_sub (fun _ h => List.mem_cons_of_mem _ (List.mem_append_right _ h)) (by decide +kernel))
set_option maxRecDepth 20000 in
theorem gL_others_L_leave : GoodIn wsL_others (va_wsS RL 128 yL_leave wsL_leave) := goodIn_app (goodIn_of _ (by decide +kernel)) ggL_others_L_leave
set_option maxRecDepth 20000 in
theorem ggL_others_L_roundOf : GoodIn wsL_others wsL_roundOf := goodIn_r _ [111] (by decide +kernel) (by decide +kernel)
set_option maxRecDepth 20000 in
theorem gL_others_L_roundOf : GoodIn wsL_others (va_wsS RL 65 yL_roundOf wsL_roundOf) := goodIn_app (goodIn_of _ (by decide +kernel)) ggL_others_L_roundOf
set_option maxRecDepth 20000 in
theorem ggL_others_L_plan : GoodIn wsL_others wsL_plan := goodIn_ca (goodIn_r _ [114, 11, 115, 116, 117, 15, 118, 17, 18, 19, 20, 119, 120, 121, 29, 122, 31, 32, 33, 34, 35, 87, 88, 89, 90, 36, 37, 38, 39, 40, 41, 42, 43, 44, 45, 46, 47, 48, 49, 50, 51, 52, 53, 54, 55, 56, 57, 58, 59, 60, 61, 62, 63, 64, 65, 66, 67, 68, 69, 70, 71, 72, 73, 74, 75, 76, 77, 78, 123, 124, 125, 126, 127, 128, 129, 130, 131, 132, 133, 134, 135, 136, 137, 138, 139, 140, 141, 142, 143, 144, 145, 146, 147, 148, 149, 150, 151, 152, 153, 154, 155, 84, 85, 86, 156, 157, 158, 159, 160, 161, 162, 163, 164, 165, 166, 167, 168, 169, 170, 171, 172, 173, 174, 175, 176, 177, 178, 179, 180, 181, 182, 183, 184, 185, 186, 187, 188, 189, 190, 191, 192, 193, 194, 195, 196, 197, 198, 199, 200, 201, 202, 203, 204, 205, 206, 207, 208, 209, 210, 83, 257, 258, 259, 260, 261, 262, 263, 264, 265, 266, 267, 268, 269, 270, 271, 272, 273, 274, 275, 276, 277, 278, 279, 280] (by decide +kernel) (by decide +kernel)) (goodIn_sub (fun _ h => List.mem_cons_of_mem _ (List.mem_append_left _ (List.mem_append_right _ h))) (by decide +kernel))
set_option maxRecDepth 20000 in
theorem gL_others_L_plan : GoodIn wsL_others (va_wsS RL 130 yL_plan wsL_plan) := goodIn_app (goodIn_of _ (by decide +kernel)) ggL_others_L_plan
set_option maxRecDepth 20000 in
theorem ggL_others_L_share : GoodIn wsL_others wsL_share := goodIn_r _ [213, 1, 91, 92, 4, 93, 109, 110, 111] (by decide +kernel) (by decide +kernel)
set_option maxRecDepth 20000 in
theorem gL_others_L_share : GoodIn wsL_others (va_wsS RL 69 yL_share wsL_share) := goodIn_app (goodIn_of _ (by decide +kernel)) ggL_others_L_share
set_option maxRecDepth 20000 in
theorem ggL_others_L_handOver : GoodIn wsL_others wsL_handOver := goodIn_ca (goodIn_r _ [216, 11, 217, 218, 219, 15, 220, 17, 18, 19, 20, 221, 32, 33, 29, 34, 35, 47, 48, 49, 50, 51, 52, 53, 54, 55, 56, 57, 58, 59, 60, 61, 62, 63, 64, 65, 66, 67, 40, 68, 69, 70, 71, 72, 73, 74, 75, 76, 44, 77, 46, 78, 42, 43, 45, 222, 223, 224, 225, 226, 227, 228, 229, 41, 83, 84, 85, 86, 230, 231, 232, 233, 234, 235, 236, 237, 257, 258, 259, 260, 261, 262, 263, 264, 265, 266, 267, 268, 269, 270, 271, 273, 274, 272] (by decide +kernel) (by decide +kernel)) (goodIn_sub (fun _ h => List.mem_cons_of_mem _ (List.mem_append_left _ (List.mem_append_right _ h))) (by decide +kernel))
set_option maxRecDepth 20000 in
theorem gL_others_L_handOver : GoodIn wsL_others (va_wsS RL 133 yL_handOver wsL_handOver) := goodIn_app (goodIn_of _ (by decide +kernel)) ggL_others_L_handOver
set_option maxRecDepth 20000 in
theorem ggL_others_L_callOff : GoodIn wsL_others wsL_callOff := goodIn_ca (goodIn_r _ [240, 11, 241, 242, 243, 15, 244, 17, 18, 19, 20, 221, 32, 33, 29, 34, 35, 47, 48, 49, 50, 51, 52, 53, 54, 55, 56, 57, 58, 59, 60, 61, 62, 63, 64, 65, 66, 67, 40, 68, 69, 70, 71, 72, 73, 74, 75, 76, 44, 77, 46, 78, 42, 43, 45, 245, 246, 247, 248, 234, 235, 236, 237, 41, 83, 84, 85, 86, 257, 258, 259, 260, 261, 262, 263, 264, 265, 266, 267, 268, 269, 270, 271, 273, 274, 272] (by decide +kernel) (by decide +kernel)) (goodIn_sub (fun _ h => List.mem_cons_of_mem _ (List.mem_append_left _ (List.mem_append_right _ h))) (by decide +kernel))
set_option maxRecDepth 20000 in
theorem gL_others_L_callOff : GoodIn wsL_others (va_wsS RL 135 yL_callOff wsL_callOff) := goodIn_app (goodIn_of _ (by decide +kernel)) ggL_others_L_callOff
set_option maxRecDepth 20000 in
theorem ggL_others_X5_deliver : GoodIn wsL_others wsX5_deliver := goodIn_r _ [252, 20, 19, 47, 48, 49, 50, 51, 52, 53, 54, 55, 56, 57, 58, 59, 60, 61, 62, 63, 64, 29, 65, 66, 67, 40, 68, 69, 70, 35, 71, 72, 73, 74, 75, 76, 44, 77, 46, 78, 42, 43, 45, 253, 254, 255, 256, 41, 257, 258, 259, 260, 261, 273, 274, 262, 263, 264, 265, 266, 267, 268, 269, 270, 271, 272] (by decide +kernel) (by decide +kernel)
set_option maxRecDepth 20000 in
theorem gL_others_X5_deliver : GoodIn wsL_others (wsV RL 137 RX5 yX5_deliver wsX5_deliver) := goodIn_app (goodIn_of _ (by decide +kernel)) ggL_others_X5_deliver
