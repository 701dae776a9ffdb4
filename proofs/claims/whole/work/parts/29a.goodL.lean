set_option maxRecDepth 20000 in
theorem ggL_law_X5_init : GoodIn wsL_law wsX5_init := goodIn_r _ [9, 10, 11, 12, 13, 14, 15, 16, 17, 18, 19, 20, 21, 22, 23, 24, 25, 26, 27, 28, 29, 30, 31, 32, 33, 34, 35, 36, 37, 38, 39, 40, 41, 42, 43, 44, 45, 46, 47, 48, 49, 50, 51, 52, 53, 54, 55, 56, 57, 58, 59, 60, 61, 62, 63, 64, 65, 66, 67, 68, 69, 70, 71, 72, 73, 74, 75, 76, 928, 929, 930, 931, 932, 933, 934, 935, 936, 937, 911, 912, 913, 914, 915, 938, 939, 940, 941, 942, 943, 944, 945, 946, 947, 948] (by decide +kernel) (by decide +kernel)
set_option maxRecDepth 20000 in
theorem gL_law_X5_init : GoodIn wsL_law (wsX5_init) := ggL_law_X5_init
set_option maxRecDepth 20000 in
theorem ggL_law_X6_init : GoodIn wsL_law wsX6_init := goodIn_r _ [79, 80, 11, 12, 50, 81, 82, 83, 84, 85, 86, 87, 916, 917, 918, 919, 920, 921, 922, 923, 924, 925, 926, 927] (by decide +kernel) (by decide +kernel)
set_option maxRecDepth 20000 in
theorem gL_law_X6_init : GoodIn wsL_law (wsX6_init) := ggL_law_X6_init
set_option maxRecDepth 20000 in
theorem ggL_law_L_addDoorstep : GoodIn wsL_law wsL_addDoorstep := goodIn_ca (goodIn_ca (goodIn_r _ [91, 92, 93, 94, 95, 96, 2, 97, 98, 99, 16, 29, 100, 101, 102, 103, 104, 105, 106, 107, 15, 108, 41, 109, 110, 111, 112, 42, 113, 114, 115, 28, 116, 76, 75, 117, 118, 119, 120, 121, 122, 123, 124, 125, 126, 127, 128, 36, 37, 38, 39, 40, 43, 44, 45, 129, 130, 131, 35, 132, 51, 133, 134, 135, 136, 137, 138, 139, 140, 141, 142, 143, 144, 911, 912, 913, 914, 915, 928, 929, 930, 931, 932, 933, 934, 935, 936, 937, 946, 947, 948] (by decide +kernel) (by decide +kernel)) (goodIn_sub (fun _ h => List.mem_append_left _ (List.mem_append_left _ (List.mem_append_right _ h))) (by decide +kernel))) (goodIn_sub (fun _ h => List.mem_append_left _ (List.mem_append_right _ h)) (by decide +kernel))
set_option maxRecDepth 20000 in
theorem gL_law_L_addDoorstep : GoodIn wsL_law (va_wsS RL 83 yL_addDoorstep wsL_addDoorstep) := goodIn_app (goodIn_of _ (by decide +kernel)) ggL_law_L_addDoorstep
set_option maxRecDepth 20000 in
theorem ggL_law_X6_addDoorstep : GoodIn wsL_law wsX6_addDoorstep := goodIn_r _ [148, 149, 150, 151, 152, 5, 153, 81, 154, 155, 156, 157, 158, 159, 160, 161, 82, 162, 163, 164, 165, 916, 917, 918, 919, 920, 921, 922, 923, 924, 925, 926, 927] (by decide +kernel) (by decide +kernel)
set_option maxRecDepth 20000 in
theorem gL_law_X6_addDoorstep : GoodIn wsL_law (wsV RL 88 RX6 yX6_addDoorstep wsX6_addDoorstep) := goodIn_app (goodIn_of _ (by decide +kernel)) ggL_law_X6_addDoorstep
set_option maxRecDepth 20000 in
theorem ggL_law_X6_thrown : GoodIn wsL_law wsX6_thrown := goodIn_r _ [169, 149, 916, 917, 918, 919, 920, 921, 922, 923, 924, 925, 926, 927] (by decide +kernel) (by decide +kernel)
set_option maxRecDepth 20000 in
theorem gL_law_X6_thrown : GoodIn wsL_law (wsV RL 89 RX6 yX6_thrown wsX6_thrown) := goodIn_app (goodIn_of _ (by decide +kernel)) ggL_law_X6_thrown
set_option maxRecDepth 20000 in
theorem ggL_law_L_removeDoorstep : GoodIn wsL_law wsL_removeDoorstep := goodIn_ca (goodIn_ca (goodIn_r _ [172, 173, 93, 174, 175, 176, 2, 177, 98, 99, 16, 29, 178, 179, 180, 181, 182, 183, 184, 185, 186, 15, 187, 41, 188, 189, 190, 191, 192, 109, 110, 111, 112, 42, 113, 114, 115, 28, 116, 76, 75, 117, 118, 119, 120, 121, 122, 123, 124, 125, 126, 127, 128, 36, 37, 38, 39, 40, 43, 44, 45, 129, 130, 131, 35, 132, 51, 133, 134, 135, 136, 193, 194, 195, 196, 197, 198, 199, 200, 201, 911, 912, 913, 914, 915, 928, 929, 930, 931, 932, 933, 934, 935, 936, 937, 946, 947, 948] (by decide +kernel) (by decide +kernel)) (goodIn_sub (fun _ h => List.mem_append_left _ (List.mem_append_left _ (List.mem_append_right _ h))) (by decide +kernel))) (goodIn_sub (fun _ h => List.mem_append_right _ h) (by decide +kernel))
set_option maxRecDepth 20000 in
theorem gL_law_L_removeDoorstep : GoodIn wsL_law (va_wsS RL 92 yL_removeDoorstep wsL_removeDoorstep) := goodIn_app (goodIn_of _ (by decide +kernel)) ggL_law_L_removeDoorstep
set_option maxRecDepth 20000 in
theorem ggL_law_X6_removeDoorstep : GoodIn wsL_law wsX6_removeDoorstep := goodIn_r _ [205, 149, 206, 207, 208, 5, 209, 81, 210, 211, 212, 213, 154, 155, 156, 157, 158, 159, 160, 161, 82, 214, 215, 216, 217, 916, 917, 918, 919, 920, 921, 922, 923, 924, 925, 926, 927] (by decide +kernel) (by decide +kernel)
set_option maxRecDepth 20000 in
theorem gL_law_X6_removeDoorstep : GoodIn wsL_law (wsV RL 94 RX6 yX6_removeDoorstep wsX6_removeDoorstep) := goodIn_app (goodIn_of _ (by decide +kernel)) ggL_law_X6_removeDoorstep
set_option maxRecDepth 20000 in
theorem ggL_law_L_setPints : GoodIn wsL_law wsL_setPints := goodIn_ca (goodIn_ca (goodIn_r _ [220, 173, 92, 221, 222, 223, 2, 224, 29, 16, 178, 179, 180, 181, 182, 183, 184, 185, 186, 15, 187, 41, 100, 101, 102, 103, 104, 113, 114, 115, 28, 116, 76, 75, 117, 118, 119, 120, 121, 122, 123, 124, 125, 126, 127, 128, 36, 37, 38, 39, 40, 42, 43, 44, 45, 129, 130, 131, 35, 132, 51, 133, 134, 135, 136, 225, 226, 227, 228, 197, 141, 142, 143, 144, 911, 912, 913, 914, 915, 928, 929, 930, 931, 932, 933, 934, 935, 936, 937, 946, 947, 948] (by decide +kernel) (by decide +kernel)) (goodIn_sub (fun _ h => List.mem_append_right _ h) (by decide +kernel))) (goodIn_sub (fun _ h => List.mem_append_left _ (List.mem_append_right _ h)) (by decide +kernel))
set_option maxRecDepth 20000 in
theorem gL_law_L_setPints : GoodIn wsL_law (va_wsS RL 95 yL_setPints wsL_setPints) := goodIn_app (goodIn_of _ (by decide +kernel)) ggL_law_L_setPints
set_option maxRecDepth 20000 in
theorem ggL_law_X6_setPints : GoodIn wsL_law wsX6_setPints := goodIn_r _ [232, 149, 81, 210, 211, 212, 5, 213, 154, 155, 156, 157, 158, 159, 160, 161, 82, 916, 917, 918, 919, 920, 921, 922, 923, 924, 925, 926, 927] (by decide +kernel) (by decide +kernel)
set_option maxRecDepth 20000 in
theorem gL_law_X6_setPints : GoodIn wsL_law (wsV RL 98 RX6 yX6_setPints wsX6_setPints) := goodIn_app (goodIn_of _ (by decide +kernel)) ggL_law_X6_setPints
set_option maxRecDepth 20000 in
theorem ggL_law_L_come : GoodIn wsL_law wsL_come := goodIn_ca (goodIn_ca (goodIn_r _ [235, 173, 93, 236, 237, 238, 2, 239, 98, 99, 16, 29, 240, 241, 242, 182, 183, 243, 244, 245, 15, 246, 109, 110, 111, 112, 42, 247, 248, 249, 250, 38, 197, 134, 135, 35, 136, 51, 113, 114, 115, 28, 116, 76, 75, 117, 118, 119, 120, 121, 122, 123, 124, 125, 126, 127, 128, 36, 37, 39, 40, 41, 43, 44, 45, 129, 130, 131, 132, 133, 251, 252, 253, 254, 141, 142, 143, 144, 255, 256, 257, 258, 911, 912, 913, 914, 915, 928, 929, 930, 931, 932, 933, 934, 935, 936, 937, 948, 946, 947] (by decide +kernel) (by decide +kernel)) (goodIn_sub (fun _ h => List.mem_append_left _ (List.mem_append_left _ (List.mem_append_right _ h))) (by decide +kernel))) (goodIn_sub (fun _ h => List.mem_append_right _ h) (by decide +kernel))
set_option maxRecDepth 20000 in
theorem gL_law_L_come : GoodIn wsL_law (va_wsS RL 99 yL_come wsL_come) := goodIn_app (goodIn_of _ (by decide +kernel)) ggL_law_L_come
set_option maxRecDepth 20000 in
theorem ggL_law_X6_come : GoodIn wsL_law wsX6_come := goodIn_r _ [262, 149, 263, 264, 265, 5, 266, 81, 267, 268, 269, 154, 155, 156, 270, 271, 272, 273, 157, 158, 159, 160, 161, 82, 274, 275, 276, 277, 278, 279, 280, 281, 916, 917, 918, 919, 920, 921, 922, 923, 924, 925, 926, 927] (by decide +kernel) (by decide +kernel)
set_option maxRecDepth 20000 in
theorem gL_law_X6_come : GoodIn wsL_law (wsV RL 101 RX6 yX6_come wsX6_come) := goodIn_app (goodIn_of _ (by decide +kernel)) ggL_law_X6_come
set_option maxRecDepth 20000 in
theorem ggL_law_L_leave : GoodIn wsL_law wsL_leave := goodIn_ca (goodIn_ca (goodIn_r _ [284, 173, 93, 285, 286, 287, 2, 288, 98, 99, 16, 29, 240, 241, 242, 182, 183, 289, 290, 291, 15, 292, 109, 110, 111, 112, 42, 247, 248, 249, 250, 38, 197, 134, 135, 35, 136, 51, 113, 114, 115, 28, 116, 76, 75, 117, 118, 119, 120, 121, 122, 123, 124, 125, 126, 127, 128, 36, 37, 39, 40, 41, 43, 44, 45, 129, 130, 131, 132, 133, 293, 294, 295, 296, 141, 142, 143, 144, 911, 912, 913, 914, 915, 928, 929, 930, 931, 932, 933, 934, 935, 936, 937, 948, 946, 947] (by decide +kernel) (by decide +kernel)) (goodIn_sub (fun _ h => List.mem_append_left _ (List.mem_append_left _ (List.mem_append_right _ h))) (by decide +kernel))) (goodIn_sub (fun _ h => List.mem_append_right _ h) (by decide +kernel))
set_option maxRecDepth 20000 in
theorem gL_law_L_leave : GoodIn wsL_law (va_wsS RL 102 yL_leave wsL_leave) := goodIn_app (goodIn_of _ (by decide +kernel)) ggL_law_L_leave
set_option maxRecDepth 20000 in
theorem ggL_law_X6_leave : GoodIn wsL_law wsX6_leave := goodIn_r _ [300, 149, 301, 302, 303, 5, 304, 81, 267, 268, 269, 154, 155, 156, 270, 271, 272, 273, 157, 158, 159, 160, 161, 82, 305, 306, 307, 308, 309, 310, 311, 312, 916, 917, 918, 919, 920, 921, 922, 923, 924, 925, 926, 927] (by decide +kernel) (by decide +kernel)
set_option maxRecDepth 20000 in
theorem gL_law_X6_leave : GoodIn wsL_law (wsV RL 104 RX6 yX6_leave wsX6_leave) := goodIn_app (goodIn_of _ (by decide +kernel)) ggL_law_X6_leave
set_option maxRecDepth 20000 in
theorem ggL_law_X5_doorsteps : GoodIn wsL_law wsX5_doorsteps := goodIn_r _ [316, 16, 317, 318, 319, 15, 320, 41, 911, 912, 913, 914, 915, 928, 929, 930, 931, 932, 933, 934, 935, 936, 937] (by decide +kernel) (by decide +kernel)
set_option maxRecDepth 20000 in
theorem gL_law_X5_doorsteps : GoodIn wsL_law (wsV RL 105 RX5 yX5_doorsteps wsX5_doorsteps) := goodIn_app (goodIn_of _ (by decide +kernel)) ggL_law_X5_doorsteps
set_option maxRecDepth 20000 in
theorem ggL_law_X6_doorsteps : GoodIn wsL_law wsX6_doorsteps := goodIn_r _ [324, 149, 81, 916, 917, 918, 919, 920, 921, 922, 923, 924, 925, 926, 927] (by decide +kernel) (by decide +kernel)
set_option maxRecDepth 20000 in
theorem gL_law_X6_doorsteps : GoodIn wsL_law (wsV RL 108 RX6 yX6_doorsteps wsX6_doorsteps) := goodIn_app (goodIn_of _ (by decide +kernel)) ggL_law_X6_doorsteps
set_option maxRecDepth 20000 in
theorem ggL_law_L_pints : GoodIn wsL_law wsL_pints := goodIn_ca (goodIn_r _ [327, 173, 328, 329, 330, 2, 331, 16, 178, 179, 180, 181, 182, 183, 184, 185, 186, 15, 187, 41, 332, 333, 334, 335, 36, 197, 134, 135, 35, 136, 51, 911, 912, 913, 914, 915, 928, 929, 930, 931, 932, 933, 934, 935, 936, 937, 948] (by decide +kernel) (by decide +kernel)) (goodIn_sub (fun _ h => List.mem_append_right _ h) (by decide +kernel))
set_option maxRecDepth 20000 in
theorem gL_law_L_pints : GoodIn wsL_law (va_wsS RL 109 yL_pints wsL_pints) := goodIn_app (goodIn_of _ (by decide +kernel)) ggL_law_L_pints
set_option maxRecDepth 20000 in
theorem ggL_law_X6_pints : GoodIn wsL_law wsX6_pints := goodIn_r _ [339, 149, 81, 210, 211, 212, 5, 213, 154, 155, 156, 916, 917, 918, 919, 920, 921, 922, 923, 924, 925, 926, 927] (by decide +kernel) (by decide +kernel)
set_option maxRecDepth 20000 in
theorem gL_law_X6_pints : GoodIn wsL_law (wsV RL 111 RX6 yX6_pints wsX6_pints) := goodIn_app (goodIn_of _ (by decide +kernel)) ggL_law_X6_pints
set_option maxRecDepth 20000 in
theorem ggL_law_L_owner : GoodIn wsL_law wsL_owner := goodIn_ca (goodIn_r _ [342, 173, 343, 344, 345, 2, 346, 16, 178, 179, 180, 181, 182, 183, 184, 185, 186, 15, 187, 41, 347, 348, 349, 350, 37, 197, 134, 135, 35, 136, 51, 911, 912, 913, 914, 915, 928, 929, 930, 931, 932, 933, 934, 935, 936, 937, 948] (by decide +kernel) (by decide +kernel)) (goodIn_sub (fun _ h => List.mem_append_right _ h) (by decide +kernel))
set_option maxRecDepth 20000 in
theorem gL_law_L_owner : GoodIn wsL_law (va_wsS RL 112 yL_owner wsL_owner) := goodIn_app (goodIn_of _ (by decide +kernel)) ggL_law_L_owner
set_option maxRecDepth 20000 in
theorem ggL_law_X6_owner : GoodIn wsL_law wsX6_owner := goodIn_r _ [354, 149, 81, 210, 211, 212, 5, 213, 154, 155, 156, 916, 917, 918, 919, 920, 921, 922, 923, 924, 925, 926, 927] (by decide +kernel) (by decide +kernel)
set_option maxRecDepth 20000 in
theorem gL_law_X6_owner : GoodIn wsL_law (wsV RL 114 RX6 yX6_owner wsX6_owner) := goodIn_app (goodIn_of _ (by decide +kernel)) ggL_law_X6_owner
set_option maxRecDepth 20000 in
theorem ggL_law_L_isAtWork : GoodIn wsL_law wsL_isAtWork := goodIn_ca (goodIn_r _ [357, 173, 358, 359, 360, 2, 361, 16, 240, 241, 242, 182, 183, 362, 248, 249, 15, 250, 38, 197, 134, 135, 35, 136, 51, 911, 912, 913, 914, 915, 928, 929, 930, 931, 932, 933, 934, 935, 936, 937, 948] (by decide +kernel) (by decide +kernel)) (goodIn_sub (fun _ h => List.mem_append_right _ h) (by decide +kernel))
set_option maxRecDepth 20000 in
theorem gL_law_L_isAtWork : GoodIn wsL_law (va_wsS RL 115 yL_isAtWork wsL_isAtWork) := goodIn_app (goodIn_of _ (by decide +kernel)) ggL_law_L_isAtWork
set_option maxRecDepth 20000 in
theorem ggL_law_X6_isAtWork : GoodIn wsL_law wsX6_isAtWork := goodIn_r _ [366, 149, 267, 268, 5, 269, 154, 155, 156, 270, 271, 272, 273, 81, 916, 917, 918, 919, 920, 921, 922, 923, 924, 925, 926, 927] (by decide +kernel) (by decide +kernel)
set_option maxRecDepth 20000 in
theorem gL_law_X6_isAtWork : GoodIn wsL_law (wsV RL 117 RX6 yX6_isAtWork wsX6_isAtWork) := goodIn_app (goodIn_of _ (by decide +kernel)) ggL_law_X6_isAtWork
set_option maxRecDepth 20000 in
theorem ggL_law_L_size : GoodIn wsL_law wsL_size := goodIn_ca (goodIn_r _ [369, 173, 370, 371, 372, 2, 373, 16, 240, 241, 242, 182, 183, 374, 375, 376, 15, 377, 41, 37, 197, 134, 135, 35, 136, 51, 911, 912, 913, 914, 915, 928, 929, 930, 931, 932, 933, 934, 935, 936, 937, 948] (by decide +kernel) (by decide +kernel)) (goodIn_sub (fun _ h => List.mem_append_right _ h) (by decide +kernel))
set_option maxRecDepth 20000 in
theorem gL_law_L_size : GoodIn wsL_law (va_wsS RL 118 yL_size wsL_size) := goodIn_app (goodIn_of _ (by decide +kernel)) ggL_law_L_size
set_option maxRecDepth 20000 in
theorem ggL_law_X6_size : GoodIn wsL_law wsX6_size := goodIn_r _ [381, 149, 267, 268, 5, 269, 154, 155, 156, 309, 310, 311, 312, 81, 916, 917, 918, 919, 920, 921, 922, 923, 924, 925, 926, 927] (by decide +kernel) (by decide +kernel)
set_option maxRecDepth 20000 in
theorem gL_law_X6_size : GoodIn wsL_law (wsV RL 120 RX6 yX6_size wsX6_size) := goodIn_app (goodIn_of _ (by decide +kernel)) ggL_law_X6_size
