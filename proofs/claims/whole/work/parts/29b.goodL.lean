set_option maxRecDepth 20000 in
theorem ggL_law_L_load : GoodIn wsL_law wsL_load := goodIn_ca (goodIn_r _ [384, 173, 385, 386, 387, 2, 388, 16, 240, 241, 242, 182, 183, 389, 390, 391, 15, 392, 41, 37, 36, 197, 134, 135, 35, 136, 51, 911, 912, 913, 914, 915, 928, 929, 930, 931, 932, 933, 934, 935, 936, 937, 948] (by decide +kernel) (by decide +kernel)) (goodIn_sub (fun _ h => List.mem_append_right _ h) (by decide +kernel))
set_option maxRecDepth 20000 in
theorem gL_law_L_load : GoodIn wsL_law (va_wsS RL 121 yL_load wsL_load) := goodIn_app (goodIn_of _ (by decide +kernel)) ggL_law_L_load
set_option maxRecDepth 20000 in
theorem ggL_law_X6_load : GoodIn wsL_law wsX6_load := goodIn_r _ [396, 149, 267, 268, 5, 269, 154, 155, 156, 397, 398, 399, 400, 81, 916, 917, 918, 919, 920, 921, 922, 923, 924, 925, 926, 927] (by decide +kernel) (by decide +kernel)
set_option maxRecDepth 20000 in
theorem gL_law_X6_load : GoodIn wsL_law (wsV RL 123 RX6 yX6_load wsX6_load) := goodIn_app (goodIn_of _ (by decide +kernel)) ggL_law_X6_load
set_option maxRecDepth 20000 in
theorem ggL_law_L_plan : GoodIn wsL_law wsL_plan := goodIn_ca (goodIn_r _ [403, 93, 404, 405, 406, 2, 407, 98, 99, 16, 29, 408, 409, 410, 15, 411, 109, 110, 111, 112, 42, 255, 256, 257, 258, 247, 248, 249, 250, 38, 197, 134, 135, 35, 136, 51, 113, 114, 115, 28, 116, 76, 75, 117, 118, 119, 120, 121, 122, 123, 124, 125, 126, 127, 128, 36, 37, 39, 40, 41, 43, 44, 45, 129, 130, 131, 132, 133, 412, 413, 414, 415, 21, 416, 417, 418, 20, 419, 56, 60, 61, 420, 421, 422, 423, 424, 425, 318, 319, 320, 426, 427, 428, 429, 58, 430, 431, 375, 376, 377, 432, 142, 143, 144, 433, 434, 435, 436, 59, 437, 438, 439, 440, 441, 442, 443, 444, 445, 57, 446, 333, 334, 335, 447, 448, 449, 450, 451, 348, 349, 350, 452, 453, 454, 455, 456, 457, 458, 459, 460, 461, 462, 463, 464, 465, 466, 467, 468, 469, 470, 471, 472, 473, 474, 475, 476, 477, 478, 479, 141, 911, 912, 913, 914, 915, 928, 929, 930, 931, 932, 933, 934, 935, 936, 937, 948, 946, 947, 938, 939, 940, 941, 942, 943] (by decide +kernel) (by decide +kernel)) (goodIn_sub (fun _ h => List.mem_append_left _ (List.mem_append_left _ (List.mem_append_right _ h))) (by decide +kernel))
set_option maxRecDepth 20000 in
theorem gL_law_L_plan : GoodIn wsL_law (va_wsS RL 124 yL_plan wsL_plan) := goodIn_app (goodIn_of _ (by decide +kernel)) ggL_law_L_plan
set_option maxRecDepth 20000 in
theorem ggL_law_X6_plan : GoodIn wsL_law wsX6_plan := goodIn_r _ [483, 149, 484, 485, 486, 5, 487, 81, 278, 279, 280, 281, 157, 158, 159, 160, 161, 82, 488, 489, 490, 491, 84, 492, 493, 494, 495, 496, 497, 498, 499, 85, 86, 87, 270, 271, 272, 273, 500, 501, 502, 503, 309, 310, 311, 312, 504, 505, 506, 507, 508, 509, 510, 511, 512, 513, 514, 515, 516, 517, 518, 519, 520, 521, 522, 523, 916, 917, 918, 919, 920, 921, 922, 923, 924, 925, 926, 927] (by decide +kernel) (by decide +kernel)
set_option maxRecDepth 20000 in
theorem gL_law_X6_plan : GoodIn wsL_law (wsV RL 127 RX6 yX6_plan wsX6_plan) := goodIn_app (goodIn_of _ (by decide +kernel)) ggL_law_X6_plan
set_option maxRecDepth 20000 in
theorem ggL_law_L_handOver : GoodIn wsL_law wsL_handOver := goodIn_ca (goodIn_r _ [526, 93, 527, 528, 529, 2, 530, 98, 99, 16, 29, 531, 110, 111, 15, 112, 42, 113, 114, 115, 28, 116, 76, 75, 117, 118, 119, 120, 121, 122, 123, 124, 125, 126, 127, 128, 36, 37, 38, 39, 40, 41, 43, 44, 45, 129, 130, 131, 35, 132, 51, 133, 134, 135, 136, 532, 533, 534, 535, 536, 537, 538, 539, 197, 141, 142, 143, 144, 540, 541, 542, 543, 544, 545, 546, 547, 911, 912, 913, 914, 915, 928, 929, 930, 931, 932, 933, 934, 935, 936, 937, 946, 947, 948] (by decide +kernel) (by decide +kernel)) (goodIn_sub (fun _ h => List.mem_append_left _ (List.mem_append_left _ (List.mem_append_right _ h))) (by decide +kernel))
set_option maxRecDepth 20000 in
theorem gL_law_L_handOver : GoodIn wsL_law (va_wsS RL 128 yL_handOver wsL_handOver) := goodIn_app (goodIn_of _ (by decide +kernel)) ggL_law_L_handOver
set_option maxRecDepth 20000 in
theorem ggL_law_X6_handOver : GoodIn wsL_law wsX6_handOver := goodIn_r _ [551, 149, 552, 553, 554, 5, 555, 81, 157, 158, 159, 160, 161, 82, 556, 557, 558, 559, 916, 917, 918, 919, 920, 921, 922, 923, 924, 925, 926, 927] (by decide +kernel) (by decide +kernel)
set_option maxRecDepth 20000 in
theorem gL_law_X6_handOver : GoodIn wsL_law (wsV RL 130 RX6 yX6_handOver wsX6_handOver) := goodIn_app (goodIn_of _ (by decide +kernel)) ggL_law_X6_handOver
set_option maxRecDepth 20000 in
theorem ggL_law_L_callOff : GoodIn wsL_law wsL_callOff := goodIn_ca (goodIn_r _ [562, 93, 563, 564, 565, 2, 566, 98, 99, 16, 29, 531, 110, 111, 15, 112, 42, 113, 114, 115, 28, 116, 76, 75, 117, 118, 119, 120, 121, 122, 123, 124, 125, 126, 127, 128, 36, 37, 38, 39, 40, 41, 43, 44, 45, 129, 130, 131, 35, 132, 51, 133, 134, 135, 136, 567, 568, 569, 570, 544, 545, 546, 547, 197, 141, 142, 143, 144, 911, 912, 913, 914, 915, 928, 929, 930, 931, 932, 933, 934, 935, 936, 937, 946, 947, 948] (by decide +kernel) (by decide +kernel)) (goodIn_sub (fun _ h => List.mem_append_left _ (List.mem_append_left _ (List.mem_append_right _ h))) (by decide +kernel))
set_option maxRecDepth 20000 in
theorem gL_law_L_callOff : GoodIn wsL_law (va_wsS RL 131 yL_callOff wsL_callOff) := goodIn_app (goodIn_of _ (by decide +kernel)) ggL_law_L_callOff
set_option maxRecDepth 20000 in
theorem ggL_law_X6_callOff : GoodIn wsL_law wsX6_callOff := goodIn_r _ [574, 149, 552, 553, 554, 5, 555, 81, 157, 158, 159, 160, 161, 82, 575, 576, 577, 578, 916, 917, 918, 919, 920, 921, 922, 923, 924, 925, 926, 927] (by decide +kernel) (by decide +kernel)
set_option maxRecDepth 20000 in
theorem gL_law_X6_callOff : GoodIn wsL_law (wsV RL 133 RX6 yX6_callOff wsX6_callOff) := goodIn_app (goodIn_of _ (by decide +kernel)) ggL_law_X6_callOff
set_option maxRecDepth 20000 in
theorem ggL_law_X5_handover : GoodIn wsL_law wsX5_handover := goodIn_r _ [582, 16, 583, 584, 585, 15, 586, 42, 911, 912, 913, 914, 915, 928, 929, 930, 931, 932, 933, 934, 935, 936, 937] (by decide +kernel) (by decide +kernel)
set_option maxRecDepth 20000 in
theorem gL_law_X5_handover : GoodIn wsL_law (wsV RL 134 RX5 yX5_handover wsX5_handover) := goodIn_app (goodIn_of _ (by decide +kernel)) ggL_law_X5_handover
set_option maxRecDepth 20000 in
theorem ggL_law_X6_handover : GoodIn wsL_law wsX6_handover := goodIn_r _ [590, 149, 81, 916, 917, 918, 919, 920, 921, 922, 923, 924, 925, 926, 927] (by decide +kernel) (by decide +kernel)
set_option maxRecDepth 20000 in
theorem gL_law_X6_handover : GoodIn wsL_law (wsV RL 137 RX6 yX6_handover wsX6_handover) := goodIn_app (goodIn_of _ (by decide +kernel)) ggL_law_X6_handover
set_option maxRecDepth 20000 in
theorem ggL_law_L_planned : GoodIn wsL_law wsL_planned := goodIn_ca (goodIn_r _ [593, 173, 594, 595, 596, 2, 597, 16, 178, 179, 180, 181, 182, 183, 184, 185, 186, 15, 187, 41, 598, 599, 600, 601, 39, 37, 109, 110, 111, 112, 42, 197, 134, 135, 35, 136, 51, 911, 912, 913, 914, 915, 928, 929, 930, 931, 932, 933, 934, 935, 936, 937, 948] (by decide +kernel) (by decide +kernel)) (goodIn_sub (fun _ h => List.mem_append_right _ h) (by decide +kernel))
set_option maxRecDepth 20000 in
theorem gL_law_L_planned : GoodIn wsL_law (va_wsS RL 138 yL_planned wsL_planned) := goodIn_app (goodIn_of _ (by decide +kernel)) ggL_law_L_planned
set_option maxRecDepth 20000 in
theorem ggL_law_X6_planned : GoodIn wsL_law wsX6_planned := goodIn_r _ [605, 149, 210, 211, 212, 5, 213, 81, 154, 155, 156, 606, 607, 608, 609, 916, 917, 918, 919, 920, 921, 922, 923, 924, 925, 926, 927] (by decide +kernel) (by decide +kernel)
set_option maxRecDepth 20000 in
theorem gL_law_X6_planned : GoodIn wsL_law (wsV RL 140 RX6 yX6_planned wsX6_planned) := goodIn_app (goodIn_of _ (by decide +kernel)) ggL_law_X6_planned
set_option maxRecDepth 20000 in
theorem ggL_law_X5_changed : GoodIn wsL_law wsX5_changed := goodIn_r _ [613, 16, 614, 615, 616, 15, 617, 43, 911, 912, 913, 914, 915, 928, 929, 930, 931, 932, 933, 934, 935, 936, 937] (by decide +kernel) (by decide +kernel)
set_option maxRecDepth 20000 in
theorem gL_law_X5_changed : GoodIn wsL_law (wsV RL 141 RX5 yX5_changed wsX5_changed) := goodIn_app (goodIn_of _ (by decide +kernel)) ggL_law_X5_changed
set_option maxRecDepth 20000 in
theorem ggL_law_X6_changed : GoodIn wsL_law wsX6_changed := goodIn_r _ [621, 149, 81, 916, 917, 918, 919, 920, 921, 922, 923, 924, 925, 926, 927] (by decide +kernel) (by decide +kernel)
set_option maxRecDepth 20000 in
theorem gL_law_X6_changed : GoodIn wsL_law (wsV RL 144 RX6 yX6_changed wsX6_changed) := goodIn_app (goodIn_of _ (by decide +kernel)) ggL_law_X6_changed
set_option maxRecDepth 20000 in
theorem ggL_law_X5_deliver : GoodIn wsL_law wsX5_deliver := goodIn_r _ [625, 29, 16, 113, 114, 115, 28, 116, 76, 75, 117, 118, 119, 120, 121, 122, 123, 124, 125, 126, 127, 15, 128, 36, 37, 38, 39, 40, 41, 42, 43, 44, 45, 129, 130, 131, 35, 132, 51, 133, 134, 135, 136, 626, 627, 628, 629, 197, 911, 912, 913, 914, 915, 946, 947, 928, 929, 930, 931, 932, 933, 934, 935, 936, 937, 948] (by decide +kernel) (by decide +kernel)
set_option maxRecDepth 20000 in
theorem gL_law_X5_deliver : GoodIn wsL_law (wsV RL 145 RX5 yX5_deliver wsX5_deliver) := goodIn_app (goodIn_of _ (by decide +kernel)) ggL_law_X5_deliver
set_option maxRecDepth 20000 in
theorem ggL_law_X6_deliver : GoodIn wsL_law wsX6_deliver := goodIn_r _ [633, 149, 157, 158, 159, 5, 160, 161, 82, 81, 634, 635, 636, 637, 916, 917, 918, 919, 920, 921, 922, 923, 924, 925, 926, 927] (by decide +kernel) (by decide +kernel)
set_option maxRecDepth 20000 in
theorem gL_law_X6_deliver : GoodIn wsL_law (wsV RL 148 RX6 yX6_deliver wsX6_deliver) := goodIn_app (goodIn_of _ (by decide +kernel)) ggL_law_X6_deliver
set_option maxRecDepth 20000 in
theorem ggL_law_X5_delivered : GoodIn wsL_law wsX5_delivered := goodIn_r _ [641, 16, 642, 643, 644, 15, 645, 44, 911, 912, 913, 914, 915, 928, 929, 930, 931, 932, 933, 934, 935, 936, 937] (by decide +kernel) (by decide +kernel)
set_option maxRecDepth 20000 in
theorem gL_law_X5_delivered : GoodIn wsL_law (wsV RL 149 RX5 yX5_delivered wsX5_delivered) := goodIn_app (goodIn_of _ (by decide +kernel)) ggL_law_X5_delivered
set_option maxRecDepth 20000 in
theorem ggL_law_X6_delivered : GoodIn wsL_law wsX6_delivered := goodIn_r _ [649, 149, 81, 916, 917, 918, 919, 920, 921, 922, 923, 924, 925, 926, 927] (by decide +kernel) (by decide +kernel)
set_option maxRecDepth 20000 in
theorem gL_law_X6_delivered : GoodIn wsL_law (wsV RL 152 RX6 yX6_delivered wsX6_delivered) := goodIn_app (goodIn_of _ (by decide +kernel)) ggL_law_X6_delivered
set_option maxRecDepth 20000 in
theorem ggL_law_X5_misses : GoodIn wsL_law wsX5_misses := goodIn_r _ [653, 16, 654, 655, 656, 15, 657, 45, 911, 912, 913, 914, 915, 928, 929, 930, 931, 932, 933, 934, 935, 936, 937] (by decide +kernel) (by decide +kernel)
set_option maxRecDepth 20000 in
theorem gL_law_X5_misses : GoodIn wsL_law (wsV RL 153 RX5 yX5_misses wsX5_misses) := goodIn_app (goodIn_of _ (by decide +kernel)) ggL_law_X5_misses
set_option maxRecDepth 20000 in
theorem ggL_law_X6_misses : GoodIn wsL_law wsX6_misses := goodIn_r _ [661, 149, 81, 916, 917, 918, 919, 920, 921, 922, 923, 924, 925, 926, 927] (by decide +kernel) (by decide +kernel)
set_option maxRecDepth 20000 in
theorem gL_law_X6_misses : GoodIn wsL_law (wsV RL 156 RX6 yX6_misses wsX6_misses) := goodIn_app (goodIn_of _ (by decide +kernel)) ggL_law_X6_misses
set_option maxRecDepth 20000 in
theorem ggL_law_L_ifPlanned : GoodIn wsL_law wsL_ifPlanned := goodIn_ca (goodIn_r _ [664, 173, 665, 666, 667, 2, 668, 21, 16, 178, 179, 180, 181, 182, 183, 184, 185, 186, 15, 187, 41, 416, 417, 418, 20, 419, 56, 60, 61, 420, 421, 422, 35, 423, 51, 424, 256, 257, 258, 247, 248, 249, 250, 38, 197, 134, 135, 136, 425, 318, 319, 320, 426, 427, 428, 429, 58, 430, 431, 375, 376, 377, 37, 432, 142, 143, 144, 433, 434, 435, 436, 59, 437, 438, 439, 440, 441, 442, 443, 444, 445, 57, 446, 333, 334, 335, 36, 447, 448, 449, 450, 451, 348, 349, 350, 452, 453, 454, 455, 456, 457, 458, 459, 460, 461, 462, 463, 464, 465, 466, 467, 468, 469, 470, 471, 669, 477, 478, 479, 911, 912, 913, 914, 915, 928, 929, 930, 931, 932, 933, 934, 935, 936, 937, 938, 939, 940, 941, 942, 943, 948] (by decide +kernel) (by decide +kernel)) (goodIn_sub (fun _ h => List.mem_append_right _ h) (by decide +kernel))
set_option maxRecDepth 20000 in
theorem gL_law_L_ifPlanned : GoodIn wsL_law (va_wsS RL 157 yL_ifPlanned wsL_ifPlanned) := goodIn_app (goodIn_of _ (by decide +kernel)) ggL_law_L_ifPlanned
set_option maxRecDepth 20000 in
theorem ggL_law_X6_ifPlanned : GoodIn wsL_law wsX6_ifPlanned := goodIn_r _ [673, 149, 210, 211, 212, 5, 213, 81, 154, 155, 156, 674, 675, 676, 677, 84, 492, 493, 494, 495, 278, 279, 280, 281, 496, 497, 498, 499, 85, 86, 87, 270, 271, 272, 273, 500, 501, 502, 503, 309, 310, 311, 312, 504, 505, 506, 507, 508, 509, 510, 511, 512, 513, 514, 515, 516, 517, 518, 519, 520, 521, 522, 523, 916, 917, 918, 919, 920, 921, 922, 923, 924, 925, 926, 927] (by decide +kernel) (by decide +kernel)
set_option maxRecDepth 20000 in
theorem gL_law_X6_ifPlanned : GoodIn wsL_law (wsV RL 159 RX6 yX6_ifPlanned wsX6_ifPlanned) := goodIn_app (goodIn_of _ (by decide +kernel)) ggL_law_X6_ifPlanned
set_option maxRecDepth 20000 in
theorem ggL_law_L_reason : GoodIn wsL_law wsL_reason := goodIn_ca (goodIn_r _ [680, 173, 681, 682, 683, 2, 684, 21, 16, 178, 179, 180, 181, 182, 183, 184, 185, 186, 15, 187, 41, 416, 417, 418, 20, 419, 56, 60, 61, 420, 421, 422, 35, 423, 51, 424, 256, 257, 258, 247, 248, 249, 250, 38, 197, 134, 135, 136, 425, 318, 319, 320, 426, 427, 428, 429, 58, 430, 431, 375, 376, 377, 37, 432, 142, 143, 144, 433, 434, 435, 436, 59, 437, 438, 439, 440, 441, 442, 443, 444, 445, 57, 446, 333, 334, 335, 36, 447, 448, 449, 450, 451, 348, 349, 350, 452, 453, 454, 455, 456, 457, 458, 459, 460, 461, 462, 463, 464, 465, 466, 467, 468, 469, 470, 471, 685, 686, 687, 688, 689, 347, 669, 477, 478, 479, 911, 912, 913, 914, 915, 928, 929, 930, 931, 932, 933, 934, 935, 936, 937, 938, 939, 940, 941, 942, 943, 948] (by decide +kernel) (by decide +kernel)) (goodIn_sub (fun _ h => List.mem_append_right _ h) (by decide +kernel))
set_option maxRecDepth 20000 in
theorem gL_law_L_reason : GoodIn wsL_law (va_wsS RL 160 yL_reason wsL_reason) := goodIn_app (goodIn_of _ (by decide +kernel)) ggL_law_L_reason
