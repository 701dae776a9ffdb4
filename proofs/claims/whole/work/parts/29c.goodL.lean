set_option maxRecDepth 20000 in
theorem ggL_law_X6_reason : GoodIn wsL_law wsX6_reason := goodIn_r _ [693, 149, 210, 211, 212, 5, 213, 81, 154, 155, 156, 694, 695, 696, 697, 278, 279, 280, 281, 674, 675, 676, 677, 84, 492, 493, 494, 495, 496, 497, 498, 499, 85, 86, 87, 270, 271, 272, 273, 500, 501, 502, 503, 309, 310, 311, 312, 504, 505, 506, 507, 508, 509, 510, 511, 512, 513, 514, 515, 516, 517, 518, 519, 520, 521, 522, 523, 916, 917, 918, 919, 920, 921, 922, 923, 924, 925, 926, 927] (by decide +kernel) (by decide +kernel)
set_option maxRecDepth 20000 in
theorem gL_law_X6_reason : GoodIn wsL_law (wsV RL 162 RX6 yX6_reason wsX6_reason) := goodIn_app (goodIn_of _ (by decide +kernel)) ggL_law_X6_reason
set_option maxRecDepth 20000 in
theorem ggL_law_X5_changesToCome : GoodIn wsL_law wsX5_changesToCome := goodIn_r _ [701, 21, 16, 416, 417, 418, 20, 419, 56, 60, 61, 420, 421, 422, 35, 423, 51, 424, 256, 257, 15, 258, 247, 248, 249, 250, 38, 197, 134, 135, 136, 425, 318, 319, 320, 41, 426, 427, 428, 429, 58, 430, 431, 375, 376, 377, 37, 432, 142, 143, 144, 433, 434, 435, 436, 59, 437, 438, 439, 440, 441, 442, 443, 444, 445, 57, 446, 333, 334, 335, 36, 447, 448, 449, 450, 451, 348, 349, 350, 452, 453, 454, 455, 456, 457, 458, 459, 460, 461, 462, 463, 464, 465, 466, 467, 468, 469, 470, 471, 911, 912, 913, 914, 915, 938, 939, 940, 941, 942, 943, 948, 928, 929, 930, 931, 932, 933, 934, 935, 936, 937] (by decide +kernel) (by decide +kernel)
set_option maxRecDepth 20000 in
theorem gL_law_X5_changesToCome : GoodIn wsL_law (wsV RL 163 RX5 yX5_changesToCome wsX5_changesToCome) := goodIn_app (goodIn_of _ (by decide +kernel)) ggL_law_X5_changesToCome
set_option maxRecDepth 20000 in
theorem ggL_law_X6_changesToCome : GoodIn wsL_law wsX6_changesToCome := goodIn_r _ [705, 149, 492, 493, 494, 5, 495, 81, 84, 278, 279, 280, 281, 496, 497, 498, 499, 85, 86, 87, 270, 271, 272, 273, 500, 501, 502, 503, 309, 310, 311, 312, 504, 505, 506, 507, 508, 509, 510, 511, 512, 513, 514, 515, 516, 517, 518, 519, 520, 521, 522, 523, 916, 917, 918, 919, 920, 921, 922, 923, 924, 925, 926, 927] (by decide +kernel) (by decide +kernel)
set_option maxRecDepth 20000 in
theorem gL_law_X6_changesToCome : GoodIn wsL_law (wsV RL 166 RX6 yX6_changesToCome wsX6_changesToCome) := goodIn_app (goodIn_of _ (by decide +kernel)) ggL_law_X6_changesToCome
set_option maxRecDepth 20000 in
theorem ggL_law_L_changesIf : GoodIn wsL_law wsL_changesIf := goodIn_ca (goodIn_r _ [708, 173, 709, 710, 711, 2, 712, 240, 241, 242, 182, 183, 713, 714, 715, 716, 17, 16, 21, 717, 126, 127, 15, 128, 36, 37, 38, 39, 40, 41, 42, 43, 44, 45, 129, 130, 131, 35, 132, 51, 133, 134, 135, 136, 362, 248, 249, 250, 197, 293, 294, 295, 296, 141, 142, 143, 144, 251, 252, 253, 254, 255, 256, 257, 258, 247, 416, 417, 418, 20, 419, 56, 60, 61, 420, 421, 422, 423, 424, 425, 318, 319, 320, 426, 427, 428, 429, 58, 430, 431, 375, 376, 377, 432, 433, 434, 435, 436, 59, 437, 438, 439, 440, 441, 442, 443, 444, 445, 57, 446, 333, 334, 335, 447, 448, 449, 450, 451, 348, 349, 350, 452, 453, 454, 455, 456, 457, 458, 459, 460, 461, 462, 463, 464, 465, 466, 467, 468, 469, 470, 471, 911, 912, 913, 914, 915, 928, 929, 930, 931, 932, 933, 934, 935, 936, 937, 948, 938, 939, 940, 941, 942, 943] (by decide +kernel) (by decide +kernel)) (goodIn_sub (fun _ h => List.mem_append_right _ h) (by decide +kernel))
set_option maxRecDepth 20000 in
theorem gL_law_L_changesIf : GoodIn wsL_law (va_wsS RL 167 yL_changesIf wsL_changesIf) := goodIn_app (goodIn_of _ (by decide +kernel)) ggL_law_L_changesIf
set_option maxRecDepth 20000 in
theorem ggL_law_X6_changesIf : GoodIn wsL_law wsX6_changesIf := goodIn_r _ [721, 149, 267, 268, 5, 269, 154, 155, 156, 722, 723, 724, 725, 81, 270, 271, 272, 273, 305, 306, 307, 308, 309, 310, 311, 312, 492, 493, 494, 495, 84, 278, 279, 280, 281, 496, 497, 498, 499, 85, 86, 87, 500, 501, 502, 503, 504, 505, 506, 507, 508, 509, 510, 511, 512, 513, 514, 515, 516, 517, 518, 519, 520, 521, 522, 523, 916, 917, 918, 919, 920, 921, 922, 923, 924, 925, 926, 927] (by decide +kernel) (by decide +kernel)
set_option maxRecDepth 20000 in
theorem gL_law_X6_changesIf : GoodIn wsL_law (wsV RL 169 RX6 yX6_changesIf wsX6_changesIf) := goodIn_app (goodIn_of _ (by decide +kernel)) ggL_law_X6_changesIf
set_option maxRecDepth 20000 in
theorem ggL_law_X5_unevenness : GoodIn wsL_law wsX5_unevenness := goodIn_r _ [729, 16, 317, 318, 319, 15, 320, 41, 730, 731, 732, 733, 247, 248, 249, 250, 38, 197, 134, 135, 35, 136, 51, 734, 375, 376, 377, 37, 911, 912, 913, 914, 915, 928, 929, 930, 931, 932, 933, 934, 935, 936, 937, 948] (by decide +kernel) (by decide +kernel)
set_option maxRecDepth 20000 in
theorem gL_law_X5_unevenness : GoodIn wsL_law (wsV RL 170 RX5 yX5_unevenness wsX5_unevenness) := goodIn_app (goodIn_of _ (by decide +kernel)) ggL_law_X5_unevenness
set_option maxRecDepth 20000 in
theorem ggL_law_X6_unevenness : GoodIn wsL_law wsX6_unevenness := goodIn_r _ [738, 149, 81, 309, 310, 311, 5, 312, 270, 271, 272, 273, 278, 279, 280, 281, 916, 917, 918, 919, 920, 921, 922, 923, 924, 925, 926, 927] (by decide +kernel) (by decide +kernel)
set_option maxRecDepth 20000 in
theorem gL_law_X6_unevenness : GoodIn wsL_law (wsV RL 174 RX6 yX6_unevenness wsX6_unevenness) := goodIn_app (goodIn_of _ (by decide +kernel)) ggL_law_X6_unevenness
set_option maxRecDepth 20000 in
theorem ggL_law_L_append : GoodIn wsL_law wsL_append := goodIn_ca (goodIn_ca (goodIn_r _ [741, 92, 93, 742, 743, 744, 2, 745, 103, 104, 98, 99, 25, 746, 747, 748, 24, 749, 68, 750, 751, 752, 753, 67, 754, 142, 143, 35, 144, 51, 911, 912, 913, 914, 915, 944, 945, 948] (by decide +kernel) (by decide +kernel)) (goodIn_sub (fun _ h => List.mem_append_left _ (List.mem_append_right _ h)) (by decide +kernel))) (goodIn_sub (fun _ h => List.mem_append_left _ (List.mem_append_left _ (List.mem_append_right _ h))) (by decide +kernel))
set_option maxRecDepth 20000 in
theorem gL_law_L_append : GoodIn wsL_law (va_wsS RL 175 yL_append wsL_append) := goodIn_app (goodIn_of _ (by decide +kernel)) ggL_law_L_append
set_option maxRecDepth 20000 in
theorem ggL_law_X6_append : GoodIn wsL_law wsX6_append := goodIn_r _ [758, 759, 149, 83, 154, 155, 5, 156, 916, 917, 918, 919, 920, 921, 922, 923, 924, 925, 926, 927] (by decide +kernel) (by decide +kernel)
set_option maxRecDepth 20000 in
theorem gL_law_X6_append : GoodIn wsL_law (wsV RL 177 RX6 yX6_append wsX6_append) := goodIn_app (goodIn_of _ (by decide +kernel)) ggL_law_X6_append
set_option maxRecDepth 20000 in
theorem ggL_law_X5_clearText : GoodIn wsL_law wsX5_clearText := goodIn_r _ [763, 25, 764, 765, 766, 24, 767, 68, 911, 912, 913, 914, 915, 944, 945] (by decide +kernel) (by decide +kernel)
set_option maxRecDepth 20000 in
theorem gL_law_X5_clearText : GoodIn wsL_law (wsV RL 178 RX5 yX5_clearText wsX5_clearText) := goodIn_app (goodIn_of _ (by decide +kernel)) ggL_law_X5_clearText
set_option maxRecDepth 20000 in
theorem ggL_law_X6_clearText : GoodIn wsL_law wsX6_clearText := goodIn_r _ [771, 149, 759, 916, 917, 918, 919, 920, 921, 922, 923, 924, 925, 926, 927] (by decide +kernel) (by decide +kernel)
set_option maxRecDepth 20000 in
theorem gL_law_X6_clearText : GoodIn wsL_law (wsV RL 181 RX6 yX6_clearText wsX6_clearText) := goodIn_app (goodIn_of _ (by decide +kernel)) ggL_law_X6_clearText
set_option maxRecDepth 20000 in
theorem ggL_law_X5_firstError : GoodIn wsL_law wsX5_firstError := goodIn_r _ [775, 25, 776, 777, 778, 24, 779, 68, 67, 780, 134, 135, 35, 136, 51, 781, 782, 783, 784, 785, 786, 787, 788, 789, 790, 791, 792, 793, 794, 795, 911, 912, 913, 914, 915, 944, 945, 948] (by decide +kernel) (by decide +kernel)
set_option maxRecDepth 20000 in
theorem gL_law_X5_firstError : GoodIn wsL_law (wsV RL 182 RX5 yX5_firstError wsX5_firstError) := goodIn_app (goodIn_of _ (by decide +kernel)) ggL_law_X5_firstError
set_option maxRecDepth 20000 in
theorem ggL_law_X6_firstError : GoodIn wsL_law wsX6_firstError := goodIn_r _ [799, 149, 759, 800, 801, 802, 5, 803, 83, 804, 805, 806, 807, 808, 809, 810, 811, 812, 813, 814, 815, 816, 817, 154, 155, 156, 916, 917, 918, 919, 920, 921, 922, 923, 924, 925, 926, 927] (by decide +kernel) (by decide +kernel)
set_option maxRecDepth 20000 in
theorem gL_law_X6_firstError : GoodIn wsL_law (wsV RL 185 RX6 yX6_firstError wsX6_firstError) := goodIn_app (goodIn_of _ (by decide +kernel)) ggL_law_X6_firstError
set_option maxRecDepth 20000 in
theorem ggL_law_L_run : GoodIn wsL_law wsL_run := goodIn_ca (goodIn_r _ [820, 92, 821, 822, 823, 2, 824, 103, 104, 25, 29, 16, 825, 826, 827, 24, 828, 68, 67, 780, 134, 135, 35, 136, 51, 781, 782, 783, 784, 785, 786, 787, 788, 789, 790, 791, 792, 793, 794, 795, 113, 114, 115, 28, 116, 76, 75, 117, 118, 119, 120, 121, 122, 123, 124, 125, 126, 127, 15, 128, 36, 37, 38, 39, 40, 41, 42, 43, 44, 45, 129, 130, 131, 132, 133, 829, 830, 831, 832, 833, 834, 835, 836, 837, 838, 839, 840, 841, 842, 843, 844, 105, 106, 107, 108, 109, 110, 111, 112, 188, 189, 190, 191, 192, 185, 186, 187, 243, 244, 245, 246, 247, 248, 249, 250, 197, 289, 290, 291, 292, 408, 409, 410, 411, 255, 256, 257, 258, 531, 137, 138, 139, 140, 141, 142, 143, 144, 193, 194, 195, 196, 198, 199, 200, 201, 251, 252, 253, 254, 293, 294, 295, 296, 412, 413, 414, 415, 21, 416, 417, 418, 20, 419, 56, 60, 61, 420, 421, 422, 423, 424, 425, 318, 319, 320, 426, 427, 428, 429, 58, 430, 431, 375, 376, 377, 432, 433, 434, 435, 436, 59, 437, 438, 439, 440, 441, 442, 443, 444, 445, 57, 446, 333, 334, 335, 447, 448, 449, 450, 451, 348, 349, 350, 452, 453, 454, 455, 456, 457, 458, 459, 460, 461, 462, 463, 464, 465, 466, 467, 468, 469, 470, 471, 472, 473, 474, 475, 476, 477, 478, 479, 532, 533, 534, 535, 536, 537, 538, 539, 540, 541, 542, 543, 544, 545, 546, 547, 567, 568, 569, 570, 626, 627, 628, 629, 764, 765, 766, 767, 911, 912, 913, 914, 915, 944, 945, 948, 946, 947, 928, 929, 930, 931, 932, 933, 934, 935, 936, 937, 938, 939, 940, 941, 942, 943] (by decide +kernel) (by decide +kernel)) (goodIn_sub (fun _ h => List.mem_append_left _ (List.mem_append_right _ h)) (by decide +kernel))
set_option maxRecDepth 20000 in
theorem gL_law_L_run : GoodIn wsL_law (va_wsS RL 186 yL_run wsL_run) := goodIn_app (goodIn_of _ (by decide +kernel)) ggL_law_L_run
set_option maxRecDepth 20000 in
theorem ggL_law_X6_run : GoodIn wsL_law wsX6_run := goodIn_r _ [848, 149, 759, 800, 801, 802, 5, 803, 83, 804, 805, 806, 807, 808, 809, 810, 811, 812, 813, 814, 815, 816, 817, 154, 155, 156, 157, 158, 159, 160, 161, 82, 81, 849, 850, 851, 852, 150, 151, 152, 153, 206, 207, 208, 209, 210, 211, 212, 213, 263, 264, 265, 266, 267, 268, 269, 270, 271, 272, 273, 301, 302, 303, 304, 484, 485, 486, 487, 278, 279, 280, 281, 552, 553, 554, 555, 853, 854, 855, 856, 162, 163, 164, 165, 214, 215, 216, 217, 274, 275, 276, 277, 305, 306, 307, 308, 309, 310, 311, 312, 488, 489, 490, 491, 84, 492, 493, 494, 495, 496, 497, 498, 499, 85, 86, 87, 500, 501, 502, 503, 504, 505, 506, 507, 508, 509, 510, 511, 512, 513, 514, 515, 516, 517, 518, 519, 520, 521, 522, 523, 556, 557, 558, 559, 575, 576, 577, 578, 634, 635, 636, 637, 916, 917, 918, 919, 920, 921, 922, 923, 924, 925, 926, 927] (by decide +kernel) (by decide +kernel)
set_option maxRecDepth 20000 in
theorem gL_law_X6_run : GoodIn wsL_law (wsV RL 188 RX6 yX6_run wsX6_run) := goodIn_app (goodIn_of _ (by decide +kernel)) ggL_law_X6_run
set_option maxRecDepth 20000 in
theorem ggL_law_L_undo : GoodIn wsL_law wsL_undo := goodIn_ca (goodIn_r _ [859, 93, 860, 861, 862, 2, 863, 98, 99, 29, 16, 864, 865, 866, 28, 867, 76, 868, 869, 870, 871, 121, 122, 123, 124, 75, 125, 126, 127, 15, 128, 36, 37, 38, 39, 40, 41, 42, 43, 44, 45, 129, 130, 131, 35, 132, 51, 133, 134, 135, 136, 911, 912, 913, 914, 915, 946, 947, 928, 929, 930, 931, 932, 933, 934, 935, 936, 937, 948] (by decide +kernel) (by decide +kernel)) (goodIn_sub (fun _ h => List.mem_append_left _ (List.mem_append_left _ (List.mem_append_right _ h))) (by decide +kernel))
set_option maxRecDepth 20000 in
theorem gL_law_L_undo : GoodIn wsL_law (va_wsS RL 189 yL_undo wsL_undo) := goodIn_app (goodIn_of _ (by decide +kernel)) ggL_law_L_undo
set_option maxRecDepth 20000 in
theorem ggL_law_X6_undo : GoodIn wsL_law wsX6_undo := goodIn_r _ [875, 161, 149, 81, 82, 916, 917, 918, 919, 920, 921, 922, 923, 924, 925, 926, 927] (by decide +kernel) (by decide +kernel)
set_option maxRecDepth 20000 in
theorem gL_law_X6_undo : GoodIn wsL_law (wsV RL 191 RX6 yX6_undo wsX6_undo) := goodIn_app (goodIn_of _ (by decide +kernel)) ggL_law_X6_undo
set_option maxRecDepth 20000 in
theorem ggL_law_X5_savedStates : GoodIn wsL_law wsX5_savedStates := goodIn_r _ [879, 29, 880, 881, 882, 28, 883, 76, 911, 912, 913, 914, 915, 946, 947] (by decide +kernel) (by decide +kernel)
set_option maxRecDepth 20000 in
theorem gL_law_X5_savedStates : GoodIn wsL_law (wsV RL 192 RX5 yX5_savedStates wsX5_savedStates) := goodIn_app (goodIn_of _ (by decide +kernel)) ggL_law_X5_savedStates
set_option maxRecDepth 20000 in
theorem ggL_law_X6_savedStates : GoodIn wsL_law wsX6_savedStates := goodIn_r _ [887, 149, 161, 916, 917, 918, 919, 920, 921, 922, 923, 924, 925, 926, 927] (by decide +kernel) (by decide +kernel)
set_option maxRecDepth 20000 in
theorem gL_law_X6_savedStates : GoodIn wsL_law (wsV RL 195 RX6 yX6_savedStates wsX6_savedStates) := goodIn_app (goodIn_of _ (by decide +kernel)) ggL_law_X6_savedStates
set_option maxRecDepth 20000 in
theorem ggL_law_X5_digest : GoodIn wsL_law wsX5_digest := goodIn_r _ [891, 892, 16, 21, 317, 318, 319, 15, 320, 41, 893, 894, 2, 895, 896, 583, 584, 585, 586, 42, 614, 615, 616, 617, 43, 642, 643, 644, 645, 44, 654, 655, 656, 657, 45, 416, 417, 418, 20, 419, 56, 60, 61, 420, 421, 422, 35, 423, 51, 424, 256, 257, 258, 247, 248, 249, 250, 38, 197, 134, 135, 136, 425, 426, 427, 428, 429, 58, 430, 431, 375, 376, 377, 37, 432, 142, 143, 144, 433, 434, 435, 436, 59, 437, 438, 439, 440, 441, 442, 443, 444, 445, 57, 446, 333, 334, 335, 36, 447, 448, 449, 450, 451, 348, 349, 350, 452, 453, 454, 455, 456, 457, 458, 459, 460, 461, 462, 463, 464, 465, 466, 467, 468, 469, 470, 471, 897, 898, 899, 900, 362, 374, 389, 390, 391, 392, 713, 714, 715, 716, 17, 717, 126, 127, 128, 39, 40, 129, 130, 131, 132, 133, 293, 294, 295, 296, 141, 251, 252, 253, 254, 255, 901, 902, 903, 904, 332, 347, 598, 599, 600, 601, 109, 110, 111, 112, 669, 477, 478, 479, 685, 686, 687, 688, 689, 911, 912, 913, 914, 915, 928, 929, 930, 931, 932, 933, 934, 935, 936, 937, 938, 939, 940, 941, 942, 943, 948] (by decide +kernel) (by decide +kernel)
set_option maxRecDepth 20000 in
theorem gL_law_X5_digest : GoodIn wsL_law (wsV RL 196 RX5 yX5_digest wsX5_digest) := goodIn_app (goodIn_of _ (by decide +kernel)) ggL_law_X5_digest
set_option maxRecDepth 20000 in
theorem ggL_law_X6_digest : GoodIn wsL_law wsX6_digest := goodIn_r _ [908, 149, 909, 910, 81, 492, 493, 494, 5, 495, 84, 278, 279, 280, 281, 496, 497, 498, 499, 85, 86, 87, 270, 271, 272, 273, 500, 501, 502, 503, 309, 310, 311, 312, 504, 505, 506, 507, 508, 509, 510, 511, 512, 513, 514, 515, 516, 517, 518, 519, 520, 521, 522, 523, 397, 398, 399, 400, 722, 723, 724, 725, 305, 306, 307, 308, 606, 607, 608, 609, 674, 675, 676, 677, 694, 695, 696, 697, 916, 917, 918, 919, 920, 921, 922, 923, 924, 925, 926, 927] (by decide +kernel) (by decide +kernel)
set_option maxRecDepth 20000 in
theorem gL_law_X6_digest : GoodIn wsL_law (wsV RL 200 RX6 yX6_digest wsX6_digest) := goodIn_app (goodIn_of _ (by decide +kernel)) ggL_law_X6_digest
