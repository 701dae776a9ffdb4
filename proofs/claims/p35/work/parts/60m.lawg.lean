set_option maxRecDepth 20000 in
theorem ggL_law_X5_init : GoodIn wsL_law wsX5_init := goodIn_r _ [6, 7, 8, 9, 10, 11, 12, 13, 14, 15, 16, 17, 18, 19, 20, 21, 22, 23, 24, 25, 26, 27, 28, 29, 30, 31, 32, 33, 34, 35, 36, 37, 38, 39, 40, 41, 42, 43, 44, 45, 46, 3, 47, 48, 49, 50, 51, 52, 53, 54, 55, 56, 57, 58, 59, 60, 61, 62, 63, 64, 65, 66, 67, 68, 69, 70, 71, 72, 515, 516, 517, 518, 519, 520, 521, 522, 523, 524, 510, 511, 512, 513, 514, 525, 526, 527, 528, 529, 530, 531, 532, 533, 534, 535] (by decide +kernel) (by decide +kernel)
set_option maxRecDepth 20000 in
theorem gL_law_X5_init : GoodIn wsL_law (wsX5_init) := ggL_law_X5_init
set_option maxRecDepth 20000 in
theorem gp_wsL_isSo_r2 : GoodIn wsL_law wsL_isSo_r2 := goodIn_r _ [97, 98, 12, 99, 38, 100, 101, 102, 103, 33, 104, 105, 106, 32, 107, 47, 108, 109, 110, 111, 112, 113, 114, 115] (by decide +kernel) (by decide +kernel)
set_option maxRecDepth 20000 in
theorem gp_wsL_isSo_r3 : GoodIn wsL_law wsL_isSo_r3 := goodIn_r _ [34, 116, 117, 118, 119, 120, 121, 122, 123, 36, 124, 125, 126, 127, 39, 128, 129, 130, 131, 18, 132, 133, 134, 17] (by decide +kernel) (by decide +kernel)
set_option maxRecDepth 20000 in
theorem gp_wsL_isSo_r4 : GoodIn wsL_law wsL_isSo_r4 := goodIn_r _ [135, 52, 56, 57, 136, 137, 138, 139, 140, 141, 142, 143, 144, 145, 146, 147, 35, 148, 149, 150, 151, 152, 153, 154] (by decide +kernel) (by decide +kernel)
set_option maxRecDepth 20000 in
theorem gp_wsL_isSo_r5 : GoodIn wsL_law wsL_isSo_r5 := goodIn_r _ [155, 54, 156, 157, 158, 159, 160, 161, 162, 163, 164, 165, 166, 167, 168, 55, 169, 170, 171, 172, 173, 174, 175, 176] (by decide +kernel) (by decide +kernel)
set_option maxRecDepth 20000 in
theorem gp_wsL_isSo_r6 : GoodIn wsL_law wsL_isSo_r6 := goodIn_r _ [177, 53, 178, 179, 180, 181, 182, 183, 184, 185, 186, 187, 188, 189, 190, 191, 192, 193, 194, 195, 196, 197, 198, 199] (by decide +kernel) (by decide +kernel)
set_option maxRecDepth 20000 in
theorem gp_wsL_isSo_r7 : GoodIn wsL_law wsL_isSo_r7 := goodIn_r _ [200, 201, 202, 203, 204, 205, 206, 207, 208, 209, 210, 211, 212, 213, 214, 215, 216, 217, 218, 219, 220, 221, 222, 223] (by decide +kernel) (by decide +kernel)
set_option maxRecDepth 20000 in
theorem gp_wsL_isSo_r8 : GoodIn wsL_law wsL_isSo_r8 := goodIn_r _ [224, 225, 226, 227, 228, 229, 230, 231, 232, 233, 234, 235, 236, 237, 238, 239, 240, 241, 242, 243, 244, 245, 14, 246] (by decide +kernel) (by decide +kernel)
set_option maxRecDepth 20000 in
theorem gp_wsL_isSo_r9 : GoodIn wsL_law wsL_isSo_r9 := goodIn_r _ [247, 248, 249, 37, 40, 41, 42, 250, 251, 252, 253, 254, 255, 256, 257, 258, 259, 260, 261, 262, 263, 264, 265, 266] (by decide +kernel) (by decide +kernel)
set_option maxRecDepth 20000 in
theorem gp_wsL_isSo_r10 : GoodIn wsL_law wsL_isSo_r10 := goodIn_r _ [267, 268, 269, 270, 271, 272, 273, 274, 275, 276, 277, 278, 279, 280, 281, 282, 283, 284, 285, 286, 287, 288, 289, 290] (by decide +kernel) (by decide +kernel)
set_option maxRecDepth 20000 in
theorem gp_wsL_isSo_r11 : GoodIn wsL_law wsL_isSo_r11 := goodIn_r _ [291, 292, 293, 294, 295, 296, 297, 298, 299, 300, 301, 302, 303, 304, 305, 306, 307, 308, 309, 310, 311, 312, 313, 314] (by decide +kernel) (by decide +kernel)
set_option maxRecDepth 20000 in
theorem gq_wsL_isSo_r1 : GoodIn wsL_law wsL_isSo_r1 := goodIn_r _ [3, 77, 78, 75, 79, 80, 81, 82, 83, 84, 85, 86, 87, 88, 2, 89, 13, 90, 91, 92, 93, 94, 95, 96] (by decide +kernel) (by decide +kernel)
set_option maxRecDepth 20000 in
theorem gc_wsL_isSo_r1 : (.code yL_isSo cL_isSo 16 (some .boolean) : Cond) ∈ wsL_law := List.mem_of_getElem? (i := 76) rfl
theorem gp_wsL_isSo_r1 : GoodIn wsL_law (.code yL_isSo cL_isSo 16 (some .boolean) :: wsL_isSo_r1) := fun w h => (List.mem_cons.mp h).elim (fun e => by rw [e]; exact ⟨gc_wsL_isSo_r1, Or.inl rfl⟩) (fun h => gq_wsL_isSo_r1 w h)
set_option maxRecDepth 20000 in
theorem ggL_law_L_isSo : GoodIn wsL_law wsL_isSo := goodIn_ca ((goodIn_ca (goodIn_ca (goodIn_ca (goodIn_ca (goodIn_ca gp_wsL_isSo_r1 (goodIn_app gp_wsL_isSo_r2 (goodIn_app gp_wsL_isSo_r3 (goodIn_app gp_wsL_isSo_r4 (goodIn_app gp_wsL_isSo_r5 (goodIn_app gp_wsL_isSo_r6 (goodIn_app gp_wsL_isSo_r7 (goodIn_app gp_wsL_isSo_r8 (goodIn_app gp_wsL_isSo_r9 (goodIn_app gp_wsL_isSo_r10 gp_wsL_isSo_r11)))))))))) (goodIn_sub inlX5 (by decide +kernel))) (goodIn_sub inlX1 (by decide +kernel))) (goodIn_sub inlX3 (by decide +kernel))) (goodIn_sub inlX4 (by decide +kernel)))) (goodIn_sub (fun _ h => List.mem_append_left _ (List.mem_append_left _ (List.mem_append_right _ h))) (by decide +kernel))
set_option maxRecDepth 20000 in
theorem gL_law_L_isSo : GoodIn wsL_law (va_wsS RL 141 yL_isSo wsL_isSo) := goodIn_app (goodIn_of _ (by decide +kernel)) ggL_law_L_isSo
set_option maxRecDepth 20000 in
theorem gp_wsL_undo_r2 : GoodIn wsL_law wsL_undo_r2 := goodIn_r _ [71, 337, 247, 248, 12, 249, 33, 34, 35, 36, 37, 38, 39, 40, 41, 42, 250, 251, 252, 32, 253, 47, 254, 105] (by decide +kernel) (by decide +kernel)
set_option maxRecDepth 20000 in
theorem gp_wsL_undo_r3 : GoodIn wsL_law wsL_undo_r3 := goodIn_r _ [106, 107] (by decide +kernel) (by decide +kernel)
set_option maxRecDepth 20000 in
theorem gp_wsL_undo_r1 : GoodIn wsL_law (.codeWith yL_undo cL_undo 3 (some .int) [(0, 5, 8, 17)] :: wsL_undo_r1) := goodIn_r _ [317, 318, 319, 320, 321, 2, 322, 323, 324, 26, 13, 325, 326, 327, 25, 328, 72, 329, 330, 331, 332, 333, 334, 335, 336] (by decide +kernel) (by decide +kernel)
set_option maxRecDepth 20000 in
theorem ggL_law_L_undo : GoodIn wsL_law wsL_undo := goodIn_ca ((goodIn_ca (goodIn_ca (goodIn_ca (goodIn_ca (goodIn_ca gp_wsL_undo_r1 (goodIn_app gp_wsL_undo_r2 gp_wsL_undo_r3)) (goodIn_sub inlX5 (by decide +kernel))) (goodIn_sub inlX2 (by decide +kernel))) (goodIn_sub inlX1 (by decide +kernel))) (goodIn_sub inlX3 (by decide +kernel)))) (goodIn_sub (fun _ h => List.mem_append_left _ (List.mem_append_right _ h)) (by decide +kernel))
set_option maxRecDepth 20000 in
theorem gL_law_L_undo : GoodIn wsL_law (va_wsS RL 145 yL_undo wsL_undo) := goodIn_app (goodIn_of _ (by decide +kernel)) ggL_law_L_undo
set_option maxRecDepth 20000 in
theorem gp_wsL_size_r2 : GoodIn wsL_law wsL_size_r2 := goodIn_r _ [47] (by decide +kernel) (by decide +kernel)
set_option maxRecDepth 20000 in
theorem gp_wsL_size_r1 : GoodIn wsL_law (.codeWith yL_size cL_size 4 (some .int) [(0, 6, 9, 22)] :: wsL_size_r1) := goodIn_r _ [340, 341, 225, 226, 227, 2, 228, 13, 221, 222, 223, 94, 95, 229, 158, 159, 12, 160, 38, 34, 104, 105, 106, 32, 107] (by decide +kernel) (by decide +kernel)
set_option maxRecDepth 20000 in
theorem ggL_law_L_size : GoodIn wsL_law wsL_size := goodIn_ca ((goodIn_ca (goodIn_ca (goodIn_ca (goodIn_ca gp_wsL_size_r1 gp_wsL_size_r2) (goodIn_sub inlX5 (by decide +kernel))) (goodIn_sub inlX1 (by decide +kernel))) (goodIn_sub inlX3 (by decide +kernel)))) (goodIn_sub (fun _ h => List.mem_append_left _ (List.mem_append_left _ (List.mem_append_right _ h))) (by decide +kernel))
set_option maxRecDepth 20000 in
theorem gL_law_L_size : GoodIn wsL_law (va_wsS RL 147 yL_size wsL_size) := goodIn_app (goodIn_of _ (by decide +kernel)) ggL_law_L_size
set_option maxRecDepth 20000 in
theorem gp_wsL_changesIf_r2 : GoodIn wsL_law wsL_changesIf_r2 := goodIn_r _ [34, 35, 36, 37, 38, 39, 40, 41, 42, 250, 251, 252, 32, 253, 47, 254, 105, 106, 107, 224, 145, 146, 147, 104] (by decide +kernel) (by decide +kernel)
set_option maxRecDepth 20000 in
theorem gp_wsL_changesIf_r3 : GoodIn wsL_law wsL_changesIf_r3 := goodIn_r _ [255, 256, 257, 258, 259, 162, 163, 164, 260, 261, 262, 263, 264, 141, 142, 143, 144, 132, 133, 134, 17, 135, 52, 56] (by decide +kernel) (by decide +kernel)
set_option maxRecDepth 20000 in
theorem gp_wsL_changesIf_r4 : GoodIn wsL_law wsL_changesIf_r4 := goodIn_r _ [57, 136, 137, 138, 139, 140, 148, 149, 150, 151, 152, 153, 154, 155, 54, 156, 157, 158, 159, 160, 161, 165, 166, 167] (by decide +kernel) (by decide +kernel)
set_option maxRecDepth 20000 in
theorem gp_wsL_changesIf_r5 : GoodIn wsL_law wsL_changesIf_r5 := goodIn_r _ [168, 55, 169, 170, 171, 172, 173, 174, 175, 176, 177, 53, 178, 101, 102, 103, 179, 180, 181, 182, 183, 113, 114, 115] (by decide +kernel) (by decide +kernel)
set_option maxRecDepth 20000 in
theorem gp_wsL_changesIf_r6 : GoodIn wsL_law wsL_changesIf_r6 := goodIn_r _ [184, 185, 186, 187, 188, 189, 190, 191, 192, 193, 194, 195, 196, 197, 198, 199, 200, 201, 202, 203] (by decide +kernel) (by decide +kernel)
set_option maxRecDepth 20000 in
theorem gp_wsL_changesIf_r1 : GoodIn wsL_law (.codeWith yL_changesIf cL_changesIf 4 (some .int) [(0, 6, 9, 22)] :: wsL_changesIf_r1) := goodIn_r _ [344, 341, 238, 239, 240, 2, 241, 221, 222, 223, 94, 95, 242, 243, 244, 245, 14, 13, 18, 246, 247, 248, 12, 249, 33] (by decide +kernel) (by decide +kernel)
set_option maxRecDepth 20000 in
theorem ggL_law_L_changesIf : GoodIn wsL_law wsL_changesIf := goodIn_ca ((goodIn_ca (goodIn_ca (goodIn_ca (goodIn_ca (goodIn_ca gp_wsL_changesIf_r1 (goodIn_app gp_wsL_changesIf_r2 (goodIn_app gp_wsL_changesIf_r3 (goodIn_app gp_wsL_changesIf_r4 (goodIn_app gp_wsL_changesIf_r5 gp_wsL_changesIf_r6))))) (goodIn_sub inlX5 (by decide +kernel))) (goodIn_sub inlX1 (by decide +kernel))) (goodIn_sub inlX3 (by decide +kernel))) (goodIn_sub inlX4 (by decide +kernel)))) (goodIn_sub (fun _ h => List.mem_append_left _ (List.mem_append_left _ (List.mem_append_right _ h))) (by decide +kernel))
set_option maxRecDepth 20000 in
theorem gL_law_L_changesIf : GoodIn wsL_law (va_wsS RL 149 yL_changesIf wsL_changesIf) := goodIn_app (goodIn_of _ (by decide +kernel)) ggL_law_L_changesIf
set_option maxRecDepth 20000 in
theorem ggL_law_L_cell : GoodIn wsL_law wsL_cell := goodIn_r _ [347, 348] (by decide +kernel) (by decide +kernel)
set_option maxRecDepth 20000 in
theorem gL_law_L_cell : GoodIn wsL_law (va_wsS RL 151 yL_cell wsL_cell) := goodIn_app (goodIn_of _ (by decide +kernel)) ggL_law_L_cell
set_option maxRecDepth 20000 in
theorem gp_wsL_doors_r2 : GoodIn wsL_law wsL_doors_r2 := goodIn_r _ [369, 370, 371, 12, 372, 38, 124, 125, 126, 127, 39, 373, 374, 375, 25, 376, 72, 71, 377, 378, 379, 380, 333, 334] (by decide +kernel) (by decide +kernel)
set_option maxRecDepth 20000 in
theorem gp_wsL_doors_r3 : GoodIn wsL_law wsL_doors_r3 := goodIn_r _ [335, 336, 337, 247, 248, 249, 33, 34, 35, 36, 37, 40, 41, 42, 250, 251, 252, 32, 253, 47, 254, 105, 106, 107] (by decide +kernel) (by decide +kernel)
set_option maxRecDepth 20000 in
theorem gp_wsL_doors_r4 : GoodIn wsL_law wsL_doors_r4 := goodIn_r _ [381, 382, 383, 384, 259, 162, 163, 164, 385, 386, 387, 341, 388, 389, 390, 391, 90, 91, 92, 93, 94, 95, 96, 97] (by decide +kernel) (by decide +kernel)
set_option maxRecDepth 20000 in
theorem gp_wsL_doors_r5 : GoodIn wsL_law wsL_doors_r5 := goodIn_r _ [98, 99, 392, 393, 394, 395, 396, 397, 398, 399, 400, 104, 401, 402, 403, 404, 405, 406, 407, 408, 409, 410, 411, 412] (by decide +kernel) (by decide +kernel)
set_option maxRecDepth 20000 in
theorem gp_wsL_doors_r6 : GoodIn wsL_law wsL_doors_r6 := goodIn_r _ [413, 414, 415, 416, 417, 418, 108, 109, 110, 111, 112, 113, 114, 115, 419, 420, 421, 208, 209, 210, 211, 18, 132, 133] (by decide +kernel) (by decide +kernel)
set_option maxRecDepth 20000 in
theorem gp_wsL_doors_r7 : GoodIn wsL_law wsL_doors_r7 := goodIn_r _ [134, 17, 135, 52, 56, 57, 136, 137, 138, 139, 140, 141, 142, 143, 144, 145, 146, 147, 148, 149, 150, 151, 152, 153] (by decide +kernel) (by decide +kernel)
set_option maxRecDepth 20000 in
theorem gp_wsL_doors_r8 : GoodIn wsL_law wsL_doors_r8 := goodIn_r _ [154, 155, 54, 156, 157, 158, 159, 160, 161, 165, 166, 167, 168, 55, 169, 170, 171, 172, 173, 174, 175, 176, 177, 53] (by decide +kernel) (by decide +kernel)
set_option maxRecDepth 20000 in
theorem gp_wsL_doors_r9 : GoodIn wsL_law wsL_doors_r9 := goodIn_r _ [178, 101, 102, 103, 179, 180, 181, 182, 183, 184, 185, 186, 187, 188, 189, 190, 191, 192, 193, 194, 195, 196, 197, 198] (by decide +kernel) (by decide +kernel)
set_option maxRecDepth 20000 in
theorem gp_wsL_doors_r10 : GoodIn wsL_law wsL_doors_r10 := goodIn_r _ [199, 200, 201, 202, 203, 212, 213, 214, 215, 216, 204, 205, 206, 207] (by decide +kernel) (by decide +kernel)
set_option maxRecDepth 20000 in
theorem gp_wsL_doors_r1 : GoodIn wsL_law (.code yL_doors cL_doors 10 (some .boolean) :: wsL_doors_r1) := goodIn_r _ [351, 352, 353, 75, 354, 355, 356, 357, 358, 359, 318, 360, 361, 362, 2, 363, 323, 324, 13, 26, 364, 365, 366, 367, 368] (by decide +kernel) (by decide +kernel)
set_option maxRecDepth 20000 in
theorem ggL_law_L_doors : GoodIn wsL_law wsL_doors := goodIn_ca (goodIn_ca (goodIn_ca ((goodIn_ca (goodIn_ca (goodIn_ca (goodIn_ca (goodIn_ca (goodIn_ca gp_wsL_doors_r1 (goodIn_app gp_wsL_doors_r2 (goodIn_app gp_wsL_doors_r3 (goodIn_app gp_wsL_doors_r4 (goodIn_app gp_wsL_doors_r5 (goodIn_app gp_wsL_doors_r6 (goodIn_app gp_wsL_doors_r7 (goodIn_app gp_wsL_doors_r8 (goodIn_app gp_wsL_doors_r9 gp_wsL_doors_r10))))))))) (goodIn_sub inlX5 (by decide +kernel))) (goodIn_sub inlX1 (by decide +kernel))) (goodIn_sub inlX2 (by decide +kernel))) (goodIn_sub inlX3 (by decide +kernel))) (goodIn_sub inlX4 (by decide +kernel)))) (goodIn_sub (fun _ h => List.mem_append_left _ (List.mem_append_right _ h)) (by decide +kernel))) (goodIn_sub (fun _ h => List.mem_append_right _ h) (by decide +kernel))) (goodIn_sub (fun _ h => List.mem_append_left _ (List.mem_append_left _ (List.mem_append_right _ h))) (by decide +kernel))
set_option maxRecDepth 20000 in
theorem gL_law_L_doors : GoodIn wsL_law (va_wsS RL 155 yL_doors wsL_doors) := goodIn_app (goodIn_of _ (by decide +kernel)) ggL_law_L_doors
set_option maxRecDepth 20000 in
theorem gp_wsL_others_r2 : GoodIn wsL_law wsL_others_r2 := goodIn_r _ [95, 432, 433, 434, 12, 435, 124, 125, 126, 127, 39, 144, 145, 146, 147, 35, 104, 105, 106, 32, 107, 47, 373, 374] (by decide +kernel) (by decide +kernel)
set_option maxRecDepth 20000 in
theorem gp_wsL_others_r3 : GoodIn wsL_law wsL_others_r3 := goodIn_r _ [375, 25, 376, 72, 71, 377, 378, 379, 380, 333, 334, 335, 336, 337, 247, 248, 249, 33, 34, 36, 37, 38, 40, 41] (by decide +kernel) (by decide +kernel)
set_option maxRecDepth 20000 in
theorem gp_wsL_others_r4 : GoodIn wsL_law wsL_others_r4 := goodIn_r _ [42, 250, 251, 252, 253, 254, 260, 261, 262, 263, 259, 162, 163, 164, 264, 141, 142, 143, 80, 81, 82, 436, 437, 438] (by decide +kernel) (by decide +kernel)
set_option maxRecDepth 20000 in
theorem gp_wsL_others_r5 : GoodIn wsL_law wsL_others_r5 := goodIn_r _ [439, 440, 441, 442, 443, 444, 445, 446, 255, 256, 257, 258, 83, 84, 85, 447, 448, 449, 450, 451, 452, 453, 454, 455] (by decide +kernel) (by decide +kernel)
set_option maxRecDepth 20000 in
theorem gp_wsL_others_r6 : GoodIn wsL_law wsL_others_r6 := goodIn_r _ [456, 457, 458, 459, 460, 461, 18, 132, 133, 134, 17, 135, 52, 56, 57, 136, 137, 138, 139, 140, 148, 149, 150, 151] (by decide +kernel) (by decide +kernel)
set_option maxRecDepth 20000 in
theorem gp_wsL_others_r7 : GoodIn wsL_law wsL_others_r7 := goodIn_r _ [152, 153, 154, 155, 54, 156, 157, 158, 159, 160, 161, 165, 166, 167, 168, 55, 169, 170, 171, 172, 173, 174, 175, 176] (by decide +kernel) (by decide +kernel)
set_option maxRecDepth 20000 in
theorem gp_wsL_others_r8 : GoodIn wsL_law wsL_others_r8 := goodIn_r _ [177, 53, 178, 101, 102, 103, 179, 180, 181, 182, 183, 113, 114, 115, 184, 185, 186, 187, 188, 189, 190, 191, 192, 193] (by decide +kernel) (by decide +kernel)
set_option maxRecDepth 20000 in
theorem gp_wsL_others_r9 : GoodIn wsL_law wsL_others_r9 := goodIn_r _ [194, 195, 196, 197, 198, 199, 200, 201, 202, 203, 462, 463, 464, 465, 466, 205, 206, 207, 77, 78, 79, 467, 468, 469] (by decide +kernel) (by decide +kernel)
set_option maxRecDepth 20000 in
theorem gp_wsL_others_r10 : GoodIn wsL_law wsL_others_r10 := goodIn_r _ [470, 471, 472, 473, 474, 475, 476, 477, 478, 479, 480, 481, 482, 483, 484, 485, 486, 487, 488, 489, 490, 491, 492, 493] (by decide +kernel) (by decide +kernel)
set_option maxRecDepth 20000 in
theorem gp_wsL_others_r11 : GoodIn wsL_law wsL_others_r11 := goodIn_r _ [494, 495, 496, 497, 498, 499, 500, 501, 502, 503, 504, 505, 506, 507, 508, 509] (by decide +kernel) (by decide +kernel)
set_option maxRecDepth 20000 in
theorem gq_wsL_others_r1 : GoodIn wsL_law wsL_others_r1 := goodIn_r _ [3, 352, 353, 75, 354, 355, 425, 426, 427, 341, 318, 428, 429, 430, 2, 431, 323, 324, 13, 26, 221, 222, 223, 94] (by decide +kernel) (by decide +kernel)
set_option maxRecDepth 20000 in
theorem gc_wsL_others_r1 : (.code yL_others cL_others 14 (some .boolean) : Cond) ∈ wsL_law := List.mem_of_getElem? (i := 424) rfl
theorem gp_wsL_others_r1 : GoodIn wsL_law (.code yL_others cL_others 14 (some .boolean) :: wsL_others_r1) := fun w h => (List.mem_cons.mp h).elim (fun e => by rw [e]; exact ⟨gc_wsL_others_r1, Or.inl rfl⟩) (fun h => gq_wsL_others_r1 w h)
set_option maxRecDepth 20000 in
theorem ggL_law_L_others : GoodIn wsL_law wsL_others := goodIn_ca (goodIn_ca ((goodIn_ca (goodIn_ca (goodIn_ca (goodIn_ca (goodIn_ca (goodIn_ca gp_wsL_others_r1 (goodIn_app gp_wsL_others_r2 (goodIn_app gp_wsL_others_r3 (goodIn_app gp_wsL_others_r4 (goodIn_app gp_wsL_others_r5 (goodIn_app gp_wsL_others_r6 (goodIn_app gp_wsL_others_r7 (goodIn_app gp_wsL_others_r8 (goodIn_app gp_wsL_others_r9 (goodIn_app gp_wsL_others_r10 gp_wsL_others_r11)))))))))) (goodIn_sub inlX5 (by decide +kernel))) (goodIn_sub inlX1 (by decide +kernel))) (goodIn_sub inlX3 (by decide +kernel))) (goodIn_sub inlX2 (by decide +kernel))) (goodIn_sub inlX4 (by decide +kernel)))) (goodIn_sub (fun _ h => List.mem_append_left _ (List.mem_append_right _ h)) (by decide +kernel))) (goodIn_sub (fun _ h => List.mem_append_left _ (List.mem_append_left _ (List.mem_append_right _ h))) (by decide +kernel))
set_option maxRecDepth 20000 in
theorem gL_law_L_others : GoodIn wsL_law (va_wsS RL 159 yL_others wsL_others) := goodIn_app (goodIn_of _ (by decide +kernel)) ggL_law_L_others
