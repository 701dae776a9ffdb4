set_option maxRecDepth 20000 in
theorem ggL_isSo_L_share : GoodIn wsL_isSo wsL_share := goodIn_r _ [5, 1, 6, 7, 4, 8, 9, 10, 11] (by decide +kernel) (by decide +kernel)
set_option maxRecDepth 20000 in
theorem gL_isSo_L_share : GoodIn wsL_isSo (va_wsS RL 69 yL_share wsL_share) := goodIn_app (goodIn_of _ (by decide +kernel)) ggL_isSo_L_share
set_option maxRecDepth 20000 in
theorem ggL_isSo_X5_pints : GoodIn wsL_isSo wsX5_pints := goodIn_ca (goodIn_r _ [16, 17, 18, 19, 20, 15, 21, 22, 23, 24, 25, 26, 27, 28, 29, 30, 31, 32, 33, 34, 35, 36, 37, 38, 39, 40, 265, 266, 267, 268, 269, 270, 271, 272, 273, 274, 275, 276, 277, 278, 279, 280] (by decide +kernel) (by decide +kernel)) (goodIn_sub (fun _ h => List.mem_cons_of_mem _ (List.mem_append_right _ h)) (by decide +kernel))
set_option maxRecDepth 20000 in
theorem gL_isSo_X5_pints : GoodIn wsL_isSo (wsV RL 73 RX5 yX5_pints wsX5_pints) := goodIn_app (goodIn_of _ (by decide +kernel)) ggL_isSo_X5_pints
set_option maxRecDepth 20000 in
theorem ggL_isSo_X5_owner : GoodIn wsL_isSo wsX5_owner := goodIn_ca (goodIn_r _ [44, 17, 18, 19, 20, 15, 21, 22, 23, 24, 25, 26, 27, 28, 29, 45, 46, 47, 48, 49, 35, 36, 37, 38, 39, 40, 265, 266, 267, 268, 269, 270, 271, 272, 273, 274, 275, 276, 277, 278, 279, 280] (by decide +kernel) (by decide +kernel)) (goodIn_sub (fun _ h => List.mem_cons_of_mem _ (List.mem_append_right _ h)) (by decide +kernel))
set_option maxRecDepth 20000 in
theorem gL_isSo_X5_owner : GoodIn wsL_isSo (wsV RL 47 RX5 yX5_owner wsX5_owner) := goodIn_app (goodIn_of _ (by decide +kernel)) ggL_isSo_X5_owner
set_option maxRecDepth 20000 in
theorem ggL_isSo_X5_planned : GoodIn wsL_isSo wsX5_planned := goodIn_ca (goodIn_r _ [53, 17, 18, 19, 20, 15, 21, 22, 23, 24, 25, 26, 27, 28, 29, 54, 55, 56, 57, 58, 49, 59, 60, 61, 62, 63, 35, 36, 37, 38, 39, 40, 265, 266, 267, 268, 269, 270, 271, 272, 273, 274, 275, 276, 277, 278, 279, 280] (by decide +kernel) (by decide +kernel)) (goodIn_sub (fun _ h => List.mem_cons_of_mem _ (List.mem_append_right _ h)) (by decide +kernel))
set_option maxRecDepth 20000 in
theorem gL_isSo_X5_planned : GoodIn wsL_isSo (wsV RL 76 RX5 yX5_planned wsX5_planned) := goodIn_app (goodIn_of _ (by decide +kernel)) ggL_isSo_X5_planned
set_option maxRecDepth 20000 in
theorem ggL_isSo_X5_ifPlanned : GoodIn wsL_isSo wsX5_ifPlanned := goodIn_ca (goodIn_r _ [67, 68, 17, 18, 19, 20, 15, 21, 22, 23, 24, 25, 26, 27, 28, 29, 69, 70, 71, 72, 73, 74, 75, 76, 77, 78, 79, 38, 80, 40, 81, 82, 83, 84, 85, 86, 87, 88, 89, 35, 36, 37, 39, 90, 91, 92, 93, 94, 95, 96, 97, 98, 99, 100, 101, 102, 103, 49, 104, 105, 106, 107, 108, 109, 110, 111, 112, 113, 114, 115, 116, 117, 118, 119, 120, 121, 122, 123, 31, 32, 33, 34, 124, 125, 126, 127, 128, 46, 47, 48, 129, 130, 131, 132, 133, 134, 135, 136, 137, 138, 139, 140, 141, 142, 143, 144, 145, 146, 147, 148, 149, 150, 151, 152, 265, 266, 267, 268, 269, 270, 271, 272, 273, 274, 275, 276, 277, 278, 279, 281, 282, 283, 284, 285, 286, 280] (by decide +kernel) (by decide +kernel)) (goodIn_sub (fun _ h => List.mem_cons_of_mem _ (List.mem_append_right _ h)) (by decide +kernel))
set_option maxRecDepth 20000 in
theorem gL_isSo_X5_ifPlanned : GoodIn wsL_isSo (wsV RL 79 RX5 yX5_ifPlanned wsX5_ifPlanned) := goodIn_app (goodIn_of _ (by decide +kernel)) ggL_isSo_X5_ifPlanned
set_option maxRecDepth 20000 in
theorem ggL_isSo_X5_reason : GoodIn wsL_isSo wsX5_reason := goodIn_ca (goodIn_r _ [156, 68, 17, 18, 19, 20, 15, 21, 22, 23, 24, 25, 26, 27, 28, 29, 69, 70, 71, 72, 73, 74, 75, 76, 77, 78, 79, 38, 80, 40, 81, 82, 83, 84, 85, 86, 87, 88, 89, 35, 36, 37, 39, 90, 91, 92, 93, 94, 95, 96, 97, 98, 99, 100, 101, 102, 103, 49, 104, 105, 106, 107, 108, 109, 110, 111, 112, 113, 114, 115, 116, 117, 118, 119, 120, 121, 122, 123, 31, 32, 33, 34, 124, 125, 126, 127, 128, 46, 47, 48, 129, 130, 131, 132, 133, 134, 135, 136, 137, 138, 139, 140, 141, 142, 143, 144, 145, 146, 147, 148, 157, 158, 159, 160, 161, 45, 149, 150, 151, 152, 265, 266, 267, 268, 269, 270, 271, 272, 273, 274, 275, 276, 277, 278, 279, 281, 282, 283, 284, 285, 286, 280] (by decide +kernel) (by decide +kernel)) (goodIn_sub (fun _ h => List.mem_cons_of_mem _ (List.mem_append_right _ h)) (by decide +kernel))
set_option maxRecDepth 20000 in
theorem gL_isSo_X5_reason : GoodIn wsL_isSo (wsV RL 56 RX5 yX5_reason wsX5_reason) := goodIn_app (goodIn_of _ (by decide +kernel)) ggL_isSo_X5_reason
set_option maxRecDepth 20000 in
theorem ggL_isSo_L_roundOf : GoodIn wsL_isSo wsL_roundOf := goodIn_r _ [11] (by decide +kernel) (by decide +kernel)
set_option maxRecDepth 20000 in
theorem gL_isSo_L_roundOf : GoodIn wsL_isSo (va_wsS RL 65 yL_roundOf wsL_roundOf) := goodIn_app (goodIn_of _ (by decide +kernel)) ggL_isSo_L_roundOf
set_option maxRecDepth 20000 in
theorem ggL_isSo_X5_isAtWork : GoodIn wsL_isSo wsX5_isAtWork := goodIn_ca (goodIn_r _ [165, 17, 166, 167, 15, 168, 22, 23, 169, 86, 87, 27, 88, 89, 35, 36, 37, 38, 39, 40, 265, 266, 267, 268, 269, 270, 271, 272, 273, 274, 275, 276, 277, 278, 279, 280] (by decide +kernel) (by decide +kernel)) (goodIn_sub (fun _ h => List.mem_cons_of_mem _ (List.mem_append_right _ h)) (by decide +kernel))
set_option maxRecDepth 20000 in
theorem gL_isSo_X5_isAtWork : GoodIn wsL_isSo (wsV RL 82 RX5 yX5_isAtWork wsX5_isAtWork) := goodIn_app (goodIn_of _ (by decide +kernel)) ggL_isSo_X5_isAtWork
set_option maxRecDepth 20000 in
theorem ggL_isSo_X5_size : GoodIn wsL_isSo wsX5_size := goodIn_ca (goodIn_r _ [173, 17, 166, 167, 15, 168, 22, 23, 174, 101, 102, 27, 103, 29, 49, 35, 36, 37, 38, 39, 40, 265, 266, 267, 268, 269, 270, 271, 272, 273, 274, 275, 276, 277, 278, 279, 280] (by decide +kernel) (by decide +kernel)) (goodIn_sub (fun _ h => List.mem_cons_of_mem _ (List.mem_append_right _ h)) (by decide +kernel))
set_option maxRecDepth 20000 in
theorem gL_isSo_X5_size : GoodIn wsL_isSo (wsV RL 50 RX5 yX5_size wsX5_size) := goodIn_app (goodIn_of _ (by decide +kernel)) ggL_isSo_X5_size
set_option maxRecDepth 20000 in
theorem ggL_isSo_X5_load : GoodIn wsL_isSo wsX5_load := goodIn_ca (goodIn_r _ [178, 17, 166, 167, 15, 168, 22, 23, 179, 180, 181, 27, 182, 29, 49, 34, 35, 36, 37, 38, 39, 40, 265, 266, 267, 268, 269, 270, 271, 272, 273, 274, 275, 276, 277, 278, 279, 280] (by decide +kernel) (by decide +kernel)) (goodIn_sub (fun _ h => List.mem_cons_of_mem _ (List.mem_append_right _ h)) (by decide +kernel))
set_option maxRecDepth 20000 in
theorem gL_isSo_X5_load : GoodIn wsL_isSo (wsV RL 86 RX5 yX5_load wsX5_load) := goodIn_app (goodIn_of _ (by decide +kernel)) ggL_isSo_X5_load
set_option maxRecDepth 20000 in
theorem ggL_isSo_X5_changesIf : GoodIn wsL_isSo wsX5_changesIf := goodIn_ca (goodIn_r _ [186, 166, 167, 15, 168, 22, 23, 187, 188, 189, 190, 191, 17, 68, 192, 193, 194, 27, 195, 34, 49, 89, 58, 196, 29, 63, 197, 198, 199, 200, 201, 202, 38, 203, 40, 204, 36, 37, 39, 169, 86, 87, 88, 35, 205, 206, 207, 208, 209, 105, 106, 107, 210, 211, 212, 213, 214, 82, 83, 84, 85, 69, 70, 71, 72, 73, 74, 75, 76, 77, 78, 79, 80, 81, 90, 91, 92, 93, 94, 95, 96, 97, 98, 99, 100, 101, 102, 103, 104, 108, 109, 110, 111, 112, 113, 114, 115, 116, 117, 118, 119, 120, 121, 122, 123, 31, 32, 33, 124, 125, 126, 127, 128, 46, 47, 48, 129, 130, 131, 132, 133, 134, 135, 136, 137, 138, 139, 140, 141, 142, 143, 144, 145, 146, 147, 148, 265, 266, 267, 268, 269, 270, 271, 272, 273, 274, 275, 276, 277, 278, 279, 280, 281, 282, 283, 284, 285, 286] (by decide +kernel) (by decide +kernel)) (goodIn_sub (fun _ h => List.mem_cons_of_mem _ (List.mem_append_right _ h)) (by decide +kernel))
set_option maxRecDepth 20000 in
theorem gL_isSo_X5_changesIf : GoodIn wsL_isSo (wsV RL 53 RX5 yX5_changesIf wsX5_changesIf) := goodIn_app (goodIn_of _ (by decide +kernel)) ggL_isSo_X5_changesIf
set_option maxRecDepth 20000 in
theorem ggL_isSo_X5_doorsteps : GoodIn wsL_isSo wsX5_doorsteps := goodIn_r _ [218, 17, 219, 91, 92, 27, 93, 29, 265, 266, 267, 268, 269, 270, 271, 272, 273, 274, 275, 276, 277, 278, 279] (by decide +kernel) (by decide +kernel)
set_option maxRecDepth 20000 in
theorem gL_isSo_X5_doorsteps : GoodIn wsL_isSo (wsV RL 89 RX5 yX5_doorsteps wsX5_doorsteps) := goodIn_app (goodIn_of _ (by decide +kernel)) ggL_isSo_X5_doorsteps
set_option maxRecDepth 20000 in
theorem ggL_isSo_X5_handover : GoodIn wsL_isSo wsX5_handover := goodIn_r _ [223, 17, 224, 225, 226, 27, 227, 63, 265, 266, 267, 268, 269, 270, 271, 272, 273, 274, 275, 276, 277, 278, 279] (by decide +kernel) (by decide +kernel)
set_option maxRecDepth 20000 in
theorem gL_isSo_X5_handover : GoodIn wsL_isSo (wsV RL 92 RX5 yX5_handover wsX5_handover) := goodIn_app (goodIn_of _ (by decide +kernel)) ggL_isSo_X5_handover
set_option maxRecDepth 20000 in
theorem ggL_isSo_X5_changed : GoodIn wsL_isSo wsX5_changed := goodIn_r _ [231, 17, 232, 233, 234, 27, 235, 197, 265, 266, 267, 268, 269, 270, 271, 272, 273, 274, 275, 276, 277, 278, 279] (by decide +kernel) (by decide +kernel)
set_option maxRecDepth 20000 in
theorem gL_isSo_X5_changed : GoodIn wsL_isSo (wsV RL 95 RX5 yX5_changed wsX5_changed) := goodIn_app (goodIn_of _ (by decide +kernel)) ggL_isSo_X5_changed
set_option maxRecDepth 20000 in
theorem ggL_isSo_X5_delivered : GoodIn wsL_isSo wsX5_delivered := goodIn_r _ [239, 17, 240, 241, 242, 27, 243, 198, 265, 266, 267, 268, 269, 270, 271, 272, 273, 274, 275, 276, 277, 278, 279] (by decide +kernel) (by decide +kernel)
set_option maxRecDepth 20000 in
theorem gL_isSo_X5_delivered : GoodIn wsL_isSo (wsV RL 98 RX5 yX5_delivered wsX5_delivered) := goodIn_app (goodIn_of _ (by decide +kernel)) ggL_isSo_X5_delivered
set_option maxRecDepth 20000 in
theorem ggL_isSo_X5_misses : GoodIn wsL_isSo wsX5_misses := goodIn_r _ [247, 17, 248, 249, 250, 27, 251, 199, 265, 266, 267, 268, 269, 270, 271, 272, 273, 274, 275, 276, 277, 278, 279] (by decide +kernel) (by decide +kernel)
set_option maxRecDepth 20000 in
theorem gL_isSo_X5_misses : GoodIn wsL_isSo (wsV RL 101 RX5 yX5_misses wsX5_misses) := goodIn_app (goodIn_of _ (by decide +kernel)) ggL_isSo_X5_misses
set_option maxRecDepth 20000 in
theorem ggL_isSo_X5_changesToCome : GoodIn wsL_isSo wsX5_changesToCome := goodIn_r _ [255, 68, 17, 69, 70, 71, 72, 73, 74, 75, 76, 77, 78, 79, 38, 80, 40, 81, 82, 83, 27, 84, 85, 86, 87, 88, 89, 35, 36, 37, 39, 90, 91, 92, 93, 29, 94, 95, 96, 97, 98, 99, 100, 101, 102, 103, 49, 104, 105, 106, 107, 108, 109, 110, 111, 112, 113, 114, 115, 116, 117, 118, 119, 120, 121, 122, 123, 31, 32, 33, 34, 124, 125, 126, 127, 128, 46, 47, 48, 129, 130, 131, 132, 133, 134, 135, 136, 137, 138, 139, 140, 141, 142, 143, 144, 145, 146, 147, 148, 265, 266, 267, 268, 269, 281, 282, 283, 284, 285, 286, 280, 270, 271, 272, 273, 274, 275, 276, 277, 278, 279] (by decide +kernel) (by decide +kernel)
set_option maxRecDepth 20000 in
theorem gL_isSo_X5_changesToCome : GoodIn wsL_isSo (wsV RL 104 RX5 yX5_changesToCome wsX5_changesToCome) := goodIn_app (goodIn_of _ (by decide +kernel)) ggL_isSo_X5_changesToCome
set_option maxRecDepth 20000 in
theorem ggL_isSo_X5_unevenness : GoodIn wsL_isSo wsX5_unevenness := goodIn_r _ [259, 17, 219, 91, 92, 27, 93, 29, 260, 261, 262, 263, 85, 86, 87, 88, 89, 35, 36, 37, 38, 39, 40, 264, 101, 102, 103, 49, 265, 266, 267, 268, 269, 270, 271, 272, 273, 274, 275, 276, 277, 278, 279, 280] (by decide +kernel) (by decide +kernel)
set_option maxRecDepth 20000 in
theorem gL_isSo_X5_unevenness : GoodIn wsL_isSo (wsV RL 107 RX5 yX5_unevenness wsX5_unevenness) := goodIn_app (goodIn_of _ (by decide +kernel)) ggL_isSo_X5_unevenness
