theorem dL_cell_0 : decode cL_cell 0 = .ok (.iload_n 1, 1) := by decide +kernel
theorem dL_cell_1 : decode cL_cell 1 = .ok (.aload_n 0, 1) := by decide +kernel
theorem dL_cell_2 : decode cL_cell 2 = .ok (.arraylength, 1) := by decide +kernel
theorem dL_cell_3 : decode cL_cell 3 = .ok (.if_icmp .ge 9, 3) := by decide +kernel
theorem dL_cell_6 : decode cL_cell 6 = .ok (.aload_n 0, 1) := by decide +kernel
theorem dL_cell_7 : decode cL_cell 7 = .ok (.iload_n 1, 1) := by decide +kernel
theorem dL_cell_8 : decode cL_cell 8 = .ok (.iaload, 1) := by decide +kernel
theorem dL_cell_9 : decode cL_cell 9 = .ok (.goto 9, 3) := by decide +kernel
theorem dL_cell_12 : decode cL_cell 12 = .ok (.ldc 7, 2) := by decide +kernel
theorem dL_cell_14 : decode cL_cell 14 = .ok (.iload_n 1, 1) := by decide +kernel
theorem dL_cell_15 : decode cL_cell 15 = .ok (.iconst 1, 1) := by decide +kernel
theorem dL_cell_16 : decode cL_cell 16 = .ok (.iadd, 1) := by decide +kernel
theorem dL_cell_17 : decode cL_cell 17 = .ok (.imul, 1) := by decide +kernel
theorem dL_cell_18 : decode cL_cell 18 = .ok (.ireturn, 1) := by decide +kernel
theorem dL_low_0 : decode cL_low 0 = .ok (.iload_n 0, 1) := by decide +kernel
theorem dL_low_1 : decode cL_low 1 = .ok (.ldc 8, 2) := by decide +kernel
theorem dL_low_3 : decode cL_low 3 = .ok (.iand, 1) := by decide +kernel
theorem dL_low_4 : decode cL_low 4 = .ok (.iload_n 1, 1) := by decide +kernel
theorem dL_low_5 : decode cL_low 5 = .ok (.irem, 1) := by decide +kernel
theorem dL_low_6 : decode cL_low 6 = .ok (.ireturn, 1) := by decide +kernel
set_option maxRecDepth 20000 in
theorem ggL_addDoorstep_X5_addDoorstep : GoodIn wsL_addDoorstep wsX5_addDoorstep := goodIn_ca (goodIn_ca (goodIn_r _ [7, 8, 9, 10, 11, 12, 13, 6, 14, 15, 16, 17, 18, 19, 20, 21, 22, 23, 24, 25, 26, 27, 28, 29, 30, 31, 32, 33, 34, 35, 36, 37, 38, 39, 40, 41, 42, 43, 44, 45, 46, 47, 48, 49, 50, 51, 52, 53, 54, 55, 56, 57, 58, 59, 60, 61, 62, 63, 64, 65, 66, 67, 68, 69, 70, 71, 72, 73, 74, 75, 76, 77, 78, 79, 80, 81, 82, 83, 84, 85, 86, 87, 88, 89, 90] (by decide +kernel) (by decide +kernel)) (goodIn_sub (fun _ h => List.mem_cons_of_mem _ (List.mem_append_left _ (List.mem_append_right _ h))) (by decide +kernel))) (goodIn_sub (fun _ h => List.mem_cons_of_mem _ (List.mem_append_right _ h)) (by decide +kernel))
set_option maxRecDepth 20000 in
theorem gL_addDoorstep_X5_addDoorstep : GoodIn wsL_addDoorstep (wsV RL 9 RX5 yX5_addDoorstep wsX5_addDoorstep) := goodIn_app (goodIn_of _ (by decide +kernel)) ggL_addDoorstep_X5_addDoorstep
theorem dL_addDoorstep_0 : decode cL_addDoorstep 0 = .ok (.aload_n 0, 1) := by decide +kernel
theorem dL_addDoorstep_1 : decode cL_addDoorstep 1 = .ok (.iload_n 1, 1) := by decide +kernel
theorem dL_addDoorstep_2 : decode cL_addDoorstep 2 = .ok (.invokevirtual 9, 3) := by decide +kernel
theorem dL_addDoorstep_5 : decode cL_addDoorstep 5 = .ok (.istore_n 2, 1) := by decide +kernel
theorem dL_addDoorstep_6 : decode cL_addDoorstep 6 = .ok (.goto 11, 3) := by decide +kernel
theorem dL_addDoorstep_9 : decode cL_addDoorstep 9 = .ok (.astore_n 3, 1) := by decide +kernel
theorem dL_addDoorstep_10 : decode cL_addDoorstep 10 = .ok (.bipush (-32), 2) := by decide +kernel
theorem dL_addDoorstep_12 : decode cL_addDoorstep 12 = .ok (.ireturn, 1) := by decide +kernel
theorem dL_addDoorstep_13 : decode cL_addDoorstep 13 = .ok (.astore_n 3, 1) := by decide +kernel
theorem dL_addDoorstep_14 : decode cL_addDoorstep 14 = .ok (.bipush (-33), 2) := by decide +kernel
theorem dL_addDoorstep_16 : decode cL_addDoorstep 16 = .ok (.ireturn, 1) := by decide +kernel
theorem dL_addDoorstep_17 : decode cL_addDoorstep 17 = .ok (.iload_n 2, 1) := by decide +kernel
theorem dL_addDoorstep_18 : decode cL_addDoorstep 18 = .ok (.ireturn, 1) := by decide +kernel
set_option maxRecDepth 20000 in
theorem ggL_removeDoorstep_X5_removeDoorstep : GoodIn wsL_removeDoorstep wsX5_removeDoorstep := goodIn_ca (goodIn_ca (goodIn_r _ [7, 8, 9, 10, 11, 12, 13, 14, 6, 15, 16, 17, 18, 19, 20, 21, 22, 23, 24, 25, 26, 27, 28, 29, 30, 31, 32, 33, 34, 35, 36, 37, 38, 39, 40, 41, 42, 43, 44, 45, 46, 47, 48, 49, 50, 51, 52, 53, 54, 55, 56, 57, 58, 59, 60, 61, 62, 63, 64, 65, 66, 67, 68, 69, 70, 71, 72, 73, 74, 75, 76, 77, 78, 79, 80, 81, 82, 83, 84, 85, 86, 87, 88, 89, 90, 91, 92, 93, 94, 95, 96, 97] (by decide +kernel) (by decide +kernel)) (goodIn_sub (fun _ h => List.mem_cons_of_mem _ (List.mem_append_left _ (List.mem_append_right _ h))) (by decide +kernel))) (goodIn_sub (fun _ h => List.mem_cons_of_mem _ (List.mem_append_right _ h)) (by decide +kernel))
set_option maxRecDepth 20000 in
theorem gL_removeDoorstep_X5_removeDoorstep : GoodIn wsL_removeDoorstep (wsV RL 19 RX5 yX5_removeDoorstep wsX5_removeDoorstep) := goodIn_app (goodIn_of _ (by decide +kernel)) ggL_removeDoorstep_X5_removeDoorstep
theorem dL_removeDoorstep_0 : decode cL_removeDoorstep 0 = .ok (.aload_n 0, 1) := by decide +kernel
theorem dL_removeDoorstep_1 : decode cL_removeDoorstep 1 = .ok (.iload_n 1, 1) := by decide +kernel
theorem dL_removeDoorstep_2 : decode cL_removeDoorstep 2 = .ok (.invokevirtual 19, 3) := by decide +kernel
theorem dL_removeDoorstep_5 : decode cL_removeDoorstep 5 = .ok (.istore_n 2, 1) := by decide +kernel
theorem dL_removeDoorstep_6 : decode cL_removeDoorstep 6 = .ok (.goto 11, 3) := by decide +kernel
theorem dL_removeDoorstep_9 : decode cL_removeDoorstep 9 = .ok (.astore_n 3, 1) := by decide +kernel
theorem dL_removeDoorstep_10 : decode cL_removeDoorstep 10 = .ok (.bipush (-31), 2) := by decide +kernel
theorem dL_removeDoorstep_12 : decode cL_removeDoorstep 12 = .ok (.ireturn, 1) := by decide +kernel
theorem dL_removeDoorstep_13 : decode cL_removeDoorstep 13 = .ok (.astore_n 3, 1) := by decide +kernel
theorem dL_removeDoorstep_14 : decode cL_removeDoorstep 14 = .ok (.bipush (-33), 2) := by decide +kernel
theorem dL_removeDoorstep_16 : decode cL_removeDoorstep 16 = .ok (.ireturn, 1) := by decide +kernel
theorem dL_removeDoorstep_17 : decode cL_removeDoorstep 17 = .ok (.iload_n 2, 1) := by decide +kernel
theorem dL_removeDoorstep_18 : decode cL_removeDoorstep 18 = .ok (.ireturn, 1) := by decide +kernel
set_option maxRecDepth 20000 in
theorem ggL_setPints_X5_setPints : GoodIn wsL_setPints wsX5_setPints := goodIn_ca (goodIn_ca (goodIn_r _ [7, 8, 9, 10, 11, 12, 6, 13, 14, 15, 16, 17, 18, 19, 20, 21, 22, 23, 24, 25, 26, 27, 28, 29, 30, 31, 32, 33, 34, 35, 36, 37, 38, 39, 40, 41, 42, 43, 44, 45, 46, 47, 48, 49, 50, 51, 52, 53, 54, 55, 56, 57, 58, 59, 60, 61, 62, 63, 64, 65, 66, 67, 68, 69, 70, 71, 72, 73, 74, 75, 76, 77, 78, 79, 80, 81, 82, 83, 84, 85, 86, 87, 88, 89, 90, 91] (by decide +kernel) (by decide +kernel)) (goodIn_sub (fun _ h => List.mem_cons_of_mem _ (List.mem_append_left _ (List.mem_append_right _ h))) (by decide +kernel))) (goodIn_sub (fun _ h => List.mem_cons_of_mem _ (List.mem_append_right _ h)) (by decide +kernel))
set_option maxRecDepth 20000 in
theorem gL_setPints_X5_setPints : GoodIn wsL_setPints (wsV RL 24 RX5 yX5_setPints wsX5_setPints) := goodIn_app (goodIn_of _ (by decide +kernel)) ggL_setPints_X5_setPints
theorem dL_setPints_0 : decode cL_setPints 0 = .ok (.aload_n 0, 1) := by decide +kernel
theorem dL_setPints_1 : decode cL_setPints 1 = .ok (.iload_n 1, 1) := by decide +kernel
theorem dL_setPints_2 : decode cL_setPints 2 = .ok (.iload_n 2, 1) := by decide +kernel
theorem dL_setPints_3 : decode cL_setPints 3 = .ok (.invokevirtual 24, 3) := by decide +kernel
theorem dL_setPints_6 : decode cL_setPints 6 = .ok (.istore_n 3, 1) := by decide +kernel
theorem dL_setPints_7 : decode cL_setPints 7 = .ok (.goto 13, 3) := by decide +kernel
theorem dL_setPints_10 : decode cL_setPints 10 = .ok (.astore 4, 2) := by decide +kernel
theorem dL_setPints_12 : decode cL_setPints 12 = .ok (.bipush (-31), 2) := by decide +kernel
theorem dL_setPints_14 : decode cL_setPints 14 = .ok (.ireturn, 1) := by decide +kernel
theorem dL_setPints_15 : decode cL_setPints 15 = .ok (.astore 4, 2) := by decide +kernel
theorem dL_setPints_17 : decode cL_setPints 17 = .ok (.bipush (-32), 2) := by decide +kernel
theorem dL_setPints_19 : decode cL_setPints 19 = .ok (.ireturn, 1) := by decide +kernel
theorem dL_setPints_20 : decode cL_setPints 20 = .ok (.iload_n 3, 1) := by decide +kernel
theorem dL_setPints_21 : decode cL_setPints 21 = .ok (.ireturn, 1) := by decide +kernel
set_option maxRecDepth 20000 in
theorem ggL_come_X5_come : GoodIn wsL_come wsX5_come := goodIn_ca (goodIn_ca (goodIn_r _ [7, 8, 9, 10, 11, 12, 13, 6, 14, 15, 16, 17, 18, 19, 20, 21, 22, 23, 24, 25, 26, 27, 28, 29, 30, 31, 32, 33, 34, 35, 36, 37, 38, 39, 40, 41, 42, 43, 44, 45, 46, 47, 48, 49, 50, 51, 52, 53, 54, 55, 56, 57, 58, 59, 60, 61, 62, 63, 64, 65, 66, 67, 68, 69, 70, 71, 72, 73, 74, 75, 76, 77, 78, 79, 80, 81, 82, 83, 84, 85, 86, 87, 88, 89, 90, 91, 92, 93, 94, 95, 96, 97, 98, 99] (by decide +kernel) (by decide +kernel)) (goodIn_sub (fun _ h => List.mem_cons_of_mem _ (List.mem_append_left _ (List.mem_append_right _ h))) (by decide +kernel))) (goodIn_sub (fun _ h => List.mem_cons_of_mem _ (List.mem_append_right _ h)) (by decide +kernel))
set_option maxRecDepth 20000 in
theorem gL_come_X5_come : GoodIn wsL_come (wsV RL 28 RX5 yX5_come wsX5_come) := goodIn_app (goodIn_of _ (by decide +kernel)) ggL_come_X5_come
theorem dL_come_0 : decode cL_come 0 = .ok (.aload_n 0, 1) := by decide +kernel
theorem dL_come_1 : decode cL_come 1 = .ok (.iload_n 1, 1) := by decide +kernel
theorem dL_come_2 : decode cL_come 2 = .ok (.invokevirtual 28, 3) := by decide +kernel
theorem dL_come_5 : decode cL_come 5 = .ok (.istore_n 2, 1) := by decide +kernel
theorem dL_come_6 : decode cL_come 6 = .ok (.goto 11, 3) := by decide +kernel
theorem dL_come_9 : decode cL_come 9 = .ok (.astore_n 3, 1) := by decide +kernel
theorem dL_come_10 : decode cL_come 10 = .ok (.bipush (-31), 2) := by decide +kernel
theorem dL_come_12 : decode cL_come 12 = .ok (.ireturn, 1) := by decide +kernel
theorem dL_come_13 : decode cL_come 13 = .ok (.astore_n 3, 1) := by decide +kernel
theorem dL_come_14 : decode cL_come 14 = .ok (.bipush (-33), 2) := by decide +kernel
theorem dL_come_16 : decode cL_come 16 = .ok (.ireturn, 1) := by decide +kernel
theorem dL_come_17 : decode cL_come 17 = .ok (.iload_n 2, 1) := by decide +kernel
theorem dL_come_18 : decode cL_come 18 = .ok (.ireturn, 1) := by decide +kernel
set_option maxRecDepth 20000 in
theorem ggL_leave_X5_leave : GoodIn wsL_leave wsX5_leave := goodIn_ca (goodIn_ca (goodIn_r _ [7, 8, 9, 10, 11, 12, 13, 6, 14, 15, 16, 17, 18, 19, 20, 21, 22, 23, 24, 25, 26, 27, 28, 29, 30, 31, 32, 33, 34, 35, 36, 37, 38, 39, 40, 41, 42, 43, 44, 45, 46, 47, 48, 49, 50, 51, 52, 53, 54, 55, 56, 57, 58, 59, 60, 61, 62, 63, 64, 65, 66, 67, 68, 69, 70, 71, 72, 73, 74, 75, 76, 77, 78, 79, 80, 81, 82, 83, 84, 85, 86, 87, 88, 89, 90, 91, 92, 93, 94, 95] (by decide +kernel) (by decide +kernel)) (goodIn_sub (fun _ h => List.mem_cons_of_mem _ (List.mem_append_left _ (List.mem_append_right _ h))) (by decide +kernel))) (goodIn_sub (fun _ h => List.mem_cons_of_mem _ (List.mem_append_right _ h)) (by decide +kernel))
set_option maxRecDepth 20000 in
theorem gL_leave_X5_leave : GoodIn wsL_leave (wsV RL 31 RX5 yX5_leave wsX5_leave) := goodIn_app (goodIn_of _ (by decide +kernel)) ggL_leave_X5_leave
theorem dL_leave_0 : decode cL_leave 0 = .ok (.aload_n 0, 1) := by decide +kernel
theorem dL_leave_1 : decode cL_leave 1 = .ok (.iload_n 1, 1) := by decide +kernel
theorem dL_leave_2 : decode cL_leave 2 = .ok (.invokevirtual 31, 3) := by decide +kernel
theorem dL_leave_5 : decode cL_leave 5 = .ok (.istore_n 2, 1) := by decide +kernel
theorem dL_leave_6 : decode cL_leave 6 = .ok (.goto 11, 3) := by decide +kernel
theorem dL_leave_9 : decode cL_leave 9 = .ok (.astore_n 3, 1) := by decide +kernel
theorem dL_leave_10 : decode cL_leave 10 = .ok (.bipush (-31), 2) := by decide +kernel
theorem dL_leave_12 : decode cL_leave 12 = .ok (.ireturn, 1) := by decide +kernel
theorem dL_leave_13 : decode cL_leave 13 = .ok (.astore_n 3, 1) := by decide +kernel
theorem dL_leave_14 : decode cL_leave 14 = .ok (.bipush (-33), 2) := by decide +kernel
theorem dL_leave_16 : decode cL_leave 16 = .ok (.ireturn, 1) := by decide +kernel
theorem dL_leave_17 : decode cL_leave 17 = .ok (.iload_n 2, 1) := by decide +kernel
theorem dL_leave_18 : decode cL_leave 18 = .ok (.ireturn, 1) := by decide +kernel
set_option maxRecDepth 20000 in
theorem ggL_plan_X5_plan : GoodIn wsL_plan wsX5_plan := goodIn_ca (goodIn_r _ [6, 7, 8, 9, 10, 11, 12, 13, 14, 15, 16, 17, 18, 19, 20, 21, 22, 23, 24, 25, 26, 27, 28, 29, 30, 31, 32, 33, 34, 35, 36, 37, 38, 39, 40, 41, 42, 43, 44, 45, 46, 47, 48, 49, 50, 51, 52, 53, 54, 55, 56, 57, 58, 59, 60, 61, 62, 63, 64, 65, 66, 67, 68, 69, 70, 5, 71, 72, 73, 74, 75, 76, 77, 78, 79, 80, 81, 82, 83, 84, 85, 86, 87, 88, 89, 90, 91, 92, 93, 94, 95, 96, 97, 98, 99, 100, 101, 102, 103, 104, 105, 106, 107, 108, 109, 110, 111, 112, 113, 114, 115, 116, 117, 118, 119, 120, 121, 122, 123, 124, 125, 126, 127, 128, 129, 130, 131, 132, 133, 134, 135, 136, 137, 138, 139, 140, 141, 142, 143, 144, 145, 146, 147, 148, 149, 150, 151, 152, 153, 154, 155, 156, 157, 158, 159, 160, 161, 162, 163, 164, 165, 166, 167, 168, 169, 170, 171, 172, 173, 174, 175, 176, 177, 178, 179, 180, 181, 182, 183] (by decide +kernel) (by decide +kernel)) (goodIn_sub (fun _ h => List.mem_cons_of_mem _ (List.mem_append_right _ h)) (by decide +kernel))
set_option maxRecDepth 20000 in
theorem gL_plan_X5_plan : GoodIn wsL_plan (wsV RL 34 RX5 yX5_plan wsX5_plan) := goodIn_app (goodIn_of _ (by decide +kernel)) ggL_plan_X5_plan
theorem dL_plan_0 : decode cL_plan 0 = .ok (.aload_n 0, 1) := by decide +kernel
theorem dL_plan_1 : decode cL_plan 1 = .ok (.invokevirtual 34, 3) := by decide +kernel
theorem dL_plan_4 : decode cL_plan 4 = .ok (.istore_n 1, 1) := by decide +kernel
theorem dL_plan_5 : decode cL_plan 5 = .ok (.goto 7, 3) := by decide +kernel
theorem dL_plan_8 : decode cL_plan 8 = .ok (.astore_n 2, 1) := by decide +kernel
theorem dL_plan_9 : decode cL_plan 9 = .ok (.bipush (-33), 2) := by decide +kernel
theorem dL_plan_11 : decode cL_plan 11 = .ok (.ireturn, 1) := by decide +kernel
theorem dL_plan_12 : decode cL_plan 12 = .ok (.iload_n 1, 1) := by decide +kernel
theorem dL_plan_13 : decode cL_plan 13 = .ok (.ireturn, 1) := by decide +kernel
set_option maxRecDepth 20000 in
theorem ggL_handOver_X5_handOver : GoodIn wsL_handOver wsX5_handOver := goodIn_ca (goodIn_r _ [6, 7, 8, 9, 10, 11, 12, 13, 14, 15, 16, 17, 18, 19, 20, 21, 22, 23, 24, 25, 26, 27, 28, 29, 30, 31, 32, 33, 34, 35, 36, 37, 38, 39, 40, 41, 42, 43, 44, 45, 46, 47, 48, 49, 50, 51, 52, 53, 54, 55, 56, 57, 58, 59, 60, 61, 62, 63, 64, 65, 66, 67, 68, 69, 70, 71, 72, 73, 74, 75, 76, 77, 78, 79, 80, 81, 82, 83, 84, 85, 86, 87, 88, 89, 90, 91, 92, 93] (by decide +kernel) (by decide +kernel)) (goodIn_sub (fun _ h => List.mem_cons_of_mem _ (List.mem_append_right _ h)) (by decide +kernel))
set_option maxRecDepth 20000 in
theorem gL_handOver_X5_handOver : GoodIn wsL_handOver (wsV RL 38 RX5 yX5_handOver wsX5_handOver) := goodIn_app (goodIn_of _ (by decide +kernel)) ggL_handOver_X5_handOver
theorem dL_handOver_0 : decode cL_handOver 0 = .ok (.aload_n 0, 1) := by decide +kernel
theorem dL_handOver_1 : decode cL_handOver 1 = .ok (.invokevirtual 38, 3) := by decide +kernel
theorem dL_handOver_4 : decode cL_handOver 4 = .ok (.istore_n 1, 1) := by decide +kernel
theorem dL_handOver_5 : decode cL_handOver 5 = .ok (.goto 7, 3) := by decide +kernel
theorem dL_handOver_8 : decode cL_handOver 8 = .ok (.astore_n 2, 1) := by decide +kernel
theorem dL_handOver_9 : decode cL_handOver 9 = .ok (.bipush (-33), 2) := by decide +kernel
theorem dL_handOver_11 : decode cL_handOver 11 = .ok (.ireturn, 1) := by decide +kernel
theorem dL_handOver_12 : decode cL_handOver 12 = .ok (.iload_n 1, 1) := by decide +kernel
theorem dL_handOver_13 : decode cL_handOver 13 = .ok (.ireturn, 1) := by decide +kernel
set_option maxRecDepth 20000 in
theorem ggL_callOff_X5_callOff : GoodIn wsL_callOff wsX5_callOff := goodIn_ca (goodIn_r _ [6, 7, 8, 9, 10, 11, 12, 13, 14, 15, 16, 17, 18, 19, 20, 21, 22, 23, 24, 25, 26, 27, 28, 29, 30, 31, 32, 33, 34, 35, 36, 37, 38, 39, 40, 41, 42, 43, 44, 45, 46, 47, 48, 49, 50, 51, 52, 53, 54, 55, 56, 57, 58, 59, 60, 61, 62, 63, 64, 65, 66, 67, 68, 69, 70, 71, 72, 73, 74, 75, 76, 77, 78, 79, 80, 81, 82, 83, 84, 85] (by decide +kernel) (by decide +kernel)) (goodIn_sub (fun _ h => List.mem_cons_of_mem _ (List.mem_append_right _ h)) (by decide +kernel))
set_option maxRecDepth 20000 in
theorem gL_callOff_X5_callOff : GoodIn wsL_callOff (wsV RL 41 RX5 yX5_callOff wsX5_callOff) := goodIn_app (goodIn_of _ (by decide +kernel)) ggL_callOff_X5_callOff
theorem dL_callOff_0 : decode cL_callOff 0 = .ok (.aload_n 0, 1) := by decide +kernel
theorem dL_callOff_1 : decode cL_callOff 1 = .ok (.invokevirtual 41, 3) := by decide +kernel
theorem dL_callOff_4 : decode cL_callOff 4 = .ok (.istore_n 1, 1) := by decide +kernel
theorem dL_callOff_5 : decode cL_callOff 5 = .ok (.goto 7, 3) := by decide +kernel
theorem dL_callOff_8 : decode cL_callOff 8 = .ok (.astore_n 2, 1) := by decide +kernel
theorem dL_callOff_9 : decode cL_callOff 9 = .ok (.bipush (-33), 2) := by decide +kernel
theorem dL_callOff_11 : decode cL_callOff 11 = .ok (.ireturn, 1) := by decide +kernel
theorem dL_callOff_12 : decode cL_callOff 12 = .ok (.iload_n 1, 1) := by decide +kernel
theorem dL_callOff_13 : decode cL_callOff 13 = .ok (.ireturn, 1) := by decide +kernel
set_option maxRecDepth 20000 in
theorem ggL_undo_X5_undo : GoodIn wsL_undo wsX5_undo := goodIn_ca (goodIn_r _ [6, 7, 8, 9, 10, 11, 12, 13, 14, 15, 16, 17, 18, 19, 20, 21, 22, 23, 24, 25, 26, 27, 28, 29, 30, 31, 32, 33, 34, 35, 36, 37, 38, 39, 40, 41, 42, 43, 44, 45, 46, 47, 48, 49, 50, 51, 52, 53, 54, 55, 56, 57, 58, 59, 60, 61, 62, 63, 64, 65, 66, 67, 68] (by decide +kernel) (by decide +kernel)) (goodIn_sub (fun _ h => List.mem_cons_of_mem _ (List.mem_append_right _ h)) (by decide +kernel))
set_option maxRecDepth 20000 in
theorem gL_undo_X5_undo : GoodIn wsL_undo (wsV RL 44 RX5 yX5_undo wsX5_undo) := goodIn_app (goodIn_of _ (by decide +kernel)) ggL_undo_X5_undo
theorem dL_undo_0 : decode cL_undo 0 = .ok (.aload_n 0, 1) := by decide +kernel
theorem dL_undo_1 : decode cL_undo 1 = .ok (.invokevirtual 44, 3) := by decide +kernel
theorem dL_undo_4 : decode cL_undo 4 = .ok (.istore_n 1, 1) := by decide +kernel
theorem dL_undo_5 : decode cL_undo 5 = .ok (.goto 7, 3) := by decide +kernel
theorem dL_undo_8 : decode cL_undo 8 = .ok (.astore_n 2, 1) := by decide +kernel
theorem dL_undo_9 : decode cL_undo 9 = .ok (.bipush (-33), 2) := by decide +kernel
theorem dL_undo_11 : decode cL_undo 11 = .ok (.ireturn, 1) := by decide +kernel
theorem dL_undo_12 : decode cL_undo 12 = .ok (.iload_n 1, 1) := by decide +kernel
theorem dL_undo_13 : decode cL_undo 13 = .ok (.ireturn, 1) := by decide +kernel
set_option maxRecDepth 20000 in
theorem ggL_owner_X5_owner : GoodIn wsL_owner wsX5_owner := goodIn_ca (goodIn_r _ [6, 7, 8, 9, 10, 5, 11, 12, 13, 14, 15, 16, 17, 18, 19, 20, 21, 22, 23, 24, 25, 26, 27, 28, 29, 30, 31, 32, 33, 34, 35, 36, 37, 38, 39, 40, 41, 42, 43, 44, 45, 46] (by decide +kernel) (by decide +kernel)) (goodIn_sub (fun _ h => List.mem_cons_of_mem _ (List.mem_append_right _ h)) (by decide +kernel))
set_option maxRecDepth 20000 in
theorem gL_owner_X5_owner : GoodIn wsL_owner (wsV RL 47 RX5 yX5_owner wsX5_owner) := goodIn_app (goodIn_of _ (by decide +kernel)) ggL_owner_X5_owner
theorem dL_owner_0 : decode cL_owner 0 = .ok (.aload_n 0, 1) := by decide +kernel
theorem dL_owner_1 : decode cL_owner 1 = .ok (.iload_n 1, 1) := by decide +kernel
theorem dL_owner_2 : decode cL_owner 2 = .ok (.invokevirtual 47, 3) := by decide +kernel
theorem dL_owner_5 : decode cL_owner 5 = .ok (.istore_n 2, 1) := by decide +kernel
theorem dL_owner_6 : decode cL_owner 6 = .ok (.goto 7, 3) := by decide +kernel
theorem dL_owner_9 : decode cL_owner 9 = .ok (.astore_n 3, 1) := by decide +kernel
theorem dL_owner_10 : decode cL_owner 10 = .ok (.bipush (-31), 2) := by decide +kernel
theorem dL_owner_12 : decode cL_owner 12 = .ok (.ireturn, 1) := by decide +kernel
theorem dL_owner_13 : decode cL_owner 13 = .ok (.iload_n 2, 1) := by decide +kernel
theorem dL_owner_14 : decode cL_owner 14 = .ok (.ireturn, 1) := by decide +kernel
set_option maxRecDepth 20000 in
theorem ggL_size_X5_size : GoodIn wsL_size wsX5_size := goodIn_ca (goodIn_r _ [6, 7, 8, 9, 5, 10, 11, 12, 13, 14, 15, 16, 17, 18, 19, 20, 21, 22, 23, 24, 25, 26, 27, 28, 29, 30, 31, 32, 33, 34, 35, 36, 37, 38, 39, 40, 41] (by decide +kernel) (by decide +kernel)) (goodIn_sub (fun _ h => List.mem_cons_of_mem _ (List.mem_append_right _ h)) (by decide +kernel))
set_option maxRecDepth 20000 in
theorem gL_size_X5_size : GoodIn wsL_size (wsV RL 50 RX5 yX5_size wsX5_size) := goodIn_app (goodIn_of _ (by decide +kernel)) ggL_size_X5_size
theorem dL_size_0 : decode cL_size 0 = .ok (.aload_n 0, 1) := by decide +kernel
theorem dL_size_1 : decode cL_size 1 = .ok (.iload_n 1, 1) := by decide +kernel
theorem dL_size_2 : decode cL_size 2 = .ok (.invokevirtual 50, 3) := by decide +kernel
theorem dL_size_5 : decode cL_size 5 = .ok (.istore_n 2, 1) := by decide +kernel
theorem dL_size_6 : decode cL_size 6 = .ok (.goto 7, 3) := by decide +kernel
theorem dL_size_9 : decode cL_size 9 = .ok (.astore_n 3, 1) := by decide +kernel
theorem dL_size_10 : decode cL_size 10 = .ok (.bipush (-31), 2) := by decide +kernel
theorem dL_size_12 : decode cL_size 12 = .ok (.ireturn, 1) := by decide +kernel
theorem dL_size_13 : decode cL_size 13 = .ok (.iload_n 2, 1) := by decide +kernel
theorem dL_size_14 : decode cL_size 14 = .ok (.ireturn, 1) := by decide +kernel
set_option maxRecDepth 20000 in
theorem ggL_changesIf_X5_changesIf : GoodIn wsL_changesIf wsX5_changesIf := goodIn_ca (goodIn_r _ [6, 7, 8, 5, 9, 10, 11, 12, 13, 14, 15, 16, 17, 18, 19, 20, 21, 22, 23, 24, 25, 26, 27, 28, 29, 30, 31, 32, 33, 34, 35, 36, 37, 38, 39, 40, 41, 42, 43, 44, 45, 46, 47, 48, 49, 50, 51, 52, 53, 54, 55, 56, 57, 58, 59, 60, 61, 62, 63, 64, 65, 66, 67, 68, 69, 70, 71, 72, 73, 74, 75, 76, 77, 78, 79, 80, 81, 82, 83, 84, 85, 86, 87, 88, 89, 90, 91, 92, 93, 94, 95, 96, 97, 98, 99, 100, 101, 102, 103, 104, 105, 106, 107, 108, 109, 110, 111, 112, 113, 114, 115, 116, 117, 118, 119, 120, 121, 122, 123, 124, 125, 126, 127, 128, 129, 130, 131, 132, 133, 134, 135, 136, 137, 138, 139, 140, 141, 142, 143, 144, 145, 146, 147, 148, 149, 150, 151, 152, 153, 154, 155, 156, 157, 158, 159, 160, 161, 162] (by decide +kernel) (by decide +kernel)) (goodIn_sub (fun _ h => List.mem_cons_of_mem _ (List.mem_append_right _ h)) (by decide +kernel))
set_option maxRecDepth 20000 in
theorem gL_changesIf_X5_changesIf : GoodIn wsL_changesIf (wsV RL 53 RX5 yX5_changesIf wsX5_changesIf) := goodIn_app (goodIn_of _ (by decide +kernel)) ggL_changesIf_X5_changesIf
theorem dL_changesIf_0 : decode cL_changesIf 0 = .ok (.aload_n 0, 1) := by decide +kernel
theorem dL_changesIf_1 : decode cL_changesIf 1 = .ok (.iload_n 1, 1) := by decide +kernel
theorem dL_changesIf_2 : decode cL_changesIf 2 = .ok (.invokevirtual 53, 3) := by decide +kernel
theorem dL_changesIf_5 : decode cL_changesIf 5 = .ok (.istore_n 2, 1) := by decide +kernel
theorem dL_changesIf_6 : decode cL_changesIf 6 = .ok (.goto 7, 3) := by decide +kernel
theorem dL_changesIf_9 : decode cL_changesIf 9 = .ok (.astore_n 3, 1) := by decide +kernel
theorem dL_changesIf_10 : decode cL_changesIf 10 = .ok (.bipush (-31), 2) := by decide +kernel
theorem dL_changesIf_12 : decode cL_changesIf 12 = .ok (.ireturn, 1) := by decide +kernel
theorem dL_changesIf_13 : decode cL_changesIf 13 = .ok (.iload_n 2, 1) := by decide +kernel
theorem dL_changesIf_14 : decode cL_changesIf 14 = .ok (.ireturn, 1) := by decide +kernel
set_option maxRecDepth 20000 in
theorem ggL_reason_X5_reason : GoodIn wsL_reason wsX5_reason := goodIn_ca (goodIn_r _ [6, 7, 8, 9, 10, 11, 5, 12, 13, 14, 15, 16, 17, 18, 19, 20, 21, 22, 23, 24, 25, 26, 27, 28, 29, 30, 31, 32, 33, 34, 35, 36, 37, 38, 39, 40, 41, 42, 43, 44, 45, 46, 47, 48, 49, 50, 51, 52, 53, 54, 55, 56, 57, 58, 59, 60, 61, 62, 63, 64, 65, 66, 67, 68, 69, 70, 71, 72, 73, 74, 75, 76, 77, 78, 79, 80, 81, 82, 83, 84, 85, 86, 87, 88, 89, 90, 91, 92, 93, 94, 95, 96, 97, 98, 99, 100, 101, 102, 103, 104, 105, 106, 107, 108, 109, 110, 111, 112, 113, 114, 115, 116, 117, 118, 119, 120, 121, 122, 123, 124, 125, 126, 127, 128, 129, 130, 131, 132, 133, 134, 135, 136, 137, 138, 139, 140, 141, 142, 143, 144, 145, 146] (by decide +kernel) (by decide +kernel)) (goodIn_sub (fun _ h => List.mem_cons_of_mem _ (List.mem_append_right _ h)) (by decide +kernel))
set_option maxRecDepth 20000 in
theorem gL_reason_X5_reason : GoodIn wsL_reason (wsV RL 56 RX5 yX5_reason wsX5_reason) := goodIn_app (goodIn_of _ (by decide +kernel)) ggL_reason_X5_reason
theorem dL_reason_0 : decode cL_reason 0 = .ok (.aload_n 0, 1) := by decide +kernel
theorem dL_reason_1 : decode cL_reason 1 = .ok (.iload_n 1, 1) := by decide +kernel
theorem dL_reason_2 : decode cL_reason 2 = .ok (.invokevirtual 56, 3) := by decide +kernel
theorem dL_reason_5 : decode cL_reason 5 = .ok (.istore_n 2, 1) := by decide +kernel
theorem dL_reason_6 : decode cL_reason 6 = .ok (.goto 7, 3) := by decide +kernel
theorem dL_reason_9 : decode cL_reason 9 = .ok (.astore_n 3, 1) := by decide +kernel
theorem dL_reason_10 : decode cL_reason 10 = .ok (.bipush (-31), 2) := by decide +kernel
theorem dL_reason_12 : decode cL_reason 12 = .ok (.ireturn, 1) := by decide +kernel
theorem dL_reason_13 : decode cL_reason 13 = .ok (.iload_n 2, 1) := by decide +kernel
theorem dL_reason_14 : decode cL_reason 14 = .ok (.ireturn, 1) := by decide +kernel
theorem dL_roundOf_0 : decode cL_roundOf 0 = .ok (.iconst 0, 1) := by decide +kernel
theorem dL_roundOf_1 : decode cL_roundOf 1 = .ok (.istore_n 3, 1) := by decide +kernel
theorem dL_roundOf_2 : decode cL_roundOf 2 = .ok (.iconst 0, 1) := by decide +kernel
theorem dL_roundOf_3 : decode cL_roundOf 3 = .ok (.istore 4, 2) := by decide +kernel
theorem dL_roundOf_5 : decode cL_roundOf 5 = .ok (.iload 4, 2) := by decide +kernel
theorem dL_roundOf_7 : decode cL_roundOf 7 = .ok (.aload_n 0, 1) := by decide +kernel
theorem dL_roundOf_8 : decode cL_roundOf 8 = .ok (.iconst 0, 1) := by decide +kernel
theorem dL_roundOf_9 : decode cL_roundOf 9 = .ok (.iaload, 1) := by decide +kernel
theorem dL_roundOf_10 : decode cL_roundOf 10 = .ok (.if_icmp .ge 25, 3) := by decide +kernel
theorem dL_roundOf_13 : decode cL_roundOf 13 = .ok (.iload_n 3, 1) := by decide +kernel
theorem dL_roundOf_14 : decode cL_roundOf 14 = .ok (.aload_n 1, 1) := by decide +kernel
theorem dL_roundOf_15 : decode cL_roundOf 15 = .ok (.iload 4, 2) := by decide +kernel
theorem dL_roundOf_17 : decode cL_roundOf 17 = .ok (.iaload, 1) := by decide +kernel
theorem dL_roundOf_18 : decode cL_roundOf 18 = .ok (.iload_n 2, 1) := by decide +kernel
theorem dL_roundOf_19 : decode cL_roundOf 19 = .ok (.if_icmp .ne 7, 3) := by decide +kernel
theorem dL_roundOf_22 : decode cL_roundOf 22 = .ok (.iconst 1, 1) := by decide +kernel
theorem dL_roundOf_23 : decode cL_roundOf 23 = .ok (.goto 4, 3) := by decide +kernel
theorem dL_roundOf_26 : decode cL_roundOf 26 = .ok (.iconst 0, 1) := by decide +kernel
theorem dL_roundOf_27 : decode cL_roundOf 27 = .ok (.iadd, 1) := by decide +kernel
theorem dL_roundOf_28 : decode cL_roundOf 28 = .ok (.istore_n 3, 1) := by decide +kernel
theorem dL_roundOf_29 : decode cL_roundOf 29 = .ok (.iinc 4 1, 3) := by decide +kernel
theorem dL_roundOf_32 : decode cL_roundOf 32 = .ok (.goto (-27), 3) := by decide +kernel
theorem dL_roundOf_35 : decode cL_roundOf 35 = .ok (.iload_n 3, 1) := by decide +kernel
theorem dL_roundOf_36 : decode cL_roundOf 36 = .ok (.ireturn, 1) := by decide +kernel
theorem dL_men_0 : decode cL_men 0 = .ok (.iconst 0, 1) := by decide +kernel
theorem dL_men_1 : decode cL_men 1 = .ok (.istore_n 1, 1) := by decide +kernel
theorem dL_men_2 : decode cL_men 2 = .ok (.iconst 0, 1) := by decide +kernel
theorem dL_men_3 : decode cL_men 3 = .ok (.istore_n 2, 1) := by decide +kernel
theorem dL_men_4 : decode cL_men 4 = .ok (.iload_n 2, 1) := by decide +kernel
theorem dL_men_5 : decode cL_men 5 = .ok (.bipush 6, 2) := by decide +kernel
theorem dL_men_7 : decode cL_men 7 = .ok (.if_icmp .ge 19, 3) := by decide +kernel
theorem dL_men_10 : decode cL_men 10 = .ok (.iload_n 1, 1) := by decide +kernel
theorem dL_men_11 : decode cL_men 11 = .ok (.aload_n 0, 1) := by decide +kernel
theorem dL_men_12 : decode cL_men 12 = .ok (.iconst 5, 1) := by decide +kernel
theorem dL_men_13 : decode cL_men 13 = .ok (.iaload, 1) := by decide +kernel
theorem dL_men_14 : decode cL_men 14 = .ok (.iload_n 2, 1) := by decide +kernel
theorem dL_men_15 : decode cL_men 15 = .ok (.ishr, 1) := by decide +kernel
theorem dL_men_16 : decode cL_men 16 = .ok (.iconst 1, 1) := by decide +kernel
theorem dL_men_17 : decode cL_men 17 = .ok (.iand, 1) := by decide +kernel
theorem dL_men_18 : decode cL_men 18 = .ok (.iadd, 1) := by decide +kernel
theorem dL_men_19 : decode cL_men 19 = .ok (.istore_n 1, 1) := by decide +kernel
theorem dL_men_20 : decode cL_men 20 = .ok (.iinc 2 1, 3) := by decide +kernel
theorem dL_men_23 : decode cL_men 23 = .ok (.goto (-19), 3) := by decide +kernel
theorem dL_men_26 : decode cL_men 26 = .ok (.iload_n 1, 1) := by decide +kernel
theorem dL_men_27 : decode cL_men 27 = .ok (.ireturn, 1) := by decide +kernel
