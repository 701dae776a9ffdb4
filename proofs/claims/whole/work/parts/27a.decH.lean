theorem dL_addDoorstep_0 : decode cL_addDoorstep 0 = .ok (.aload_n 2, 1) := by decide +kernel
theorem dL_addDoorstep_1 : decode cL_addDoorstep 1 = .ok (.iconst 0, 1) := by decide +kernel
theorem dL_addDoorstep_2 : decode cL_addDoorstep 2 = .ok (.aload_n 0, 1) := by decide +kernel
theorem dL_addDoorstep_3 : decode cL_addDoorstep 3 = .ok (.iload_n 1, 1) := by decide +kernel
theorem dL_addDoorstep_4 : decode cL_addDoorstep 4 = .ok (.invokevirtual 7, 3) := by decide +kernel
theorem dL_addDoorstep_7 : decode cL_addDoorstep 7 = .ok (.i2l, 1) := by decide +kernel
theorem dL_addDoorstep_8 : decode cL_addDoorstep 8 = .ok (.lastore, 1) := by decide +kernel
theorem dL_addDoorstep_9 : decode cL_addDoorstep 9 = .ok (.goto 9, 3) := by decide +kernel
theorem dL_addDoorstep_12 : decode cL_addDoorstep 12 = .ok (.astore_n 3, 1) := by decide +kernel
theorem dL_addDoorstep_13 : decode cL_addDoorstep 13 = .ok (.iconst 1, 1) := by decide +kernel
theorem dL_addDoorstep_14 : decode cL_addDoorstep 14 = .ok (.ireturn, 1) := by decide +kernel
theorem dL_addDoorstep_15 : decode cL_addDoorstep 15 = .ok (.astore_n 3, 1) := by decide +kernel
theorem dL_addDoorstep_16 : decode cL_addDoorstep 16 = .ok (.iconst 2, 1) := by decide +kernel
theorem dL_addDoorstep_17 : decode cL_addDoorstep 17 = .ok (.ireturn, 1) := by decide +kernel
theorem dL_addDoorstep_18 : decode cL_addDoorstep 18 = .ok (.iconst 0, 1) := by decide +kernel
theorem dL_addDoorstep_19 : decode cL_addDoorstep 19 = .ok (.ireturn, 1) := by decide +kernel
set_option maxRecDepth 20000 in
theorem ggL_removeDoorstep_X5_removeDoorstep : GoodIn wsL_removeDoorstep wsX5_removeDoorstep := goodIn_ca (goodIn_ca (goodIn_r _ [7, 8, 9, 10, 11, 12, 13, 14, 6, 15, 16, 17, 18, 19, 20, 21, 22, 23, 24, 25, 26, 27, 28, 29, 30, 31, 32, 33, 34, 35, 36, 37, 38, 39, 40, 41, 42, 43, 44, 45, 46, 47, 48, 49, 50, 51, 52, 53, 54, 55, 56, 57, 58, 59, 60, 61, 62, 63, 64, 65, 66, 67, 68, 69, 70, 71, 72, 73, 74, 75, 76, 77, 78, 79, 80, 81, 82, 83, 84, 85, 86, 87, 88, 89, 90, 91, 92, 93, 94, 95, 96, 97] (by decide +kernel) (by decide +kernel)) (goodIn_sub (fun _ h => List.mem_cons_of_mem _ (List.mem_append_left _ (List.mem_append_right _ h))) (by decide +kernel))) (goodIn_sub (fun _ h => List.mem_cons_of_mem _ (List.mem_append_right _ h)) (by decide +kernel))
set_option maxRecDepth 20000 in
theorem gL_removeDoorstep_X5_removeDoorstep : GoodIn wsL_removeDoorstep (wsV RL 17 RX5 yX5_removeDoorstep wsX5_removeDoorstep) := goodIn_app (goodIn_of _ (by decide +kernel)) ggL_removeDoorstep_X5_removeDoorstep
theorem dL_removeDoorstep_0 : decode cL_removeDoorstep 0 = .ok (.aload_n 2, 1) := by decide +kernel
theorem dL_removeDoorstep_1 : decode cL_removeDoorstep 1 = .ok (.iconst 0, 1) := by decide +kernel
theorem dL_removeDoorstep_2 : decode cL_removeDoorstep 2 = .ok (.aload_n 0, 1) := by decide +kernel
theorem dL_removeDoorstep_3 : decode cL_removeDoorstep 3 = .ok (.iload_n 1, 1) := by decide +kernel
theorem dL_removeDoorstep_4 : decode cL_removeDoorstep 4 = .ok (.invokevirtual 17, 3) := by decide +kernel
theorem dL_removeDoorstep_7 : decode cL_removeDoorstep 7 = .ok (.i2l, 1) := by decide +kernel
theorem dL_removeDoorstep_8 : decode cL_removeDoorstep 8 = .ok (.lastore, 1) := by decide +kernel
theorem dL_removeDoorstep_9 : decode cL_removeDoorstep 9 = .ok (.goto 9, 3) := by decide +kernel
theorem dL_removeDoorstep_12 : decode cL_removeDoorstep 12 = .ok (.astore_n 3, 1) := by decide +kernel
theorem dL_removeDoorstep_13 : decode cL_removeDoorstep 13 = .ok (.iconst 1, 1) := by decide +kernel
theorem dL_removeDoorstep_14 : decode cL_removeDoorstep 14 = .ok (.ireturn, 1) := by decide +kernel
theorem dL_removeDoorstep_15 : decode cL_removeDoorstep 15 = .ok (.astore_n 3, 1) := by decide +kernel
theorem dL_removeDoorstep_16 : decode cL_removeDoorstep 16 = .ok (.iconst 2, 1) := by decide +kernel
theorem dL_removeDoorstep_17 : decode cL_removeDoorstep 17 = .ok (.ireturn, 1) := by decide +kernel
theorem dL_removeDoorstep_18 : decode cL_removeDoorstep 18 = .ok (.iconst 0, 1) := by decide +kernel
theorem dL_removeDoorstep_19 : decode cL_removeDoorstep 19 = .ok (.ireturn, 1) := by decide +kernel
set_option maxRecDepth 20000 in
theorem ggL_setPints_X5_setPints : GoodIn wsL_setPints wsX5_setPints := goodIn_ca (goodIn_ca (goodIn_r _ [7, 8, 9, 10, 11, 12, 6, 13, 14, 15, 16, 17, 18, 19, 20, 21, 22, 23, 24, 25, 26, 27, 28, 29, 30, 31, 32, 33, 34, 35, 36, 37, 38, 39, 40, 41, 42, 43, 44, 45, 46, 47, 48, 49, 50, 51, 52, 53, 54, 55, 56, 57, 58, 59, 60, 61, 62, 63, 64, 65, 66, 67, 68, 69, 70, 71, 72, 73, 74, 75, 76, 77, 78, 79, 80, 81, 82, 83, 84, 85, 86, 87, 88, 89, 90, 91] (by decide +kernel) (by decide +kernel)) (goodIn_sub (fun _ h => List.mem_cons_of_mem _ (List.mem_append_left _ (List.mem_append_right _ h))) (by decide +kernel))) (goodIn_sub (fun _ h => List.mem_cons_of_mem _ (List.mem_append_right _ h)) (by decide +kernel))
set_option maxRecDepth 20000 in
theorem gL_setPints_X5_setPints : GoodIn wsL_setPints (wsV RL 22 RX5 yX5_setPints wsX5_setPints) := goodIn_app (goodIn_of _ (by decide +kernel)) ggL_setPints_X5_setPints
theorem dL_setPints_0 : decode cL_setPints 0 = .ok (.aload_n 3, 1) := by decide +kernel
theorem dL_setPints_1 : decode cL_setPints 1 = .ok (.iconst 0, 1) := by decide +kernel
theorem dL_setPints_2 : decode cL_setPints 2 = .ok (.aload_n 0, 1) := by decide +kernel
theorem dL_setPints_3 : decode cL_setPints 3 = .ok (.iload_n 1, 1) := by decide +kernel
theorem dL_setPints_4 : decode cL_setPints 4 = .ok (.iload_n 2, 1) := by decide +kernel
theorem dL_setPints_5 : decode cL_setPints 5 = .ok (.invokevirtual 22, 3) := by decide +kernel
theorem dL_setPints_8 : decode cL_setPints 8 = .ok (.i2l, 1) := by decide +kernel
theorem dL_setPints_9 : decode cL_setPints 9 = .ok (.lastore, 1) := by decide +kernel
theorem dL_setPints_10 : decode cL_setPints 10 = .ok (.goto 11, 3) := by decide +kernel
theorem dL_setPints_13 : decode cL_setPints 13 = .ok (.astore 4, 2) := by decide +kernel
theorem dL_setPints_15 : decode cL_setPints 15 = .ok (.iconst 1, 1) := by decide +kernel
theorem dL_setPints_16 : decode cL_setPints 16 = .ok (.ireturn, 1) := by decide +kernel
theorem dL_setPints_17 : decode cL_setPints 17 = .ok (.astore 4, 2) := by decide +kernel
theorem dL_setPints_19 : decode cL_setPints 19 = .ok (.iconst 2, 1) := by decide +kernel
theorem dL_setPints_20 : decode cL_setPints 20 = .ok (.ireturn, 1) := by decide +kernel
theorem dL_setPints_21 : decode cL_setPints 21 = .ok (.iconst 0, 1) := by decide +kernel
theorem dL_setPints_22 : decode cL_setPints 22 = .ok (.ireturn, 1) := by decide +kernel
set_option maxRecDepth 20000 in
theorem ggL_come_X5_come : GoodIn wsL_come wsX5_come := goodIn_ca (goodIn_ca (goodIn_r _ [7, 8, 9, 10, 11, 12, 13, 6, 14, 15, 16, 17, 18, 19, 20, 21, 22, 23, 24, 25, 26, 27, 28, 29, 30, 31, 32, 33, 34, 35, 36, 37, 38, 39, 40, 41, 42, 43, 44, 45, 46, 47, 48, 49, 50, 51, 52, 53, 54, 55, 56, 57, 58, 59, 60, 61, 62, 63, 64, 65, 66, 67, 68, 69, 70, 71, 72, 73, 74, 75, 76, 77, 78, 79, 80, 81, 82, 83, 84, 85, 86, 87, 88, 89, 90, 91, 92, 93, 94, 95, 96, 97, 98, 99] (by decide +kernel) (by decide +kernel)) (goodIn_sub (fun _ h => List.mem_cons_of_mem _ (List.mem_append_left _ (List.mem_append_right _ h))) (by decide +kernel))) (goodIn_sub (fun _ h => List.mem_cons_of_mem _ (List.mem_append_right _ h)) (by decide +kernel))
set_option maxRecDepth 20000 in
theorem gL_come_X5_come : GoodIn wsL_come (wsV RL 26 RX5 yX5_come wsX5_come) := goodIn_app (goodIn_of _ (by decide +kernel)) ggL_come_X5_come
theorem dL_come_0 : decode cL_come 0 = .ok (.aload_n 2, 1) := by decide +kernel
theorem dL_come_1 : decode cL_come 1 = .ok (.iconst 0, 1) := by decide +kernel
theorem dL_come_2 : decode cL_come 2 = .ok (.aload_n 0, 1) := by decide +kernel
theorem dL_come_3 : decode cL_come 3 = .ok (.iload_n 1, 1) := by decide +kernel
theorem dL_come_4 : decode cL_come 4 = .ok (.invokevirtual 26, 3) := by decide +kernel
theorem dL_come_7 : decode cL_come 7 = .ok (.i2l, 1) := by decide +kernel
theorem dL_come_8 : decode cL_come 8 = .ok (.lastore, 1) := by decide +kernel
theorem dL_come_9 : decode cL_come 9 = .ok (.goto 9, 3) := by decide +kernel
theorem dL_come_12 : decode cL_come 12 = .ok (.astore_n 3, 1) := by decide +kernel
theorem dL_come_13 : decode cL_come 13 = .ok (.iconst 1, 1) := by decide +kernel
theorem dL_come_14 : decode cL_come 14 = .ok (.ireturn, 1) := by decide +kernel
theorem dL_come_15 : decode cL_come 15 = .ok (.astore_n 3, 1) := by decide +kernel
theorem dL_come_16 : decode cL_come 16 = .ok (.iconst 2, 1) := by decide +kernel
theorem dL_come_17 : decode cL_come 17 = .ok (.ireturn, 1) := by decide +kernel
theorem dL_come_18 : decode cL_come 18 = .ok (.iconst 0, 1) := by decide +kernel
theorem dL_come_19 : decode cL_come 19 = .ok (.ireturn, 1) := by decide +kernel
set_option maxRecDepth 20000 in
theorem ggL_leave_X5_leave : GoodIn wsL_leave wsX5_leave := goodIn_ca (goodIn_ca (goodIn_r _ [7, 8, 9, 10, 11, 12, 13, 6, 14, 15, 16, 17, 18, 19, 20, 21, 22, 23, 24, 25, 26, 27, 28, 29, 30, 31, 32, 33, 34, 35, 36, 37, 38, 39, 40, 41, 42, 43, 44, 45, 46, 47, 48, 49, 50, 51, 52, 53, 54, 55, 56, 57, 58, 59, 60, 61, 62, 63, 64, 65, 66, 67, 68, 69, 70, 71, 72, 73, 74, 75, 76, 77, 78, 79, 80, 81, 82, 83, 84, 85, 86, 87, 88, 89, 90, 91, 92, 93, 94, 95] (by decide +kernel) (by decide +kernel)) (goodIn_sub (fun _ h => List.mem_cons_of_mem _ (List.mem_append_left _ (List.mem_append_right _ h))) (by decide +kernel))) (goodIn_sub (fun _ h => List.mem_cons_of_mem _ (List.mem_append_right _ h)) (by decide +kernel))
set_option maxRecDepth 20000 in
theorem gL_leave_X5_leave : GoodIn wsL_leave (wsV RL 29 RX5 yX5_leave wsX5_leave) := goodIn_app (goodIn_of _ (by decide +kernel)) ggL_leave_X5_leave
theorem dL_leave_0 : decode cL_leave 0 = .ok (.aload_n 2, 1) := by decide +kernel
theorem dL_leave_1 : decode cL_leave 1 = .ok (.iconst 0, 1) := by decide +kernel
theorem dL_leave_2 : decode cL_leave 2 = .ok (.aload_n 0, 1) := by decide +kernel
theorem dL_leave_3 : decode cL_leave 3 = .ok (.iload_n 1, 1) := by decide +kernel
theorem dL_leave_4 : decode cL_leave 4 = .ok (.invokevirtual 29, 3) := by decide +kernel
theorem dL_leave_7 : decode cL_leave 7 = .ok (.i2l, 1) := by decide +kernel
theorem dL_leave_8 : decode cL_leave 8 = .ok (.lastore, 1) := by decide +kernel
theorem dL_leave_9 : decode cL_leave 9 = .ok (.goto 9, 3) := by decide +kernel
theorem dL_leave_12 : decode cL_leave 12 = .ok (.astore_n 3, 1) := by decide +kernel
theorem dL_leave_13 : decode cL_leave 13 = .ok (.iconst 1, 1) := by decide +kernel
theorem dL_leave_14 : decode cL_leave 14 = .ok (.ireturn, 1) := by decide +kernel
theorem dL_leave_15 : decode cL_leave 15 = .ok (.astore_n 3, 1) := by decide +kernel
theorem dL_leave_16 : decode cL_leave 16 = .ok (.iconst 2, 1) := by decide +kernel
theorem dL_leave_17 : decode cL_leave 17 = .ok (.ireturn, 1) := by decide +kernel
theorem dL_leave_18 : decode cL_leave 18 = .ok (.iconst 0, 1) := by decide +kernel
theorem dL_leave_19 : decode cL_leave 19 = .ok (.ireturn, 1) := by decide +kernel
set_option maxRecDepth 20000 in
theorem ggL_pints_X5_pints : GoodIn wsL_pints wsX5_pints := goodIn_ca (goodIn_r _ [6, 7, 8, 9, 10, 5, 11, 12, 13, 14, 15, 16, 17, 18, 19, 20, 21, 22, 23, 24, 25, 26, 27, 28, 29, 30, 31, 32, 33, 34, 35, 36, 37, 38, 39, 40, 41, 42, 43, 44, 45, 46] (by decide +kernel) (by decide +kernel)) (goodIn_sub (fun _ h => List.mem_cons_of_mem _ (List.mem_append_right _ h)) (by decide +kernel))
set_option maxRecDepth 20000 in
theorem gL_pints_X5_pints : GoodIn wsL_pints (wsV RL 32 RX5 yX5_pints wsX5_pints) := goodIn_app (goodIn_of _ (by decide +kernel)) ggL_pints_X5_pints
theorem dL_pints_0 : decode cL_pints 0 = .ok (.aload_n 2, 1) := by decide +kernel
theorem dL_pints_1 : decode cL_pints 1 = .ok (.iconst 0, 1) := by decide +kernel
theorem dL_pints_2 : decode cL_pints 2 = .ok (.aload_n 0, 1) := by decide +kernel
theorem dL_pints_3 : decode cL_pints 3 = .ok (.iload_n 1, 1) := by decide +kernel
theorem dL_pints_4 : decode cL_pints 4 = .ok (.invokevirtual 32, 3) := by decide +kernel
theorem dL_pints_7 : decode cL_pints 7 = .ok (.i2l, 1) := by decide +kernel
theorem dL_pints_8 : decode cL_pints 8 = .ok (.lastore, 1) := by decide +kernel
theorem dL_pints_9 : decode cL_pints 9 = .ok (.goto 6, 3) := by decide +kernel
theorem dL_pints_12 : decode cL_pints 12 = .ok (.astore_n 3, 1) := by decide +kernel
theorem dL_pints_13 : decode cL_pints 13 = .ok (.iconst 1, 1) := by decide +kernel
theorem dL_pints_14 : decode cL_pints 14 = .ok (.ireturn, 1) := by decide +kernel
theorem dL_pints_15 : decode cL_pints 15 = .ok (.iconst 0, 1) := by decide +kernel
theorem dL_pints_16 : decode cL_pints 16 = .ok (.ireturn, 1) := by decide +kernel
set_option maxRecDepth 20000 in
theorem ggL_owner_X5_owner : GoodIn wsL_owner wsX5_owner := goodIn_ca (goodIn_r _ [6, 7, 8, 9, 10, 5, 11, 12, 13, 14, 15, 16, 17, 18, 19, 20, 21, 22, 23, 24, 25, 26, 27, 28, 29, 30, 31, 32, 33, 34, 35, 36, 37, 38, 39, 40, 41, 42, 43, 44, 45, 46] (by decide +kernel) (by decide +kernel)) (goodIn_sub (fun _ h => List.mem_cons_of_mem _ (List.mem_append_right _ h)) (by decide +kernel))
set_option maxRecDepth 20000 in
theorem gL_owner_X5_owner : GoodIn wsL_owner (wsV RL 35 RX5 yX5_owner wsX5_owner) := goodIn_app (goodIn_of _ (by decide +kernel)) ggL_owner_X5_owner
theorem dL_owner_0 : decode cL_owner 0 = .ok (.aload_n 2, 1) := by decide +kernel
theorem dL_owner_1 : decode cL_owner 1 = .ok (.iconst 0, 1) := by decide +kernel
theorem dL_owner_2 : decode cL_owner 2 = .ok (.aload_n 0, 1) := by decide +kernel
theorem dL_owner_3 : decode cL_owner 3 = .ok (.iload_n 1, 1) := by decide +kernel
theorem dL_owner_4 : decode cL_owner 4 = .ok (.invokevirtual 35, 3) := by decide +kernel
theorem dL_owner_7 : decode cL_owner 7 = .ok (.i2l, 1) := by decide +kernel
theorem dL_owner_8 : decode cL_owner 8 = .ok (.lastore, 1) := by decide +kernel
theorem dL_owner_9 : decode cL_owner 9 = .ok (.goto 6, 3) := by decide +kernel
theorem dL_owner_12 : decode cL_owner 12 = .ok (.astore_n 3, 1) := by decide +kernel
theorem dL_owner_13 : decode cL_owner 13 = .ok (.iconst 1, 1) := by decide +kernel
theorem dL_owner_14 : decode cL_owner 14 = .ok (.ireturn, 1) := by decide +kernel
theorem dL_owner_15 : decode cL_owner 15 = .ok (.iconst 0, 1) := by decide +kernel
theorem dL_owner_16 : decode cL_owner 16 = .ok (.ireturn, 1) := by decide +kernel
set_option maxRecDepth 20000 in
theorem ggL_isAtWork_X5_isAtWork : GoodIn wsL_isAtWork wsX5_isAtWork := goodIn_ca (goodIn_r _ [6, 7, 8, 9, 5, 10, 11, 12, 13, 14, 15, 16, 17, 18, 19, 20, 21, 22, 23, 24, 25, 26, 27, 28, 29, 30, 31, 32, 33, 34, 35, 36, 37, 38, 39, 40] (by decide +kernel) (by decide +kernel)) (goodIn_sub (fun _ h => List.mem_cons_of_mem _ (List.mem_append_right _ h)) (by decide +kernel))
set_option maxRecDepth 20000 in
theorem gL_isAtWork_X5_isAtWork : GoodIn wsL_isAtWork (wsV RL 38 RX5 yX5_isAtWork wsX5_isAtWork) := goodIn_app (goodIn_of _ (by decide +kernel)) ggL_isAtWork_X5_isAtWork
theorem dL_isAtWork_0 : decode cL_isAtWork 0 = .ok (.aload_n 2, 1) := by decide +kernel
theorem dL_isAtWork_1 : decode cL_isAtWork 1 = .ok (.iconst 0, 1) := by decide +kernel
theorem dL_isAtWork_2 : decode cL_isAtWork 2 = .ok (.aload_n 0, 1) := by decide +kernel
theorem dL_isAtWork_3 : decode cL_isAtWork 3 = .ok (.iload_n 1, 1) := by decide +kernel
theorem dL_isAtWork_4 : decode cL_isAtWork 4 = .ok (.invokevirtual 38, 3) := by decide +kernel
theorem dL_isAtWork_7 : decode cL_isAtWork 7 = .ok (.ifCond .eq 7, 3) := by decide +kernel
theorem dL_isAtWork_10 : decode cL_isAtWork 10 = .ok (.lconst 1, 1) := by decide +kernel
theorem dL_isAtWork_11 : decode cL_isAtWork 11 = .ok (.goto 4, 3) := by decide +kernel
theorem dL_isAtWork_14 : decode cL_isAtWork 14 = .ok (.lconst 0, 1) := by decide +kernel
theorem dL_isAtWork_15 : decode cL_isAtWork 15 = .ok (.lastore, 1) := by decide +kernel
theorem dL_isAtWork_16 : decode cL_isAtWork 16 = .ok (.goto 6, 3) := by decide +kernel
theorem dL_isAtWork_19 : decode cL_isAtWork 19 = .ok (.astore_n 3, 1) := by decide +kernel
theorem dL_isAtWork_20 : decode cL_isAtWork 20 = .ok (.iconst 1, 1) := by decide +kernel
theorem dL_isAtWork_21 : decode cL_isAtWork 21 = .ok (.ireturn, 1) := by decide +kernel
theorem dL_isAtWork_22 : decode cL_isAtWork 22 = .ok (.iconst 0, 1) := by decide +kernel
theorem dL_isAtWork_23 : decode cL_isAtWork 23 = .ok (.ireturn, 1) := by decide +kernel
set_option maxRecDepth 20000 in
theorem ggL_size_X5_size : GoodIn wsL_size wsX5_size := goodIn_ca (goodIn_r _ [6, 7, 8, 9, 5, 10, 11, 12, 13, 14, 15, 16, 17, 18, 19, 20, 21, 22, 23, 24, 25, 26, 27, 28, 29, 30, 31, 32, 33, 34, 35, 36, 37, 38, 39, 40, 41] (by decide +kernel) (by decide +kernel)) (goodIn_sub (fun _ h => List.mem_cons_of_mem _ (List.mem_append_right _ h)) (by decide +kernel))
set_option maxRecDepth 20000 in
theorem gL_size_X5_size : GoodIn wsL_size (wsV RL 42 RX5 yX5_size wsX5_size) := goodIn_app (goodIn_of _ (by decide +kernel)) ggL_size_X5_size
theorem dL_size_0 : decode cL_size 0 = .ok (.aload_n 2, 1) := by decide +kernel
theorem dL_size_1 : decode cL_size 1 = .ok (.iconst 0, 1) := by decide +kernel
theorem dL_size_2 : decode cL_size 2 = .ok (.aload_n 0, 1) := by decide +kernel
theorem dL_size_3 : decode cL_size 3 = .ok (.iload_n 1, 1) := by decide +kernel
theorem dL_size_4 : decode cL_size 4 = .ok (.invokevirtual 42, 3) := by decide +kernel
theorem dL_size_7 : decode cL_size 7 = .ok (.i2l, 1) := by decide +kernel
theorem dL_size_8 : decode cL_size 8 = .ok (.lastore, 1) := by decide +kernel
theorem dL_size_9 : decode cL_size 9 = .ok (.goto 6, 3) := by decide +kernel
theorem dL_size_12 : decode cL_size 12 = .ok (.astore_n 3, 1) := by decide +kernel
theorem dL_size_13 : decode cL_size 13 = .ok (.iconst 1, 1) := by decide +kernel
theorem dL_size_14 : decode cL_size 14 = .ok (.ireturn, 1) := by decide +kernel
theorem dL_size_15 : decode cL_size 15 = .ok (.iconst 0, 1) := by decide +kernel
theorem dL_size_16 : decode cL_size 16 = .ok (.ireturn, 1) := by decide +kernel
set_option maxRecDepth 20000 in
theorem ggL_load_X5_load : GoodIn wsL_load wsX5_load := goodIn_ca (goodIn_r _ [6, 7, 8, 9, 5, 10, 11, 12, 13, 14, 15, 16, 17, 18, 19, 20, 21, 22, 23, 24, 25, 26, 27, 28, 29, 30, 31, 32, 33, 34, 35, 36, 37, 38, 39, 40, 41, 42] (by decide +kernel) (by decide +kernel)) (goodIn_sub (fun _ h => List.mem_cons_of_mem _ (List.mem_append_right _ h)) (by decide +kernel))
set_option maxRecDepth 20000 in
theorem gL_load_X5_load : GoodIn wsL_load (wsV RL 45 RX5 yX5_load wsX5_load) := goodIn_app (goodIn_of _ (by decide +kernel)) ggL_load_X5_load
theorem dL_load_0 : decode cL_load 0 = .ok (.aload_n 2, 1) := by decide +kernel
theorem dL_load_1 : decode cL_load 1 = .ok (.iconst 0, 1) := by decide +kernel
theorem dL_load_2 : decode cL_load 2 = .ok (.aload_n 0, 1) := by decide +kernel
theorem dL_load_3 : decode cL_load 3 = .ok (.iload_n 1, 1) := by decide +kernel
theorem dL_load_4 : decode cL_load 4 = .ok (.invokevirtual 45, 3) := by decide +kernel
theorem dL_load_7 : decode cL_load 7 = .ok (.i2l, 1) := by decide +kernel
theorem dL_load_8 : decode cL_load 8 = .ok (.lastore, 1) := by decide +kernel
theorem dL_load_9 : decode cL_load 9 = .ok (.goto 6, 3) := by decide +kernel
theorem dL_load_12 : decode cL_load 12 = .ok (.astore_n 3, 1) := by decide +kernel
theorem dL_load_13 : decode cL_load 13 = .ok (.iconst 1, 1) := by decide +kernel
theorem dL_load_14 : decode cL_load 14 = .ok (.ireturn, 1) := by decide +kernel
theorem dL_load_15 : decode cL_load 15 = .ok (.iconst 0, 1) := by decide +kernel
theorem dL_load_16 : decode cL_load 16 = .ok (.ireturn, 1) := by decide +kernel
set_option maxRecDepth 20000 in
theorem ggL_plan_X5_plan : GoodIn wsL_plan wsX5_plan := goodIn_ca (goodIn_r _ [6, 7, 8, 9, 10, 11, 12, 13, 14, 15, 16, 17, 18, 19, 20, 21, 22, 23, 24, 25, 26, 27, 28, 29, 30, 31, 32, 33, 34, 35, 36, 37, 38, 39, 40, 41, 42, 43, 44, 45, 46, 47, 48, 49, 50, 51, 52, 53, 54, 55, 56, 57, 58, 59, 60, 61, 62, 63, 64, 65, 66, 67, 68, 69, 70, 5, 71, 72, 73, 74, 75, 76, 77, 78, 79, 80, 81, 82, 83, 84, 85, 86, 87, 88, 89, 90, 91, 92, 93, 94, 95, 96, 97, 98, 99, 100, 101, 102, 103, 104, 105, 106, 107, 108, 109, 110, 111, 112, 113, 114, 115, 116, 117, 118, 119, 120, 121, 122, 123, 124, 125, 126, 127, 128, 129, 130, 131, 132, 133, 134, 135, 136, 137, 138, 139, 140, 141, 142, 143, 144, 145, 146, 147, 148, 149, 150, 151, 152, 153, 154, 155, 156, 157, 158, 159, 160, 161, 162, 163, 164, 165, 166, 167, 168, 169, 170, 171, 172, 173, 174, 175, 176, 177, 178, 179, 180, 181, 182, 183] (by decide +kernel) (by decide +kernel)) (goodIn_sub (fun _ h => List.mem_cons_of_mem _ (List.mem_append_right _ h)) (by decide +kernel))
set_option maxRecDepth 20000 in
theorem gL_plan_X5_plan : GoodIn wsL_plan (wsV RL 48 RX5 yX5_plan wsX5_plan) := goodIn_app (goodIn_of _ (by decide +kernel)) ggL_plan_X5_plan
theorem dL_plan_0 : decode cL_plan 0 = .ok (.aload_n 1, 1) := by decide +kernel
theorem dL_plan_1 : decode cL_plan 1 = .ok (.iconst 0, 1) := by decide +kernel
theorem dL_plan_2 : decode cL_plan 2 = .ok (.aload_n 0, 1) := by decide +kernel
theorem dL_plan_3 : decode cL_plan 3 = .ok (.invokevirtual 48, 3) := by decide +kernel
theorem dL_plan_6 : decode cL_plan 6 = .ok (.i2l, 1) := by decide +kernel
theorem dL_plan_7 : decode cL_plan 7 = .ok (.lastore, 1) := by decide +kernel
theorem dL_plan_8 : decode cL_plan 8 = .ok (.goto 6, 3) := by decide +kernel
theorem dL_plan_11 : decode cL_plan 11 = .ok (.astore_n 2, 1) := by decide +kernel
theorem dL_plan_12 : decode cL_plan 12 = .ok (.iconst 1, 1) := by decide +kernel
theorem dL_plan_13 : decode cL_plan 13 = .ok (.ireturn, 1) := by decide +kernel
theorem dL_plan_14 : decode cL_plan 14 = .ok (.iconst 0, 1) := by decide +kernel
theorem dL_plan_15 : decode cL_plan 15 = .ok (.ireturn, 1) := by decide +kernel
set_option maxRecDepth 20000 in
theorem ggL_handOver_X5_handOver : GoodIn wsL_handOver wsX5_handOver := goodIn_ca (goodIn_r _ [6, 7, 8, 9, 10, 11, 12, 13, 14, 15, 16, 17, 18, 19, 20, 21, 22, 23, 24, 25, 26, 27, 28, 29, 30, 31, 32, 33, 34, 35, 36, 37, 38, 39, 40, 41, 42, 43, 44, 45, 46, 47, 48, 49, 50, 51, 52, 53, 54, 55, 56, 57, 58, 59, 60, 61, 62, 63, 64, 65, 66, 67, 68, 69, 70, 71, 72, 73, 74, 75, 76, 77, 78, 79, 80, 81, 82, 83, 84, 85, 86, 87, 88, 89, 90, 91, 92, 93] (by decide +kernel) (by decide +kernel)) (goodIn_sub (fun _ h => List.mem_cons_of_mem _ (List.mem_append_right _ h)) (by decide +kernel))
set_option maxRecDepth 20000 in
theorem gL_handOver_X5_handOver : GoodIn wsL_handOver (wsV RL 52 RX5 yX5_handOver wsX5_handOver) := goodIn_app (goodIn_of _ (by decide +kernel)) ggL_handOver_X5_handOver
theorem dL_handOver_0 : decode cL_handOver 0 = .ok (.aload_n 1, 1) := by decide +kernel
theorem dL_handOver_1 : decode cL_handOver 1 = .ok (.iconst 0, 1) := by decide +kernel
theorem dL_handOver_2 : decode cL_handOver 2 = .ok (.aload_n 0, 1) := by decide +kernel
theorem dL_handOver_3 : decode cL_handOver 3 = .ok (.invokevirtual 52, 3) := by decide +kernel
theorem dL_handOver_6 : decode cL_handOver 6 = .ok (.i2l, 1) := by decide +kernel
theorem dL_handOver_7 : decode cL_handOver 7 = .ok (.lastore, 1) := by decide +kernel
theorem dL_handOver_8 : decode cL_handOver 8 = .ok (.goto 6, 3) := by decide +kernel
theorem dL_handOver_11 : decode cL_handOver 11 = .ok (.astore_n 2, 1) := by decide +kernel
theorem dL_handOver_12 : decode cL_handOver 12 = .ok (.iconst 1, 1) := by decide +kernel
theorem dL_handOver_13 : decode cL_handOver 13 = .ok (.ireturn, 1) := by decide +kernel
theorem dL_handOver_14 : decode cL_handOver 14 = .ok (.iconst 0, 1) := by decide +kernel
theorem dL_handOver_15 : decode cL_handOver 15 = .ok (.ireturn, 1) := by decide +kernel
set_option maxRecDepth 20000 in
theorem ggL_callOff_X5_callOff : GoodIn wsL_callOff wsX5_callOff := goodIn_ca (goodIn_r _ [6, 7, 8, 9, 10, 11, 12, 13, 14, 15, 16, 17, 18, 19, 20, 21, 22, 23, 24, 25, 26, 27, 28, 29, 30, 31, 32, 33, 34, 35, 36, 37, 38, 39, 40, 41, 42, 43, 44, 45, 46, 47, 48, 49, 50, 51, 52, 53, 54, 55, 56, 57, 58, 59, 60, 61, 62, 63, 64, 65, 66, 67, 68, 69, 70, 71, 72, 73, 74, 75, 76, 77, 78, 79, 80, 81, 82, 83, 84, 85] (by decide +kernel) (by decide +kernel)) (goodIn_sub (fun _ h => List.mem_cons_of_mem _ (List.mem_append_right _ h)) (by decide +kernel))
set_option maxRecDepth 20000 in
theorem gL_callOff_X5_callOff : GoodIn wsL_callOff (wsV RL 55 RX5 yX5_callOff wsX5_callOff) := goodIn_app (goodIn_of _ (by decide +kernel)) ggL_callOff_X5_callOff
theorem dL_callOff_0 : decode cL_callOff 0 = .ok (.aload_n 1, 1) := by decide +kernel
theorem dL_callOff_1 : decode cL_callOff 1 = .ok (.iconst 0, 1) := by decide +kernel
theorem dL_callOff_2 : decode cL_callOff 2 = .ok (.aload_n 0, 1) := by decide +kernel
theorem dL_callOff_3 : decode cL_callOff 3 = .ok (.invokevirtual 55, 3) := by decide +kernel
theorem dL_callOff_6 : decode cL_callOff 6 = .ok (.i2l, 1) := by decide +kernel
theorem dL_callOff_7 : decode cL_callOff 7 = .ok (.lastore, 1) := by decide +kernel
theorem dL_callOff_8 : decode cL_callOff 8 = .ok (.goto 6, 3) := by decide +kernel
theorem dL_callOff_11 : decode cL_callOff 11 = .ok (.astore_n 2, 1) := by decide +kernel
theorem dL_callOff_12 : decode cL_callOff 12 = .ok (.iconst 1, 1) := by decide +kernel
theorem dL_callOff_13 : decode cL_callOff 13 = .ok (.ireturn, 1) := by decide +kernel
theorem dL_callOff_14 : decode cL_callOff 14 = .ok (.iconst 0, 1) := by decide +kernel
theorem dL_callOff_15 : decode cL_callOff 15 = .ok (.ireturn, 1) := by decide +kernel
set_option maxRecDepth 20000 in
theorem ggL_planned_X5_planned : GoodIn wsL_planned wsX5_planned := goodIn_ca (goodIn_r _ [6, 7, 8, 9, 10, 5, 11, 12, 13, 14, 15, 16, 17, 18, 19, 20, 21, 22, 23, 24, 25, 26, 27, 28, 29, 30, 31, 32, 33, 34, 35, 36, 37, 38, 39, 40, 41, 42, 43, 44, 45, 46, 47, 48, 49, 50, 51, 52] (by decide +kernel) (by decide +kernel)) (goodIn_sub (fun _ h => List.mem_cons_of_mem _ (List.mem_append_right _ h)) (by decide +kernel))
set_option maxRecDepth 20000 in
theorem gL_planned_X5_planned : GoodIn wsL_planned (wsV RL 58 RX5 yX5_planned wsX5_planned) := goodIn_app (goodIn_of _ (by decide +kernel)) ggL_planned_X5_planned
theorem dL_planned_0 : decode cL_planned 0 = .ok (.aload_n 2, 1) := by decide +kernel
theorem dL_planned_1 : decode cL_planned 1 = .ok (.iconst 0, 1) := by decide +kernel
theorem dL_planned_2 : decode cL_planned 2 = .ok (.aload_n 0, 1) := by decide +kernel
theorem dL_planned_3 : decode cL_planned 3 = .ok (.iload_n 1, 1) := by decide +kernel
theorem dL_planned_4 : decode cL_planned 4 = .ok (.invokevirtual 58, 3) := by decide +kernel
theorem dL_planned_7 : decode cL_planned 7 = .ok (.i2l, 1) := by decide +kernel
theorem dL_planned_8 : decode cL_planned 8 = .ok (.lastore, 1) := by decide +kernel
theorem dL_planned_9 : decode cL_planned 9 = .ok (.goto 6, 3) := by decide +kernel
theorem dL_planned_12 : decode cL_planned 12 = .ok (.astore_n 3, 1) := by decide +kernel
theorem dL_planned_13 : decode cL_planned 13 = .ok (.iconst 1, 1) := by decide +kernel
theorem dL_planned_14 : decode cL_planned 14 = .ok (.ireturn, 1) := by decide +kernel
theorem dL_planned_15 : decode cL_planned 15 = .ok (.iconst 0, 1) := by decide +kernel
theorem dL_planned_16 : decode cL_planned 16 = .ok (.ireturn, 1) := by decide +kernel
set_option maxRecDepth 20000 in
theorem ggL_ifPlanned_X5_ifPlanned : GoodIn wsL_ifPlanned wsX5_ifPlanned := goodIn_ca (goodIn_r _ [6, 7, 8, 9, 10, 11, 5, 12, 13, 14, 15, 16, 17, 18, 19, 20, 21, 22, 23, 24, 25, 26, 27, 28, 29, 30, 31, 32, 33, 34, 35, 36, 37, 38, 39, 40, 41, 42, 43, 44, 45, 46, 47, 48, 49, 50, 51, 52, 53, 54, 55, 56, 57, 58, 59, 60, 61, 62, 63, 64, 65, 66, 67, 68, 69, 70, 71, 72, 73, 74, 75, 76, 77, 78, 79, 80, 81, 82, 83, 84, 85, 86, 87, 88, 89, 90, 91, 92, 93, 94, 95, 96, 97, 98, 99, 100, 101, 102, 103, 104, 105, 106, 107, 108, 109, 110, 111, 112, 113, 114, 115, 116, 117, 118, 119, 120, 121, 122, 123, 124, 125, 126, 127, 128, 129, 130, 131, 132, 133, 134, 135, 136, 137, 138, 139, 140] (by decide +kernel) (by decide +kernel)) (goodIn_sub (fun _ h => List.mem_cons_of_mem _ (List.mem_append_right _ h)) (by decide +kernel))
set_option maxRecDepth 20000 in
theorem gL_ifPlanned_X5_ifPlanned : GoodIn wsL_ifPlanned (wsV RL 61 RX5 yX5_ifPlanned wsX5_ifPlanned) := goodIn_app (goodIn_of _ (by decide +kernel)) ggL_ifPlanned_X5_ifPlanned
theorem dL_ifPlanned_0 : decode cL_ifPlanned 0 = .ok (.aload_n 2, 1) := by decide +kernel
theorem dL_ifPlanned_1 : decode cL_ifPlanned 1 = .ok (.iconst 0, 1) := by decide +kernel
theorem dL_ifPlanned_2 : decode cL_ifPlanned 2 = .ok (.aload_n 0, 1) := by decide +kernel
theorem dL_ifPlanned_3 : decode cL_ifPlanned 3 = .ok (.iload_n 1, 1) := by decide +kernel
theorem dL_ifPlanned_4 : decode cL_ifPlanned 4 = .ok (.invokevirtual 61, 3) := by decide +kernel
theorem dL_ifPlanned_7 : decode cL_ifPlanned 7 = .ok (.i2l, 1) := by decide +kernel
theorem dL_ifPlanned_8 : decode cL_ifPlanned 8 = .ok (.lastore, 1) := by decide +kernel
theorem dL_ifPlanned_9 : decode cL_ifPlanned 9 = .ok (.goto 6, 3) := by decide +kernel
theorem dL_ifPlanned_12 : decode cL_ifPlanned 12 = .ok (.astore_n 3, 1) := by decide +kernel
theorem dL_ifPlanned_13 : decode cL_ifPlanned 13 = .ok (.iconst 1, 1) := by decide +kernel
theorem dL_ifPlanned_14 : decode cL_ifPlanned 14 = .ok (.ireturn, 1) := by decide +kernel
theorem dL_ifPlanned_15 : decode cL_ifPlanned 15 = .ok (.iconst 0, 1) := by decide +kernel
theorem dL_ifPlanned_16 : decode cL_ifPlanned 16 = .ok (.ireturn, 1) := by decide +kernel
set_option maxRecDepth 20000 in
theorem ggL_reason_X5_reason : GoodIn wsL_reason wsX5_reason := goodIn_ca (goodIn_r _ [6, 7, 8, 9, 10, 11, 5, 12, 13, 14, 15, 16, 17, 18, 19, 20, 21, 22, 23, 24, 25, 26, 27, 28, 29, 30, 31, 32, 33, 34, 35, 36, 37, 38, 39, 40, 41, 42, 43, 44, 45, 46, 47, 48, 49, 50, 51, 52, 53, 54, 55, 56, 57, 58, 59, 60, 61, 62, 63, 64, 65, 66, 67, 68, 69, 70, 71, 72, 73, 74, 75, 76, 77, 78, 79, 80, 81, 82, 83, 84, 85, 86, 87, 88, 89, 90, 91, 92, 93, 94, 95, 96, 97, 98, 99, 100, 101, 102, 103, 104, 105, 106, 107, 108, 109, 110, 111, 112, 113, 114, 115, 116, 117, 118, 119, 120, 121, 122, 123, 124, 125, 126, 127, 128, 129, 130, 131, 132, 133, 134, 135, 136, 137, 138, 139, 140, 141, 142, 143, 144, 145, 146] (by decide +kernel) (by decide +kernel)) (goodIn_sub (fun _ h => List.mem_cons_of_mem _ (List.mem_append_right _ h)) (by decide +kernel))
set_option maxRecDepth 20000 in
theorem gL_reason_X5_reason : GoodIn wsL_reason (wsV RL 64 RX5 yX5_reason wsX5_reason) := goodIn_app (goodIn_of _ (by decide +kernel)) ggL_reason_X5_reason
theorem dL_reason_0 : decode cL_reason 0 = .ok (.aload_n 2, 1) := by decide +kernel
theorem dL_reason_1 : decode cL_reason 1 = .ok (.iconst 0, 1) := by decide +kernel
theorem dL_reason_2 : decode cL_reason 2 = .ok (.aload_n 0, 1) := by decide +kernel
theorem dL_reason_3 : decode cL_reason 3 = .ok (.iload_n 1, 1) := by decide +kernel
theorem dL_reason_4 : decode cL_reason 4 = .ok (.invokevirtual 64, 3) := by decide +kernel
theorem dL_reason_7 : decode cL_reason 7 = .ok (.i2l, 1) := by decide +kernel
theorem dL_reason_8 : decode cL_reason 8 = .ok (.lastore, 1) := by decide +kernel
theorem dL_reason_9 : decode cL_reason 9 = .ok (.goto 6, 3) := by decide +kernel
theorem dL_reason_12 : decode cL_reason 12 = .ok (.astore_n 3, 1) := by decide +kernel
theorem dL_reason_13 : decode cL_reason 13 = .ok (.iconst 1, 1) := by decide +kernel
theorem dL_reason_14 : decode cL_reason 14 = .ok (.ireturn, 1) := by decide +kernel
theorem dL_reason_15 : decode cL_reason 15 = .ok (.iconst 0, 1) := by decide +kernel
theorem dL_reason_16 : decode cL_reason 16 = .ok (.ireturn, 1) := by decide +kernel
set_option maxRecDepth 20000 in
theorem ggL_changesIf_X5_changesIf : GoodIn wsL_changesIf wsX5_changesIf := goodIn_ca (goodIn_r _ [6, 7, 8, 5, 9, 10, 11, 12, 13, 14, 15, 16, 17, 18, 19, 20, 21, 22, 23, 24, 25, 26, 27, 28, 29, 30, 31, 32, 33, 34, 35, 36, 37, 38, 39, 40, 41, 42, 43, 44, 45, 46, 47, 48, 49, 50, 51, 52, 53, 54, 55, 56, 57, 58, 59, 60, 61, 62, 63, 64, 65, 66, 67, 68, 69, 70, 71, 72, 73, 74, 75, 76, 77, 78, 79, 80, 81, 82, 83, 84, 85, 86, 87, 88, 89, 90, 91, 92, 93, 94, 95, 96, 97, 98, 99, 100, 101, 102, 103, 104, 105, 106, 107, 108, 109, 110, 111, 112, 113, 114, 115, 116, 117, 118, 119, 120, 121, 122, 123, 124, 125, 126, 127, 128, 129, 130, 131, 132, 133, 134, 135, 136, 137, 138, 139, 140, 141, 142, 143, 144, 145, 146, 147, 148, 149, 150, 151, 152, 153, 154, 155, 156, 157, 158, 159, 160, 161, 162] (by decide +kernel) (by decide +kernel)) (goodIn_sub (fun _ h => List.mem_cons_of_mem _ (List.mem_append_right _ h)) (by decide +kernel))
set_option maxRecDepth 20000 in
theorem gL_changesIf_X5_changesIf : GoodIn wsL_changesIf (wsV RL 67 RX5 yX5_changesIf wsX5_changesIf) := goodIn_app (goodIn_of _ (by decide +kernel)) ggL_changesIf_X5_changesIf
theorem dL_changesIf_0 : decode cL_changesIf 0 = .ok (.aload_n 2, 1) := by decide +kernel
theorem dL_changesIf_1 : decode cL_changesIf 1 = .ok (.iconst 0, 1) := by decide +kernel
theorem dL_changesIf_2 : decode cL_changesIf 2 = .ok (.aload_n 0, 1) := by decide +kernel
theorem dL_changesIf_3 : decode cL_changesIf 3 = .ok (.iload_n 1, 1) := by decide +kernel
theorem dL_changesIf_4 : decode cL_changesIf 4 = .ok (.invokevirtual 67, 3) := by decide +kernel
theorem dL_changesIf_7 : decode cL_changesIf 7 = .ok (.i2l, 1) := by decide +kernel
theorem dL_changesIf_8 : decode cL_changesIf 8 = .ok (.lastore, 1) := by decide +kernel
theorem dL_changesIf_9 : decode cL_changesIf 9 = .ok (.goto 6, 3) := by decide +kernel
theorem dL_changesIf_12 : decode cL_changesIf 12 = .ok (.astore_n 3, 1) := by decide +kernel
theorem dL_changesIf_13 : decode cL_changesIf 13 = .ok (.iconst 1, 1) := by decide +kernel
theorem dL_changesIf_14 : decode cL_changesIf 14 = .ok (.ireturn, 1) := by decide +kernel
theorem dL_changesIf_15 : decode cL_changesIf 15 = .ok (.iconst 0, 1) := by decide +kernel
theorem dL_changesIf_16 : decode cL_changesIf 16 = .ok (.ireturn, 1) := by decide +kernel
set_option maxRecDepth 20000 in
theorem ggL_append_X5_append : GoodIn wsL_append wsX5_append := goodIn_ca (goodIn_ca (goodIn_r _ [7, 8, 9, 10, 11, 12, 13, 14, 15, 16, 17, 18, 19, 20, 21, 22, 23, 24, 25, 26, 27, 28, 29, 30, 31, 32, 33, 34, 35, 36, 37] (by decide +kernel) (by decide +kernel)) (goodIn_sub (fun _ h => List.mem_cons_of_mem _ (List.mem_append_left _ (List.mem_append_right _ h))) (by decide +kernel))) (goodIn_sub (fun _ h => List.mem_cons_of_mem _ (List.mem_append_right _ h)) (by decide +kernel))
set_option maxRecDepth 20000 in
theorem gL_append_X5_append : GoodIn wsL_append (wsV RL 70 RX5 yX5_append wsX5_append) := goodIn_app (goodIn_of _ (by decide +kernel)) ggL_append_X5_append
theorem dL_append_0 : decode cL_append 0 = .ok (.aload_n 2, 1) := by decide +kernel
theorem dL_append_1 : decode cL_append 1 = .ok (.iconst 0, 1) := by decide +kernel
theorem dL_append_2 : decode cL_append 2 = .ok (.aload_n 0, 1) := by decide +kernel
theorem dL_append_3 : decode cL_append 3 = .ok (.iload_n 1, 1) := by decide +kernel
theorem dL_append_4 : decode cL_append 4 = .ok (.invokevirtual 70, 3) := by decide +kernel
theorem dL_append_7 : decode cL_append 7 = .ok (.i2l, 1) := by decide +kernel
theorem dL_append_8 : decode cL_append 8 = .ok (.lastore, 1) := by decide +kernel
theorem dL_append_9 : decode cL_append 9 = .ok (.goto 9, 3) := by decide +kernel
theorem dL_append_12 : decode cL_append 12 = .ok (.astore_n 3, 1) := by decide +kernel
theorem dL_append_13 : decode cL_append 13 = .ok (.iconst 1, 1) := by decide +kernel
theorem dL_append_14 : decode cL_append 14 = .ok (.ireturn, 1) := by decide +kernel
theorem dL_append_15 : decode cL_append 15 = .ok (.astore_n 3, 1) := by decide +kernel
theorem dL_append_16 : decode cL_append 16 = .ok (.iconst 2, 1) := by decide +kernel
theorem dL_append_17 : decode cL_append 17 = .ok (.ireturn, 1) := by decide +kernel
theorem dL_append_18 : decode cL_append 18 = .ok (.iconst 0, 1) := by decide +kernel
theorem dL_append_19 : decode cL_append 19 = .ok (.ireturn, 1) := by decide +kernel
set_option maxRecDepth 20000 in
theorem ggL_run_X5_run : GoodIn wsL_run wsX5_run := goodIn_ca (goodIn_r _ [6, 7, 8, 9, 10, 11, 12, 13, 14, 15, 16, 17, 18, 19, 20, 21, 22, 23, 24, 25, 26, 27, 28, 29, 30, 31, 32, 33, 34, 35, 36, 37, 38, 39, 40, 41, 42, 43, 44, 45, 46, 47, 48, 49, 50, 51, 52, 53, 54, 55, 56, 57, 58, 59, 60, 61, 62, 63, 64, 65, 66, 67, 68, 69, 70, 71, 72, 73, 74, 75, 76, 77, 78, 79, 80, 81, 82, 83, 84, 85, 5, 86, 87, 88, 89, 90, 91, 92, 93, 94, 95, 96, 97, 98, 99, 100, 101, 102, 103, 104, 105, 106, 107, 108, 109, 110, 111, 112, 113, 114, 115, 116, 117, 118, 119, 120, 121, 122, 123, 124, 125, 126, 127, 128, 129, 130, 131, 132, 133, 134, 135, 136, 137, 138, 139, 140, 141, 142, 143, 144, 145, 146, 147, 148, 149, 150, 151, 152, 153, 154, 155, 156, 157, 158, 159, 160, 161, 162, 163, 164, 165, 166, 167, 168, 169, 170, 171, 172, 173, 174, 175, 176, 177, 178, 179, 180, 181, 182, 183, 184, 185, 186, 187, 188, 189, 190, 191, 192, 193, 194, 195, 196, 197, 198, 199, 200, 201, 202, 203, 204, 205, 206, 207, 208, 209, 210, 211, 212, 213, 214, 215, 216, 217, 218, 219, 220, 221, 222, 223, 224, 225, 226, 227, 228, 229, 230, 231, 232, 233, 234, 235, 236, 237, 238, 239, 240, 241, 242, 243, 244, 245, 246, 247, 248, 249, 250, 251, 252, 253, 254, 255, 256, 257, 258, 259, 260, 261, 262, 263, 264, 265, 266, 267, 268, 269, 270, 271, 272, 273, 274, 275, 276, 277, 278, 279, 280, 281, 282, 283, 284, 285, 286, 287, 288, 289, 290, 291, 292, 293, 294] (by decide +kernel) (by decide +kernel)) (goodIn_sub (fun _ h => List.mem_cons_of_mem _ (List.mem_append_right _ h)) (by decide +kernel))
set_option maxRecDepth 20000 in
theorem gL_run_X5_run : GoodIn wsL_run (wsV RL 73 RX5 yX5_run wsX5_run) := goodIn_app (goodIn_of _ (by decide +kernel)) ggL_run_X5_run
theorem dL_run_0 : decode cL_run 0 = .ok (.aload_n 1, 1) := by decide +kernel
theorem dL_run_1 : decode cL_run 1 = .ok (.iconst 0, 1) := by decide +kernel
theorem dL_run_2 : decode cL_run 2 = .ok (.aload_n 0, 1) := by decide +kernel
theorem dL_run_3 : decode cL_run 3 = .ok (.invokevirtual 73, 3) := by decide +kernel
theorem dL_run_6 : decode cL_run 6 = .ok (.i2l, 1) := by decide +kernel
theorem dL_run_7 : decode cL_run 7 = .ok (.lastore, 1) := by decide +kernel
theorem dL_run_8 : decode cL_run 8 = .ok (.goto 6, 3) := by decide +kernel
theorem dL_run_11 : decode cL_run 11 = .ok (.astore_n 2, 1) := by decide +kernel
theorem dL_run_12 : decode cL_run 12 = .ok (.iconst 1, 1) := by decide +kernel
theorem dL_run_13 : decode cL_run 13 = .ok (.ireturn, 1) := by decide +kernel
theorem dL_run_14 : decode cL_run 14 = .ok (.iconst 0, 1) := by decide +kernel
theorem dL_run_15 : decode cL_run 15 = .ok (.ireturn, 1) := by decide +kernel
set_option maxRecDepth 20000 in
theorem ggL_undo_X5_undo : GoodIn wsL_undo wsX5_undo := goodIn_ca (goodIn_r _ [6, 7, 8, 9, 10, 11, 12, 13, 14, 15, 16, 17, 18, 19, 20, 21, 22, 23, 24, 25, 26, 27, 28, 29, 30, 31, 32, 33, 34, 35, 36, 37, 38, 39, 40, 41, 42, 43, 44, 45, 46, 47, 48, 49, 50, 51, 52, 53, 54, 55, 56, 57, 58, 59, 60, 61, 62, 63, 64, 65, 66, 67, 68] (by decide +kernel) (by decide +kernel)) (goodIn_sub (fun _ h => List.mem_cons_of_mem _ (List.mem_append_right _ h)) (by decide +kernel))
set_option maxRecDepth 20000 in
theorem gL_undo_X5_undo : GoodIn wsL_undo (wsV RL 76 RX5 yX5_undo wsX5_undo) := goodIn_app (goodIn_of _ (by decide +kernel)) ggL_undo_X5_undo
theorem dL_undo_0 : decode cL_undo 0 = .ok (.aload_n 1, 1) := by decide +kernel
theorem dL_undo_1 : decode cL_undo 1 = .ok (.iconst 0, 1) := by decide +kernel
theorem dL_undo_2 : decode cL_undo 2 = .ok (.aload_n 0, 1) := by decide +kernel
theorem dL_undo_3 : decode cL_undo 3 = .ok (.invokevirtual 76, 3) := by decide +kernel
theorem dL_undo_6 : decode cL_undo 6 = .ok (.i2l, 1) := by decide +kernel
theorem dL_undo_7 : decode cL_undo 7 = .ok (.lastore, 1) := by decide +kernel
theorem dL_undo_8 : decode cL_undo 8 = .ok (.goto 6, 3) := by decide +kernel
theorem dL_undo_11 : decode cL_undo 11 = .ok (.astore_n 2, 1) := by decide +kernel
theorem dL_undo_12 : decode cL_undo 12 = .ok (.iconst 1, 1) := by decide +kernel
theorem dL_undo_13 : decode cL_undo 13 = .ok (.ireturn, 1) := by decide +kernel
theorem dL_undo_14 : decode cL_undo 14 = .ok (.iconst 0, 1) := by decide +kernel
theorem dL_undo_15 : decode cL_undo 15 = .ok (.ireturn, 1) := by decide +kernel
