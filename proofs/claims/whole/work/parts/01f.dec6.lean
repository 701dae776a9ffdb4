theorem dX6_init_0 : decode cX6_init 0 = .ok (.aload_n 0, 1) := by decide +kernel
theorem dX6_init_1 : decode cX6_init 1 = .ok (.invokespecial 1, 3) := by decide +kernel
theorem dX6_init_4 : decode cX6_init 4 = .ok (.aload_n 0, 1) := by decide +kernel
theorem dX6_init_5 : decode cX6_init 5 = .ok (.bipush 91, 2) := by decide +kernel
theorem dX6_init_7 : decode cX6_init 7 = .ok (.newarray .int, 2) := by decide +kernel
theorem dX6_init_9 : decode cX6_init 9 = .ok (.putfield 7, 3) := by decide +kernel
theorem dX6_init_12 : decode cX6_init 12 = .ok (.aload_n 0, 1) := by decide +kernel
theorem dX6_init_13 : decode cX6_init 13 = .ok (.sipush 546, 3) := by decide +kernel
theorem dX6_init_16 : decode cX6_init 16 = .ok (.newarray .int, 2) := by decide +kernel
theorem dX6_init_18 : decode cX6_init 18 = .ok (.putfield 13, 3) := by decide +kernel
theorem dX6_init_21 : decode cX6_init 21 = .ok (.aload_n 0, 1) := by decide +kernel
theorem dX6_init_22 : decode cX6_init 22 = .ok (.bipush 60, 2) := by decide +kernel
theorem dX6_init_24 : decode cX6_init 24 = .ok (.newarray .int, 2) := by decide +kernel
theorem dX6_init_26 : decode cX6_init 26 = .ok (.putfield 16, 3) := by decide +kernel
theorem dX6_init_29 : decode cX6_init 29 = .ok (.aload_n 0, 1) := by decide +kernel
theorem dX6_init_30 : decode cX6_init 30 = .ok (.bipush 20, 2) := by decide +kernel
theorem dX6_init_32 : decode cX6_init 32 = .ok (.newarray .int, 2) := by decide +kernel
theorem dX6_init_34 : decode cX6_init 34 = .ok (.putfield 19, 3) := by decide +kernel
theorem dX6_init_37 : decode cX6_init 37 = .ok (.aload_n 0, 1) := by decide +kernel
theorem dX6_init_38 : decode cX6_init 38 = .ok (.bipush 6, 2) := by decide +kernel
theorem dX6_init_40 : decode cX6_init 40 = .ok (.newarray .int, 2) := by decide +kernel
theorem dX6_init_42 : decode cX6_init 42 = .ok (.putfield 22, 3) := by decide +kernel
theorem dX6_init_45 : decode cX6_init 45 = .ok (.aload_n 0, 1) := by decide +kernel
theorem dX6_init_46 : decode cX6_init 46 = .ok (.bipush 6, 2) := by decide +kernel
theorem dX6_init_48 : decode cX6_init 48 = .ok (.newarray .int, 2) := by decide +kernel
theorem dX6_init_50 : decode cX6_init 50 = .ok (.putfield 25, 3) := by decide +kernel
theorem dX6_init_53 : decode cX6_init 53 = .ok (.aload_n 0, 1) := by decide +kernel
theorem dX6_init_54 : decode cX6_init 54 = .ok (.bipush 6, 2) := by decide +kernel
theorem dX6_init_56 : decode cX6_init 56 = .ok (.newarray .int, 2) := by decide +kernel
theorem dX6_init_58 : decode cX6_init 58 = .ok (.putfield 28, 3) := by decide +kernel
theorem dX6_init_61 : decode cX6_init 61 = .ok (.aload_n 0, 1) := by decide +kernel
theorem dX6_init_62 : decode cX6_init 62 = .ok (.getfield 7, 3) := by decide +kernel
theorem dX6_init_65 : decode cX6_init 65 = .ok (.bipush 87, 2) := by decide +kernel
theorem dX6_init_67 : decode cX6_init 67 = .ok (.iconst 0, 1) := by decide +kernel
theorem dX6_init_68 : decode cX6_init 68 = .ok (.iastore, 1) := by decide +kernel
theorem dX6_init_69 : decode cX6_init 69 = .ok (.return_, 1) := by decide +kernel
theorem dX6_thrown_0 : decode cX6_thrown 0 = .ok (.aload_n 0, 1) := by decide +kernel
theorem dX6_thrown_1 : decode cX6_thrown 1 = .ok (.getfield 31, 3) := by decide +kernel
theorem dX6_thrown_4 : decode cX6_thrown 4 = .ok (.ireturn, 1) := by decide +kernel
theorem dX6_in_0 : decode cX6_in 0 = .ok (.iload_n 0, 1) := by decide +kernel
theorem dX6_in_1 : decode cX6_in 1 = .ok (.iload_n 1, 1) := by decide +kernel
theorem dX6_in_2 : decode cX6_in 2 = .ok (.if_icmp .lt 12, 3) := by decide +kernel
theorem dX6_in_5 : decode cX6_in 5 = .ok (.iload_n 0, 1) := by decide +kernel
theorem dX6_in_6 : decode cX6_in 6 = .ok (.iload_n 2, 1) := by decide +kernel
theorem dX6_in_7 : decode cX6_in 7 = .ok (.if_icmp .gt 7, 3) := by decide +kernel
theorem dX6_in_10 : decode cX6_in 10 = .ok (.iconst 1, 1) := by decide +kernel
theorem dX6_in_11 : decode cX6_in 11 = .ok (.goto 4, 3) := by decide +kernel
theorem dX6_in_14 : decode cX6_in 14 = .ok (.iconst 0, 1) := by decide +kernel
theorem dX6_in_15 : decode cX6_in 15 = .ok (.ireturn, 1) := by decide +kernel
set_option maxRecDepth 20000 in
theorem ggX6_isDoor_X6_in : GoodIn wsX6_isDoor wsX6_in := goodIn_r _ [5] (by decide +kernel) (by decide +kernel)
set_option maxRecDepth 20000 in
theorem gX6_isDoor_X6_in : GoodIn wsX6_isDoor (va_wsS RX6 35 yX6_in wsX6_in) := goodIn_app (goodIn_of _ (by decide +kernel)) ggX6_isDoor_X6_in
theorem dX6_isDoor_0 : decode cX6_isDoor 0 = .ok (.iload_n 1, 1) := by decide +kernel
theorem dX6_isDoor_1 : decode cX6_isDoor 1 = .ok (.iconst 0, 1) := by decide +kernel
theorem dX6_isDoor_2 : decode cX6_isDoor 2 = .ok (.aload_n 0, 1) := by decide +kernel
theorem dX6_isDoor_3 : decode cX6_isDoor 3 = .ok (.getfield 7, 3) := by decide +kernel
theorem dX6_isDoor_6 : decode cX6_isDoor 6 = .ok (.iconst 0, 1) := by decide +kernel
theorem dX6_isDoor_7 : decode cX6_isDoor 7 = .ok (.iaload, 1) := by decide +kernel
theorem dX6_isDoor_8 : decode cX6_isDoor 8 = .ok (.iconst 1, 1) := by decide +kernel
theorem dX6_isDoor_9 : decode cX6_isDoor 9 = .ok (.isub, 1) := by decide +kernel
theorem dX6_isDoor_10 : decode cX6_isDoor 10 = .ok (.invokestatic 35, 3) := by decide +kernel
theorem dX6_isDoor_13 : decode cX6_isDoor 13 = .ok (.ireturn, 1) := by decide +kernel
set_option maxRecDepth 20000 in
theorem ggX6_isMan_X6_in : GoodIn wsX6_isMan wsX6_in := goodIn_r _ [4] (by decide +kernel) (by decide +kernel)
set_option maxRecDepth 20000 in
theorem gX6_isMan_X6_in : GoodIn wsX6_isMan (va_wsS RX6 35 yX6_in wsX6_in) := goodIn_app (goodIn_of _ (by decide +kernel)) ggX6_isMan_X6_in
theorem dX6_isMan_0 : decode cX6_isMan 0 = .ok (.iload_n 0, 1) := by decide +kernel
theorem dX6_isMan_1 : decode cX6_isMan 1 = .ok (.iconst 0, 1) := by decide +kernel
theorem dX6_isMan_2 : decode cX6_isMan 2 = .ok (.iconst 5, 1) := by decide +kernel
theorem dX6_isMan_3 : decode cX6_isMan 3 = .ok (.invokestatic 35, 3) := by decide +kernel
theorem dX6_isMan_6 : decode cX6_isMan 6 = .ok (.ireturn, 1) := by decide +kernel
theorem dX6_works_0 : decode cX6_works 0 = .ok (.aload_n 0, 1) := by decide +kernel
theorem dX6_works_1 : decode cX6_works 1 = .ok (.getfield 7, 3) := by decide +kernel
theorem dX6_works_4 : decode cX6_works 4 = .ok (.bipush 81, 2) := by decide +kernel
theorem dX6_works_6 : decode cX6_works 6 = .ok (.iload_n 1, 1) := by decide +kernel
theorem dX6_works_7 : decode cX6_works 7 = .ok (.iadd, 1) := by decide +kernel
theorem dX6_works_8 : decode cX6_works 8 = .ok (.iaload, 1) := by decide +kernel
theorem dX6_works_9 : decode cX6_works 9 = .ok (.iconst 1, 1) := by decide +kernel
theorem dX6_works_10 : decode cX6_works 10 = .ok (.if_icmp .ne 7, 3) := by decide +kernel
theorem dX6_works_13 : decode cX6_works 13 = .ok (.iconst 1, 1) := by decide +kernel
theorem dX6_works_14 : decode cX6_works 14 = .ok (.goto 4, 3) := by decide +kernel
theorem dX6_works_17 : decode cX6_works 17 = .ok (.iconst 0, 1) := by decide +kernel
theorem dX6_works_18 : decode cX6_works 18 = .ok (.ireturn, 1) := by decide +kernel
theorem dX6_men_0 : decode cX6_men 0 = .ok (.iconst 0, 1) := by decide +kernel
theorem dX6_men_1 : decode cX6_men 1 = .ok (.istore_n 1, 1) := by decide +kernel
theorem dX6_men_2 : decode cX6_men 2 = .ok (.iconst 0, 1) := by decide +kernel
theorem dX6_men_3 : decode cX6_men 3 = .ok (.istore_n 2, 1) := by decide +kernel
theorem dX6_men_4 : decode cX6_men 4 = .ok (.iload_n 2, 1) := by decide +kernel
theorem dX6_men_5 : decode cX6_men 5 = .ok (.bipush 6, 2) := by decide +kernel
theorem dX6_men_7 : decode cX6_men 7 = .ok (.if_icmp .ge 21, 3) := by decide +kernel
theorem dX6_men_10 : decode cX6_men 10 = .ok (.iload_n 1, 1) := by decide +kernel
theorem dX6_men_11 : decode cX6_men 11 = .ok (.aload_n 0, 1) := by decide +kernel
theorem dX6_men_12 : decode cX6_men 12 = .ok (.getfield 7, 3) := by decide +kernel
theorem dX6_men_15 : decode cX6_men 15 = .ok (.bipush 81, 2) := by decide +kernel
theorem dX6_men_17 : decode cX6_men 17 = .ok (.iload_n 2, 1) := by decide +kernel
theorem dX6_men_18 : decode cX6_men 18 = .ok (.iadd, 1) := by decide +kernel
theorem dX6_men_19 : decode cX6_men 19 = .ok (.iaload, 1) := by decide +kernel
theorem dX6_men_20 : decode cX6_men 20 = .ok (.iadd, 1) := by decide +kernel
theorem dX6_men_21 : decode cX6_men 21 = .ok (.istore_n 1, 1) := by decide +kernel
theorem dX6_men_22 : decode cX6_men 22 = .ok (.iinc 2 1, 3) := by decide +kernel
theorem dX6_men_25 : decode cX6_men 25 = .ok (.goto (-21), 3) := by decide +kernel
theorem dX6_men_28 : decode cX6_men 28 = .ok (.iload_n 1, 1) := by decide +kernel
theorem dX6_men_29 : decode cX6_men 29 = .ok (.ireturn, 1) := by decide +kernel
theorem dX6_sizeOf_0 : decode cX6_sizeOf 0 = .ok (.iconst 0, 1) := by decide +kernel
theorem dX6_sizeOf_1 : decode cX6_sizeOf 1 = .ok (.istore_n 2, 1) := by decide +kernel
theorem dX6_sizeOf_2 : decode cX6_sizeOf 2 = .ok (.iconst 0, 1) := by decide +kernel
theorem dX6_sizeOf_3 : decode cX6_sizeOf 3 = .ok (.istore_n 3, 1) := by decide +kernel
theorem dX6_sizeOf_4 : decode cX6_sizeOf 4 = .ok (.iload_n 3, 1) := by decide +kernel
theorem dX6_sizeOf_5 : decode cX6_sizeOf 5 = .ok (.aload_n 0, 1) := by decide +kernel
theorem dX6_sizeOf_6 : decode cX6_sizeOf 6 = .ok (.getfield 7, 3) := by decide +kernel
theorem dX6_sizeOf_9 : decode cX6_sizeOf 9 = .ok (.iconst 0, 1) := by decide +kernel
theorem dX6_sizeOf_10 : decode cX6_sizeOf 10 = .ok (.iaload, 1) := by decide +kernel
theorem dX6_sizeOf_11 : decode cX6_sizeOf 11 = .ok (.if_icmp .ge 30, 3) := by decide +kernel
theorem dX6_sizeOf_14 : decode cX6_sizeOf 14 = .ok (.iload_n 2, 1) := by decide +kernel
theorem dX6_sizeOf_15 : decode cX6_sizeOf 15 = .ok (.aload_n 0, 1) := by decide +kernel
theorem dX6_sizeOf_16 : decode cX6_sizeOf 16 = .ok (.getfield 7, 3) := by decide +kernel
theorem dX6_sizeOf_19 : decode cX6_sizeOf 19 = .ok (.bipush 21, 2) := by decide +kernel
theorem dX6_sizeOf_21 : decode cX6_sizeOf 21 = .ok (.iload_n 3, 1) := by decide +kernel
theorem dX6_sizeOf_22 : decode cX6_sizeOf 22 = .ok (.iadd, 1) := by decide +kernel
theorem dX6_sizeOf_23 : decode cX6_sizeOf 23 = .ok (.iaload, 1) := by decide +kernel
theorem dX6_sizeOf_24 : decode cX6_sizeOf 24 = .ok (.iload_n 1, 1) := by decide +kernel
theorem dX6_sizeOf_25 : decode cX6_sizeOf 25 = .ok (.if_icmp .ne 7, 3) := by decide +kernel
theorem dX6_sizeOf_28 : decode cX6_sizeOf 28 = .ok (.iconst 1, 1) := by decide +kernel
theorem dX6_sizeOf_29 : decode cX6_sizeOf 29 = .ok (.goto 4, 3) := by decide +kernel
theorem dX6_sizeOf_32 : decode cX6_sizeOf 32 = .ok (.iconst 0, 1) := by decide +kernel
theorem dX6_sizeOf_33 : decode cX6_sizeOf 33 = .ok (.iadd, 1) := by decide +kernel
theorem dX6_sizeOf_34 : decode cX6_sizeOf 34 = .ok (.istore_n 2, 1) := by decide +kernel
theorem dX6_sizeOf_35 : decode cX6_sizeOf 35 = .ok (.iinc 3 1, 3) := by decide +kernel
theorem dX6_sizeOf_38 : decode cX6_sizeOf 38 = .ok (.goto (-34), 3) := by decide +kernel
theorem dX6_sizeOf_41 : decode cX6_sizeOf 41 = .ok (.iload_n 2, 1) := by decide +kernel
theorem dX6_sizeOf_42 : decode cX6_sizeOf 42 = .ok (.ireturn, 1) := by decide +kernel
theorem dX6_loadOf_0 : decode cX6_loadOf 0 = .ok (.iconst 0, 1) := by decide +kernel
theorem dX6_loadOf_1 : decode cX6_loadOf 1 = .ok (.istore_n 2, 1) := by decide +kernel
theorem dX6_loadOf_2 : decode cX6_loadOf 2 = .ok (.iconst 0, 1) := by decide +kernel
theorem dX6_loadOf_3 : decode cX6_loadOf 3 = .ok (.istore_n 3, 1) := by decide +kernel
theorem dX6_loadOf_4 : decode cX6_loadOf 4 = .ok (.iload_n 3, 1) := by decide +kernel
theorem dX6_loadOf_5 : decode cX6_loadOf 5 = .ok (.aload_n 0, 1) := by decide +kernel
theorem dX6_loadOf_6 : decode cX6_loadOf 6 = .ok (.getfield 7, 3) := by decide +kernel
theorem dX6_loadOf_9 : decode cX6_loadOf 9 = .ok (.iconst 0, 1) := by decide +kernel
theorem dX6_loadOf_10 : decode cX6_loadOf 10 = .ok (.iaload, 1) := by decide +kernel
theorem dX6_loadOf_11 : decode cX6_loadOf 11 = .ok (.if_icmp .ge 37, 3) := by decide +kernel
theorem dX6_loadOf_14 : decode cX6_loadOf 14 = .ok (.iload_n 2, 1) := by decide +kernel
theorem dX6_loadOf_15 : decode cX6_loadOf 15 = .ok (.aload_n 0, 1) := by decide +kernel
theorem dX6_loadOf_16 : decode cX6_loadOf 16 = .ok (.getfield 7, 3) := by decide +kernel
theorem dX6_loadOf_19 : decode cX6_loadOf 19 = .ok (.bipush 21, 2) := by decide +kernel
theorem dX6_loadOf_21 : decode cX6_loadOf 21 = .ok (.iload_n 3, 1) := by decide +kernel
theorem dX6_loadOf_22 : decode cX6_loadOf 22 = .ok (.iadd, 1) := by decide +kernel
theorem dX6_loadOf_23 : decode cX6_loadOf 23 = .ok (.iaload, 1) := by decide +kernel
theorem dX6_loadOf_24 : decode cX6_loadOf 24 = .ok (.iload_n 1, 1) := by decide +kernel
theorem dX6_loadOf_25 : decode cX6_loadOf 25 = .ok (.if_icmp .ne 14, 3) := by decide +kernel
theorem dX6_loadOf_28 : decode cX6_loadOf 28 = .ok (.aload_n 0, 1) := by decide +kernel
theorem dX6_loadOf_29 : decode cX6_loadOf 29 = .ok (.getfield 7, 3) := by decide +kernel
theorem dX6_loadOf_32 : decode cX6_loadOf 32 = .ok (.iconst 1, 1) := by decide +kernel
theorem dX6_loadOf_33 : decode cX6_loadOf 33 = .ok (.iload_n 3, 1) := by decide +kernel
theorem dX6_loadOf_34 : decode cX6_loadOf 34 = .ok (.iadd, 1) := by decide +kernel
theorem dX6_loadOf_35 : decode cX6_loadOf 35 = .ok (.iaload, 1) := by decide +kernel
theorem dX6_loadOf_36 : decode cX6_loadOf 36 = .ok (.goto 4, 3) := by decide +kernel
theorem dX6_loadOf_39 : decode cX6_loadOf 39 = .ok (.iconst 0, 1) := by decide +kernel
theorem dX6_loadOf_40 : decode cX6_loadOf 40 = .ok (.iadd, 1) := by decide +kernel
theorem dX6_loadOf_41 : decode cX6_loadOf 41 = .ok (.istore_n 2, 1) := by decide +kernel
theorem dX6_loadOf_42 : decode cX6_loadOf 42 = .ok (.iinc 3 1, 3) := by decide +kernel
theorem dX6_loadOf_45 : decode cX6_loadOf 45 = .ok (.goto (-41), 3) := by decide +kernel
theorem dX6_loadOf_48 : decode cX6_loadOf 48 = .ok (.iload_n 2, 1) := by decide +kernel
theorem dX6_loadOf_49 : decode cX6_loadOf 49 = .ok (.ireturn, 1) := by decide +kernel
theorem dX6_record_0 : decode cX6_record 0 = .ok (.aload_n 0, 1) := by decide +kernel
theorem dX6_record_1 : decode cX6_record 1 = .ok (.getfield 39, 3) := by decide +kernel
theorem dX6_record_4 : decode cX6_record 4 = .ok (.bipush 6, 2) := by decide +kernel
theorem dX6_record_6 : decode cX6_record 6 = .ok (.if_icmp .ne 43, 3) := by decide +kernel
theorem dX6_record_9 : decode cX6_record 9 = .ok (.iconst 0, 1) := by decide +kernel
theorem dX6_record_10 : decode cX6_record 10 = .ok (.istore_n 1, 1) := by decide +kernel
theorem dX6_record_11 : decode cX6_record 11 = .ok (.iload_n 1, 1) := by decide +kernel
theorem dX6_record_12 : decode cX6_record 12 = .ok (.sipush 455, 3) := by decide +kernel
theorem dX6_record_15 : decode cX6_record 15 = .ok (.if_icmp .ge 24, 3) := by decide +kernel
theorem dX6_record_18 : decode cX6_record 18 = .ok (.aload_n 0, 1) := by decide +kernel
theorem dX6_record_19 : decode cX6_record 19 = .ok (.getfield 13, 3) := by decide +kernel
theorem dX6_record_22 : decode cX6_record 22 = .ok (.iload_n 1, 1) := by decide +kernel
theorem dX6_record_23 : decode cX6_record 23 = .ok (.aload_n 0, 1) := by decide +kernel
theorem dX6_record_24 : decode cX6_record 24 = .ok (.getfield 13, 3) := by decide +kernel
theorem dX6_record_27 : decode cX6_record 27 = .ok (.bipush 91, 2) := by decide +kernel
theorem dX6_record_29 : decode cX6_record 29 = .ok (.iload_n 1, 1) := by decide +kernel
theorem dX6_record_30 : decode cX6_record 30 = .ok (.iadd, 1) := by decide +kernel
theorem dX6_record_31 : decode cX6_record 31 = .ok (.iaload, 1) := by decide +kernel
theorem dX6_record_32 : decode cX6_record 32 = .ok (.iastore, 1) := by decide +kernel
theorem dX6_record_33 : decode cX6_record 33 = .ok (.iinc 1 1, 3) := by decide +kernel
theorem dX6_record_36 : decode cX6_record 36 = .ok (.goto (-25), 3) := by decide +kernel
theorem dX6_record_39 : decode cX6_record 39 = .ok (.aload_n 0, 1) := by decide +kernel
theorem dX6_record_40 : decode cX6_record 40 = .ok (.dup, 1) := by decide +kernel
theorem dX6_record_41 : decode cX6_record 41 = .ok (.getfield 39, 3) := by decide +kernel
theorem dX6_record_44 : decode cX6_record 44 = .ok (.iconst 1, 1) := by decide +kernel
theorem dX6_record_45 : decode cX6_record 45 = .ok (.isub, 1) := by decide +kernel
theorem dX6_record_46 : decode cX6_record 46 = .ok (.putfield 39, 3) := by decide +kernel
theorem dX6_record_49 : decode cX6_record 49 = .ok (.iconst 0, 1) := by decide +kernel
theorem dX6_record_50 : decode cX6_record 50 = .ok (.istore_n 1, 1) := by decide +kernel
theorem dX6_record_51 : decode cX6_record 51 = .ok (.iload_n 1, 1) := by decide +kernel
theorem dX6_record_52 : decode cX6_record 52 = .ok (.bipush 91, 2) := by decide +kernel
theorem dX6_record_54 : decode cX6_record 54 = .ok (.if_icmp .ge 29, 3) := by decide +kernel
theorem dX6_record_57 : decode cX6_record 57 = .ok (.aload_n 0, 1) := by decide +kernel
theorem dX6_record_58 : decode cX6_record 58 = .ok (.getfield 13, 3) := by decide +kernel
theorem dX6_record_61 : decode cX6_record 61 = .ok (.bipush 91, 2) := by decide +kernel
theorem dX6_record_63 : decode cX6_record 63 = .ok (.aload_n 0, 1) := by decide +kernel
theorem dX6_record_64 : decode cX6_record 64 = .ok (.getfield 39, 3) := by decide +kernel
theorem dX6_record_67 : decode cX6_record 67 = .ok (.imul, 1) := by decide +kernel
theorem dX6_record_68 : decode cX6_record 68 = .ok (.iload_n 1, 1) := by decide +kernel
theorem dX6_record_69 : decode cX6_record 69 = .ok (.iadd, 1) := by decide +kernel
theorem dX6_record_70 : decode cX6_record 70 = .ok (.aload_n 0, 1) := by decide +kernel
theorem dX6_record_71 : decode cX6_record 71 = .ok (.getfield 7, 3) := by decide +kernel
theorem dX6_record_74 : decode cX6_record 74 = .ok (.iload_n 1, 1) := by decide +kernel
theorem dX6_record_75 : decode cX6_record 75 = .ok (.iaload, 1) := by decide +kernel
theorem dX6_record_76 : decode cX6_record 76 = .ok (.iastore, 1) := by decide +kernel
theorem dX6_record_77 : decode cX6_record 77 = .ok (.iinc 1 1, 3) := by decide +kernel
theorem dX6_record_80 : decode cX6_record 80 = .ok (.goto (-29), 3) := by decide +kernel
theorem dX6_record_83 : decode cX6_record 83 = .ok (.aload_n 0, 1) := by decide +kernel
theorem dX6_record_84 : decode cX6_record 84 = .ok (.dup, 1) := by decide +kernel
theorem dX6_record_85 : decode cX6_record 85 = .ok (.getfield 39, 3) := by decide +kernel
theorem dX6_record_88 : decode cX6_record 88 = .ok (.iconst 1, 1) := by decide +kernel
theorem dX6_record_89 : decode cX6_record 89 = .ok (.iadd, 1) := by decide +kernel
theorem dX6_record_90 : decode cX6_record 90 = .ok (.putfield 39, 3) := by decide +kernel
theorem dX6_record_93 : decode cX6_record 93 = .ok (.return_, 1) := by decide +kernel
theorem dX6_undo_0 : decode cX6_undo 0 = .ok (.aload_n 0, 1) := by decide +kernel
theorem dX6_undo_1 : decode cX6_undo 1 = .ok (.aload_n 0, 1) := by decide +kernel
theorem dX6_undo_2 : decode cX6_undo 2 = .ok (.getfield 39, 3) := by decide +kernel
theorem dX6_undo_5 : decode cX6_undo 5 = .ok (.ifCond .ne 7, 3) := by decide +kernel
theorem dX6_undo_8 : decode cX6_undo 8 = .ok (.iconst 1, 1) := by decide +kernel
theorem dX6_undo_9 : decode cX6_undo 9 = .ok (.goto 4, 3) := by decide +kernel
theorem dX6_undo_12 : decode cX6_undo 12 = .ok (.iconst 0, 1) := by decide +kernel
theorem dX6_undo_13 : decode cX6_undo 13 = .ok (.putfield 31, 3) := by decide +kernel
theorem dX6_undo_16 : decode cX6_undo 16 = .ok (.aload_n 0, 1) := by decide +kernel
theorem dX6_undo_17 : decode cX6_undo 17 = .ok (.getfield 31, 3) := by decide +kernel
theorem dX6_undo_20 : decode cX6_undo 20 = .ok (.ifCond .le 5, 3) := by decide +kernel
theorem dX6_undo_23 : decode cX6_undo 23 = .ok (.iconst 0, 1) := by decide +kernel
theorem dX6_undo_24 : decode cX6_undo 24 = .ok (.ireturn, 1) := by decide +kernel
theorem dX6_undo_25 : decode cX6_undo 25 = .ok (.aload_n 0, 1) := by decide +kernel
theorem dX6_undo_26 : decode cX6_undo 26 = .ok (.dup, 1) := by decide +kernel
theorem dX6_undo_27 : decode cX6_undo 27 = .ok (.getfield 39, 3) := by decide +kernel
theorem dX6_undo_30 : decode cX6_undo 30 = .ok (.iconst 1, 1) := by decide +kernel
theorem dX6_undo_31 : decode cX6_undo 31 = .ok (.isub, 1) := by decide +kernel
theorem dX6_undo_32 : decode cX6_undo 32 = .ok (.putfield 39, 3) := by decide +kernel
theorem dX6_undo_35 : decode cX6_undo 35 = .ok (.iconst 0, 1) := by decide +kernel
theorem dX6_undo_36 : decode cX6_undo 36 = .ok (.istore_n 1, 1) := by decide +kernel
theorem dX6_undo_37 : decode cX6_undo 37 = .ok (.iload_n 1, 1) := by decide +kernel
theorem dX6_undo_38 : decode cX6_undo 38 = .ok (.bipush 91, 2) := by decide +kernel
theorem dX6_undo_40 : decode cX6_undo 40 = .ok (.if_icmp .ge 29, 3) := by decide +kernel
theorem dX6_undo_43 : decode cX6_undo 43 = .ok (.aload_n 0, 1) := by decide +kernel
theorem dX6_undo_44 : decode cX6_undo 44 = .ok (.getfield 7, 3) := by decide +kernel
theorem dX6_undo_47 : decode cX6_undo 47 = .ok (.iload_n 1, 1) := by decide +kernel
theorem dX6_undo_48 : decode cX6_undo 48 = .ok (.aload_n 0, 1) := by decide +kernel
theorem dX6_undo_49 : decode cX6_undo 49 = .ok (.getfield 13, 3) := by decide +kernel
theorem dX6_undo_52 : decode cX6_undo 52 = .ok (.bipush 91, 2) := by decide +kernel
theorem dX6_undo_54 : decode cX6_undo 54 = .ok (.aload_n 0, 1) := by decide +kernel
theorem dX6_undo_55 : decode cX6_undo 55 = .ok (.getfield 39, 3) := by decide +kernel
theorem dX6_undo_58 : decode cX6_undo 58 = .ok (.imul, 1) := by decide +kernel
theorem dX6_undo_59 : decode cX6_undo 59 = .ok (.iload_n 1, 1) := by decide +kernel
theorem dX6_undo_60 : decode cX6_undo 60 = .ok (.iadd, 1) := by decide +kernel
theorem dX6_undo_61 : decode cX6_undo 61 = .ok (.iaload, 1) := by decide +kernel
theorem dX6_undo_62 : decode cX6_undo 62 = .ok (.iastore, 1) := by decide +kernel
theorem dX6_undo_63 : decode cX6_undo 63 = .ok (.iinc 1 1, 3) := by decide +kernel
theorem dX6_undo_66 : decode cX6_undo 66 = .ok (.goto (-29), 3) := by decide +kernel
theorem dX6_undo_69 : decode cX6_undo 69 = .ok (.aload_n 0, 1) := by decide +kernel
theorem dX6_undo_70 : decode cX6_undo 70 = .ok (.getfield 39, 3) := by decide +kernel
theorem dX6_undo_73 : decode cX6_undo 73 = .ok (.ireturn, 1) := by decide +kernel
theorem dX6_savedStates_0 : decode cX6_savedStates 0 = .ok (.aload_n 0, 1) := by decide +kernel
theorem dX6_savedStates_1 : decode cX6_savedStates 1 = .ok (.iconst 0, 1) := by decide +kernel
theorem dX6_savedStates_2 : decode cX6_savedStates 2 = .ok (.putfield 31, 3) := by decide +kernel
theorem dX6_savedStates_5 : decode cX6_savedStates 5 = .ok (.aload_n 0, 1) := by decide +kernel
theorem dX6_savedStates_6 : decode cX6_savedStates 6 = .ok (.getfield 39, 3) := by decide +kernel
theorem dX6_savedStates_9 : decode cX6_savedStates 9 = .ok (.ireturn, 1) := by decide +kernel
set_option maxRecDepth 20000 in
theorem ggX6_isAhead_X6_sizeOf : GoodIn wsX6_isAhead wsX6_sizeOf := goodIn_r _ [5, 6, 7, 8, 9, 10, 11, 12, 13, 14, 15, 16, 17, 18] (by decide +kernel) (by decide +kernel)
set_option maxRecDepth 20000 in
theorem gX6_isAhead_X6_sizeOf : GoodIn wsX6_isAhead (wsV RX6 42 RX6 yX6_sizeOf wsX6_sizeOf) := goodIn_app (goodIn_of _ (by decide +kernel)) ggX6_isAhead_X6_sizeOf
theorem dX6_isAhead_0 : decode cX6_isAhead 0 = .ok (.aload_n 0, 1) := by decide +kernel
theorem dX6_isAhead_1 : decode cX6_isAhead 1 = .ok (.iload_n 1, 1) := by decide +kernel
theorem dX6_isAhead_2 : decode cX6_isAhead 2 = .ok (.invokevirtual 42, 3) := by decide +kernel
theorem dX6_isAhead_5 : decode cX6_isAhead 5 = .ok (.aload_n 0, 1) := by decide +kernel
theorem dX6_isAhead_6 : decode cX6_isAhead 6 = .ok (.iload_n 2, 1) := by decide +kernel
theorem dX6_isAhead_7 : decode cX6_isAhead 7 = .ok (.invokevirtual 42, 3) := by decide +kernel
theorem dX6_isAhead_10 : decode cX6_isAhead 10 = .ok (.if_icmp .gt 21, 3) := by decide +kernel
theorem dX6_isAhead_13 : decode cX6_isAhead 13 = .ok (.aload_n 0, 1) := by decide +kernel
theorem dX6_isAhead_14 : decode cX6_isAhead 14 = .ok (.iload_n 1, 1) := by decide +kernel
theorem dX6_isAhead_15 : decode cX6_isAhead 15 = .ok (.invokevirtual 42, 3) := by decide +kernel
theorem dX6_isAhead_18 : decode cX6_isAhead 18 = .ok (.aload_n 0, 1) := by decide +kernel
theorem dX6_isAhead_19 : decode cX6_isAhead 19 = .ok (.iload_n 2, 1) := by decide +kernel
theorem dX6_isAhead_20 : decode cX6_isAhead 20 = .ok (.invokevirtual 42, 3) := by decide +kernel
theorem dX6_isAhead_23 : decode cX6_isAhead 23 = .ok (.if_icmp .ne 12, 3) := by decide +kernel
theorem dX6_isAhead_26 : decode cX6_isAhead 26 = .ok (.iload_n 1, 1) := by decide +kernel
theorem dX6_isAhead_27 : decode cX6_isAhead 27 = .ok (.iload_n 2, 1) := by decide +kernel
theorem dX6_isAhead_28 : decode cX6_isAhead 28 = .ok (.if_icmp .ge 7, 3) := by decide +kernel
theorem dX6_isAhead_31 : decode cX6_isAhead 31 = .ok (.iconst 1, 1) := by decide +kernel
theorem dX6_isAhead_32 : decode cX6_isAhead 32 = .ok (.goto 4, 3) := by decide +kernel
theorem dX6_isAhead_35 : decode cX6_isAhead 35 = .ok (.iconst 0, 1) := by decide +kernel
theorem dX6_isAhead_36 : decode cX6_isAhead 36 = .ok (.ireturn, 1) := by decide +kernel
set_option maxRecDepth 20000 in
theorem ggX6_findQuotas_X6_men : GoodIn wsX6_findQuotas wsX6_men := goodIn_r _ [9, 2, 22, 23, 24, 25, 26, 27, 28, 29, 30, 31, 32, 33] (by decide +kernel) (by decide +kernel)
set_option maxRecDepth 20000 in
theorem gX6_findQuotas_X6_men : GoodIn wsX6_findQuotas (wsV RX6 46 RX6 yX6_men wsX6_men) := goodIn_app (goodIn_of _ (by decide +kernel)) ggX6_findQuotas_X6_men
set_option maxRecDepth 20000 in
theorem ggX6_findQuotas_X6_works : GoodIn wsX6_findQuotas wsX6_works := goodIn_r _ [13, 2, 22, 23, 24, 25, 26, 27, 28, 29, 30, 31, 32, 33] (by decide +kernel) (by decide +kernel)
set_option maxRecDepth 20000 in
theorem gX6_findQuotas_X6_works : GoodIn wsX6_findQuotas (wsV RX6 50 RX6 yX6_works wsX6_works) := goodIn_app (goodIn_of _ (by decide +kernel)) ggX6_findQuotas_X6_works
set_option maxRecDepth 20000 in
theorem ggX6_findQuotas_X6_isAhead : GoodIn wsX6_findQuotas wsX6_isAhead := goodIn_r _ [17, 18, 19, 20, 8, 21, 2, 22, 23, 24, 25, 26, 27, 28, 29, 30, 31, 32, 33] (by decide +kernel) (by decide +kernel)
set_option maxRecDepth 20000 in
theorem gX6_findQuotas_X6_isAhead : GoodIn wsX6_findQuotas (wsV RX6 54 RX6 yX6_isAhead wsX6_isAhead) := goodIn_app (goodIn_of _ (by decide +kernel)) ggX6_findQuotas_X6_isAhead
theorem dX6_findQuotas_0 : decode cX6_findQuotas 0 = .ok (.aload_n 0, 1) := by decide +kernel
theorem dX6_findQuotas_1 : decode cX6_findQuotas 1 = .ok (.invokevirtual 46, 3) := by decide +kernel
theorem dX6_findQuotas_4 : decode cX6_findQuotas 4 = .ok (.istore_n 1, 1) := by decide +kernel
theorem dX6_findQuotas_5 : decode cX6_findQuotas 5 = .ok (.iconst 0, 1) := by decide +kernel
theorem dX6_findQuotas_6 : decode cX6_findQuotas 6 = .ok (.istore_n 2, 1) := by decide +kernel
theorem dX6_findQuotas_7 : decode cX6_findQuotas 7 = .ok (.iload_n 2, 1) := by decide +kernel
theorem dX6_findQuotas_8 : decode cX6_findQuotas 8 = .ok (.bipush 6, 2) := by decide +kernel
theorem dX6_findQuotas_10 : decode cX6_findQuotas 10 = .ok (.if_icmp .ge 112, 3) := by decide +kernel
theorem dX6_findQuotas_13 : decode cX6_findQuotas 13 = .ok (.iconst 0, 1) := by decide +kernel
theorem dX6_findQuotas_14 : decode cX6_findQuotas 14 = .ok (.istore_n 3, 1) := by decide +kernel
theorem dX6_findQuotas_15 : decode cX6_findQuotas 15 = .ok (.iconst 0, 1) := by decide +kernel
theorem dX6_findQuotas_16 : decode cX6_findQuotas 16 = .ok (.istore 4, 2) := by decide +kernel
theorem dX6_findQuotas_18 : decode cX6_findQuotas 18 = .ok (.iload 4, 2) := by decide +kernel
theorem dX6_findQuotas_20 : decode cX6_findQuotas 20 = .ok (.bipush 6, 2) := by decide +kernel
theorem dX6_findQuotas_22 : decode cX6_findQuotas 22 = .ok (.if_icmp .ge 36, 3) := by decide +kernel
theorem dX6_findQuotas_25 : decode cX6_findQuotas 25 = .ok (.iload_n 3, 1) := by decide +kernel
theorem dX6_findQuotas_26 : decode cX6_findQuotas 26 = .ok (.aload_n 0, 1) := by decide +kernel
theorem dX6_findQuotas_27 : decode cX6_findQuotas 27 = .ok (.iload 4, 2) := by decide +kernel
theorem dX6_findQuotas_29 : decode cX6_findQuotas 29 = .ok (.invokevirtual 50, 3) := by decide +kernel
theorem dX6_findQuotas_32 : decode cX6_findQuotas 32 = .ok (.ifCond .eq 17, 3) := by decide +kernel
theorem dX6_findQuotas_35 : decode cX6_findQuotas 35 = .ok (.aload_n 0, 1) := by decide +kernel
theorem dX6_findQuotas_36 : decode cX6_findQuotas 36 = .ok (.iload 4, 2) := by decide +kernel
theorem dX6_findQuotas_38 : decode cX6_findQuotas 38 = .ok (.iload_n 2, 1) := by decide +kernel
theorem dX6_findQuotas_39 : decode cX6_findQuotas 39 = .ok (.invokevirtual 54, 3) := by decide +kernel
theorem dX6_findQuotas_42 : decode cX6_findQuotas 42 = .ok (.ifCond .eq 7, 3) := by decide +kernel
theorem dX6_findQuotas_45 : decode cX6_findQuotas 45 = .ok (.iconst 1, 1) := by decide +kernel
theorem dX6_findQuotas_46 : decode cX6_findQuotas 46 = .ok (.goto 4, 3) := by decide +kernel
theorem dX6_findQuotas_49 : decode cX6_findQuotas 49 = .ok (.iconst 0, 1) := by decide +kernel
theorem dX6_findQuotas_50 : decode cX6_findQuotas 50 = .ok (.iadd, 1) := by decide +kernel
theorem dX6_findQuotas_51 : decode cX6_findQuotas 51 = .ok (.istore_n 3, 1) := by decide +kernel
theorem dX6_findQuotas_52 : decode cX6_findQuotas 52 = .ok (.iinc 4 1, 3) := by decide +kernel
theorem dX6_findQuotas_55 : decode cX6_findQuotas 55 = .ok (.goto (-37), 3) := by decide +kernel
theorem dX6_findQuotas_58 : decode cX6_findQuotas 58 = .ok (.aload_n 0, 1) := by decide +kernel
theorem dX6_findQuotas_59 : decode cX6_findQuotas 59 = .ok (.getfield 22, 3) := by decide +kernel
theorem dX6_findQuotas_62 : decode cX6_findQuotas 62 = .ok (.iload_n 2, 1) := by decide +kernel
theorem dX6_findQuotas_63 : decode cX6_findQuotas 63 = .ok (.aload_n 0, 1) := by decide +kernel
theorem dX6_findQuotas_64 : decode cX6_findQuotas 64 = .ok (.iload_n 2, 1) := by decide +kernel
theorem dX6_findQuotas_65 : decode cX6_findQuotas 65 = .ok (.invokevirtual 50, 3) := by decide +kernel
theorem dX6_findQuotas_68 : decode cX6_findQuotas 68 = .ok (.ifCond .ne 7, 3) := by decide +kernel
theorem dX6_findQuotas_71 : decode cX6_findQuotas 71 = .ok (.iconst 0, 1) := by decide +kernel
theorem dX6_findQuotas_72 : decode cX6_findQuotas 72 = .ok (.goto 29, 3) := by decide +kernel
theorem dX6_findQuotas_75 : decode cX6_findQuotas 75 = .ok (.aload_n 0, 1) := by decide +kernel
theorem dX6_findQuotas_76 : decode cX6_findQuotas 76 = .ok (.getfield 7, 3) := by decide +kernel
theorem dX6_findQuotas_79 : decode cX6_findQuotas 79 = .ok (.iconst 0, 1) := by decide +kernel
theorem dX6_findQuotas_80 : decode cX6_findQuotas 80 = .ok (.iaload, 1) := by decide +kernel
theorem dX6_findQuotas_81 : decode cX6_findQuotas 81 = .ok (.iload_n 1, 1) := by decide +kernel
theorem dX6_findQuotas_82 : decode cX6_findQuotas 82 = .ok (.idiv, 1) := by decide +kernel
theorem dX6_findQuotas_83 : decode cX6_findQuotas 83 = .ok (.iload_n 3, 1) := by decide +kernel
theorem dX6_findQuotas_84 : decode cX6_findQuotas 84 = .ok (.aload_n 0, 1) := by decide +kernel
theorem dX6_findQuotas_85 : decode cX6_findQuotas 85 = .ok (.getfield 7, 3) := by decide +kernel
theorem dX6_findQuotas_88 : decode cX6_findQuotas 88 = .ok (.iconst 0, 1) := by decide +kernel
theorem dX6_findQuotas_89 : decode cX6_findQuotas 89 = .ok (.iaload, 1) := by decide +kernel
theorem dX6_findQuotas_90 : decode cX6_findQuotas 90 = .ok (.iload_n 1, 1) := by decide +kernel
theorem dX6_findQuotas_91 : decode cX6_findQuotas 91 = .ok (.irem, 1) := by decide +kernel
theorem dX6_findQuotas_92 : decode cX6_findQuotas 92 = .ok (.if_icmp .ge 7, 3) := by decide +kernel
theorem dX6_findQuotas_95 : decode cX6_findQuotas 95 = .ok (.iconst 1, 1) := by decide +kernel
theorem dX6_findQuotas_96 : decode cX6_findQuotas 96 = .ok (.goto 4, 3) := by decide +kernel
theorem dX6_findQuotas_99 : decode cX6_findQuotas 99 = .ok (.iconst 0, 1) := by decide +kernel
theorem dX6_findQuotas_100 : decode cX6_findQuotas 100 = .ok (.iadd, 1) := by decide +kernel
theorem dX6_findQuotas_101 : decode cX6_findQuotas 101 = .ok (.iastore, 1) := by decide +kernel
theorem dX6_findQuotas_102 : decode cX6_findQuotas 102 = .ok (.aload_n 0, 1) := by decide +kernel
theorem dX6_findQuotas_103 : decode cX6_findQuotas 103 = .ok (.getfield 25, 3) := by decide +kernel
theorem dX6_findQuotas_106 : decode cX6_findQuotas 106 = .ok (.iload_n 2, 1) := by decide +kernel
theorem dX6_findQuotas_107 : decode cX6_findQuotas 107 = .ok (.iconst 0, 1) := by decide +kernel
theorem dX6_findQuotas_108 : decode cX6_findQuotas 108 = .ok (.iastore, 1) := by decide +kernel
theorem dX6_findQuotas_109 : decode cX6_findQuotas 109 = .ok (.aload_n 0, 1) := by decide +kernel
theorem dX6_findQuotas_110 : decode cX6_findQuotas 110 = .ok (.getfield 28, 3) := by decide +kernel
theorem dX6_findQuotas_113 : decode cX6_findQuotas 113 = .ok (.iload_n 2, 1) := by decide +kernel
theorem dX6_findQuotas_114 : decode cX6_findQuotas 114 = .ok (.iconst 0, 1) := by decide +kernel
theorem dX6_findQuotas_115 : decode cX6_findQuotas 115 = .ok (.iastore, 1) := by decide +kernel
theorem dX6_findQuotas_116 : decode cX6_findQuotas 116 = .ok (.iinc 2 1, 3) := by decide +kernel
theorem dX6_findQuotas_119 : decode cX6_findQuotas 119 = .ok (.goto (-112), 3) := by decide +kernel
theorem dX6_findQuotas_122 : decode cX6_findQuotas 122 = .ok (.return_, 1) := by decide +kernel
theorem dX6_give_0 : decode cX6_give 0 = .ok (.aload_n 0, 1) := by decide +kernel
theorem dX6_give_1 : decode cX6_give 1 = .ok (.getfield 19, 3) := by decide +kernel
theorem dX6_give_4 : decode cX6_give 4 = .ok (.iload_n 1, 1) := by decide +kernel
theorem dX6_give_5 : decode cX6_give 5 = .ok (.iload_n 2, 1) := by decide +kernel
theorem dX6_give_6 : decode cX6_give 6 = .ok (.iastore, 1) := by decide +kernel
theorem dX6_give_7 : decode cX6_give 7 = .ok (.aload_n 0, 1) := by decide +kernel
theorem dX6_give_8 : decode cX6_give 8 = .ok (.getfield 25, 3) := by decide +kernel
theorem dX6_give_11 : decode cX6_give 11 = .ok (.iload_n 2, 1) := by decide +kernel
theorem dX6_give_12 : decode cX6_give 12 = .ok (.dup2, 1) := by decide +kernel
theorem dX6_give_13 : decode cX6_give 13 = .ok (.iaload, 1) := by decide +kernel
theorem dX6_give_14 : decode cX6_give 14 = .ok (.iconst 1, 1) := by decide +kernel
theorem dX6_give_15 : decode cX6_give 15 = .ok (.iadd, 1) := by decide +kernel
theorem dX6_give_16 : decode cX6_give 16 = .ok (.iastore, 1) := by decide +kernel
theorem dX6_give_17 : decode cX6_give 17 = .ok (.aload_n 0, 1) := by decide +kernel
theorem dX6_give_18 : decode cX6_give 18 = .ok (.getfield 28, 3) := by decide +kernel
theorem dX6_give_21 : decode cX6_give 21 = .ok (.iload_n 2, 1) := by decide +kernel
theorem dX6_give_22 : decode cX6_give 22 = .ok (.dup2, 1) := by decide +kernel
theorem dX6_give_23 : decode cX6_give 23 = .ok (.iaload, 1) := by decide +kernel
theorem dX6_give_24 : decode cX6_give 24 = .ok (.aload_n 0, 1) := by decide +kernel
theorem dX6_give_25 : decode cX6_give 25 = .ok (.getfield 7, 3) := by decide +kernel
theorem dX6_give_28 : decode cX6_give 28 = .ok (.iconst 1, 1) := by decide +kernel
theorem dX6_give_29 : decode cX6_give 29 = .ok (.iload_n 1, 1) := by decide +kernel
theorem dX6_give_30 : decode cX6_give 30 = .ok (.iadd, 1) := by decide +kernel
theorem dX6_give_31 : decode cX6_give 31 = .ok (.iaload, 1) := by decide +kernel
theorem dX6_give_32 : decode cX6_give 32 = .ok (.iadd, 1) := by decide +kernel
theorem dX6_give_33 : decode cX6_give 33 = .ok (.iastore, 1) := by decide +kernel
theorem dX6_give_34 : decode cX6_give 34 = .ok (.return_, 1) := by decide +kernel
theorem dX6_isDearer_0 : decode cX6_isDearer 0 = .ok (.aload_n 0, 1) := by decide +kernel
theorem dX6_isDearer_1 : decode cX6_isDearer 1 = .ok (.getfield 7, 3) := by decide +kernel
theorem dX6_isDearer_4 : decode cX6_isDearer 4 = .ok (.iconst 1, 1) := by decide +kernel
theorem dX6_isDearer_5 : decode cX6_isDearer 5 = .ok (.iload_n 1, 1) := by decide +kernel
theorem dX6_isDearer_6 : decode cX6_isDearer 6 = .ok (.iadd, 1) := by decide +kernel
theorem dX6_isDearer_7 : decode cX6_isDearer 7 = .ok (.iaload, 1) := by decide +kernel
theorem dX6_isDearer_8 : decode cX6_isDearer 8 = .ok (.aload_n 0, 1) := by decide +kernel
theorem dX6_isDearer_9 : decode cX6_isDearer 9 = .ok (.getfield 7, 3) := by decide +kernel
theorem dX6_isDearer_12 : decode cX6_isDearer 12 = .ok (.iconst 1, 1) := by decide +kernel
theorem dX6_isDearer_13 : decode cX6_isDearer 13 = .ok (.iload_n 2, 1) := by decide +kernel
theorem dX6_isDearer_14 : decode cX6_isDearer 14 = .ok (.iadd, 1) := by decide +kernel
theorem dX6_isDearer_15 : decode cX6_isDearer 15 = .ok (.iaload, 1) := by decide +kernel
theorem dX6_isDearer_16 : decode cX6_isDearer 16 = .ok (.if_icmp .gt 27, 3) := by decide +kernel
theorem dX6_isDearer_19 : decode cX6_isDearer 19 = .ok (.aload_n 0, 1) := by decide +kernel
theorem dX6_isDearer_20 : decode cX6_isDearer 20 = .ok (.getfield 7, 3) := by decide +kernel
theorem dX6_isDearer_23 : decode cX6_isDearer 23 = .ok (.iconst 1, 1) := by decide +kernel
theorem dX6_isDearer_24 : decode cX6_isDearer 24 = .ok (.iload_n 1, 1) := by decide +kernel
theorem dX6_isDearer_25 : decode cX6_isDearer 25 = .ok (.iadd, 1) := by decide +kernel
theorem dX6_isDearer_26 : decode cX6_isDearer 26 = .ok (.iaload, 1) := by decide +kernel
theorem dX6_isDearer_27 : decode cX6_isDearer 27 = .ok (.aload_n 0, 1) := by decide +kernel
theorem dX6_isDearer_28 : decode cX6_isDearer 28 = .ok (.getfield 7, 3) := by decide +kernel
theorem dX6_isDearer_31 : decode cX6_isDearer 31 = .ok (.iconst 1, 1) := by decide +kernel
theorem dX6_isDearer_32 : decode cX6_isDearer 32 = .ok (.iload_n 2, 1) := by decide +kernel
theorem dX6_isDearer_33 : decode cX6_isDearer 33 = .ok (.iadd, 1) := by decide +kernel
theorem dX6_isDearer_34 : decode cX6_isDearer 34 = .ok (.iaload, 1) := by decide +kernel
theorem dX6_isDearer_35 : decode cX6_isDearer 35 = .ok (.if_icmp .ne 12, 3) := by decide +kernel
theorem dX6_isDearer_38 : decode cX6_isDearer 38 = .ok (.iload_n 1, 1) := by decide +kernel
theorem dX6_isDearer_39 : decode cX6_isDearer 39 = .ok (.iload_n 2, 1) := by decide +kernel
theorem dX6_isDearer_40 : decode cX6_isDearer 40 = .ok (.if_icmp .ge 7, 3) := by decide +kernel
theorem dX6_isDearer_43 : decode cX6_isDearer 43 = .ok (.iconst 1, 1) := by decide +kernel
theorem dX6_isDearer_44 : decode cX6_isDearer 44 = .ok (.goto 4, 3) := by decide +kernel
theorem dX6_isDearer_47 : decode cX6_isDearer 47 = .ok (.iconst 0, 1) := by decide +kernel
theorem dX6_isDearer_48 : decode cX6_isDearer 48 = .ok (.ireturn, 1) := by decide +kernel
set_option maxRecDepth 20000 in
theorem ggX6_keepOwn_X6_isDearer : GoodIn wsX6_keepOwn wsX6_isDearer := goodIn_r _ [8, 1, 15, 16, 17, 18, 19, 20, 21, 22, 23, 24, 25, 26] (by decide +kernel) (by decide +kernel)
set_option maxRecDepth 20000 in
theorem gX6_keepOwn_X6_isDearer : GoodIn wsX6_keepOwn (wsV RX6 58 RX6 yX6_isDearer wsX6_isDearer) := goodIn_app (goodIn_of _ (by decide +kernel)) ggX6_keepOwn_X6_isDearer
set_option maxRecDepth 20000 in
theorem ggX6_keepOwn_X6_give : GoodIn wsX6_keepOwn wsX6_give := goodIn_r _ [12, 2, 13, 14, 1, 15, 16, 17, 18, 19, 20, 21, 22, 23, 24, 25, 26] (by decide +kernel) (by decide +kernel)
set_option maxRecDepth 20000 in
theorem gX6_keepOwn_X6_give : GoodIn wsX6_keepOwn (wsV RX6 61 RX6 yX6_give wsX6_give) := goodIn_app (goodIn_of _ (by decide +kernel)) ggX6_keepOwn_X6_give
theorem dX6_keepOwn_0 : decode cX6_keepOwn 0 = .ok (.iconst 0, 1) := by decide +kernel
theorem dX6_keepOwn_1 : decode cX6_keepOwn 1 = .ok (.istore_n 1, 1) := by decide +kernel
theorem dX6_keepOwn_2 : decode cX6_keepOwn 2 = .ok (.iload_n 1, 1) := by decide +kernel
theorem dX6_keepOwn_3 : decode cX6_keepOwn 3 = .ok (.aload_n 0, 1) := by decide +kernel
theorem dX6_keepOwn_4 : decode cX6_keepOwn 4 = .ok (.getfield 7, 3) := by decide +kernel
theorem dX6_keepOwn_7 : decode cX6_keepOwn 7 = .ok (.iconst 0, 1) := by decide +kernel
theorem dX6_keepOwn_8 : decode cX6_keepOwn 8 = .ok (.iaload, 1) := by decide +kernel
theorem dX6_keepOwn_9 : decode cX6_keepOwn 9 = .ok (.if_icmp .ge 100, 3) := by decide +kernel
theorem dX6_keepOwn_12 : decode cX6_keepOwn 12 = .ok (.aload_n 0, 1) := by decide +kernel
theorem dX6_keepOwn_13 : decode cX6_keepOwn 13 = .ok (.getfield 7, 3) := by decide +kernel
theorem dX6_keepOwn_16 : decode cX6_keepOwn 16 = .ok (.bipush 21, 2) := by decide +kernel
theorem dX6_keepOwn_18 : decode cX6_keepOwn 18 = .ok (.iload_n 1, 1) := by decide +kernel
theorem dX6_keepOwn_19 : decode cX6_keepOwn 19 = .ok (.iadd, 1) := by decide +kernel
theorem dX6_keepOwn_20 : decode cX6_keepOwn 20 = .ok (.iaload, 1) := by decide +kernel
theorem dX6_keepOwn_21 : decode cX6_keepOwn 21 = .ok (.istore_n 2, 1) := by decide +kernel
theorem dX6_keepOwn_22 : decode cX6_keepOwn 22 = .ok (.aload_n 0, 1) := by decide +kernel
theorem dX6_keepOwn_23 : decode cX6_keepOwn 23 = .ok (.getfield 19, 3) := by decide +kernel
theorem dX6_keepOwn_26 : decode cX6_keepOwn 26 = .ok (.iload_n 1, 1) := by decide +kernel
theorem dX6_keepOwn_27 : decode cX6_keepOwn 27 = .ok (.iconst (-1), 1) := by decide +kernel
theorem dX6_keepOwn_28 : decode cX6_keepOwn 28 = .ok (.iastore, 1) := by decide +kernel
theorem dX6_keepOwn_29 : decode cX6_keepOwn 29 = .ok (.iload_n 2, 1) := by decide +kernel
theorem dX6_keepOwn_30 : decode cX6_keepOwn 30 = .ok (.ifCond .lt 73, 3) := by decide +kernel
theorem dX6_keepOwn_33 : decode cX6_keepOwn 33 = .ok (.iconst 0, 1) := by decide +kernel
theorem dX6_keepOwn_34 : decode cX6_keepOwn 34 = .ok (.istore_n 3, 1) := by decide +kernel
theorem dX6_keepOwn_35 : decode cX6_keepOwn 35 = .ok (.iconst 0, 1) := by decide +kernel
theorem dX6_keepOwn_36 : decode cX6_keepOwn 36 = .ok (.istore 4, 2) := by decide +kernel
theorem dX6_keepOwn_38 : decode cX6_keepOwn 38 = .ok (.iload 4, 2) := by decide +kernel
theorem dX6_keepOwn_40 : decode cX6_keepOwn 40 = .ok (.aload_n 0, 1) := by decide +kernel
theorem dX6_keepOwn_41 : decode cX6_keepOwn 41 = .ok (.getfield 7, 3) := by decide +kernel
theorem dX6_keepOwn_44 : decode cX6_keepOwn 44 = .ok (.iconst 0, 1) := by decide +kernel
theorem dX6_keepOwn_45 : decode cX6_keepOwn 45 = .ok (.iaload, 1) := by decide +kernel
theorem dX6_keepOwn_46 : decode cX6_keepOwn 46 = .ok (.if_icmp .ge 41, 3) := by decide +kernel
theorem dX6_keepOwn_49 : decode cX6_keepOwn 49 = .ok (.iload_n 3, 1) := by decide +kernel
theorem dX6_keepOwn_50 : decode cX6_keepOwn 50 = .ok (.aload_n 0, 1) := by decide +kernel
theorem dX6_keepOwn_51 : decode cX6_keepOwn 51 = .ok (.getfield 7, 3) := by decide +kernel
theorem dX6_keepOwn_54 : decode cX6_keepOwn 54 = .ok (.bipush 21, 2) := by decide +kernel
theorem dX6_keepOwn_56 : decode cX6_keepOwn 56 = .ok (.iload 4, 2) := by decide +kernel
theorem dX6_keepOwn_58 : decode cX6_keepOwn 58 = .ok (.iadd, 1) := by decide +kernel
theorem dX6_keepOwn_59 : decode cX6_keepOwn 59 = .ok (.iaload, 1) := by decide +kernel
theorem dX6_keepOwn_60 : decode cX6_keepOwn 60 = .ok (.iload_n 2, 1) := by decide +kernel
theorem dX6_keepOwn_61 : decode cX6_keepOwn 61 = .ok (.if_icmp .ne 17, 3) := by decide +kernel
theorem dX6_keepOwn_64 : decode cX6_keepOwn 64 = .ok (.aload_n 0, 1) := by decide +kernel
theorem dX6_keepOwn_65 : decode cX6_keepOwn 65 = .ok (.iload 4, 2) := by decide +kernel
theorem dX6_keepOwn_67 : decode cX6_keepOwn 67 = .ok (.iload_n 1, 1) := by decide +kernel
theorem dX6_keepOwn_68 : decode cX6_keepOwn 68 = .ok (.invokevirtual 58, 3) := by decide +kernel
theorem dX6_keepOwn_71 : decode cX6_keepOwn 71 = .ok (.ifCond .eq 7, 3) := by decide +kernel
theorem dX6_keepOwn_74 : decode cX6_keepOwn 74 = .ok (.iconst 1, 1) := by decide +kernel
theorem dX6_keepOwn_75 : decode cX6_keepOwn 75 = .ok (.goto 4, 3) := by decide +kernel
theorem dX6_keepOwn_78 : decode cX6_keepOwn 78 = .ok (.iconst 0, 1) := by decide +kernel
theorem dX6_keepOwn_79 : decode cX6_keepOwn 79 = .ok (.iadd, 1) := by decide +kernel
theorem dX6_keepOwn_80 : decode cX6_keepOwn 80 = .ok (.istore_n 3, 1) := by decide +kernel
theorem dX6_keepOwn_81 : decode cX6_keepOwn 81 = .ok (.iinc 4 1, 3) := by decide +kernel
theorem dX6_keepOwn_84 : decode cX6_keepOwn 84 = .ok (.goto (-46), 3) := by decide +kernel
theorem dX6_keepOwn_87 : decode cX6_keepOwn 87 = .ok (.iload_n 3, 1) := by decide +kernel
theorem dX6_keepOwn_88 : decode cX6_keepOwn 88 = .ok (.aload_n 0, 1) := by decide +kernel
theorem dX6_keepOwn_89 : decode cX6_keepOwn 89 = .ok (.getfield 22, 3) := by decide +kernel
theorem dX6_keepOwn_92 : decode cX6_keepOwn 92 = .ok (.iload_n 2, 1) := by decide +kernel
theorem dX6_keepOwn_93 : decode cX6_keepOwn 93 = .ok (.iaload, 1) := by decide +kernel
theorem dX6_keepOwn_94 : decode cX6_keepOwn 94 = .ok (.if_icmp .ge 9, 3) := by decide +kernel
theorem dX6_keepOwn_97 : decode cX6_keepOwn 97 = .ok (.aload_n 0, 1) := by decide +kernel
theorem dX6_keepOwn_98 : decode cX6_keepOwn 98 = .ok (.iload_n 1, 1) := by decide +kernel
theorem dX6_keepOwn_99 : decode cX6_keepOwn 99 = .ok (.iload_n 2, 1) := by decide +kernel
theorem dX6_keepOwn_100 : decode cX6_keepOwn 100 = .ok (.invokevirtual 61, 3) := by decide +kernel
theorem dX6_keepOwn_103 : decode cX6_keepOwn 103 = .ok (.iinc 1 1, 3) := by decide +kernel
theorem dX6_keepOwn_106 : decode cX6_keepOwn 106 = .ok (.goto (-104), 3) := by decide +kernel
theorem dX6_keepOwn_109 : decode cX6_keepOwn 109 = .ok (.return_, 1) := by decide +kernel
set_option maxRecDepth 20000 in
theorem ggX6_nextDoor_X6_isDearer : GoodIn wsX6_nextDoor wsX6_isDearer := goodIn_r _ [7, 1, 8, 9, 10, 11, 12, 13, 14, 15, 16, 17, 18, 19] (by decide +kernel) (by decide +kernel)
set_option maxRecDepth 20000 in
theorem gX6_nextDoor_X6_isDearer : GoodIn wsX6_nextDoor (wsV RX6 58 RX6 yX6_isDearer wsX6_isDearer) := goodIn_app (goodIn_of _ (by decide +kernel)) ggX6_nextDoor_X6_isDearer
theorem dX6_nextDoor_0 : decode cX6_nextDoor 0 = .ok (.iconst (-1), 1) := by decide +kernel
theorem dX6_nextDoor_1 : decode cX6_nextDoor 1 = .ok (.istore_n 1, 1) := by decide +kernel
theorem dX6_nextDoor_2 : decode cX6_nextDoor 2 = .ok (.iconst 0, 1) := by decide +kernel
theorem dX6_nextDoor_3 : decode cX6_nextDoor 3 = .ok (.istore_n 2, 1) := by decide +kernel
theorem dX6_nextDoor_4 : decode cX6_nextDoor 4 = .ok (.iload_n 2, 1) := by decide +kernel
theorem dX6_nextDoor_5 : decode cX6_nextDoor 5 = .ok (.aload_n 0, 1) := by decide +kernel
theorem dX6_nextDoor_6 : decode cX6_nextDoor 6 = .ok (.getfield 7, 3) := by decide +kernel
theorem dX6_nextDoor_9 : decode cX6_nextDoor 9 = .ok (.iconst 0, 1) := by decide +kernel
theorem dX6_nextDoor_10 : decode cX6_nextDoor 10 = .ok (.iaload, 1) := by decide +kernel
theorem dX6_nextDoor_11 : decode cX6_nextDoor 11 = .ok (.if_icmp .ge 37, 3) := by decide +kernel
theorem dX6_nextDoor_14 : decode cX6_nextDoor 14 = .ok (.aload_n 0, 1) := by decide +kernel
theorem dX6_nextDoor_15 : decode cX6_nextDoor 15 = .ok (.getfield 19, 3) := by decide +kernel
theorem dX6_nextDoor_18 : decode cX6_nextDoor 18 = .ok (.iload_n 2, 1) := by decide +kernel
theorem dX6_nextDoor_19 : decode cX6_nextDoor 19 = .ok (.iaload, 1) := by decide +kernel
theorem dX6_nextDoor_20 : decode cX6_nextDoor 20 = .ok (.ifCond .ge 20, 3) := by decide +kernel
theorem dX6_nextDoor_23 : decode cX6_nextDoor 23 = .ok (.iload_n 1, 1) := by decide +kernel
theorem dX6_nextDoor_24 : decode cX6_nextDoor 24 = .ok (.ifCond .lt 12, 3) := by decide +kernel
theorem dX6_nextDoor_27 : decode cX6_nextDoor 27 = .ok (.aload_n 0, 1) := by decide +kernel
theorem dX6_nextDoor_28 : decode cX6_nextDoor 28 = .ok (.iload_n 2, 1) := by decide +kernel
theorem dX6_nextDoor_29 : decode cX6_nextDoor 29 = .ok (.iload_n 1, 1) := by decide +kernel
theorem dX6_nextDoor_30 : decode cX6_nextDoor 30 = .ok (.invokevirtual 58, 3) := by decide +kernel
theorem dX6_nextDoor_33 : decode cX6_nextDoor 33 = .ok (.ifCond .eq 7, 3) := by decide +kernel
theorem dX6_nextDoor_36 : decode cX6_nextDoor 36 = .ok (.iload_n 2, 1) := by decide +kernel
theorem dX6_nextDoor_37 : decode cX6_nextDoor 37 = .ok (.goto 4, 3) := by decide +kernel
theorem dX6_nextDoor_40 : decode cX6_nextDoor 40 = .ok (.iload_n 1, 1) := by decide +kernel
theorem dX6_nextDoor_41 : decode cX6_nextDoor 41 = .ok (.istore_n 1, 1) := by decide +kernel
theorem dX6_nextDoor_42 : decode cX6_nextDoor 42 = .ok (.iinc 2 1, 3) := by decide +kernel
theorem dX6_nextDoor_45 : decode cX6_nextDoor 45 = .ok (.goto (-41), 3) := by decide +kernel
theorem dX6_nextDoor_48 : decode cX6_nextDoor 48 = .ok (.iload_n 1, 1) := by decide +kernel
theorem dX6_nextDoor_49 : decode cX6_nextDoor 49 = .ok (.ireturn, 1) := by decide +kernel
theorem dX6_nextMan_0 : decode cX6_nextMan 0 = .ok (.iconst (-1), 1) := by decide +kernel
theorem dX6_nextMan_1 : decode cX6_nextMan 1 = .ok (.istore_n 1, 1) := by decide +kernel
theorem dX6_nextMan_2 : decode cX6_nextMan 2 = .ok (.iconst 0, 1) := by decide +kernel
theorem dX6_nextMan_3 : decode cX6_nextMan 3 = .ok (.istore_n 2, 1) := by decide +kernel
theorem dX6_nextMan_4 : decode cX6_nextMan 4 = .ok (.iload_n 2, 1) := by decide +kernel
theorem dX6_nextMan_5 : decode cX6_nextMan 5 = .ok (.bipush 6, 2) := by decide +kernel
theorem dX6_nextMan_7 : decode cX6_nextMan 7 = .ok (.if_icmp .ge 49, 3) := by decide +kernel
theorem dX6_nextMan_10 : decode cX6_nextMan 10 = .ok (.aload_n 0, 1) := by decide +kernel
theorem dX6_nextMan_11 : decode cX6_nextMan 11 = .ok (.getfield 25, 3) := by decide +kernel
theorem dX6_nextMan_14 : decode cX6_nextMan 14 = .ok (.iload_n 2, 1) := by decide +kernel
theorem dX6_nextMan_15 : decode cX6_nextMan 15 = .ok (.iaload, 1) := by decide +kernel
theorem dX6_nextMan_16 : decode cX6_nextMan 16 = .ok (.aload_n 0, 1) := by decide +kernel
theorem dX6_nextMan_17 : decode cX6_nextMan 17 = .ok (.getfield 22, 3) := by decide +kernel
theorem dX6_nextMan_20 : decode cX6_nextMan 20 = .ok (.iload_n 2, 1) := by decide +kernel
theorem dX6_nextMan_21 : decode cX6_nextMan 21 = .ok (.iaload, 1) := by decide +kernel
theorem dX6_nextMan_22 : decode cX6_nextMan 22 = .ok (.if_icmp .ge 26, 3) := by decide +kernel
theorem dX6_nextMan_25 : decode cX6_nextMan 25 = .ok (.iload_n 1, 1) := by decide +kernel
theorem dX6_nextMan_26 : decode cX6_nextMan 26 = .ok (.ifCond .lt 18, 3) := by decide +kernel
theorem dX6_nextMan_29 : decode cX6_nextMan 29 = .ok (.aload_n 0, 1) := by decide +kernel
theorem dX6_nextMan_30 : decode cX6_nextMan 30 = .ok (.getfield 28, 3) := by decide +kernel
theorem dX6_nextMan_33 : decode cX6_nextMan 33 = .ok (.iload_n 2, 1) := by decide +kernel
theorem dX6_nextMan_34 : decode cX6_nextMan 34 = .ok (.iaload, 1) := by decide +kernel
theorem dX6_nextMan_35 : decode cX6_nextMan 35 = .ok (.aload_n 0, 1) := by decide +kernel
theorem dX6_nextMan_36 : decode cX6_nextMan 36 = .ok (.getfield 28, 3) := by decide +kernel
theorem dX6_nextMan_39 : decode cX6_nextMan 39 = .ok (.iload_n 1, 1) := by decide +kernel
theorem dX6_nextMan_40 : decode cX6_nextMan 40 = .ok (.iaload, 1) := by decide +kernel
theorem dX6_nextMan_41 : decode cX6_nextMan 41 = .ok (.if_icmp .ge 7, 3) := by decide +kernel
theorem dX6_nextMan_44 : decode cX6_nextMan 44 = .ok (.iload_n 2, 1) := by decide +kernel
theorem dX6_nextMan_45 : decode cX6_nextMan 45 = .ok (.goto 4, 3) := by decide +kernel
theorem dX6_nextMan_48 : decode cX6_nextMan 48 = .ok (.iload_n 1, 1) := by decide +kernel
theorem dX6_nextMan_49 : decode cX6_nextMan 49 = .ok (.istore_n 1, 1) := by decide +kernel
theorem dX6_nextMan_50 : decode cX6_nextMan 50 = .ok (.iinc 2 1, 3) := by decide +kernel
theorem dX6_nextMan_53 : decode cX6_nextMan 53 = .ok (.goto (-49), 3) := by decide +kernel
theorem dX6_nextMan_56 : decode cX6_nextMan 56 = .ok (.iload_n 1, 1) := by decide +kernel
theorem dX6_nextMan_57 : decode cX6_nextMan 57 = .ok (.ireturn, 1) := by decide +kernel
set_option maxRecDepth 20000 in
theorem ggX6_share_X6_men : GoodIn wsX6_share wsX6_men := goodIn_r _ [7, 1, 47, 48, 49, 50, 51, 52, 53, 54, 55, 56, 57, 58] (by decide +kernel) (by decide +kernel)
set_option maxRecDepth 20000 in
theorem gX6_share_X6_men : GoodIn wsX6_share (wsV RX6 46 RX6 yX6_men wsX6_men) := goodIn_app (goodIn_of _ (by decide +kernel)) ggX6_share_X6_men
set_option maxRecDepth 20000 in
theorem ggX6_share_X6_findQuotas : GoodIn wsX6_share wsX6_findQuotas := goodIn_r _ [11, 12, 1, 13, 14, 3, 4, 5, 6, 7, 15, 16, 17, 18, 19, 20, 21, 22, 23, 24, 25, 26, 47, 48, 49, 50, 51, 52, 53, 54, 55, 56, 57, 58] (by decide +kernel) (by decide +kernel)
set_option maxRecDepth 20000 in
theorem gX6_share_X6_findQuotas : GoodIn wsX6_share (wsV RX6 65 RX6 yX6_findQuotas wsX6_findQuotas) := goodIn_app (goodIn_of _ (by decide +kernel)) ggX6_share_X6_findQuotas
set_option maxRecDepth 20000 in
theorem ggX6_share_X6_keepOwn : GoodIn wsX6_share wsX6_keepOwn := goodIn_r _ [30, 1, 2, 12, 31, 32, 33, 6, 34, 35, 36, 37, 38, 13, 14, 47, 48, 49, 50, 51, 52, 53, 54, 55, 56, 57, 58] (by decide +kernel) (by decide +kernel)
set_option maxRecDepth 20000 in
theorem gX6_share_X6_keepOwn : GoodIn wsX6_share (wsV RX6 68 RX6 yX6_keepOwn wsX6_keepOwn) := goodIn_app (goodIn_of _ (by decide +kernel)) ggX6_share_X6_keepOwn
set_option maxRecDepth 20000 in
theorem ggX6_share_X6_nextDoor : GoodIn wsX6_share wsX6_nextDoor := goodIn_r _ [42, 1, 2, 31, 32, 33, 6, 34, 47, 48, 49, 50, 51, 52, 53, 54, 55, 56, 57, 58] (by decide +kernel) (by decide +kernel)
set_option maxRecDepth 20000 in
theorem gX6_share_X6_nextDoor : GoodIn wsX6_share (wsV RX6 71 RX6 yX6_nextDoor wsX6_nextDoor) := goodIn_app (goodIn_of _ (by decide +kernel)) ggX6_share_X6_nextDoor
set_option maxRecDepth 20000 in
theorem ggX6_share_X6_nextMan : GoodIn wsX6_share wsX6_nextMan := goodIn_r _ [46, 13, 12, 14, 47, 48, 49, 50, 51, 52, 53, 54, 55, 56, 57, 58] (by decide +kernel) (by decide +kernel)
set_option maxRecDepth 20000 in
theorem gX6_share_X6_nextMan : GoodIn wsX6_share (wsV RX6 74 RX6 yX6_nextMan wsX6_nextMan) := goodIn_app (goodIn_of _ (by decide +kernel)) ggX6_share_X6_nextMan
set_option maxRecDepth 20000 in
theorem ggX6_share_X6_give : GoodIn wsX6_share wsX6_give := goodIn_r _ [38, 2, 13, 14, 1, 47, 48, 49, 50, 51, 52, 53, 54, 55, 56, 57, 58] (by decide +kernel) (by decide +kernel)
set_option maxRecDepth 20000 in
theorem gX6_share_X6_give : GoodIn wsX6_share (wsV RX6 61 RX6 yX6_give wsX6_give) := goodIn_app (goodIn_of _ (by decide +kernel)) ggX6_share_X6_give
theorem dX6_share_0 : decode cX6_share 0 = .ok (.aload_n 0, 1) := by decide +kernel
theorem dX6_share_1 : decode cX6_share 1 = .ok (.invokevirtual 46, 3) := by decide +kernel
theorem dX6_share_4 : decode cX6_share 4 = .ok (.ifCond .ne 30, 3) := by decide +kernel
theorem dX6_share_7 : decode cX6_share 7 = .ok (.iconst 0, 1) := by decide +kernel
theorem dX6_share_8 : decode cX6_share 8 = .ok (.istore_n 1, 1) := by decide +kernel
theorem dX6_share_9 : decode cX6_share 9 = .ok (.iload_n 1, 1) := by decide +kernel
theorem dX6_share_10 : decode cX6_share 10 = .ok (.aload_n 0, 1) := by decide +kernel
theorem dX6_share_11 : decode cX6_share 11 = .ok (.getfield 7, 3) := by decide +kernel
theorem dX6_share_14 : decode cX6_share 14 = .ok (.iconst 0, 1) := by decide +kernel
theorem dX6_share_15 : decode cX6_share 15 = .ok (.iaload, 1) := by decide +kernel
theorem dX6_share_16 : decode cX6_share 16 = .ok (.if_icmp .ge 16, 3) := by decide +kernel
theorem dX6_share_19 : decode cX6_share 19 = .ok (.aload_n 0, 1) := by decide +kernel
theorem dX6_share_20 : decode cX6_share 20 = .ok (.getfield 19, 3) := by decide +kernel
theorem dX6_share_23 : decode cX6_share 23 = .ok (.iload_n 1, 1) := by decide +kernel
theorem dX6_share_24 : decode cX6_share 24 = .ok (.iconst (-1), 1) := by decide +kernel
theorem dX6_share_25 : decode cX6_share 25 = .ok (.iastore, 1) := by decide +kernel
theorem dX6_share_26 : decode cX6_share 26 = .ok (.iinc 1 1, 3) := by decide +kernel
theorem dX6_share_29 : decode cX6_share 29 = .ok (.goto (-20), 3) := by decide +kernel
theorem dX6_share_32 : decode cX6_share 32 = .ok (.iconst (-1), 1) := by decide +kernel
theorem dX6_share_33 : decode cX6_share 33 = .ok (.ireturn, 1) := by decide +kernel
theorem dX6_share_34 : decode cX6_share 34 = .ok (.aload_n 0, 1) := by decide +kernel
theorem dX6_share_35 : decode cX6_share 35 = .ok (.invokevirtual 65, 3) := by decide +kernel
theorem dX6_share_38 : decode cX6_share 38 = .ok (.aload_n 0, 1) := by decide +kernel
theorem dX6_share_39 : decode cX6_share 39 = .ok (.invokevirtual 68, 3) := by decide +kernel
theorem dX6_share_42 : decode cX6_share 42 = .ok (.aload_n 0, 1) := by decide +kernel
theorem dX6_share_43 : decode cX6_share 43 = .ok (.invokevirtual 71, 3) := by decide +kernel
theorem dX6_share_46 : decode cX6_share 46 = .ok (.istore_n 1, 1) := by decide +kernel
theorem dX6_share_47 : decode cX6_share 47 = .ok (.iload_n 1, 1) := by decide +kernel
theorem dX6_share_48 : decode cX6_share 48 = .ok (.ifCond .lt 20, 3) := by decide +kernel
theorem dX6_share_51 : decode cX6_share 51 = .ok (.aload_n 0, 1) := by decide +kernel
theorem dX6_share_52 : decode cX6_share 52 = .ok (.iload_n 1, 1) := by decide +kernel
theorem dX6_share_53 : decode cX6_share 53 = .ok (.aload_n 0, 1) := by decide +kernel
theorem dX6_share_54 : decode cX6_share 54 = .ok (.invokevirtual 74, 3) := by decide +kernel
theorem dX6_share_57 : decode cX6_share 57 = .ok (.invokevirtual 61, 3) := by decide +kernel
theorem dX6_share_60 : decode cX6_share 60 = .ok (.aload_n 0, 1) := by decide +kernel
theorem dX6_share_61 : decode cX6_share 61 = .ok (.invokevirtual 71, 3) := by decide +kernel
theorem dX6_share_64 : decode cX6_share 64 = .ok (.istore_n 1, 1) := by decide +kernel
theorem dX6_share_65 : decode cX6_share 65 = .ok (.goto (-18), 3) := by decide +kernel
theorem dX6_share_68 : decode cX6_share 68 = .ok (.iconst 0, 1) := by decide +kernel
theorem dX6_share_69 : decode cX6_share 69 = .ok (.istore_n 2, 1) := by decide +kernel
theorem dX6_share_70 : decode cX6_share 70 = .ok (.iconst 0, 1) := by decide +kernel
theorem dX6_share_71 : decode cX6_share 71 = .ok (.istore_n 3, 1) := by decide +kernel
theorem dX6_share_72 : decode cX6_share 72 = .ok (.iload_n 3, 1) := by decide +kernel
theorem dX6_share_73 : decode cX6_share 73 = .ok (.aload_n 0, 1) := by decide +kernel
theorem dX6_share_74 : decode cX6_share 74 = .ok (.getfield 7, 3) := by decide +kernel
theorem dX6_share_77 : decode cX6_share 77 = .ok (.iconst 0, 1) := by decide +kernel
theorem dX6_share_78 : decode cX6_share 78 = .ok (.iaload, 1) := by decide +kernel
theorem dX6_share_79 : decode cX6_share 79 = .ok (.if_icmp .ge 35, 3) := by decide +kernel
theorem dX6_share_82 : decode cX6_share 82 = .ok (.iload_n 2, 1) := by decide +kernel
theorem dX6_share_83 : decode cX6_share 83 = .ok (.aload_n 0, 1) := by decide +kernel
theorem dX6_share_84 : decode cX6_share 84 = .ok (.getfield 19, 3) := by decide +kernel
theorem dX6_share_87 : decode cX6_share 87 = .ok (.iload_n 3, 1) := by decide +kernel
theorem dX6_share_88 : decode cX6_share 88 = .ok (.iaload, 1) := by decide +kernel
theorem dX6_share_89 : decode cX6_share 89 = .ok (.aload_n 0, 1) := by decide +kernel
theorem dX6_share_90 : decode cX6_share 90 = .ok (.getfield 7, 3) := by decide +kernel
theorem dX6_share_93 : decode cX6_share 93 = .ok (.bipush 21, 2) := by decide +kernel
theorem dX6_share_95 : decode cX6_share 95 = .ok (.iload_n 3, 1) := by decide +kernel
theorem dX6_share_96 : decode cX6_share 96 = .ok (.iadd, 1) := by decide +kernel
theorem dX6_share_97 : decode cX6_share 97 = .ok (.iaload, 1) := by decide +kernel
theorem dX6_share_98 : decode cX6_share 98 = .ok (.if_icmp .eq 7, 3) := by decide +kernel
theorem dX6_share_101 : decode cX6_share 101 = .ok (.iconst 1, 1) := by decide +kernel
theorem dX6_share_102 : decode cX6_share 102 = .ok (.goto 4, 3) := by decide +kernel
theorem dX6_share_105 : decode cX6_share 105 = .ok (.iconst 0, 1) := by decide +kernel
theorem dX6_share_106 : decode cX6_share 106 = .ok (.iadd, 1) := by decide +kernel
theorem dX6_share_107 : decode cX6_share 107 = .ok (.istore_n 2, 1) := by decide +kernel
theorem dX6_share_108 : decode cX6_share 108 = .ok (.iinc 3 1, 3) := by decide +kernel
theorem dX6_share_111 : decode cX6_share 111 = .ok (.goto (-39), 3) := by decide +kernel
theorem dX6_share_114 : decode cX6_share 114 = .ok (.iload_n 2, 1) := by decide +kernel
theorem dX6_share_115 : decode cX6_share 115 = .ok (.ireturn, 1) := by decide +kernel
set_option maxRecDepth 20000 in
theorem ggX6_noAdd_X6_in : GoodIn wsX6_noAdd wsX6_in := goodIn_r _ [5] (by decide +kernel) (by decide +kernel)
set_option maxRecDepth 20000 in
theorem gX6_noAdd_X6_in : GoodIn wsX6_noAdd (va_wsS RX6 35 yX6_in wsX6_in) := goodIn_app (goodIn_of _ (by decide +kernel)) ggX6_noAdd_X6_in
theorem dX6_noAdd_0 : decode cX6_noAdd 0 = .ok (.iload_n 1, 1) := by decide +kernel
theorem dX6_noAdd_1 : decode cX6_noAdd 1 = .ok (.iconst 1, 1) := by decide +kernel
theorem dX6_noAdd_2 : decode cX6_noAdd 2 = .ok (.bipush 9, 2) := by decide +kernel
theorem dX6_noAdd_4 : decode cX6_noAdd 4 = .ok (.invokestatic 35, 3) := by decide +kernel
theorem dX6_noAdd_7 : decode cX6_noAdd 7 = .ok (.ifCond .ne 7, 3) := by decide +kernel
theorem dX6_noAdd_10 : decode cX6_noAdd 10 = .ok (.iconst 1, 1) := by decide +kernel
theorem dX6_noAdd_11 : decode cX6_noAdd 11 = .ok (.goto 29, 3) := by decide +kernel
theorem dX6_noAdd_14 : decode cX6_noAdd 14 = .ok (.aload_n 0, 1) := by decide +kernel
theorem dX6_noAdd_15 : decode cX6_noAdd 15 = .ok (.getfield 7, 3) := by decide +kernel
theorem dX6_noAdd_18 : decode cX6_noAdd 18 = .ok (.bipush 87, 2) := by decide +kernel
theorem dX6_noAdd_20 : decode cX6_noAdd 20 = .ok (.iaload, 1) := by decide +kernel
theorem dX6_noAdd_21 : decode cX6_noAdd 21 = .ok (.ifCond .gt 14, 3) := by decide +kernel
theorem dX6_noAdd_24 : decode cX6_noAdd 24 = .ok (.aload_n 0, 1) := by decide +kernel
theorem dX6_noAdd_25 : decode cX6_noAdd 25 = .ok (.getfield 7, 3) := by decide +kernel
theorem dX6_noAdd_28 : decode cX6_noAdd 28 = .ok (.iconst 0, 1) := by decide +kernel
theorem dX6_noAdd_29 : decode cX6_noAdd 29 = .ok (.iaload, 1) := by decide +kernel
theorem dX6_noAdd_30 : decode cX6_noAdd 30 = .ok (.bipush 20, 2) := by decide +kernel
theorem dX6_noAdd_32 : decode cX6_noAdd 32 = .ok (.if_icmp .ne 7, 3) := by decide +kernel
theorem dX6_noAdd_35 : decode cX6_noAdd 35 = .ok (.iconst 2, 1) := by decide +kernel
theorem dX6_noAdd_36 : decode cX6_noAdd 36 = .ok (.goto 4, 3) := by decide +kernel
theorem dX6_noAdd_39 : decode cX6_noAdd 39 = .ok (.iconst 0, 1) := by decide +kernel
theorem dX6_noAdd_40 : decode cX6_noAdd 40 = .ok (.ireturn, 1) := by decide +kernel
theorem dX6_doAdd_0 : decode cX6_doAdd 0 = .ok (.aload_n 0, 1) := by decide +kernel
theorem dX6_doAdd_1 : decode cX6_doAdd 1 = .ok (.getfield 7, 3) := by decide +kernel
theorem dX6_doAdd_4 : decode cX6_doAdd 4 = .ok (.iconst 0, 1) := by decide +kernel
theorem dX6_doAdd_5 : decode cX6_doAdd 5 = .ok (.iaload, 1) := by decide +kernel
theorem dX6_doAdd_6 : decode cX6_doAdd 6 = .ok (.istore_n 2, 1) := by decide +kernel
theorem dX6_doAdd_7 : decode cX6_doAdd 7 = .ok (.aload_n 0, 1) := by decide +kernel
theorem dX6_doAdd_8 : decode cX6_doAdd 8 = .ok (.getfield 7, 3) := by decide +kernel
theorem dX6_doAdd_11 : decode cX6_doAdd 11 = .ok (.iconst 1, 1) := by decide +kernel
theorem dX6_doAdd_12 : decode cX6_doAdd 12 = .ok (.iload_n 2, 1) := by decide +kernel
theorem dX6_doAdd_13 : decode cX6_doAdd 13 = .ok (.iadd, 1) := by decide +kernel
theorem dX6_doAdd_14 : decode cX6_doAdd 14 = .ok (.iload_n 1, 1) := by decide +kernel
theorem dX6_doAdd_15 : decode cX6_doAdd 15 = .ok (.iastore, 1) := by decide +kernel
theorem dX6_doAdd_16 : decode cX6_doAdd 16 = .ok (.aload_n 0, 1) := by decide +kernel
theorem dX6_doAdd_17 : decode cX6_doAdd 17 = .ok (.getfield 7, 3) := by decide +kernel
theorem dX6_doAdd_20 : decode cX6_doAdd 20 = .ok (.bipush 21, 2) := by decide +kernel
theorem dX6_doAdd_22 : decode cX6_doAdd 22 = .ok (.iload_n 2, 1) := by decide +kernel
theorem dX6_doAdd_23 : decode cX6_doAdd 23 = .ok (.iadd, 1) := by decide +kernel
theorem dX6_doAdd_24 : decode cX6_doAdd 24 = .ok (.iconst (-1), 1) := by decide +kernel
theorem dX6_doAdd_25 : decode cX6_doAdd 25 = .ok (.iastore, 1) := by decide +kernel
theorem dX6_doAdd_26 : decode cX6_doAdd 26 = .ok (.aload_n 0, 1) := by decide +kernel
theorem dX6_doAdd_27 : decode cX6_doAdd 27 = .ok (.getfield 7, 3) := by decide +kernel
theorem dX6_doAdd_30 : decode cX6_doAdd 30 = .ok (.iconst 0, 1) := by decide +kernel
theorem dX6_doAdd_31 : decode cX6_doAdd 31 = .ok (.dup2, 1) := by decide +kernel
theorem dX6_doAdd_32 : decode cX6_doAdd 32 = .ok (.iaload, 1) := by decide +kernel
theorem dX6_doAdd_33 : decode cX6_doAdd 33 = .ok (.iconst 1, 1) := by decide +kernel
theorem dX6_doAdd_34 : decode cX6_doAdd 34 = .ok (.iadd, 1) := by decide +kernel
theorem dX6_doAdd_35 : decode cX6_doAdd 35 = .ok (.iastore, 1) := by decide +kernel
theorem dX6_doAdd_36 : decode cX6_doAdd 36 = .ok (.iload_n 2, 1) := by decide +kernel
theorem dX6_doAdd_37 : decode cX6_doAdd 37 = .ok (.ireturn, 1) := by decide +kernel
set_option maxRecDepth 20000 in
theorem ggX6_addDoorstep_X6_noAdd : GoodIn wsX6_addDoorstep wsX6_noAdd := goodIn_r _ [6, 7, 8, 9, 5, 10, 21, 22, 23, 24, 25, 26, 27, 28, 29, 30, 31, 32] (by decide +kernel) (by decide +kernel)
set_option maxRecDepth 20000 in
theorem gX6_addDoorstep_X6_noAdd : GoodIn wsX6_addDoorstep (wsV RX6 77 RX6 yX6_noAdd wsX6_noAdd) := goodIn_app (goodIn_of _ (by decide +kernel)) ggX6_addDoorstep_X6_noAdd
set_option maxRecDepth 20000 in
theorem ggX6_addDoorstep_X6_record : GoodIn wsX6_addDoorstep wsX6_record := goodIn_r _ [14, 15, 16, 7, 21, 22, 23, 24, 25, 26, 27, 28, 29, 30, 31, 32] (by decide +kernel) (by decide +kernel)
set_option maxRecDepth 20000 in
theorem gX6_addDoorstep_X6_record : GoodIn wsX6_addDoorstep (wsV RX6 80 RX6 yX6_record wsX6_record) := goodIn_app (goodIn_of _ (by decide +kernel)) ggX6_addDoorstep_X6_record
set_option maxRecDepth 20000 in
theorem ggX6_addDoorstep_X6_doAdd : GoodIn wsX6_addDoorstep wsX6_doAdd := goodIn_r _ [20, 7, 21, 22, 23, 24, 25, 26, 27, 28, 29, 30, 31, 32] (by decide +kernel) (by decide +kernel)
set_option maxRecDepth 20000 in
theorem gX6_addDoorstep_X6_doAdd : GoodIn wsX6_addDoorstep (wsV RX6 83 RX6 yX6_doAdd wsX6_doAdd) := goodIn_app (goodIn_of _ (by decide +kernel)) ggX6_addDoorstep_X6_doAdd
theorem dX6_addDoorstep_0 : decode cX6_addDoorstep 0 = .ok (.aload_n 0, 1) := by decide +kernel
theorem dX6_addDoorstep_1 : decode cX6_addDoorstep 1 = .ok (.aload_n 0, 1) := by decide +kernel
theorem dX6_addDoorstep_2 : decode cX6_addDoorstep 2 = .ok (.iload_n 1, 1) := by decide +kernel
theorem dX6_addDoorstep_3 : decode cX6_addDoorstep 3 = .ok (.invokevirtual 77, 3) := by decide +kernel
theorem dX6_addDoorstep_6 : decode cX6_addDoorstep 6 = .ok (.putfield 31, 3) := by decide +kernel
theorem dX6_addDoorstep_9 : decode cX6_addDoorstep 9 = .ok (.aload_n 0, 1) := by decide +kernel
theorem dX6_addDoorstep_10 : decode cX6_addDoorstep 10 = .ok (.getfield 31, 3) := by decide +kernel
theorem dX6_addDoorstep_13 : decode cX6_addDoorstep 13 = .ok (.ifCond .le 5, 3) := by decide +kernel
theorem dX6_addDoorstep_16 : decode cX6_addDoorstep 16 = .ok (.iconst 0, 1) := by decide +kernel
theorem dX6_addDoorstep_17 : decode cX6_addDoorstep 17 = .ok (.ireturn, 1) := by decide +kernel
theorem dX6_addDoorstep_18 : decode cX6_addDoorstep 18 = .ok (.aload_n 0, 1) := by decide +kernel
theorem dX6_addDoorstep_19 : decode cX6_addDoorstep 19 = .ok (.invokevirtual 80, 3) := by decide +kernel
theorem dX6_addDoorstep_22 : decode cX6_addDoorstep 22 = .ok (.aload_n 0, 1) := by decide +kernel
theorem dX6_addDoorstep_23 : decode cX6_addDoorstep 23 = .ok (.iload_n 1, 1) := by decide +kernel
theorem dX6_addDoorstep_24 : decode cX6_addDoorstep 24 = .ok (.invokevirtual 83, 3) := by decide +kernel
theorem dX6_addDoorstep_27 : decode cX6_addDoorstep 27 = .ok (.ireturn, 1) := by decide +kernel
set_option maxRecDepth 20000 in
theorem ggX6_noRemove_X6_isDoor : GoodIn wsX6_noRemove wsX6_isDoor := goodIn_r _ [6, 1, 7, 8, 5, 9, 10, 11, 12, 13, 14, 15, 16, 17, 18, 19, 20, 21] (by decide +kernel) (by decide +kernel)
set_option maxRecDepth 20000 in
theorem gX6_noRemove_X6_isDoor : GoodIn wsX6_noRemove (wsV RX6 86 RX6 yX6_isDoor wsX6_isDoor) := goodIn_app (goodIn_of _ (by decide +kernel)) ggX6_noRemove_X6_isDoor
theorem dX6_noRemove_0 : decode cX6_noRemove 0 = .ok (.aload_n 0, 1) := by decide +kernel
theorem dX6_noRemove_1 : decode cX6_noRemove 1 = .ok (.iload_n 1, 1) := by decide +kernel
theorem dX6_noRemove_2 : decode cX6_noRemove 2 = .ok (.invokevirtual 86, 3) := by decide +kernel
theorem dX6_noRemove_5 : decode cX6_noRemove 5 = .ok (.ifCond .ne 7, 3) := by decide +kernel
theorem dX6_noRemove_8 : decode cX6_noRemove 8 = .ok (.iconst 1, 1) := by decide +kernel
theorem dX6_noRemove_9 : decode cX6_noRemove 9 = .ok (.goto 18, 3) := by decide +kernel
theorem dX6_noRemove_12 : decode cX6_noRemove 12 = .ok (.aload_n 0, 1) := by decide +kernel
theorem dX6_noRemove_13 : decode cX6_noRemove 13 = .ok (.getfield 7, 3) := by decide +kernel
theorem dX6_noRemove_16 : decode cX6_noRemove 16 = .ok (.bipush 87, 2) := by decide +kernel
theorem dX6_noRemove_18 : decode cX6_noRemove 18 = .ok (.iaload, 1) := by decide +kernel
theorem dX6_noRemove_19 : decode cX6_noRemove 19 = .ok (.ifCond .le 7, 3) := by decide +kernel
theorem dX6_noRemove_22 : decode cX6_noRemove 22 = .ok (.iconst 2, 1) := by decide +kernel
theorem dX6_noRemove_23 : decode cX6_noRemove 23 = .ok (.goto 4, 3) := by decide +kernel
theorem dX6_noRemove_26 : decode cX6_noRemove 26 = .ok (.iconst 0, 1) := by decide +kernel
theorem dX6_noRemove_27 : decode cX6_noRemove 27 = .ok (.ireturn, 1) := by decide +kernel
theorem dX6_doRemove_0 : decode cX6_doRemove 0 = .ok (.aload_n 0, 1) := by decide +kernel
theorem dX6_doRemove_1 : decode cX6_doRemove 1 = .ok (.getfield 7, 3) := by decide +kernel
theorem dX6_doRemove_4 : decode cX6_doRemove 4 = .ok (.bipush 21, 2) := by decide +kernel
theorem dX6_doRemove_6 : decode cX6_doRemove 6 = .ok (.iload_n 1, 1) := by decide +kernel
theorem dX6_doRemove_7 : decode cX6_doRemove 7 = .ok (.iadd, 1) := by decide +kernel
theorem dX6_doRemove_8 : decode cX6_doRemove 8 = .ok (.iaload, 1) := by decide +kernel
theorem dX6_doRemove_9 : decode cX6_doRemove 9 = .ok (.istore_n 2, 1) := by decide +kernel
theorem dX6_doRemove_10 : decode cX6_doRemove 10 = .ok (.aload_n 0, 1) := by decide +kernel
theorem dX6_doRemove_11 : decode cX6_doRemove 11 = .ok (.getfield 7, 3) := by decide +kernel
theorem dX6_doRemove_14 : decode cX6_doRemove 14 = .ok (.iconst 0, 1) := by decide +kernel
theorem dX6_doRemove_15 : decode cX6_doRemove 15 = .ok (.dup2, 1) := by decide +kernel
theorem dX6_doRemove_16 : decode cX6_doRemove 16 = .ok (.iaload, 1) := by decide +kernel
theorem dX6_doRemove_17 : decode cX6_doRemove 17 = .ok (.iconst 1, 1) := by decide +kernel
theorem dX6_doRemove_18 : decode cX6_doRemove 18 = .ok (.isub, 1) := by decide +kernel
theorem dX6_doRemove_19 : decode cX6_doRemove 19 = .ok (.iastore, 1) := by decide +kernel
theorem dX6_doRemove_20 : decode cX6_doRemove 20 = .ok (.iload_n 1, 1) := by decide +kernel
theorem dX6_doRemove_21 : decode cX6_doRemove 21 = .ok (.istore_n 3, 1) := by decide +kernel
theorem dX6_doRemove_22 : decode cX6_doRemove 22 = .ok (.iload_n 3, 1) := by decide +kernel
theorem dX6_doRemove_23 : decode cX6_doRemove 23 = .ok (.aload_n 0, 1) := by decide +kernel
theorem dX6_doRemove_24 : decode cX6_doRemove 24 = .ok (.getfield 7, 3) := by decide +kernel
theorem dX6_doRemove_27 : decode cX6_doRemove 27 = .ok (.iconst 0, 1) := by decide +kernel
theorem dX6_doRemove_28 : decode cX6_doRemove 28 = .ok (.iaload, 1) := by decide +kernel
theorem dX6_doRemove_29 : decode cX6_doRemove 29 = .ok (.if_icmp .ge 47, 3) := by decide +kernel
theorem dX6_doRemove_32 : decode cX6_doRemove 32 = .ok (.aload_n 0, 1) := by decide +kernel
theorem dX6_doRemove_33 : decode cX6_doRemove 33 = .ok (.getfield 7, 3) := by decide +kernel
theorem dX6_doRemove_36 : decode cX6_doRemove 36 = .ok (.iconst 1, 1) := by decide +kernel
theorem dX6_doRemove_37 : decode cX6_doRemove 37 = .ok (.iload_n 3, 1) := by decide +kernel
theorem dX6_doRemove_38 : decode cX6_doRemove 38 = .ok (.iadd, 1) := by decide +kernel
theorem dX6_doRemove_39 : decode cX6_doRemove 39 = .ok (.aload_n 0, 1) := by decide +kernel
theorem dX6_doRemove_40 : decode cX6_doRemove 40 = .ok (.getfield 7, 3) := by decide +kernel
theorem dX6_doRemove_43 : decode cX6_doRemove 43 = .ok (.iconst 1, 1) := by decide +kernel
theorem dX6_doRemove_44 : decode cX6_doRemove 44 = .ok (.iload_n 3, 1) := by decide +kernel
theorem dX6_doRemove_45 : decode cX6_doRemove 45 = .ok (.iadd, 1) := by decide +kernel
theorem dX6_doRemove_46 : decode cX6_doRemove 46 = .ok (.iconst 1, 1) := by decide +kernel
theorem dX6_doRemove_47 : decode cX6_doRemove 47 = .ok (.iadd, 1) := by decide +kernel
theorem dX6_doRemove_48 : decode cX6_doRemove 48 = .ok (.iaload, 1) := by decide +kernel
theorem dX6_doRemove_49 : decode cX6_doRemove 49 = .ok (.iastore, 1) := by decide +kernel
theorem dX6_doRemove_50 : decode cX6_doRemove 50 = .ok (.aload_n 0, 1) := by decide +kernel
theorem dX6_doRemove_51 : decode cX6_doRemove 51 = .ok (.getfield 7, 3) := by decide +kernel
theorem dX6_doRemove_54 : decode cX6_doRemove 54 = .ok (.bipush 21, 2) := by decide +kernel
theorem dX6_doRemove_56 : decode cX6_doRemove 56 = .ok (.iload_n 3, 1) := by decide +kernel
theorem dX6_doRemove_57 : decode cX6_doRemove 57 = .ok (.iadd, 1) := by decide +kernel
theorem dX6_doRemove_58 : decode cX6_doRemove 58 = .ok (.aload_n 0, 1) := by decide +kernel
theorem dX6_doRemove_59 : decode cX6_doRemove 59 = .ok (.getfield 7, 3) := by decide +kernel
theorem dX6_doRemove_62 : decode cX6_doRemove 62 = .ok (.bipush 21, 2) := by decide +kernel
theorem dX6_doRemove_64 : decode cX6_doRemove 64 = .ok (.iload_n 3, 1) := by decide +kernel
theorem dX6_doRemove_65 : decode cX6_doRemove 65 = .ok (.iadd, 1) := by decide +kernel
theorem dX6_doRemove_66 : decode cX6_doRemove 66 = .ok (.iconst 1, 1) := by decide +kernel
theorem dX6_doRemove_67 : decode cX6_doRemove 67 = .ok (.iadd, 1) := by decide +kernel
theorem dX6_doRemove_68 : decode cX6_doRemove 68 = .ok (.iaload, 1) := by decide +kernel
theorem dX6_doRemove_69 : decode cX6_doRemove 69 = .ok (.iastore, 1) := by decide +kernel
theorem dX6_doRemove_70 : decode cX6_doRemove 70 = .ok (.iinc 3 1, 3) := by decide +kernel
theorem dX6_doRemove_73 : decode cX6_doRemove 73 = .ok (.goto (-51), 3) := by decide +kernel
theorem dX6_doRemove_76 : decode cX6_doRemove 76 = .ok (.iload_n 2, 1) := by decide +kernel
theorem dX6_doRemove_77 : decode cX6_doRemove 77 = .ok (.ireturn, 1) := by decide +kernel
set_option maxRecDepth 20000 in
theorem ggX6_removeDoorstep_X6_noRemove : GoodIn wsX6_removeDoorstep wsX6_noRemove := goodIn_r _ [6, 7, 8, 9, 10, 5, 11, 12, 13, 14, 25, 26, 27, 28, 29, 30, 31, 32, 33, 34, 35, 36] (by decide +kernel) (by decide +kernel)
set_option maxRecDepth 20000 in
theorem gX6_removeDoorstep_X6_noRemove : GoodIn wsX6_removeDoorstep (wsV RX6 89 RX6 yX6_noRemove wsX6_noRemove) := goodIn_app (goodIn_of _ (by decide +kernel)) ggX6_removeDoorstep_X6_noRemove
set_option maxRecDepth 20000 in
theorem ggX6_removeDoorstep_X6_record : GoodIn wsX6_removeDoorstep wsX6_record := goodIn_r _ [18, 19, 20, 7, 25, 26, 27, 28, 29, 30, 31, 32, 33, 34, 35, 36] (by decide +kernel) (by decide +kernel)
set_option maxRecDepth 20000 in
theorem gX6_removeDoorstep_X6_record : GoodIn wsX6_removeDoorstep (wsV RX6 80 RX6 yX6_record wsX6_record) := goodIn_app (goodIn_of _ (by decide +kernel)) ggX6_removeDoorstep_X6_record
set_option maxRecDepth 20000 in
theorem ggX6_removeDoorstep_X6_doRemove : GoodIn wsX6_removeDoorstep wsX6_doRemove := goodIn_r _ [24, 7, 25, 26, 27, 28, 29, 30, 31, 32, 33, 34, 35, 36] (by decide +kernel) (by decide +kernel)
set_option maxRecDepth 20000 in
theorem gX6_removeDoorstep_X6_doRemove : GoodIn wsX6_removeDoorstep (wsV RX6 92 RX6 yX6_doRemove wsX6_doRemove) := goodIn_app (goodIn_of _ (by decide +kernel)) ggX6_removeDoorstep_X6_doRemove
theorem dX6_removeDoorstep_0 : decode cX6_removeDoorstep 0 = .ok (.aload_n 0, 1) := by decide +kernel
theorem dX6_removeDoorstep_1 : decode cX6_removeDoorstep 1 = .ok (.aload_n 0, 1) := by decide +kernel
theorem dX6_removeDoorstep_2 : decode cX6_removeDoorstep 2 = .ok (.iload_n 1, 1) := by decide +kernel
theorem dX6_removeDoorstep_3 : decode cX6_removeDoorstep 3 = .ok (.invokevirtual 89, 3) := by decide +kernel
theorem dX6_removeDoorstep_6 : decode cX6_removeDoorstep 6 = .ok (.putfield 31, 3) := by decide +kernel
theorem dX6_removeDoorstep_9 : decode cX6_removeDoorstep 9 = .ok (.aload_n 0, 1) := by decide +kernel
theorem dX6_removeDoorstep_10 : decode cX6_removeDoorstep 10 = .ok (.getfield 31, 3) := by decide +kernel
theorem dX6_removeDoorstep_13 : decode cX6_removeDoorstep 13 = .ok (.ifCond .le 5, 3) := by decide +kernel
theorem dX6_removeDoorstep_16 : decode cX6_removeDoorstep 16 = .ok (.iconst 0, 1) := by decide +kernel
theorem dX6_removeDoorstep_17 : decode cX6_removeDoorstep 17 = .ok (.ireturn, 1) := by decide +kernel
theorem dX6_removeDoorstep_18 : decode cX6_removeDoorstep 18 = .ok (.aload_n 0, 1) := by decide +kernel
theorem dX6_removeDoorstep_19 : decode cX6_removeDoorstep 19 = .ok (.invokevirtual 80, 3) := by decide +kernel
theorem dX6_removeDoorstep_22 : decode cX6_removeDoorstep 22 = .ok (.aload_n 0, 1) := by decide +kernel
theorem dX6_removeDoorstep_23 : decode cX6_removeDoorstep 23 = .ok (.iload_n 1, 1) := by decide +kernel
theorem dX6_removeDoorstep_24 : decode cX6_removeDoorstep 24 = .ok (.invokevirtual 92, 3) := by decide +kernel
theorem dX6_removeDoorstep_27 : decode cX6_removeDoorstep 27 = .ok (.ireturn, 1) := by decide +kernel
set_option maxRecDepth 20000 in
theorem ggX6_setPints_X6_isDoor : GoodIn wsX6_setPints wsX6_isDoor := goodIn_r _ [7, 2, 8, 9, 6, 10, 17, 18, 19, 20, 21, 22, 23, 24, 25, 26, 27, 28] (by decide +kernel) (by decide +kernel)
set_option maxRecDepth 20000 in
theorem gX6_setPints_X6_isDoor : GoodIn wsX6_setPints (wsV RX6 86 RX6 yX6_isDoor wsX6_isDoor) := goodIn_app (goodIn_of _ (by decide +kernel)) ggX6_setPints_X6_isDoor
set_option maxRecDepth 20000 in
theorem ggX6_setPints_X6_in : GoodIn wsX6_setPints wsX6_in := goodIn_r _ [10] (by decide +kernel) (by decide +kernel)
set_option maxRecDepth 20000 in
theorem gX6_setPints_X6_in : GoodIn wsX6_setPints (va_wsS RX6 35 yX6_in wsX6_in) := goodIn_app (goodIn_of _ (by decide +kernel)) ggX6_setPints_X6_in
set_option maxRecDepth 20000 in
theorem ggX6_setPints_X6_record : GoodIn wsX6_setPints wsX6_record := goodIn_r _ [14, 15, 16, 2, 17, 18, 19, 20, 21, 22, 23, 24, 25, 26, 27, 28] (by decide +kernel) (by decide +kernel)
set_option maxRecDepth 20000 in
theorem gX6_setPints_X6_record : GoodIn wsX6_setPints (wsV RX6 80 RX6 yX6_record wsX6_record) := goodIn_app (goodIn_of _ (by decide +kernel)) ggX6_setPints_X6_record
theorem dX6_setPints_0 : decode cX6_setPints 0 = .ok (.aload_n 0, 1) := by decide +kernel
theorem dX6_setPints_1 : decode cX6_setPints 1 = .ok (.aload_n 0, 1) := by decide +kernel
theorem dX6_setPints_2 : decode cX6_setPints 2 = .ok (.iload_n 1, 1) := by decide +kernel
theorem dX6_setPints_3 : decode cX6_setPints 3 = .ok (.invokevirtual 86, 3) := by decide +kernel
theorem dX6_setPints_6 : decode cX6_setPints 6 = .ok (.ifCond .ne 7, 3) := by decide +kernel
theorem dX6_setPints_9 : decode cX6_setPints 9 = .ok (.iconst 1, 1) := by decide +kernel
theorem dX6_setPints_10 : decode cX6_setPints 10 = .ok (.goto 18, 3) := by decide +kernel
theorem dX6_setPints_13 : decode cX6_setPints 13 = .ok (.iload_n 2, 1) := by decide +kernel
theorem dX6_setPints_14 : decode cX6_setPints 14 = .ok (.iconst 1, 1) := by decide +kernel
theorem dX6_setPints_15 : decode cX6_setPints 15 = .ok (.bipush 9, 2) := by decide +kernel
theorem dX6_setPints_17 : decode cX6_setPints 17 = .ok (.invokestatic 35, 3) := by decide +kernel
theorem dX6_setPints_20 : decode cX6_setPints 20 = .ok (.ifCond .eq 7, 3) := by decide +kernel
theorem dX6_setPints_23 : decode cX6_setPints 23 = .ok (.iconst 0, 1) := by decide +kernel
theorem dX6_setPints_24 : decode cX6_setPints 24 = .ok (.goto 4, 3) := by decide +kernel
theorem dX6_setPints_27 : decode cX6_setPints 27 = .ok (.iconst 2, 1) := by decide +kernel
theorem dX6_setPints_28 : decode cX6_setPints 28 = .ok (.putfield 31, 3) := by decide +kernel
theorem dX6_setPints_31 : decode cX6_setPints 31 = .ok (.aload_n 0, 1) := by decide +kernel
theorem dX6_setPints_32 : decode cX6_setPints 32 = .ok (.getfield 31, 3) := by decide +kernel
theorem dX6_setPints_35 : decode cX6_setPints 35 = .ok (.ifCond .le 5, 3) := by decide +kernel
theorem dX6_setPints_38 : decode cX6_setPints 38 = .ok (.iconst 0, 1) := by decide +kernel
theorem dX6_setPints_39 : decode cX6_setPints 39 = .ok (.ireturn, 1) := by decide +kernel
theorem dX6_setPints_40 : decode cX6_setPints 40 = .ok (.aload_n 0, 1) := by decide +kernel
theorem dX6_setPints_41 : decode cX6_setPints 41 = .ok (.invokevirtual 80, 3) := by decide +kernel
theorem dX6_setPints_44 : decode cX6_setPints 44 = .ok (.aload_n 0, 1) := by decide +kernel
theorem dX6_setPints_45 : decode cX6_setPints 45 = .ok (.getfield 7, 3) := by decide +kernel
theorem dX6_setPints_48 : decode cX6_setPints 48 = .ok (.iconst 1, 1) := by decide +kernel
theorem dX6_setPints_49 : decode cX6_setPints 49 = .ok (.iload_n 1, 1) := by decide +kernel
theorem dX6_setPints_50 : decode cX6_setPints 50 = .ok (.iadd, 1) := by decide +kernel
theorem dX6_setPints_51 : decode cX6_setPints 51 = .ok (.iaload, 1) := by decide +kernel
theorem dX6_setPints_52 : decode cX6_setPints 52 = .ok (.istore_n 3, 1) := by decide +kernel
theorem dX6_setPints_53 : decode cX6_setPints 53 = .ok (.aload_n 0, 1) := by decide +kernel
theorem dX6_setPints_54 : decode cX6_setPints 54 = .ok (.getfield 7, 3) := by decide +kernel
theorem dX6_setPints_57 : decode cX6_setPints 57 = .ok (.iconst 1, 1) := by decide +kernel
theorem dX6_setPints_58 : decode cX6_setPints 58 = .ok (.iload_n 1, 1) := by decide +kernel
theorem dX6_setPints_59 : decode cX6_setPints 59 = .ok (.iadd, 1) := by decide +kernel
theorem dX6_setPints_60 : decode cX6_setPints 60 = .ok (.iload_n 2, 1) := by decide +kernel
theorem dX6_setPints_61 : decode cX6_setPints 61 = .ok (.iastore, 1) := by decide +kernel
theorem dX6_setPints_62 : decode cX6_setPints 62 = .ok (.iload_n 3, 1) := by decide +kernel
theorem dX6_setPints_63 : decode cX6_setPints 63 = .ok (.ireturn, 1) := by decide +kernel
set_option maxRecDepth 20000 in
theorem ggX6_noCome_X6_isMan : GoodIn wsX6_noCome wsX6_isMan := goodIn_r _ [5, 6, 7, 4, 8] (by decide +kernel) (by decide +kernel)
set_option maxRecDepth 20000 in
theorem gX6_noCome_X6_isMan : GoodIn wsX6_noCome (va_wsS RX6 95 yX6_isMan wsX6_isMan) := goodIn_app (goodIn_of _ (by decide +kernel)) ggX6_noCome_X6_isMan
set_option maxRecDepth 20000 in
theorem ggX6_noCome_X6_works : GoodIn wsX6_noCome wsX6_works := goodIn_r _ [12, 1, 13, 14, 15, 16, 17, 18, 19, 20, 21, 22, 23, 24] (by decide +kernel) (by decide +kernel)
set_option maxRecDepth 20000 in
theorem gX6_noCome_X6_works : GoodIn wsX6_noCome (wsV RX6 50 RX6 yX6_works wsX6_works) := goodIn_app (goodIn_of _ (by decide +kernel)) ggX6_noCome_X6_works
theorem dX6_noCome_0 : decode cX6_noCome 0 = .ok (.iload_n 1, 1) := by decide +kernel
theorem dX6_noCome_1 : decode cX6_noCome 1 = .ok (.invokestatic 95, 3) := by decide +kernel
theorem dX6_noCome_4 : decode cX6_noCome 4 = .ok (.ifCond .ne 7, 3) := by decide +kernel
theorem dX6_noCome_7 : decode cX6_noCome 7 = .ok (.iconst 1, 1) := by decide +kernel
theorem dX6_noCome_8 : decode cX6_noCome 8 = .ok (.goto 26, 3) := by decide +kernel
theorem dX6_noCome_11 : decode cX6_noCome 11 = .ok (.aload_n 0, 1) := by decide +kernel
theorem dX6_noCome_12 : decode cX6_noCome 12 = .ok (.getfield 7, 3) := by decide +kernel
theorem dX6_noCome_15 : decode cX6_noCome 15 = .ok (.bipush 87, 2) := by decide +kernel
theorem dX6_noCome_17 : decode cX6_noCome 17 = .ok (.iaload, 1) := by decide +kernel
theorem dX6_noCome_18 : decode cX6_noCome 18 = .ok (.ifCond .gt 11, 3) := by decide +kernel
theorem dX6_noCome_21 : decode cX6_noCome 21 = .ok (.aload_n 0, 1) := by decide +kernel
theorem dX6_noCome_22 : decode cX6_noCome 22 = .ok (.iload_n 1, 1) := by decide +kernel
theorem dX6_noCome_23 : decode cX6_noCome 23 = .ok (.invokevirtual 50, 3) := by decide +kernel
theorem dX6_noCome_26 : decode cX6_noCome 26 = .ok (.ifCond .eq 7, 3) := by decide +kernel
theorem dX6_noCome_29 : decode cX6_noCome 29 = .ok (.iconst 2, 1) := by decide +kernel
theorem dX6_noCome_30 : decode cX6_noCome 30 = .ok (.goto 4, 3) := by decide +kernel
theorem dX6_noCome_33 : decode cX6_noCome 33 = .ok (.iconst 0, 1) := by decide +kernel
theorem dX6_noCome_34 : decode cX6_noCome 34 = .ok (.ireturn, 1) := by decide +kernel
set_option maxRecDepth 20000 in
theorem ggX6_doCome_X6_men : GoodIn wsX6_doCome wsX6_men := goodIn_r _ [6, 1, 7, 8, 9, 10, 11, 12, 13, 14, 15, 16, 17, 18] (by decide +kernel) (by decide +kernel)
set_option maxRecDepth 20000 in
theorem gX6_doCome_X6_men : GoodIn wsX6_doCome (wsV RX6 46 RX6 yX6_men wsX6_men) := goodIn_app (goodIn_of _ (by decide +kernel)) ggX6_doCome_X6_men
theorem dX6_doCome_0 : decode cX6_doCome 0 = .ok (.aload_n 0, 1) := by decide +kernel
theorem dX6_doCome_1 : decode cX6_doCome 1 = .ok (.getfield 7, 3) := by decide +kernel
theorem dX6_doCome_4 : decode cX6_doCome 4 = .ok (.bipush 81, 2) := by decide +kernel
theorem dX6_doCome_6 : decode cX6_doCome 6 = .ok (.iload_n 1, 1) := by decide +kernel
theorem dX6_doCome_7 : decode cX6_doCome 7 = .ok (.iadd, 1) := by decide +kernel
theorem dX6_doCome_8 : decode cX6_doCome 8 = .ok (.iconst 1, 1) := by decide +kernel
theorem dX6_doCome_9 : decode cX6_doCome 9 = .ok (.iastore, 1) := by decide +kernel
theorem dX6_doCome_10 : decode cX6_doCome 10 = .ok (.aload_n 0, 1) := by decide +kernel
theorem dX6_doCome_11 : decode cX6_doCome 11 = .ok (.invokevirtual 46, 3) := by decide +kernel
theorem dX6_doCome_14 : decode cX6_doCome 14 = .ok (.ireturn, 1) := by decide +kernel
set_option maxRecDepth 20000 in
theorem ggX6_come_X6_noCome : GoodIn wsX6_come wsX6_noCome := goodIn_r _ [6, 7, 8, 9, 5, 10, 11, 12, 13, 14, 15, 16, 17, 32, 33, 34, 35, 36, 37, 38, 39, 40, 41, 42, 43] (by decide +kernel) (by decide +kernel)
set_option maxRecDepth 20000 in
theorem gX6_come_X6_noCome : GoodIn wsX6_come (wsV RX6 98 RX6 yX6_noCome wsX6_noCome) := goodIn_app (goodIn_of _ (by decide +kernel)) ggX6_come_X6_noCome
set_option maxRecDepth 20000 in
theorem ggX6_come_X6_record : GoodIn wsX6_come wsX6_record := goodIn_r _ [21, 22, 23, 7, 32, 33, 34, 35, 36, 37, 38, 39, 40, 41, 42, 43] (by decide +kernel) (by decide +kernel)
set_option maxRecDepth 20000 in
theorem gX6_come_X6_record : GoodIn wsX6_come (wsV RX6 80 RX6 yX6_record wsX6_record) := goodIn_app (goodIn_of _ (by decide +kernel)) ggX6_come_X6_record
set_option maxRecDepth 20000 in
theorem ggX6_come_X6_doCome : GoodIn wsX6_come wsX6_doCome := goodIn_r _ [27, 7, 28, 29, 30, 5, 31, 32, 33, 34, 35, 36, 37, 38, 39, 40, 41, 42, 43] (by decide +kernel) (by decide +kernel)
set_option maxRecDepth 20000 in
theorem gX6_come_X6_doCome : GoodIn wsX6_come (wsV RX6 101 RX6 yX6_doCome wsX6_doCome) := goodIn_app (goodIn_of _ (by decide +kernel)) ggX6_come_X6_doCome
theorem dX6_come_0 : decode cX6_come 0 = .ok (.aload_n 0, 1) := by decide +kernel
theorem dX6_come_1 : decode cX6_come 1 = .ok (.aload_n 0, 1) := by decide +kernel
theorem dX6_come_2 : decode cX6_come 2 = .ok (.iload_n 1, 1) := by decide +kernel
theorem dX6_come_3 : decode cX6_come 3 = .ok (.invokevirtual 98, 3) := by decide +kernel
theorem dX6_come_6 : decode cX6_come 6 = .ok (.putfield 31, 3) := by decide +kernel
theorem dX6_come_9 : decode cX6_come 9 = .ok (.aload_n 0, 1) := by decide +kernel
theorem dX6_come_10 : decode cX6_come 10 = .ok (.getfield 31, 3) := by decide +kernel
theorem dX6_come_13 : decode cX6_come 13 = .ok (.ifCond .le 5, 3) := by decide +kernel
theorem dX6_come_16 : decode cX6_come 16 = .ok (.iconst 0, 1) := by decide +kernel
theorem dX6_come_17 : decode cX6_come 17 = .ok (.ireturn, 1) := by decide +kernel
theorem dX6_come_18 : decode cX6_come 18 = .ok (.aload_n 0, 1) := by decide +kernel
theorem dX6_come_19 : decode cX6_come 19 = .ok (.invokevirtual 80, 3) := by decide +kernel
theorem dX6_come_22 : decode cX6_come 22 = .ok (.aload_n 0, 1) := by decide +kernel
theorem dX6_come_23 : decode cX6_come 23 = .ok (.iload_n 1, 1) := by decide +kernel
theorem dX6_come_24 : decode cX6_come 24 = .ok (.invokevirtual 101, 3) := by decide +kernel
theorem dX6_come_27 : decode cX6_come 27 = .ok (.ireturn, 1) := by decide +kernel
set_option maxRecDepth 20000 in
theorem ggX6_noLeave_X6_isMan : GoodIn wsX6_noLeave wsX6_isMan := goodIn_r _ [5, 6, 7, 4, 8] (by decide +kernel) (by decide +kernel)
set_option maxRecDepth 20000 in
theorem gX6_noLeave_X6_isMan : GoodIn wsX6_noLeave (va_wsS RX6 95 yX6_isMan wsX6_isMan) := goodIn_app (goodIn_of _ (by decide +kernel)) ggX6_noLeave_X6_isMan
set_option maxRecDepth 20000 in
theorem ggX6_noLeave_X6_works : GoodIn wsX6_noLeave wsX6_works := goodIn_r _ [12, 1, 13, 14, 15, 16, 17, 18, 19, 20, 21, 22, 23, 24] (by decide +kernel) (by decide +kernel)
set_option maxRecDepth 20000 in
theorem gX6_noLeave_X6_works : GoodIn wsX6_noLeave (wsV RX6 50 RX6 yX6_works wsX6_works) := goodIn_app (goodIn_of _ (by decide +kernel)) ggX6_noLeave_X6_works
theorem dX6_noLeave_0 : decode cX6_noLeave 0 = .ok (.iload_n 1, 1) := by decide +kernel
theorem dX6_noLeave_1 : decode cX6_noLeave 1 = .ok (.invokestatic 95, 3) := by decide +kernel
theorem dX6_noLeave_4 : decode cX6_noLeave 4 = .ok (.ifCond .ne 7, 3) := by decide +kernel
theorem dX6_noLeave_7 : decode cX6_noLeave 7 = .ok (.iconst 1, 1) := by decide +kernel
theorem dX6_noLeave_8 : decode cX6_noLeave 8 = .ok (.goto 26, 3) := by decide +kernel
theorem dX6_noLeave_11 : decode cX6_noLeave 11 = .ok (.aload_n 0, 1) := by decide +kernel
theorem dX6_noLeave_12 : decode cX6_noLeave 12 = .ok (.getfield 7, 3) := by decide +kernel
theorem dX6_noLeave_15 : decode cX6_noLeave 15 = .ok (.bipush 87, 2) := by decide +kernel
theorem dX6_noLeave_17 : decode cX6_noLeave 17 = .ok (.iaload, 1) := by decide +kernel
theorem dX6_noLeave_18 : decode cX6_noLeave 18 = .ok (.ifCond .gt 11, 3) := by decide +kernel
theorem dX6_noLeave_21 : decode cX6_noLeave 21 = .ok (.aload_n 0, 1) := by decide +kernel
theorem dX6_noLeave_22 : decode cX6_noLeave 22 = .ok (.iload_n 1, 1) := by decide +kernel
theorem dX6_noLeave_23 : decode cX6_noLeave 23 = .ok (.invokevirtual 50, 3) := by decide +kernel
theorem dX6_noLeave_26 : decode cX6_noLeave 26 = .ok (.ifCond .ne 7, 3) := by decide +kernel
theorem dX6_noLeave_29 : decode cX6_noLeave 29 = .ok (.iconst 2, 1) := by decide +kernel
theorem dX6_noLeave_30 : decode cX6_noLeave 30 = .ok (.goto 4, 3) := by decide +kernel
theorem dX6_noLeave_33 : decode cX6_noLeave 33 = .ok (.iconst 0, 1) := by decide +kernel
theorem dX6_noLeave_34 : decode cX6_noLeave 34 = .ok (.ireturn, 1) := by decide +kernel
set_option maxRecDepth 20000 in
theorem ggX6_doLeave_X6_sizeOf : GoodIn wsX6_doLeave wsX6_sizeOf := goodIn_r _ [6, 1, 7, 8, 9, 10, 11, 12, 13, 14, 15, 16, 17, 18] (by decide +kernel) (by decide +kernel)
set_option maxRecDepth 20000 in
theorem gX6_doLeave_X6_sizeOf : GoodIn wsX6_doLeave (wsV RX6 42 RX6 yX6_sizeOf wsX6_sizeOf) := goodIn_app (goodIn_of _ (by decide +kernel)) ggX6_doLeave_X6_sizeOf
theorem dX6_doLeave_0 : decode cX6_doLeave 0 = .ok (.aload_n 0, 1) := by decide +kernel
theorem dX6_doLeave_1 : decode cX6_doLeave 1 = .ok (.iload_n 1, 1) := by decide +kernel
theorem dX6_doLeave_2 : decode cX6_doLeave 2 = .ok (.invokevirtual 42, 3) := by decide +kernel
theorem dX6_doLeave_5 : decode cX6_doLeave 5 = .ok (.istore_n 2, 1) := by decide +kernel
theorem dX6_doLeave_6 : decode cX6_doLeave 6 = .ok (.aload_n 0, 1) := by decide +kernel
theorem dX6_doLeave_7 : decode cX6_doLeave 7 = .ok (.getfield 7, 3) := by decide +kernel
theorem dX6_doLeave_10 : decode cX6_doLeave 10 = .ok (.bipush 81, 2) := by decide +kernel
theorem dX6_doLeave_12 : decode cX6_doLeave 12 = .ok (.iload_n 1, 1) := by decide +kernel
theorem dX6_doLeave_13 : decode cX6_doLeave 13 = .ok (.iadd, 1) := by decide +kernel
theorem dX6_doLeave_14 : decode cX6_doLeave 14 = .ok (.iconst 0, 1) := by decide +kernel
theorem dX6_doLeave_15 : decode cX6_doLeave 15 = .ok (.iastore, 1) := by decide +kernel
theorem dX6_doLeave_16 : decode cX6_doLeave 16 = .ok (.iconst 0, 1) := by decide +kernel
theorem dX6_doLeave_17 : decode cX6_doLeave 17 = .ok (.istore_n 3, 1) := by decide +kernel
theorem dX6_doLeave_18 : decode cX6_doLeave 18 = .ok (.iload_n 3, 1) := by decide +kernel
theorem dX6_doLeave_19 : decode cX6_doLeave 19 = .ok (.aload_n 0, 1) := by decide +kernel
theorem dX6_doLeave_20 : decode cX6_doLeave 20 = .ok (.getfield 7, 3) := by decide +kernel
theorem dX6_doLeave_23 : decode cX6_doLeave 23 = .ok (.iconst 0, 1) := by decide +kernel
theorem dX6_doLeave_24 : decode cX6_doLeave 24 = .ok (.iaload, 1) := by decide +kernel
theorem dX6_doLeave_25 : decode cX6_doLeave 25 = .ok (.if_icmp .ge 44, 3) := by decide +kernel
theorem dX6_doLeave_28 : decode cX6_doLeave 28 = .ok (.aload_n 0, 1) := by decide +kernel
theorem dX6_doLeave_29 : decode cX6_doLeave 29 = .ok (.getfield 7, 3) := by decide +kernel
theorem dX6_doLeave_32 : decode cX6_doLeave 32 = .ok (.bipush 21, 2) := by decide +kernel
theorem dX6_doLeave_34 : decode cX6_doLeave 34 = .ok (.iload_n 3, 1) := by decide +kernel
theorem dX6_doLeave_35 : decode cX6_doLeave 35 = .ok (.iadd, 1) := by decide +kernel
theorem dX6_doLeave_36 : decode cX6_doLeave 36 = .ok (.aload_n 0, 1) := by decide +kernel
theorem dX6_doLeave_37 : decode cX6_doLeave 37 = .ok (.getfield 7, 3) := by decide +kernel
theorem dX6_doLeave_40 : decode cX6_doLeave 40 = .ok (.bipush 21, 2) := by decide +kernel
theorem dX6_doLeave_42 : decode cX6_doLeave 42 = .ok (.iload_n 3, 1) := by decide +kernel
theorem dX6_doLeave_43 : decode cX6_doLeave 43 = .ok (.iadd, 1) := by decide +kernel
theorem dX6_doLeave_44 : decode cX6_doLeave 44 = .ok (.iaload, 1) := by decide +kernel
theorem dX6_doLeave_45 : decode cX6_doLeave 45 = .ok (.iload_n 1, 1) := by decide +kernel
theorem dX6_doLeave_46 : decode cX6_doLeave 46 = .ok (.if_icmp .ne 7, 3) := by decide +kernel
theorem dX6_doLeave_49 : decode cX6_doLeave 49 = .ok (.iconst (-1), 1) := by decide +kernel
theorem dX6_doLeave_50 : decode cX6_doLeave 50 = .ok (.goto 12, 3) := by decide +kernel
theorem dX6_doLeave_53 : decode cX6_doLeave 53 = .ok (.aload_n 0, 1) := by decide +kernel
theorem dX6_doLeave_54 : decode cX6_doLeave 54 = .ok (.getfield 7, 3) := by decide +kernel
theorem dX6_doLeave_57 : decode cX6_doLeave 57 = .ok (.bipush 21, 2) := by decide +kernel
theorem dX6_doLeave_59 : decode cX6_doLeave 59 = .ok (.iload_n 3, 1) := by decide +kernel
theorem dX6_doLeave_60 : decode cX6_doLeave 60 = .ok (.iadd, 1) := by decide +kernel
theorem dX6_doLeave_61 : decode cX6_doLeave 61 = .ok (.iaload, 1) := by decide +kernel
theorem dX6_doLeave_62 : decode cX6_doLeave 62 = .ok (.iastore, 1) := by decide +kernel
theorem dX6_doLeave_63 : decode cX6_doLeave 63 = .ok (.iinc 3 1, 3) := by decide +kernel
theorem dX6_doLeave_66 : decode cX6_doLeave 66 = .ok (.goto (-48), 3) := by decide +kernel
theorem dX6_doLeave_69 : decode cX6_doLeave 69 = .ok (.iload_n 2, 1) := by decide +kernel
theorem dX6_doLeave_70 : decode cX6_doLeave 70 = .ok (.ireturn, 1) := by decide +kernel
set_option maxRecDepth 20000 in
theorem ggX6_leave_X6_noLeave : GoodIn wsX6_leave wsX6_noLeave := goodIn_r _ [6, 7, 8, 9, 5, 10, 11, 12, 13, 14, 15, 16, 17, 32, 33, 34, 35, 36, 37, 38, 39, 40, 41, 42, 43] (by decide +kernel) (by decide +kernel)
set_option maxRecDepth 20000 in
theorem gX6_leave_X6_noLeave : GoodIn wsX6_leave (wsV RX6 104 RX6 yX6_noLeave wsX6_noLeave) := goodIn_app (goodIn_of _ (by decide +kernel)) ggX6_leave_X6_noLeave
set_option maxRecDepth 20000 in
theorem ggX6_leave_X6_record : GoodIn wsX6_leave wsX6_record := goodIn_r _ [21, 22, 23, 7, 32, 33, 34, 35, 36, 37, 38, 39, 40, 41, 42, 43] (by decide +kernel) (by decide +kernel)
set_option maxRecDepth 20000 in
theorem gX6_leave_X6_record : GoodIn wsX6_leave (wsV RX6 80 RX6 yX6_record wsX6_record) := goodIn_app (goodIn_of _ (by decide +kernel)) ggX6_leave_X6_record
set_option maxRecDepth 20000 in
theorem ggX6_leave_X6_doLeave : GoodIn wsX6_leave wsX6_doLeave := goodIn_r _ [27, 7, 28, 29, 30, 5, 31, 32, 33, 34, 35, 36, 37, 38, 39, 40, 41, 42, 43] (by decide +kernel) (by decide +kernel)
set_option maxRecDepth 20000 in
theorem gX6_leave_X6_doLeave : GoodIn wsX6_leave (wsV RX6 107 RX6 yX6_doLeave wsX6_doLeave) := goodIn_app (goodIn_of _ (by decide +kernel)) ggX6_leave_X6_doLeave
theorem dX6_leave_0 : decode cX6_leave 0 = .ok (.aload_n 0, 1) := by decide +kernel
theorem dX6_leave_1 : decode cX6_leave 1 = .ok (.aload_n 0, 1) := by decide +kernel
theorem dX6_leave_2 : decode cX6_leave 2 = .ok (.iload_n 1, 1) := by decide +kernel
theorem dX6_leave_3 : decode cX6_leave 3 = .ok (.invokevirtual 104, 3) := by decide +kernel
theorem dX6_leave_6 : decode cX6_leave 6 = .ok (.putfield 31, 3) := by decide +kernel
theorem dX6_leave_9 : decode cX6_leave 9 = .ok (.aload_n 0, 1) := by decide +kernel
theorem dX6_leave_10 : decode cX6_leave 10 = .ok (.getfield 31, 3) := by decide +kernel
theorem dX6_leave_13 : decode cX6_leave 13 = .ok (.ifCond .le 5, 3) := by decide +kernel
theorem dX6_leave_16 : decode cX6_leave 16 = .ok (.iconst 0, 1) := by decide +kernel
theorem dX6_leave_17 : decode cX6_leave 17 = .ok (.ireturn, 1) := by decide +kernel
theorem dX6_leave_18 : decode cX6_leave 18 = .ok (.aload_n 0, 1) := by decide +kernel
theorem dX6_leave_19 : decode cX6_leave 19 = .ok (.invokevirtual 80, 3) := by decide +kernel
theorem dX6_leave_22 : decode cX6_leave 22 = .ok (.aload_n 0, 1) := by decide +kernel
theorem dX6_leave_23 : decode cX6_leave 23 = .ok (.iload_n 1, 1) := by decide +kernel
theorem dX6_leave_24 : decode cX6_leave 24 = .ok (.invokevirtual 107, 3) := by decide +kernel
theorem dX6_leave_27 : decode cX6_leave 27 = .ok (.ireturn, 1) := by decide +kernel
theorem dX6_doorsteps_0 : decode cX6_doorsteps 0 = .ok (.aload_n 0, 1) := by decide +kernel
theorem dX6_doorsteps_1 : decode cX6_doorsteps 1 = .ok (.iconst 0, 1) := by decide +kernel
theorem dX6_doorsteps_2 : decode cX6_doorsteps 2 = .ok (.putfield 31, 3) := by decide +kernel
theorem dX6_doorsteps_5 : decode cX6_doorsteps 5 = .ok (.aload_n 0, 1) := by decide +kernel
theorem dX6_doorsteps_6 : decode cX6_doorsteps 6 = .ok (.getfield 7, 3) := by decide +kernel
theorem dX6_doorsteps_9 : decode cX6_doorsteps 9 = .ok (.iconst 0, 1) := by decide +kernel
theorem dX6_doorsteps_10 : decode cX6_doorsteps 10 = .ok (.iaload, 1) := by decide +kernel
theorem dX6_doorsteps_11 : decode cX6_doorsteps 11 = .ok (.ireturn, 1) := by decide +kernel
set_option maxRecDepth 20000 in
theorem ggX6_pints_X6_isDoor : GoodIn wsX6_pints wsX6_isDoor := goodIn_r _ [7, 2, 8, 9, 6, 10, 11, 12, 13, 14, 15, 16, 17, 18, 19, 20, 21, 22] (by decide +kernel) (by decide +kernel)
set_option maxRecDepth 20000 in
theorem gX6_pints_X6_isDoor : GoodIn wsX6_pints (wsV RX6 86 RX6 yX6_isDoor wsX6_isDoor) := goodIn_app (goodIn_of _ (by decide +kernel)) ggX6_pints_X6_isDoor
theorem dX6_pints_0 : decode cX6_pints 0 = .ok (.aload_n 0, 1) := by decide +kernel
theorem dX6_pints_1 : decode cX6_pints 1 = .ok (.aload_n 0, 1) := by decide +kernel
theorem dX6_pints_2 : decode cX6_pints 2 = .ok (.iload_n 1, 1) := by decide +kernel
theorem dX6_pints_3 : decode cX6_pints 3 = .ok (.invokevirtual 86, 3) := by decide +kernel
theorem dX6_pints_6 : decode cX6_pints 6 = .ok (.ifCond .eq 7, 3) := by decide +kernel
theorem dX6_pints_9 : decode cX6_pints 9 = .ok (.iconst 0, 1) := by decide +kernel
theorem dX6_pints_10 : decode cX6_pints 10 = .ok (.goto 4, 3) := by decide +kernel
theorem dX6_pints_13 : decode cX6_pints 13 = .ok (.iconst 1, 1) := by decide +kernel
theorem dX6_pints_14 : decode cX6_pints 14 = .ok (.putfield 31, 3) := by decide +kernel
theorem dX6_pints_17 : decode cX6_pints 17 = .ok (.aload_n 0, 1) := by decide +kernel
theorem dX6_pints_18 : decode cX6_pints 18 = .ok (.getfield 31, 3) := by decide +kernel
theorem dX6_pints_21 : decode cX6_pints 21 = .ok (.ifCond .le 7, 3) := by decide +kernel
theorem dX6_pints_24 : decode cX6_pints 24 = .ok (.iconst 0, 1) := by decide +kernel
theorem dX6_pints_25 : decode cX6_pints 25 = .ok (.goto 11, 3) := by decide +kernel
theorem dX6_pints_28 : decode cX6_pints 28 = .ok (.aload_n 0, 1) := by decide +kernel
theorem dX6_pints_29 : decode cX6_pints 29 = .ok (.getfield 7, 3) := by decide +kernel
theorem dX6_pints_32 : decode cX6_pints 32 = .ok (.iconst 1, 1) := by decide +kernel
theorem dX6_pints_33 : decode cX6_pints 33 = .ok (.iload_n 1, 1) := by decide +kernel
theorem dX6_pints_34 : decode cX6_pints 34 = .ok (.iadd, 1) := by decide +kernel
theorem dX6_pints_35 : decode cX6_pints 35 = .ok (.iaload, 1) := by decide +kernel
theorem dX6_pints_36 : decode cX6_pints 36 = .ok (.ireturn, 1) := by decide +kernel
set_option maxRecDepth 20000 in
theorem ggX6_owner_X6_isDoor : GoodIn wsX6_owner wsX6_isDoor := goodIn_r _ [7, 2, 8, 9, 6, 10, 11, 12, 13, 14, 15, 16, 17, 18, 19, 20, 21, 22] (by decide +kernel) (by decide +kernel)
set_option maxRecDepth 20000 in
theorem gX6_owner_X6_isDoor : GoodIn wsX6_owner (wsV RX6 86 RX6 yX6_isDoor wsX6_isDoor) := goodIn_app (goodIn_of _ (by decide +kernel)) ggX6_owner_X6_isDoor
theorem dX6_owner_0 : decode cX6_owner 0 = .ok (.aload_n 0, 1) := by decide +kernel
theorem dX6_owner_1 : decode cX6_owner 1 = .ok (.aload_n 0, 1) := by decide +kernel
theorem dX6_owner_2 : decode cX6_owner 2 = .ok (.iload_n 1, 1) := by decide +kernel
theorem dX6_owner_3 : decode cX6_owner 3 = .ok (.invokevirtual 86, 3) := by decide +kernel
theorem dX6_owner_6 : decode cX6_owner 6 = .ok (.ifCond .eq 7, 3) := by decide +kernel
theorem dX6_owner_9 : decode cX6_owner 9 = .ok (.iconst 0, 1) := by decide +kernel
theorem dX6_owner_10 : decode cX6_owner 10 = .ok (.goto 4, 3) := by decide +kernel
theorem dX6_owner_13 : decode cX6_owner 13 = .ok (.iconst 1, 1) := by decide +kernel
theorem dX6_owner_14 : decode cX6_owner 14 = .ok (.putfield 31, 3) := by decide +kernel
theorem dX6_owner_17 : decode cX6_owner 17 = .ok (.aload_n 0, 1) := by decide +kernel
theorem dX6_owner_18 : decode cX6_owner 18 = .ok (.getfield 31, 3) := by decide +kernel
theorem dX6_owner_21 : decode cX6_owner 21 = .ok (.ifCond .le 7, 3) := by decide +kernel
theorem dX6_owner_24 : decode cX6_owner 24 = .ok (.iconst 0, 1) := by decide +kernel
theorem dX6_owner_25 : decode cX6_owner 25 = .ok (.goto 12, 3) := by decide +kernel
theorem dX6_owner_28 : decode cX6_owner 28 = .ok (.aload_n 0, 1) := by decide +kernel
theorem dX6_owner_29 : decode cX6_owner 29 = .ok (.getfield 7, 3) := by decide +kernel
theorem dX6_owner_32 : decode cX6_owner 32 = .ok (.bipush 21, 2) := by decide +kernel
theorem dX6_owner_34 : decode cX6_owner 34 = .ok (.iload_n 1, 1) := by decide +kernel
theorem dX6_owner_35 : decode cX6_owner 35 = .ok (.iadd, 1) := by decide +kernel
theorem dX6_owner_36 : decode cX6_owner 36 = .ok (.iaload, 1) := by decide +kernel
theorem dX6_owner_37 : decode cX6_owner 37 = .ok (.ireturn, 1) := by decide +kernel
set_option maxRecDepth 20000 in
theorem ggX6_isAtWork_X6_isMan : GoodIn wsX6_isAtWork wsX6_isMan := goodIn_r _ [5, 6, 7, 4, 8] (by decide +kernel) (by decide +kernel)
set_option maxRecDepth 20000 in
theorem gX6_isAtWork_X6_isMan : GoodIn wsX6_isAtWork (va_wsS RX6 95 yX6_isMan wsX6_isMan) := goodIn_app (goodIn_of _ (by decide +kernel)) ggX6_isAtWork_X6_isMan
set_option maxRecDepth 20000 in
theorem ggX6_isAtWork_X6_works : GoodIn wsX6_isAtWork wsX6_works := goodIn_r _ [12, 13, 14, 15, 16, 17, 18, 19, 20, 21, 22, 23, 24, 25] (by decide +kernel) (by decide +kernel)
set_option maxRecDepth 20000 in
theorem gX6_isAtWork_X6_works : GoodIn wsX6_isAtWork (wsV RX6 50 RX6 yX6_works wsX6_works) := goodIn_app (goodIn_of _ (by decide +kernel)) ggX6_isAtWork_X6_works
theorem dX6_isAtWork_0 : decode cX6_isAtWork 0 = .ok (.aload_n 0, 1) := by decide +kernel
theorem dX6_isAtWork_1 : decode cX6_isAtWork 1 = .ok (.iload_n 1, 1) := by decide +kernel
theorem dX6_isAtWork_2 : decode cX6_isAtWork 2 = .ok (.invokestatic 95, 3) := by decide +kernel
theorem dX6_isAtWork_5 : decode cX6_isAtWork 5 = .ok (.ifCond .eq 7, 3) := by decide +kernel
theorem dX6_isAtWork_8 : decode cX6_isAtWork 8 = .ok (.iconst 0, 1) := by decide +kernel
theorem dX6_isAtWork_9 : decode cX6_isAtWork 9 = .ok (.goto 4, 3) := by decide +kernel
theorem dX6_isAtWork_12 : decode cX6_isAtWork 12 = .ok (.iconst 1, 1) := by decide +kernel
theorem dX6_isAtWork_13 : decode cX6_isAtWork 13 = .ok (.putfield 31, 3) := by decide +kernel
theorem dX6_isAtWork_16 : decode cX6_isAtWork 16 = .ok (.aload_n 0, 1) := by decide +kernel
theorem dX6_isAtWork_17 : decode cX6_isAtWork 17 = .ok (.getfield 31, 3) := by decide +kernel
theorem dX6_isAtWork_20 : decode cX6_isAtWork 20 = .ok (.ifCond .ne 15, 3) := by decide +kernel
theorem dX6_isAtWork_23 : decode cX6_isAtWork 23 = .ok (.aload_n 0, 1) := by decide +kernel
theorem dX6_isAtWork_24 : decode cX6_isAtWork 24 = .ok (.iload_n 1, 1) := by decide +kernel
theorem dX6_isAtWork_25 : decode cX6_isAtWork 25 = .ok (.invokevirtual 50, 3) := by decide +kernel
theorem dX6_isAtWork_28 : decode cX6_isAtWork 28 = .ok (.ifCond .eq 7, 3) := by decide +kernel
theorem dX6_isAtWork_31 : decode cX6_isAtWork 31 = .ok (.iconst 1, 1) := by decide +kernel
theorem dX6_isAtWork_32 : decode cX6_isAtWork 32 = .ok (.goto 4, 3) := by decide +kernel
theorem dX6_isAtWork_35 : decode cX6_isAtWork 35 = .ok (.iconst 0, 1) := by decide +kernel
theorem dX6_isAtWork_36 : decode cX6_isAtWork 36 = .ok (.ireturn, 1) := by decide +kernel
set_option maxRecDepth 20000 in
theorem ggX6_size_X6_isMan : GoodIn wsX6_size wsX6_isMan := goodIn_r _ [5, 6, 7, 4, 8] (by decide +kernel) (by decide +kernel)
set_option maxRecDepth 20000 in
theorem gX6_size_X6_isMan : GoodIn wsX6_size (va_wsS RX6 95 yX6_isMan wsX6_isMan) := goodIn_app (goodIn_of _ (by decide +kernel)) ggX6_size_X6_isMan
set_option maxRecDepth 20000 in
theorem ggX6_size_X6_sizeOf : GoodIn wsX6_size wsX6_sizeOf := goodIn_r _ [12, 13, 14, 15, 16, 17, 18, 19, 20, 21, 22, 23, 24, 25] (by decide +kernel) (by decide +kernel)
set_option maxRecDepth 20000 in
theorem gX6_size_X6_sizeOf : GoodIn wsX6_size (wsV RX6 42 RX6 yX6_sizeOf wsX6_sizeOf) := goodIn_app (goodIn_of _ (by decide +kernel)) ggX6_size_X6_sizeOf
theorem dX6_size_0 : decode cX6_size 0 = .ok (.aload_n 0, 1) := by decide +kernel
theorem dX6_size_1 : decode cX6_size 1 = .ok (.iload_n 1, 1) := by decide +kernel
theorem dX6_size_2 : decode cX6_size 2 = .ok (.invokestatic 95, 3) := by decide +kernel
theorem dX6_size_5 : decode cX6_size 5 = .ok (.ifCond .eq 7, 3) := by decide +kernel
theorem dX6_size_8 : decode cX6_size 8 = .ok (.iconst 0, 1) := by decide +kernel
theorem dX6_size_9 : decode cX6_size 9 = .ok (.goto 4, 3) := by decide +kernel
theorem dX6_size_12 : decode cX6_size 12 = .ok (.iconst 1, 1) := by decide +kernel
theorem dX6_size_13 : decode cX6_size 13 = .ok (.putfield 31, 3) := by decide +kernel
theorem dX6_size_16 : decode cX6_size 16 = .ok (.aload_n 0, 1) := by decide +kernel
theorem dX6_size_17 : decode cX6_size 17 = .ok (.getfield 31, 3) := by decide +kernel
theorem dX6_size_20 : decode cX6_size 20 = .ok (.ifCond .le 7, 3) := by decide +kernel
theorem dX6_size_23 : decode cX6_size 23 = .ok (.iconst 0, 1) := by decide +kernel
theorem dX6_size_24 : decode cX6_size 24 = .ok (.goto 8, 3) := by decide +kernel
theorem dX6_size_27 : decode cX6_size 27 = .ok (.aload_n 0, 1) := by decide +kernel
theorem dX6_size_28 : decode cX6_size 28 = .ok (.iload_n 1, 1) := by decide +kernel
theorem dX6_size_29 : decode cX6_size 29 = .ok (.invokevirtual 42, 3) := by decide +kernel
theorem dX6_size_32 : decode cX6_size 32 = .ok (.ireturn, 1) := by decide +kernel
set_option maxRecDepth 20000 in
theorem ggX6_load_X6_isMan : GoodIn wsX6_load wsX6_isMan := goodIn_r _ [5, 6, 7, 4, 8] (by decide +kernel) (by decide +kernel)
set_option maxRecDepth 20000 in
theorem gX6_load_X6_isMan : GoodIn wsX6_load (va_wsS RX6 95 yX6_isMan wsX6_isMan) := goodIn_app (goodIn_of _ (by decide +kernel)) ggX6_load_X6_isMan
set_option maxRecDepth 20000 in
theorem ggX6_load_X6_loadOf : GoodIn wsX6_load wsX6_loadOf := goodIn_r _ [12, 13, 14, 15, 16, 17, 18, 19, 20, 21, 22, 23, 24, 25] (by decide +kernel) (by decide +kernel)
set_option maxRecDepth 20000 in
theorem gX6_load_X6_loadOf : GoodIn wsX6_load (wsV RX6 110 RX6 yX6_loadOf wsX6_loadOf) := goodIn_app (goodIn_of _ (by decide +kernel)) ggX6_load_X6_loadOf
theorem dX6_load_0 : decode cX6_load 0 = .ok (.aload_n 0, 1) := by decide +kernel
theorem dX6_load_1 : decode cX6_load 1 = .ok (.iload_n 1, 1) := by decide +kernel
theorem dX6_load_2 : decode cX6_load 2 = .ok (.invokestatic 95, 3) := by decide +kernel
theorem dX6_load_5 : decode cX6_load 5 = .ok (.ifCond .eq 7, 3) := by decide +kernel
theorem dX6_load_8 : decode cX6_load 8 = .ok (.iconst 0, 1) := by decide +kernel
theorem dX6_load_9 : decode cX6_load 9 = .ok (.goto 4, 3) := by decide +kernel
theorem dX6_load_12 : decode cX6_load 12 = .ok (.iconst 1, 1) := by decide +kernel
theorem dX6_load_13 : decode cX6_load 13 = .ok (.putfield 31, 3) := by decide +kernel
theorem dX6_load_16 : decode cX6_load 16 = .ok (.aload_n 0, 1) := by decide +kernel
theorem dX6_load_17 : decode cX6_load 17 = .ok (.getfield 31, 3) := by decide +kernel
theorem dX6_load_20 : decode cX6_load 20 = .ok (.ifCond .le 7, 3) := by decide +kernel
theorem dX6_load_23 : decode cX6_load 23 = .ok (.iconst 0, 1) := by decide +kernel
theorem dX6_load_24 : decode cX6_load 24 = .ok (.goto 8, 3) := by decide +kernel
theorem dX6_load_27 : decode cX6_load 27 = .ok (.aload_n 0, 1) := by decide +kernel
theorem dX6_load_28 : decode cX6_load 28 = .ok (.iload_n 1, 1) := by decide +kernel
theorem dX6_load_29 : decode cX6_load 29 = .ok (.invokevirtual 110, 3) := by decide +kernel
theorem dX6_load_32 : decode cX6_load 32 = .ok (.ireturn, 1) := by decide +kernel
set_option maxRecDepth 20000 in
theorem ggX6_noPlan_X6_men : GoodIn wsX6_noPlan wsX6_men := goodIn_r _ [6, 1, 7, 8, 9, 10, 11, 12, 13, 14, 15, 16, 17, 18] (by decide +kernel) (by decide +kernel)
set_option maxRecDepth 20000 in
theorem gX6_noPlan_X6_men : GoodIn wsX6_noPlan (wsV RX6 46 RX6 yX6_men wsX6_men) := goodIn_app (goodIn_of _ (by decide +kernel)) ggX6_noPlan_X6_men
theorem dX6_noPlan_0 : decode cX6_noPlan 0 = .ok (.aload_n 0, 1) := by decide +kernel
theorem dX6_noPlan_1 : decode cX6_noPlan 1 = .ok (.getfield 7, 3) := by decide +kernel
theorem dX6_noPlan_4 : decode cX6_noPlan 4 = .ok (.bipush 87, 2) := by decide +kernel
theorem dX6_noPlan_6 : decode cX6_noPlan 6 = .ok (.iaload, 1) := by decide +kernel
theorem dX6_noPlan_7 : decode cX6_noPlan 7 = .ok (.ifCond .gt 10, 3) := by decide +kernel
theorem dX6_noPlan_10 : decode cX6_noPlan 10 = .ok (.aload_n 0, 1) := by decide +kernel
theorem dX6_noPlan_11 : decode cX6_noPlan 11 = .ok (.invokevirtual 46, 3) := by decide +kernel
theorem dX6_noPlan_14 : decode cX6_noPlan 14 = .ok (.ifCond .ne 7, 3) := by decide +kernel
theorem dX6_noPlan_17 : decode cX6_noPlan 17 = .ok (.iconst 1, 1) := by decide +kernel
theorem dX6_noPlan_18 : decode cX6_noPlan 18 = .ok (.goto 4, 3) := by decide +kernel
theorem dX6_noPlan_21 : decode cX6_noPlan 21 = .ok (.iconst 0, 1) := by decide +kernel
theorem dX6_noPlan_22 : decode cX6_noPlan 22 = .ok (.ireturn, 1) := by decide +kernel
set_option maxRecDepth 20000 in
theorem ggX6_doPlan_X6_share : GoodIn wsX6_doPlan wsX6_share := goodIn_r _ [7, 1, 2, 8, 9, 10, 6, 11, 12, 13, 14, 15, 16, 17, 18, 19, 20, 21, 22, 23, 24, 25, 26, 27, 28, 29, 30, 31, 32, 33, 34, 35, 36, 37, 38, 39, 40, 41, 42, 43, 44, 45, 46, 47, 48, 49, 50, 51, 52, 53, 54, 55, 56, 57, 58, 59, 60, 61, 62] (by decide +kernel) (by decide +kernel)
set_option maxRecDepth 20000 in
theorem gX6_doPlan_X6_share : GoodIn wsX6_doPlan (wsV RX6 113 RX6 yX6_share wsX6_share) := goodIn_app (goodIn_of _ (by decide +kernel)) ggX6_doPlan_X6_share
theorem dX6_doPlan_0 : decode cX6_doPlan 0 = .ok (.aload_n 0, 1) := by decide +kernel
theorem dX6_doPlan_1 : decode cX6_doPlan 1 = .ok (.invokevirtual 113, 3) := by decide +kernel
theorem dX6_doPlan_4 : decode cX6_doPlan 4 = .ok (.istore_n 1, 1) := by decide +kernel
theorem dX6_doPlan_5 : decode cX6_doPlan 5 = .ok (.iconst 0, 1) := by decide +kernel
theorem dX6_doPlan_6 : decode cX6_doPlan 6 = .ok (.istore_n 2, 1) := by decide +kernel
theorem dX6_doPlan_7 : decode cX6_doPlan 7 = .ok (.iload_n 2, 1) := by decide +kernel
theorem dX6_doPlan_8 : decode cX6_doPlan 8 = .ok (.aload_n 0, 1) := by decide +kernel
theorem dX6_doPlan_9 : decode cX6_doPlan 9 = .ok (.getfield 7, 3) := by decide +kernel
theorem dX6_doPlan_12 : decode cX6_doPlan 12 = .ok (.iconst 0, 1) := by decide +kernel
theorem dX6_doPlan_13 : decode cX6_doPlan 13 = .ok (.iaload, 1) := by decide +kernel
theorem dX6_doPlan_14 : decode cX6_doPlan 14 = .ok (.if_icmp .ge 46, 3) := by decide +kernel
theorem dX6_doPlan_17 : decode cX6_doPlan 17 = .ok (.iload_n 1, 1) := by decide +kernel
theorem dX6_doPlan_18 : decode cX6_doPlan 18 = .ok (.ifCond .le 42, 3) := by decide +kernel
theorem dX6_doPlan_21 : decode cX6_doPlan 21 = .ok (.aload_n 0, 1) := by decide +kernel
theorem dX6_doPlan_22 : decode cX6_doPlan 22 = .ok (.getfield 7, 3) := by decide +kernel
theorem dX6_doPlan_25 : decode cX6_doPlan 25 = .ok (.bipush 41, 2) := by decide +kernel
theorem dX6_doPlan_27 : decode cX6_doPlan 27 = .ok (.iload_n 2, 1) := by decide +kernel
theorem dX6_doPlan_28 : decode cX6_doPlan 28 = .ok (.iadd, 1) := by decide +kernel
theorem dX6_doPlan_29 : decode cX6_doPlan 29 = .ok (.aload_n 0, 1) := by decide +kernel
theorem dX6_doPlan_30 : decode cX6_doPlan 30 = .ok (.getfield 19, 3) := by decide +kernel
theorem dX6_doPlan_33 : decode cX6_doPlan 33 = .ok (.iload_n 2, 1) := by decide +kernel
theorem dX6_doPlan_34 : decode cX6_doPlan 34 = .ok (.iaload, 1) := by decide +kernel
theorem dX6_doPlan_35 : decode cX6_doPlan 35 = .ok (.iastore, 1) := by decide +kernel
theorem dX6_doPlan_36 : decode cX6_doPlan 36 = .ok (.aload_n 0, 1) := by decide +kernel
theorem dX6_doPlan_37 : decode cX6_doPlan 37 = .ok (.getfield 7, 3) := by decide +kernel
theorem dX6_doPlan_40 : decode cX6_doPlan 40 = .ok (.bipush 61, 2) := by decide +kernel
theorem dX6_doPlan_42 : decode cX6_doPlan 42 = .ok (.iload_n 2, 1) := by decide +kernel
theorem dX6_doPlan_43 : decode cX6_doPlan 43 = .ok (.iadd, 1) := by decide +kernel
theorem dX6_doPlan_44 : decode cX6_doPlan 44 = .ok (.aload_n 0, 1) := by decide +kernel
theorem dX6_doPlan_45 : decode cX6_doPlan 45 = .ok (.getfield 7, 3) := by decide +kernel
theorem dX6_doPlan_48 : decode cX6_doPlan 48 = .ok (.bipush 21, 2) := by decide +kernel
theorem dX6_doPlan_50 : decode cX6_doPlan 50 = .ok (.iload_n 2, 1) := by decide +kernel
theorem dX6_doPlan_51 : decode cX6_doPlan 51 = .ok (.iadd, 1) := by decide +kernel
theorem dX6_doPlan_52 : decode cX6_doPlan 52 = .ok (.iaload, 1) := by decide +kernel
theorem dX6_doPlan_53 : decode cX6_doPlan 53 = .ok (.iastore, 1) := by decide +kernel
theorem dX6_doPlan_54 : decode cX6_doPlan 54 = .ok (.iinc 2 1, 3) := by decide +kernel
theorem dX6_doPlan_57 : decode cX6_doPlan 57 = .ok (.goto (-50), 3) := by decide +kernel
theorem dX6_doPlan_60 : decode cX6_doPlan 60 = .ok (.aload_n 0, 1) := by decide +kernel
theorem dX6_doPlan_61 : decode cX6_doPlan 61 = .ok (.getfield 7, 3) := by decide +kernel
theorem dX6_doPlan_64 : decode cX6_doPlan 64 = .ok (.bipush 87, 2) := by decide +kernel
theorem dX6_doPlan_66 : decode cX6_doPlan 66 = .ok (.iload_n 1, 1) := by decide +kernel
theorem dX6_doPlan_67 : decode cX6_doPlan 67 = .ok (.ifCond .le 7, 3) := by decide +kernel
theorem dX6_doPlan_70 : decode cX6_doPlan 70 = .ok (.iconst 1, 1) := by decide +kernel
theorem dX6_doPlan_71 : decode cX6_doPlan 71 = .ok (.goto 4, 3) := by decide +kernel
theorem dX6_doPlan_74 : decode cX6_doPlan 74 = .ok (.iconst 0, 1) := by decide +kernel
theorem dX6_doPlan_75 : decode cX6_doPlan 75 = .ok (.iastore, 1) := by decide +kernel
theorem dX6_doPlan_76 : decode cX6_doPlan 76 = .ok (.iload_n 1, 1) := by decide +kernel
theorem dX6_doPlan_77 : decode cX6_doPlan 77 = .ok (.ireturn, 1) := by decide +kernel
set_option maxRecDepth 20000 in
theorem ggX6_plan_X6_noPlan : GoodIn wsX6_plan wsX6_noPlan := goodIn_r _ [6, 7, 8, 9, 10, 5, 11, 66, 67, 68, 69, 70, 71, 72, 73, 74, 75, 76, 77] (by decide +kernel) (by decide +kernel)
set_option maxRecDepth 20000 in
theorem gX6_plan_X6_noPlan : GoodIn wsX6_plan (wsV RX6 116 RX6 yX6_noPlan wsX6_noPlan) := goodIn_app (goodIn_of _ (by decide +kernel)) ggX6_plan_X6_noPlan
set_option maxRecDepth 20000 in
theorem ggX6_plan_X6_record : GoodIn wsX6_plan wsX6_record := goodIn_r _ [15, 16, 17, 7, 66, 67, 68, 69, 70, 71, 72, 73, 74, 75, 76, 77] (by decide +kernel) (by decide +kernel)
set_option maxRecDepth 20000 in
theorem gX6_plan_X6_record : GoodIn wsX6_plan (wsV RX6 80 RX6 yX6_record wsX6_record) := goodIn_app (goodIn_of _ (by decide +kernel)) ggX6_plan_X6_record
set_option maxRecDepth 20000 in
theorem ggX6_plan_X6_doPlan : GoodIn wsX6_plan wsX6_doPlan := goodIn_r _ [21, 7, 22, 23, 24, 25, 5, 26, 8, 9, 10, 11, 27, 28, 29, 30, 31, 32, 33, 34, 35, 36, 37, 38, 39, 40, 41, 42, 43, 44, 45, 46, 47, 48, 49, 50, 51, 52, 53, 54, 55, 56, 57, 58, 59, 60, 61, 62, 63, 64, 65, 66, 67, 68, 69, 70, 71, 72, 73, 74, 75, 76, 77] (by decide +kernel) (by decide +kernel)
set_option maxRecDepth 20000 in
theorem gX6_plan_X6_doPlan : GoodIn wsX6_plan (wsV RX6 119 RX6 yX6_doPlan wsX6_doPlan) := goodIn_app (goodIn_of _ (by decide +kernel)) ggX6_plan_X6_doPlan
theorem dX6_plan_0 : decode cX6_plan 0 = .ok (.aload_n 0, 1) := by decide +kernel
theorem dX6_plan_1 : decode cX6_plan 1 = .ok (.aload_n 0, 1) := by decide +kernel
theorem dX6_plan_2 : decode cX6_plan 2 = .ok (.invokevirtual 116, 3) := by decide +kernel
theorem dX6_plan_5 : decode cX6_plan 5 = .ok (.putfield 31, 3) := by decide +kernel
theorem dX6_plan_8 : decode cX6_plan 8 = .ok (.aload_n 0, 1) := by decide +kernel
theorem dX6_plan_9 : decode cX6_plan 9 = .ok (.getfield 31, 3) := by decide +kernel
theorem dX6_plan_12 : decode cX6_plan 12 = .ok (.ifCond .le 5, 3) := by decide +kernel
theorem dX6_plan_15 : decode cX6_plan 15 = .ok (.iconst 0, 1) := by decide +kernel
theorem dX6_plan_16 : decode cX6_plan 16 = .ok (.ireturn, 1) := by decide +kernel
theorem dX6_plan_17 : decode cX6_plan 17 = .ok (.aload_n 0, 1) := by decide +kernel
theorem dX6_plan_18 : decode cX6_plan 18 = .ok (.invokevirtual 80, 3) := by decide +kernel
theorem dX6_plan_21 : decode cX6_plan 21 = .ok (.aload_n 0, 1) := by decide +kernel
theorem dX6_plan_22 : decode cX6_plan 22 = .ok (.invokevirtual 119, 3) := by decide +kernel
theorem dX6_plan_25 : decode cX6_plan 25 = .ok (.ireturn, 1) := by decide +kernel
theorem dX6_noHandover_0 : decode cX6_noHandover 0 = .ok (.aload_n 0, 1) := by decide +kernel
theorem dX6_noHandover_1 : decode cX6_noHandover 1 = .ok (.getfield 7, 3) := by decide +kernel
theorem dX6_noHandover_4 : decode cX6_noHandover 4 = .ok (.bipush 87, 2) := by decide +kernel
theorem dX6_noHandover_6 : decode cX6_noHandover 6 = .ok (.iaload, 1) := by decide +kernel
theorem dX6_noHandover_7 : decode cX6_noHandover 7 = .ok (.ifCond .ne 7, 3) := by decide +kernel
theorem dX6_noHandover_10 : decode cX6_noHandover 10 = .ok (.iconst 1, 1) := by decide +kernel
theorem dX6_noHandover_11 : decode cX6_noHandover 11 = .ok (.goto 4, 3) := by decide +kernel
theorem dX6_noHandover_14 : decode cX6_noHandover 14 = .ok (.iconst 0, 1) := by decide +kernel
theorem dX6_noHandover_15 : decode cX6_noHandover 15 = .ok (.ireturn, 1) := by decide +kernel
theorem dX6_doHandOver_0 : decode cX6_doHandOver 0 = .ok (.iconst 0, 1) := by decide +kernel
theorem dX6_doHandOver_1 : decode cX6_doHandOver 1 = .ok (.istore_n 1, 1) := by decide +kernel
theorem dX6_doHandOver_2 : decode cX6_doHandOver 2 = .ok (.iconst 0, 1) := by decide +kernel
theorem dX6_doHandOver_3 : decode cX6_doHandOver 3 = .ok (.istore_n 2, 1) := by decide +kernel
theorem dX6_doHandOver_4 : decode cX6_doHandOver 4 = .ok (.iload_n 2, 1) := by decide +kernel
theorem dX6_doHandOver_5 : decode cX6_doHandOver 5 = .ok (.aload_n 0, 1) := by decide +kernel
theorem dX6_doHandOver_6 : decode cX6_doHandOver 6 = .ok (.getfield 7, 3) := by decide +kernel
theorem dX6_doHandOver_9 : decode cX6_doHandOver 9 = .ok (.iconst 0, 1) := by decide +kernel
theorem dX6_doHandOver_10 : decode cX6_doHandOver 10 = .ok (.iaload, 1) := by decide +kernel
theorem dX6_doHandOver_11 : decode cX6_doHandOver 11 = .ok (.if_icmp .ge 94, 3) := by decide +kernel
theorem dX6_doHandOver_14 : decode cX6_doHandOver 14 = .ok (.aload_n 0, 1) := by decide +kernel
theorem dX6_doHandOver_15 : decode cX6_doHandOver 15 = .ok (.getfield 7, 3) := by decide +kernel
theorem dX6_doHandOver_18 : decode cX6_doHandOver 18 = .ok (.bipush 41, 2) := by decide +kernel
theorem dX6_doHandOver_20 : decode cX6_doHandOver 20 = .ok (.iload_n 2, 1) := by decide +kernel
theorem dX6_doHandOver_21 : decode cX6_doHandOver 21 = .ok (.iadd, 1) := by decide +kernel
theorem dX6_doHandOver_22 : decode cX6_doHandOver 22 = .ok (.iaload, 1) := by decide +kernel
theorem dX6_doHandOver_23 : decode cX6_doHandOver 23 = .ok (.aload_n 0, 1) := by decide +kernel
theorem dX6_doHandOver_24 : decode cX6_doHandOver 24 = .ok (.getfield 7, 3) := by decide +kernel
theorem dX6_doHandOver_27 : decode cX6_doHandOver 27 = .ok (.bipush 61, 2) := by decide +kernel
theorem dX6_doHandOver_29 : decode cX6_doHandOver 29 = .ok (.iload_n 2, 1) := by decide +kernel
theorem dX6_doHandOver_30 : decode cX6_doHandOver 30 = .ok (.iadd, 1) := by decide +kernel
theorem dX6_doHandOver_31 : decode cX6_doHandOver 31 = .ok (.iaload, 1) := by decide +kernel
theorem dX6_doHandOver_32 : decode cX6_doHandOver 32 = .ok (.if_icmp .eq 67, 3) := by decide +kernel
theorem dX6_doHandOver_35 : decode cX6_doHandOver 35 = .ok (.iload_n 1, 1) := by decide +kernel
theorem dX6_doHandOver_36 : decode cX6_doHandOver 36 = .ok (.aload_n 0, 1) := by decide +kernel
theorem dX6_doHandOver_37 : decode cX6_doHandOver 37 = .ok (.getfield 7, 3) := by decide +kernel
theorem dX6_doHandOver_40 : decode cX6_doHandOver 40 = .ok (.bipush 87, 2) := by decide +kernel
theorem dX6_doHandOver_42 : decode cX6_doHandOver 42 = .ok (.iaload, 1) := by decide +kernel
theorem dX6_doHandOver_43 : decode cX6_doHandOver 43 = .ok (.iconst 2, 1) := by decide +kernel
theorem dX6_doHandOver_44 : decode cX6_doHandOver 44 = .ok (.if_icmp .eq 15, 3) := by decide +kernel
theorem dX6_doHandOver_47 : decode cX6_doHandOver 47 = .ok (.aload_n 0, 1) := by decide +kernel
theorem dX6_doHandOver_48 : decode cX6_doHandOver 48 = .ok (.getfield 7, 3) := by decide +kernel
theorem dX6_doHandOver_51 : decode cX6_doHandOver 51 = .ok (.bipush 21, 2) := by decide +kernel
theorem dX6_doHandOver_53 : decode cX6_doHandOver 53 = .ok (.iload_n 2, 1) := by decide +kernel
theorem dX6_doHandOver_54 : decode cX6_doHandOver 54 = .ok (.iadd, 1) := by decide +kernel
theorem dX6_doHandOver_55 : decode cX6_doHandOver 55 = .ok (.iaload, 1) := by decide +kernel
theorem dX6_doHandOver_56 : decode cX6_doHandOver 56 = .ok (.ifCond .lt 7, 3) := by decide +kernel
theorem dX6_doHandOver_59 : decode cX6_doHandOver 59 = .ok (.iconst 1, 1) := by decide +kernel
theorem dX6_doHandOver_60 : decode cX6_doHandOver 60 = .ok (.goto 4, 3) := by decide +kernel
theorem dX6_doHandOver_63 : decode cX6_doHandOver 63 = .ok (.iconst 0, 1) := by decide +kernel
theorem dX6_doHandOver_64 : decode cX6_doHandOver 64 = .ok (.iadd, 1) := by decide +kernel
theorem dX6_doHandOver_65 : decode cX6_doHandOver 65 = .ok (.istore_n 1, 1) := by decide +kernel
theorem dX6_doHandOver_66 : decode cX6_doHandOver 66 = .ok (.aload_n 0, 1) := by decide +kernel
theorem dX6_doHandOver_67 : decode cX6_doHandOver 67 = .ok (.getfield 7, 3) := by decide +kernel
theorem dX6_doHandOver_70 : decode cX6_doHandOver 70 = .ok (.bipush 21, 2) := by decide +kernel
theorem dX6_doHandOver_72 : decode cX6_doHandOver 72 = .ok (.iload_n 2, 1) := by decide +kernel
theorem dX6_doHandOver_73 : decode cX6_doHandOver 73 = .ok (.iadd, 1) := by decide +kernel
theorem dX6_doHandOver_74 : decode cX6_doHandOver 74 = .ok (.aload_n 0, 1) := by decide +kernel
theorem dX6_doHandOver_75 : decode cX6_doHandOver 75 = .ok (.getfield 7, 3) := by decide +kernel
theorem dX6_doHandOver_78 : decode cX6_doHandOver 78 = .ok (.bipush 87, 2) := by decide +kernel
theorem dX6_doHandOver_80 : decode cX6_doHandOver 80 = .ok (.iaload, 1) := by decide +kernel
theorem dX6_doHandOver_81 : decode cX6_doHandOver 81 = .ok (.iconst 2, 1) := by decide +kernel
theorem dX6_doHandOver_82 : decode cX6_doHandOver 82 = .ok (.if_icmp .ne 15, 3) := by decide +kernel
theorem dX6_doHandOver_85 : decode cX6_doHandOver 85 = .ok (.aload_n 0, 1) := by decide +kernel
theorem dX6_doHandOver_86 : decode cX6_doHandOver 86 = .ok (.getfield 7, 3) := by decide +kernel
theorem dX6_doHandOver_89 : decode cX6_doHandOver 89 = .ok (.bipush 41, 2) := by decide +kernel
theorem dX6_doHandOver_91 : decode cX6_doHandOver 91 = .ok (.iload_n 2, 1) := by decide +kernel
theorem dX6_doHandOver_92 : decode cX6_doHandOver 92 = .ok (.iadd, 1) := by decide +kernel
theorem dX6_doHandOver_93 : decode cX6_doHandOver 93 = .ok (.iaload, 1) := by decide +kernel
theorem dX6_doHandOver_94 : decode cX6_doHandOver 94 = .ok (.goto 4, 3) := by decide +kernel
theorem dX6_doHandOver_97 : decode cX6_doHandOver 97 = .ok (.iconst (-1), 1) := by decide +kernel
theorem dX6_doHandOver_98 : decode cX6_doHandOver 98 = .ok (.iastore, 1) := by decide +kernel
theorem dX6_doHandOver_99 : decode cX6_doHandOver 99 = .ok (.iinc 2 1, 3) := by decide +kernel
theorem dX6_doHandOver_102 : decode cX6_doHandOver 102 = .ok (.goto (-98), 3) := by decide +kernel
theorem dX6_doHandOver_105 : decode cX6_doHandOver 105 = .ok (.aload_n 0, 1) := by decide +kernel
theorem dX6_doHandOver_106 : decode cX6_doHandOver 106 = .ok (.getfield 7, 3) := by decide +kernel
theorem dX6_doHandOver_109 : decode cX6_doHandOver 109 = .ok (.bipush 88, 2) := by decide +kernel
theorem dX6_doHandOver_111 : decode cX6_doHandOver 111 = .ok (.dup2, 1) := by decide +kernel
theorem dX6_doHandOver_112 : decode cX6_doHandOver 112 = .ok (.iaload, 1) := by decide +kernel
theorem dX6_doHandOver_113 : decode cX6_doHandOver 113 = .ok (.aload_n 0, 1) := by decide +kernel
theorem dX6_doHandOver_114 : decode cX6_doHandOver 114 = .ok (.getfield 7, 3) := by decide +kernel
theorem dX6_doHandOver_117 : decode cX6_doHandOver 117 = .ok (.bipush 87, 2) := by decide +kernel
theorem dX6_doHandOver_119 : decode cX6_doHandOver 119 = .ok (.iaload, 1) := by decide +kernel
theorem dX6_doHandOver_120 : decode cX6_doHandOver 120 = .ok (.iconst 2, 1) := by decide +kernel
theorem dX6_doHandOver_121 : decode cX6_doHandOver 121 = .ok (.if_icmp .ne 7, 3) := by decide +kernel
theorem dX6_doHandOver_124 : decode cX6_doHandOver 124 = .ok (.iload_n 1, 1) := by decide +kernel
theorem dX6_doHandOver_125 : decode cX6_doHandOver 125 = .ok (.goto 4, 3) := by decide +kernel
theorem dX6_doHandOver_128 : decode cX6_doHandOver 128 = .ok (.iconst 0, 1) := by decide +kernel
theorem dX6_doHandOver_129 : decode cX6_doHandOver 129 = .ok (.iadd, 1) := by decide +kernel
theorem dX6_doHandOver_130 : decode cX6_doHandOver 130 = .ok (.iastore, 1) := by decide +kernel
theorem dX6_doHandOver_131 : decode cX6_doHandOver 131 = .ok (.aload_n 0, 1) := by decide +kernel
theorem dX6_doHandOver_132 : decode cX6_doHandOver 132 = .ok (.getfield 7, 3) := by decide +kernel
theorem dX6_doHandOver_135 : decode cX6_doHandOver 135 = .ok (.bipush 87, 2) := by decide +kernel
theorem dX6_doHandOver_137 : decode cX6_doHandOver 137 = .ok (.aload_n 0, 1) := by decide +kernel
theorem dX6_doHandOver_138 : decode cX6_doHandOver 138 = .ok (.getfield 7, 3) := by decide +kernel
theorem dX6_doHandOver_141 : decode cX6_doHandOver 141 = .ok (.bipush 87, 2) := by decide +kernel
theorem dX6_doHandOver_143 : decode cX6_doHandOver 143 = .ok (.iaload, 1) := by decide +kernel
theorem dX6_doHandOver_144 : decode cX6_doHandOver 144 = .ok (.iconst 2, 1) := by decide +kernel
theorem dX6_doHandOver_145 : decode cX6_doHandOver 145 = .ok (.if_icmp .ne 7, 3) := by decide +kernel
theorem dX6_doHandOver_148 : decode cX6_doHandOver 148 = .ok (.iconst 0, 1) := by decide +kernel
theorem dX6_doHandOver_149 : decode cX6_doHandOver 149 = .ok (.goto 4, 3) := by decide +kernel
theorem dX6_doHandOver_152 : decode cX6_doHandOver 152 = .ok (.iconst 2, 1) := by decide +kernel
theorem dX6_doHandOver_153 : decode cX6_doHandOver 153 = .ok (.iastore, 1) := by decide +kernel
theorem dX6_doHandOver_154 : decode cX6_doHandOver 154 = .ok (.iload_n 1, 1) := by decide +kernel
theorem dX6_doHandOver_155 : decode cX6_doHandOver 155 = .ok (.ireturn, 1) := by decide +kernel
set_option maxRecDepth 20000 in
theorem ggX6_handOver_X6_noHandover : GoodIn wsX6_handOver wsX6_noHandover := goodIn_r _ [6, 7, 18, 19, 20, 21, 22, 23, 24, 25, 26, 27, 28, 29] (by decide +kernel) (by decide +kernel)
set_option maxRecDepth 20000 in
theorem gX6_handOver_X6_noHandover : GoodIn wsX6_handOver (wsV RX6 122 RX6 yX6_noHandover wsX6_noHandover) := goodIn_app (goodIn_of _ (by decide +kernel)) ggX6_handOver_X6_noHandover
set_option maxRecDepth 20000 in
theorem ggX6_handOver_X6_record : GoodIn wsX6_handOver wsX6_record := goodIn_r _ [11, 12, 13, 7, 18, 19, 20, 21, 22, 23, 24, 25, 26, 27, 28, 29] (by decide +kernel) (by decide +kernel)
set_option maxRecDepth 20000 in
theorem gX6_handOver_X6_record : GoodIn wsX6_handOver (wsV RX6 80 RX6 yX6_record wsX6_record) := goodIn_app (goodIn_of _ (by decide +kernel)) ggX6_handOver_X6_record
set_option maxRecDepth 20000 in
theorem ggX6_handOver_X6_doHandOver : GoodIn wsX6_handOver wsX6_doHandOver := goodIn_r _ [17, 7, 18, 19, 20, 21, 22, 23, 24, 25, 26, 27, 28, 29] (by decide +kernel) (by decide +kernel)
set_option maxRecDepth 20000 in
theorem gX6_handOver_X6_doHandOver : GoodIn wsX6_handOver (wsV RX6 125 RX6 yX6_doHandOver wsX6_doHandOver) := goodIn_app (goodIn_of _ (by decide +kernel)) ggX6_handOver_X6_doHandOver
theorem dX6_handOver_0 : decode cX6_handOver 0 = .ok (.aload_n 0, 1) := by decide +kernel
theorem dX6_handOver_1 : decode cX6_handOver 1 = .ok (.aload_n 0, 1) := by decide +kernel
theorem dX6_handOver_2 : decode cX6_handOver 2 = .ok (.invokevirtual 122, 3) := by decide +kernel
theorem dX6_handOver_5 : decode cX6_handOver 5 = .ok (.putfield 31, 3) := by decide +kernel
theorem dX6_handOver_8 : decode cX6_handOver 8 = .ok (.aload_n 0, 1) := by decide +kernel
theorem dX6_handOver_9 : decode cX6_handOver 9 = .ok (.getfield 31, 3) := by decide +kernel
theorem dX6_handOver_12 : decode cX6_handOver 12 = .ok (.ifCond .le 5, 3) := by decide +kernel
theorem dX6_handOver_15 : decode cX6_handOver 15 = .ok (.iconst 0, 1) := by decide +kernel
theorem dX6_handOver_16 : decode cX6_handOver 16 = .ok (.ireturn, 1) := by decide +kernel
theorem dX6_handOver_17 : decode cX6_handOver 17 = .ok (.aload_n 0, 1) := by decide +kernel
theorem dX6_handOver_18 : decode cX6_handOver 18 = .ok (.invokevirtual 80, 3) := by decide +kernel
theorem dX6_handOver_21 : decode cX6_handOver 21 = .ok (.aload_n 0, 1) := by decide +kernel
theorem dX6_handOver_22 : decode cX6_handOver 22 = .ok (.invokevirtual 125, 3) := by decide +kernel
theorem dX6_handOver_25 : decode cX6_handOver 25 = .ok (.ireturn, 1) := by decide +kernel
theorem dX6_doCallOff_0 : decode cX6_doCallOff 0 = .ok (.iconst 0, 1) := by decide +kernel
theorem dX6_doCallOff_1 : decode cX6_doCallOff 1 = .ok (.istore_n 1, 1) := by decide +kernel
theorem dX6_doCallOff_2 : decode cX6_doCallOff 2 = .ok (.iconst 0, 1) := by decide +kernel
theorem dX6_doCallOff_3 : decode cX6_doCallOff 3 = .ok (.istore_n 2, 1) := by decide +kernel
theorem dX6_doCallOff_4 : decode cX6_doCallOff 4 = .ok (.iload_n 2, 1) := by decide +kernel
theorem dX6_doCallOff_5 : decode cX6_doCallOff 5 = .ok (.aload_n 0, 1) := by decide +kernel
theorem dX6_doCallOff_6 : decode cX6_doCallOff 6 = .ok (.getfield 7, 3) := by decide +kernel
theorem dX6_doCallOff_9 : decode cX6_doCallOff 9 = .ok (.iconst 0, 1) := by decide +kernel
theorem dX6_doCallOff_10 : decode cX6_doCallOff 10 = .ok (.iaload, 1) := by decide +kernel
theorem dX6_doCallOff_11 : decode cX6_doCallOff 11 = .ok (.if_icmp .ge 56, 3) := by decide +kernel
theorem dX6_doCallOff_14 : decode cX6_doCallOff 14 = .ok (.iload_n 1, 1) := by decide +kernel
theorem dX6_doCallOff_15 : decode cX6_doCallOff 15 = .ok (.aload_n 0, 1) := by decide +kernel
theorem dX6_doCallOff_16 : decode cX6_doCallOff 16 = .ok (.getfield 7, 3) := by decide +kernel
theorem dX6_doCallOff_19 : decode cX6_doCallOff 19 = .ok (.bipush 21, 2) := by decide +kernel
theorem dX6_doCallOff_21 : decode cX6_doCallOff 21 = .ok (.iload_n 2, 1) := by decide +kernel
theorem dX6_doCallOff_22 : decode cX6_doCallOff 22 = .ok (.iadd, 1) := by decide +kernel
theorem dX6_doCallOff_23 : decode cX6_doCallOff 23 = .ok (.iaload, 1) := by decide +kernel
theorem dX6_doCallOff_24 : decode cX6_doCallOff 24 = .ok (.aload_n 0, 1) := by decide +kernel
theorem dX6_doCallOff_25 : decode cX6_doCallOff 25 = .ok (.getfield 7, 3) := by decide +kernel
theorem dX6_doCallOff_28 : decode cX6_doCallOff 28 = .ok (.bipush 61, 2) := by decide +kernel
theorem dX6_doCallOff_30 : decode cX6_doCallOff 30 = .ok (.iload_n 2, 1) := by decide +kernel
theorem dX6_doCallOff_31 : decode cX6_doCallOff 31 = .ok (.iadd, 1) := by decide +kernel
theorem dX6_doCallOff_32 : decode cX6_doCallOff 32 = .ok (.iaload, 1) := by decide +kernel
theorem dX6_doCallOff_33 : decode cX6_doCallOff 33 = .ok (.if_icmp .eq 7, 3) := by decide +kernel
theorem dX6_doCallOff_36 : decode cX6_doCallOff 36 = .ok (.iconst 1, 1) := by decide +kernel
theorem dX6_doCallOff_37 : decode cX6_doCallOff 37 = .ok (.goto 4, 3) := by decide +kernel
theorem dX6_doCallOff_40 : decode cX6_doCallOff 40 = .ok (.iconst 0, 1) := by decide +kernel
theorem dX6_doCallOff_41 : decode cX6_doCallOff 41 = .ok (.iadd, 1) := by decide +kernel
theorem dX6_doCallOff_42 : decode cX6_doCallOff 42 = .ok (.istore_n 1, 1) := by decide +kernel
theorem dX6_doCallOff_43 : decode cX6_doCallOff 43 = .ok (.aload_n 0, 1) := by decide +kernel
theorem dX6_doCallOff_44 : decode cX6_doCallOff 44 = .ok (.getfield 7, 3) := by decide +kernel
theorem dX6_doCallOff_47 : decode cX6_doCallOff 47 = .ok (.bipush 21, 2) := by decide +kernel
theorem dX6_doCallOff_49 : decode cX6_doCallOff 49 = .ok (.iload_n 2, 1) := by decide +kernel
theorem dX6_doCallOff_50 : decode cX6_doCallOff 50 = .ok (.iadd, 1) := by decide +kernel
theorem dX6_doCallOff_51 : decode cX6_doCallOff 51 = .ok (.aload_n 0, 1) := by decide +kernel
theorem dX6_doCallOff_52 : decode cX6_doCallOff 52 = .ok (.getfield 7, 3) := by decide +kernel
theorem dX6_doCallOff_55 : decode cX6_doCallOff 55 = .ok (.bipush 61, 2) := by decide +kernel
theorem dX6_doCallOff_57 : decode cX6_doCallOff 57 = .ok (.iload_n 2, 1) := by decide +kernel
theorem dX6_doCallOff_58 : decode cX6_doCallOff 58 = .ok (.iadd, 1) := by decide +kernel
theorem dX6_doCallOff_59 : decode cX6_doCallOff 59 = .ok (.iaload, 1) := by decide +kernel
theorem dX6_doCallOff_60 : decode cX6_doCallOff 60 = .ok (.iastore, 1) := by decide +kernel
theorem dX6_doCallOff_61 : decode cX6_doCallOff 61 = .ok (.iinc 2 1, 3) := by decide +kernel
theorem dX6_doCallOff_64 : decode cX6_doCallOff 64 = .ok (.goto (-60), 3) := by decide +kernel
theorem dX6_doCallOff_67 : decode cX6_doCallOff 67 = .ok (.aload_n 0, 1) := by decide +kernel
theorem dX6_doCallOff_68 : decode cX6_doCallOff 68 = .ok (.getfield 7, 3) := by decide +kernel
theorem dX6_doCallOff_71 : decode cX6_doCallOff 71 = .ok (.bipush 87, 2) := by decide +kernel
theorem dX6_doCallOff_73 : decode cX6_doCallOff 73 = .ok (.iconst 0, 1) := by decide +kernel
theorem dX6_doCallOff_74 : decode cX6_doCallOff 74 = .ok (.iastore, 1) := by decide +kernel
theorem dX6_doCallOff_75 : decode cX6_doCallOff 75 = .ok (.iload_n 1, 1) := by decide +kernel
theorem dX6_doCallOff_76 : decode cX6_doCallOff 76 = .ok (.ireturn, 1) := by decide +kernel
set_option maxRecDepth 20000 in
theorem ggX6_callOff_X6_noHandover : GoodIn wsX6_callOff wsX6_noHandover := goodIn_r _ [6, 7, 18, 19, 20, 21, 22, 23, 24, 25, 26, 27, 28, 29] (by decide +kernel) (by decide +kernel)
set_option maxRecDepth 20000 in
theorem gX6_callOff_X6_noHandover : GoodIn wsX6_callOff (wsV RX6 122 RX6 yX6_noHandover wsX6_noHandover) := goodIn_app (goodIn_of _ (by decide +kernel)) ggX6_callOff_X6_noHandover
set_option maxRecDepth 20000 in
theorem ggX6_callOff_X6_record : GoodIn wsX6_callOff wsX6_record := goodIn_r _ [11, 12, 13, 7, 18, 19, 20, 21, 22, 23, 24, 25, 26, 27, 28, 29] (by decide +kernel) (by decide +kernel)
set_option maxRecDepth 20000 in
theorem gX6_callOff_X6_record : GoodIn wsX6_callOff (wsV RX6 80 RX6 yX6_record wsX6_record) := goodIn_app (goodIn_of _ (by decide +kernel)) ggX6_callOff_X6_record
set_option maxRecDepth 20000 in
theorem ggX6_callOff_X6_doCallOff : GoodIn wsX6_callOff wsX6_doCallOff := goodIn_r _ [17, 7, 18, 19, 20, 21, 22, 23, 24, 25, 26, 27, 28, 29] (by decide +kernel) (by decide +kernel)
set_option maxRecDepth 20000 in
theorem gX6_callOff_X6_doCallOff : GoodIn wsX6_callOff (wsV RX6 128 RX6 yX6_doCallOff wsX6_doCallOff) := goodIn_app (goodIn_of _ (by decide +kernel)) ggX6_callOff_X6_doCallOff
theorem dX6_callOff_0 : decode cX6_callOff 0 = .ok (.aload_n 0, 1) := by decide +kernel
theorem dX6_callOff_1 : decode cX6_callOff 1 = .ok (.aload_n 0, 1) := by decide +kernel
theorem dX6_callOff_2 : decode cX6_callOff 2 = .ok (.invokevirtual 122, 3) := by decide +kernel
theorem dX6_callOff_5 : decode cX6_callOff 5 = .ok (.putfield 31, 3) := by decide +kernel
theorem dX6_callOff_8 : decode cX6_callOff 8 = .ok (.aload_n 0, 1) := by decide +kernel
theorem dX6_callOff_9 : decode cX6_callOff 9 = .ok (.getfield 31, 3) := by decide +kernel
theorem dX6_callOff_12 : decode cX6_callOff 12 = .ok (.ifCond .le 5, 3) := by decide +kernel
theorem dX6_callOff_15 : decode cX6_callOff 15 = .ok (.iconst 0, 1) := by decide +kernel
theorem dX6_callOff_16 : decode cX6_callOff 16 = .ok (.ireturn, 1) := by decide +kernel
theorem dX6_callOff_17 : decode cX6_callOff 17 = .ok (.aload_n 0, 1) := by decide +kernel
theorem dX6_callOff_18 : decode cX6_callOff 18 = .ok (.invokevirtual 80, 3) := by decide +kernel
theorem dX6_callOff_21 : decode cX6_callOff 21 = .ok (.aload_n 0, 1) := by decide +kernel
theorem dX6_callOff_22 : decode cX6_callOff 22 = .ok (.invokevirtual 128, 3) := by decide +kernel
theorem dX6_callOff_25 : decode cX6_callOff 25 = .ok (.ireturn, 1) := by decide +kernel
theorem dX6_handover_0 : decode cX6_handover 0 = .ok (.aload_n 0, 1) := by decide +kernel
theorem dX6_handover_1 : decode cX6_handover 1 = .ok (.iconst 0, 1) := by decide +kernel
theorem dX6_handover_2 : decode cX6_handover 2 = .ok (.putfield 31, 3) := by decide +kernel
theorem dX6_handover_5 : decode cX6_handover 5 = .ok (.aload_n 0, 1) := by decide +kernel
theorem dX6_handover_6 : decode cX6_handover 6 = .ok (.getfield 7, 3) := by decide +kernel
theorem dX6_handover_9 : decode cX6_handover 9 = .ok (.bipush 87, 2) := by decide +kernel
theorem dX6_handover_11 : decode cX6_handover 11 = .ok (.iaload, 1) := by decide +kernel
theorem dX6_handover_12 : decode cX6_handover 12 = .ok (.ireturn, 1) := by decide +kernel
theorem dX6_plannedNow_0 : decode cX6_plannedNow 0 = .ok (.aload_n 0, 1) := by decide +kernel
theorem dX6_plannedNow_1 : decode cX6_plannedNow 1 = .ok (.getfield 7, 3) := by decide +kernel
theorem dX6_plannedNow_4 : decode cX6_plannedNow 4 = .ok (.bipush 87, 2) := by decide +kernel
theorem dX6_plannedNow_6 : decode cX6_plannedNow 6 = .ok (.iaload, 1) := by decide +kernel
theorem dX6_plannedNow_7 : decode cX6_plannedNow 7 = .ok (.ifCond .le 15, 3) := by decide +kernel
theorem dX6_plannedNow_10 : decode cX6_plannedNow 10 = .ok (.aload_n 0, 1) := by decide +kernel
theorem dX6_plannedNow_11 : decode cX6_plannedNow 11 = .ok (.getfield 7, 3) := by decide +kernel
theorem dX6_plannedNow_14 : decode cX6_plannedNow 14 = .ok (.bipush 41, 2) := by decide +kernel
theorem dX6_plannedNow_16 : decode cX6_plannedNow 16 = .ok (.iload_n 1, 1) := by decide +kernel
theorem dX6_plannedNow_17 : decode cX6_plannedNow 17 = .ok (.iadd, 1) := by decide +kernel
theorem dX6_plannedNow_18 : decode cX6_plannedNow 18 = .ok (.iaload, 1) := by decide +kernel
theorem dX6_plannedNow_19 : decode cX6_plannedNow 19 = .ok (.goto 12, 3) := by decide +kernel
theorem dX6_plannedNow_22 : decode cX6_plannedNow 22 = .ok (.aload_n 0, 1) := by decide +kernel
theorem dX6_plannedNow_23 : decode cX6_plannedNow 23 = .ok (.getfield 7, 3) := by decide +kernel
theorem dX6_plannedNow_26 : decode cX6_plannedNow 26 = .ok (.bipush 21, 2) := by decide +kernel
theorem dX6_plannedNow_28 : decode cX6_plannedNow 28 = .ok (.iload_n 1, 1) := by decide +kernel
theorem dX6_plannedNow_29 : decode cX6_plannedNow 29 = .ok (.iadd, 1) := by decide +kernel
theorem dX6_plannedNow_30 : decode cX6_plannedNow 30 = .ok (.iaload, 1) := by decide +kernel
theorem dX6_plannedNow_31 : decode cX6_plannedNow 31 = .ok (.ireturn, 1) := by decide +kernel
set_option maxRecDepth 20000 in
theorem ggX6_planned_X6_isDoor : GoodIn wsX6_planned wsX6_isDoor := goodIn_r _ [6, 7, 8, 9, 5, 10, 15, 16, 17, 18, 19, 20, 21, 22, 23, 24, 25, 26] (by decide +kernel) (by decide +kernel)
set_option maxRecDepth 20000 in
theorem gX6_planned_X6_isDoor : GoodIn wsX6_planned (wsV RX6 86 RX6 yX6_isDoor wsX6_isDoor) := goodIn_app (goodIn_of _ (by decide +kernel)) ggX6_planned_X6_isDoor
set_option maxRecDepth 20000 in
theorem ggX6_planned_X6_plannedNow : GoodIn wsX6_planned wsX6_plannedNow := goodIn_r _ [14, 7, 15, 16, 17, 18, 19, 20, 21, 22, 23, 24, 25, 26] (by decide +kernel) (by decide +kernel)
set_option maxRecDepth 20000 in
theorem gX6_planned_X6_plannedNow : GoodIn wsX6_planned (wsV RX6 131 RX6 yX6_plannedNow wsX6_plannedNow) := goodIn_app (goodIn_of _ (by decide +kernel)) ggX6_planned_X6_plannedNow
theorem dX6_planned_0 : decode cX6_planned 0 = .ok (.aload_n 0, 1) := by decide +kernel
theorem dX6_planned_1 : decode cX6_planned 1 = .ok (.aload_n 0, 1) := by decide +kernel
theorem dX6_planned_2 : decode cX6_planned 2 = .ok (.iload_n 1, 1) := by decide +kernel
theorem dX6_planned_3 : decode cX6_planned 3 = .ok (.invokevirtual 86, 3) := by decide +kernel
theorem dX6_planned_6 : decode cX6_planned 6 = .ok (.ifCond .eq 7, 3) := by decide +kernel
theorem dX6_planned_9 : decode cX6_planned 9 = .ok (.iconst 0, 1) := by decide +kernel
theorem dX6_planned_10 : decode cX6_planned 10 = .ok (.goto 4, 3) := by decide +kernel
theorem dX6_planned_13 : decode cX6_planned 13 = .ok (.iconst 1, 1) := by decide +kernel
theorem dX6_planned_14 : decode cX6_planned 14 = .ok (.putfield 31, 3) := by decide +kernel
theorem dX6_planned_17 : decode cX6_planned 17 = .ok (.aload_n 0, 1) := by decide +kernel
theorem dX6_planned_18 : decode cX6_planned 18 = .ok (.getfield 31, 3) := by decide +kernel
theorem dX6_planned_21 : decode cX6_planned 21 = .ok (.ifCond .le 7, 3) := by decide +kernel
theorem dX6_planned_24 : decode cX6_planned 24 = .ok (.iconst 0, 1) := by decide +kernel
theorem dX6_planned_25 : decode cX6_planned 25 = .ok (.goto 8, 3) := by decide +kernel
theorem dX6_planned_28 : decode cX6_planned 28 = .ok (.aload_n 0, 1) := by decide +kernel
theorem dX6_planned_29 : decode cX6_planned 29 = .ok (.iload_n 1, 1) := by decide +kernel
theorem dX6_planned_30 : decode cX6_planned 30 = .ok (.invokevirtual 131, 3) := by decide +kernel
theorem dX6_planned_33 : decode cX6_planned 33 = .ok (.ireturn, 1) := by decide +kernel
theorem dX6_changed_0 : decode cX6_changed 0 = .ok (.aload_n 0, 1) := by decide +kernel
theorem dX6_changed_1 : decode cX6_changed 1 = .ok (.iconst 0, 1) := by decide +kernel
theorem dX6_changed_2 : decode cX6_changed 2 = .ok (.putfield 31, 3) := by decide +kernel
theorem dX6_changed_5 : decode cX6_changed 5 = .ok (.aload_n 0, 1) := by decide +kernel
theorem dX6_changed_6 : decode cX6_changed 6 = .ok (.getfield 7, 3) := by decide +kernel
theorem dX6_changed_9 : decode cX6_changed 9 = .ok (.bipush 88, 2) := by decide +kernel
theorem dX6_changed_11 : decode cX6_changed 11 = .ok (.iaload, 1) := by decide +kernel
theorem dX6_changed_12 : decode cX6_changed 12 = .ok (.ireturn, 1) := by decide +kernel
theorem dX6_doDeliver_0 : decode cX6_doDeliver 0 = .ok (.iconst 0, 1) := by decide +kernel
theorem dX6_doDeliver_1 : decode cX6_doDeliver 1 = .ok (.istore_n 1, 1) := by decide +kernel
theorem dX6_doDeliver_2 : decode cX6_doDeliver 2 = .ok (.iconst 0, 1) := by decide +kernel
theorem dX6_doDeliver_3 : decode cX6_doDeliver 3 = .ok (.istore_n 2, 1) := by decide +kernel
theorem dX6_doDeliver_4 : decode cX6_doDeliver 4 = .ok (.iload_n 2, 1) := by decide +kernel
theorem dX6_doDeliver_5 : decode cX6_doDeliver 5 = .ok (.aload_n 0, 1) := by decide +kernel
theorem dX6_doDeliver_6 : decode cX6_doDeliver 6 = .ok (.getfield 7, 3) := by decide +kernel
theorem dX6_doDeliver_9 : decode cX6_doDeliver 9 = .ok (.iconst 0, 1) := by decide +kernel
theorem dX6_doDeliver_10 : decode cX6_doDeliver 10 = .ok (.iaload, 1) := by decide +kernel
theorem dX6_doDeliver_11 : decode cX6_doDeliver 11 = .ok (.if_icmp .ge 63, 3) := by decide +kernel
theorem dX6_doDeliver_14 : decode cX6_doDeliver 14 = .ok (.iload_n 1, 1) := by decide +kernel
theorem dX6_doDeliver_15 : decode cX6_doDeliver 15 = .ok (.aload_n 0, 1) := by decide +kernel
theorem dX6_doDeliver_16 : decode cX6_doDeliver 16 = .ok (.getfield 7, 3) := by decide +kernel
theorem dX6_doDeliver_19 : decode cX6_doDeliver 19 = .ok (.bipush 21, 2) := by decide +kernel
theorem dX6_doDeliver_21 : decode cX6_doDeliver 21 = .ok (.iload_n 2, 1) := by decide +kernel
theorem dX6_doDeliver_22 : decode cX6_doDeliver 22 = .ok (.iadd, 1) := by decide +kernel
theorem dX6_doDeliver_23 : decode cX6_doDeliver 23 = .ok (.iaload, 1) := by decide +kernel
theorem dX6_doDeliver_24 : decode cX6_doDeliver 24 = .ok (.ifCond .lt 14, 3) := by decide +kernel
theorem dX6_doDeliver_27 : decode cX6_doDeliver 27 = .ok (.aload_n 0, 1) := by decide +kernel
theorem dX6_doDeliver_28 : decode cX6_doDeliver 28 = .ok (.getfield 7, 3) := by decide +kernel
theorem dX6_doDeliver_31 : decode cX6_doDeliver 31 = .ok (.iconst 1, 1) := by decide +kernel
theorem dX6_doDeliver_32 : decode cX6_doDeliver 32 = .ok (.iload_n 2, 1) := by decide +kernel
theorem dX6_doDeliver_33 : decode cX6_doDeliver 33 = .ok (.iadd, 1) := by decide +kernel
theorem dX6_doDeliver_34 : decode cX6_doDeliver 34 = .ok (.iaload, 1) := by decide +kernel
theorem dX6_doDeliver_35 : decode cX6_doDeliver 35 = .ok (.goto 4, 3) := by decide +kernel
theorem dX6_doDeliver_38 : decode cX6_doDeliver 38 = .ok (.iconst 0, 1) := by decide +kernel
theorem dX6_doDeliver_39 : decode cX6_doDeliver 39 = .ok (.iadd, 1) := by decide +kernel
theorem dX6_doDeliver_40 : decode cX6_doDeliver 40 = .ok (.istore_n 1, 1) := by decide +kernel
theorem dX6_doDeliver_41 : decode cX6_doDeliver 41 = .ok (.aload_n 0, 1) := by decide +kernel
theorem dX6_doDeliver_42 : decode cX6_doDeliver 42 = .ok (.getfield 7, 3) := by decide +kernel
theorem dX6_doDeliver_45 : decode cX6_doDeliver 45 = .ok (.bipush 90, 2) := by decide +kernel
theorem dX6_doDeliver_47 : decode cX6_doDeliver 47 = .ok (.dup2, 1) := by decide +kernel
theorem dX6_doDeliver_48 : decode cX6_doDeliver 48 = .ok (.iaload, 1) := by decide +kernel
theorem dX6_doDeliver_49 : decode cX6_doDeliver 49 = .ok (.aload_n 0, 1) := by decide +kernel
theorem dX6_doDeliver_50 : decode cX6_doDeliver 50 = .ok (.getfield 7, 3) := by decide +kernel
theorem dX6_doDeliver_53 : decode cX6_doDeliver 53 = .ok (.bipush 21, 2) := by decide +kernel
theorem dX6_doDeliver_55 : decode cX6_doDeliver 55 = .ok (.iload_n 2, 1) := by decide +kernel
theorem dX6_doDeliver_56 : decode cX6_doDeliver 56 = .ok (.iadd, 1) := by decide +kernel
theorem dX6_doDeliver_57 : decode cX6_doDeliver 57 = .ok (.iaload, 1) := by decide +kernel
theorem dX6_doDeliver_58 : decode cX6_doDeliver 58 = .ok (.ifCond .lt 7, 3) := by decide +kernel
theorem dX6_doDeliver_61 : decode cX6_doDeliver 61 = .ok (.iconst 0, 1) := by decide +kernel
theorem dX6_doDeliver_62 : decode cX6_doDeliver 62 = .ok (.goto 4, 3) := by decide +kernel
theorem dX6_doDeliver_65 : decode cX6_doDeliver 65 = .ok (.iconst 1, 1) := by decide +kernel
theorem dX6_doDeliver_66 : decode cX6_doDeliver 66 = .ok (.iadd, 1) := by decide +kernel
theorem dX6_doDeliver_67 : decode cX6_doDeliver 67 = .ok (.iastore, 1) := by decide +kernel
theorem dX6_doDeliver_68 : decode cX6_doDeliver 68 = .ok (.iinc 2 1, 3) := by decide +kernel
theorem dX6_doDeliver_71 : decode cX6_doDeliver 71 = .ok (.goto (-67), 3) := by decide +kernel
theorem dX6_doDeliver_74 : decode cX6_doDeliver 74 = .ok (.aload_n 0, 1) := by decide +kernel
theorem dX6_doDeliver_75 : decode cX6_doDeliver 75 = .ok (.getfield 7, 3) := by decide +kernel
theorem dX6_doDeliver_78 : decode cX6_doDeliver 78 = .ok (.bipush 89, 2) := by decide +kernel
theorem dX6_doDeliver_80 : decode cX6_doDeliver 80 = .ok (.dup2, 1) := by decide +kernel
theorem dX6_doDeliver_81 : decode cX6_doDeliver 81 = .ok (.iaload, 1) := by decide +kernel
theorem dX6_doDeliver_82 : decode cX6_doDeliver 82 = .ok (.iload_n 1, 1) := by decide +kernel
theorem dX6_doDeliver_83 : decode cX6_doDeliver 83 = .ok (.iadd, 1) := by decide +kernel
theorem dX6_doDeliver_84 : decode cX6_doDeliver 84 = .ok (.iastore, 1) := by decide +kernel
theorem dX6_doDeliver_85 : decode cX6_doDeliver 85 = .ok (.iload_n 1, 1) := by decide +kernel
theorem dX6_doDeliver_86 : decode cX6_doDeliver 86 = .ok (.ireturn, 1) := by decide +kernel
set_option maxRecDepth 20000 in
theorem ggX6_deliver_X6_record : GoodIn wsX6_deliver wsX6_record := goodIn_r _ [6, 7, 8, 9, 14, 15, 16, 17, 18, 19, 20, 21, 22, 23, 24, 25] (by decide +kernel) (by decide +kernel)
set_option maxRecDepth 20000 in
theorem gX6_deliver_X6_record : GoodIn wsX6_deliver (wsV RX6 80 RX6 yX6_record wsX6_record) := goodIn_app (goodIn_of _ (by decide +kernel)) ggX6_deliver_X6_record
set_option maxRecDepth 20000 in
theorem ggX6_deliver_X6_doDeliver : GoodIn wsX6_deliver wsX6_doDeliver := goodIn_r _ [13, 9, 14, 15, 16, 17, 18, 19, 20, 21, 22, 23, 24, 25] (by decide +kernel) (by decide +kernel)
set_option maxRecDepth 20000 in
theorem gX6_deliver_X6_doDeliver : GoodIn wsX6_deliver (wsV RX6 134 RX6 yX6_doDeliver wsX6_doDeliver) := goodIn_app (goodIn_of _ (by decide +kernel)) ggX6_deliver_X6_doDeliver
theorem dX6_deliver_0 : decode cX6_deliver 0 = .ok (.aload_n 0, 1) := by decide +kernel
theorem dX6_deliver_1 : decode cX6_deliver 1 = .ok (.iconst 0, 1) := by decide +kernel
theorem dX6_deliver_2 : decode cX6_deliver 2 = .ok (.putfield 31, 3) := by decide +kernel
theorem dX6_deliver_5 : decode cX6_deliver 5 = .ok (.aload_n 0, 1) := by decide +kernel
theorem dX6_deliver_6 : decode cX6_deliver 6 = .ok (.invokevirtual 80, 3) := by decide +kernel
theorem dX6_deliver_9 : decode cX6_deliver 9 = .ok (.aload_n 0, 1) := by decide +kernel
theorem dX6_deliver_10 : decode cX6_deliver 10 = .ok (.invokevirtual 134, 3) := by decide +kernel
theorem dX6_deliver_13 : decode cX6_deliver 13 = .ok (.ireturn, 1) := by decide +kernel
theorem dX6_delivered_0 : decode cX6_delivered 0 = .ok (.aload_n 0, 1) := by decide +kernel
theorem dX6_delivered_1 : decode cX6_delivered 1 = .ok (.iconst 0, 1) := by decide +kernel
theorem dX6_delivered_2 : decode cX6_delivered 2 = .ok (.putfield 31, 3) := by decide +kernel
theorem dX6_delivered_5 : decode cX6_delivered 5 = .ok (.aload_n 0, 1) := by decide +kernel
theorem dX6_delivered_6 : decode cX6_delivered 6 = .ok (.getfield 7, 3) := by decide +kernel
theorem dX6_delivered_9 : decode cX6_delivered 9 = .ok (.bipush 89, 2) := by decide +kernel
theorem dX6_delivered_11 : decode cX6_delivered 11 = .ok (.iaload, 1) := by decide +kernel
theorem dX6_delivered_12 : decode cX6_delivered 12 = .ok (.ireturn, 1) := by decide +kernel
theorem dX6_misses_0 : decode cX6_misses 0 = .ok (.aload_n 0, 1) := by decide +kernel
theorem dX6_misses_1 : decode cX6_misses 1 = .ok (.iconst 0, 1) := by decide +kernel
theorem dX6_misses_2 : decode cX6_misses 2 = .ok (.putfield 31, 3) := by decide +kernel
theorem dX6_misses_5 : decode cX6_misses 5 = .ok (.aload_n 0, 1) := by decide +kernel
theorem dX6_misses_6 : decode cX6_misses 6 = .ok (.getfield 7, 3) := by decide +kernel
theorem dX6_misses_9 : decode cX6_misses 9 = .ok (.bipush 90, 2) := by decide +kernel
theorem dX6_misses_11 : decode cX6_misses 11 = .ok (.iaload, 1) := by decide +kernel
theorem dX6_misses_12 : decode cX6_misses 12 = .ok (.ireturn, 1) := by decide +kernel
set_option maxRecDepth 20000 in
theorem ggX6_goalOf_X6_share : GoodIn wsX6_goalOf wsX6_share := goodIn_r _ [6, 7, 1, 8, 9, 10, 5, 11, 12, 13, 14, 15, 16, 17, 18, 19, 20, 21, 22, 23, 24, 25, 26, 27, 28, 29, 30, 31, 32, 33, 34, 35, 36, 37, 38, 39, 40, 41, 42, 43, 44, 45, 46, 47, 48, 49, 50, 51, 52, 53, 54, 55, 56, 57, 58, 59, 60, 61, 62] (by decide +kernel) (by decide +kernel)
set_option maxRecDepth 20000 in
theorem gX6_goalOf_X6_share : GoodIn wsX6_goalOf (wsV RX6 113 RX6 yX6_share wsX6_share) := goodIn_app (goodIn_of _ (by decide +kernel)) ggX6_goalOf_X6_share
theorem dX6_goalOf_0 : decode cX6_goalOf 0 = .ok (.aload_n 0, 1) := by decide +kernel
theorem dX6_goalOf_1 : decode cX6_goalOf 1 = .ok (.invokevirtual 113, 3) := by decide +kernel
theorem dX6_goalOf_4 : decode cX6_goalOf 4 = .ok (.pop, 1) := by decide +kernel
theorem dX6_goalOf_5 : decode cX6_goalOf 5 = .ok (.aload_n 0, 1) := by decide +kernel
theorem dX6_goalOf_6 : decode cX6_goalOf 6 = .ok (.getfield 19, 3) := by decide +kernel
theorem dX6_goalOf_9 : decode cX6_goalOf 9 = .ok (.iload_n 1, 1) := by decide +kernel
theorem dX6_goalOf_10 : decode cX6_goalOf 10 = .ok (.iaload, 1) := by decide +kernel
theorem dX6_goalOf_11 : decode cX6_goalOf 11 = .ok (.ireturn, 1) := by decide +kernel
set_option maxRecDepth 20000 in
theorem ggX6_ifPlanned_X6_isDoor : GoodIn wsX6_ifPlanned wsX6_isDoor := goodIn_r _ [6, 7, 8, 9, 5, 10, 63, 64, 65, 66, 67, 68, 69, 70, 71, 72, 73, 74] (by decide +kernel) (by decide +kernel)
set_option maxRecDepth 20000 in
theorem gX6_ifPlanned_X6_isDoor : GoodIn wsX6_ifPlanned (wsV RX6 86 RX6 yX6_isDoor wsX6_isDoor) := goodIn_app (goodIn_of _ (by decide +kernel)) ggX6_ifPlanned_X6_isDoor
set_option maxRecDepth 20000 in
theorem ggX6_ifPlanned_X6_goalOf : GoodIn wsX6_ifPlanned wsX6_goalOf := goodIn_r _ [14, 15, 16, 17, 18, 5, 19, 7, 20, 21, 22, 23, 24, 25, 26, 27, 28, 29, 30, 31, 32, 33, 34, 35, 36, 37, 38, 39, 40, 41, 42, 43, 44, 45, 46, 47, 48, 49, 50, 51, 52, 53, 54, 55, 56, 57, 58, 59, 60, 61, 62, 63, 64, 65, 66, 67, 68, 69, 70, 71, 72, 73, 74] (by decide +kernel) (by decide +kernel)
set_option maxRecDepth 20000 in
theorem gX6_ifPlanned_X6_goalOf : GoodIn wsX6_ifPlanned (wsV RX6 137 RX6 yX6_goalOf wsX6_goalOf) := goodIn_app (goodIn_of _ (by decide +kernel)) ggX6_ifPlanned_X6_goalOf
theorem dX6_ifPlanned_0 : decode cX6_ifPlanned 0 = .ok (.aload_n 0, 1) := by decide +kernel
theorem dX6_ifPlanned_1 : decode cX6_ifPlanned 1 = .ok (.aload_n 0, 1) := by decide +kernel
theorem dX6_ifPlanned_2 : decode cX6_ifPlanned 2 = .ok (.iload_n 1, 1) := by decide +kernel
theorem dX6_ifPlanned_3 : decode cX6_ifPlanned 3 = .ok (.invokevirtual 86, 3) := by decide +kernel
theorem dX6_ifPlanned_6 : decode cX6_ifPlanned 6 = .ok (.ifCond .eq 7, 3) := by decide +kernel
theorem dX6_ifPlanned_9 : decode cX6_ifPlanned 9 = .ok (.iconst 0, 1) := by decide +kernel
theorem dX6_ifPlanned_10 : decode cX6_ifPlanned 10 = .ok (.goto 4, 3) := by decide +kernel
theorem dX6_ifPlanned_13 : decode cX6_ifPlanned 13 = .ok (.iconst 1, 1) := by decide +kernel
theorem dX6_ifPlanned_14 : decode cX6_ifPlanned 14 = .ok (.putfield 31, 3) := by decide +kernel
theorem dX6_ifPlanned_17 : decode cX6_ifPlanned 17 = .ok (.aload_n 0, 1) := by decide +kernel
theorem dX6_ifPlanned_18 : decode cX6_ifPlanned 18 = .ok (.getfield 31, 3) := by decide +kernel
theorem dX6_ifPlanned_21 : decode cX6_ifPlanned 21 = .ok (.ifCond .le 7, 3) := by decide +kernel
theorem dX6_ifPlanned_24 : decode cX6_ifPlanned 24 = .ok (.iconst 0, 1) := by decide +kernel
theorem dX6_ifPlanned_25 : decode cX6_ifPlanned 25 = .ok (.goto 8, 3) := by decide +kernel
theorem dX6_ifPlanned_28 : decode cX6_ifPlanned 28 = .ok (.aload_n 0, 1) := by decide +kernel
theorem dX6_ifPlanned_29 : decode cX6_ifPlanned 29 = .ok (.iload_n 1, 1) := by decide +kernel
theorem dX6_ifPlanned_30 : decode cX6_ifPlanned 30 = .ok (.invokevirtual 137, 3) := by decide +kernel
theorem dX6_ifPlanned_33 : decode cX6_ifPlanned 33 = .ok (.ireturn, 1) := by decide +kernel
set_option maxRecDepth 20000 in
theorem ggX6_reasonOf_X6_men : GoodIn wsX6_reasonOf wsX6_men := goodIn_r _ [6, 1, 55, 56, 57, 58, 59, 60, 61, 62, 63, 64, 65, 66] (by decide +kernel) (by decide +kernel)
set_option maxRecDepth 20000 in
theorem gX6_reasonOf_X6_men : GoodIn wsX6_reasonOf (wsV RX6 46 RX6 yX6_men wsX6_men) := goodIn_app (goodIn_of _ (by decide +kernel)) ggX6_reasonOf_X6_men
set_option maxRecDepth 20000 in
theorem ggX6_reasonOf_X6_goalOf : GoodIn wsX6_reasonOf wsX6_goalOf := goodIn_r _ [10, 11, 12, 13, 14, 5, 15, 1, 2, 3, 4, 6, 16, 17, 18, 19, 20, 21, 22, 23, 24, 25, 26, 27, 28, 29, 30, 31, 32, 33, 34, 35, 36, 37, 38, 39, 40, 41, 42, 43, 44, 45, 46, 47, 48, 49, 50, 51, 52, 53, 54, 55, 56, 57, 58, 59, 60, 61, 62, 63, 64, 65, 66] (by decide +kernel) (by decide +kernel)
set_option maxRecDepth 20000 in
theorem gX6_reasonOf_X6_goalOf : GoodIn wsX6_reasonOf (wsV RX6 137 RX6 yX6_goalOf wsX6_goalOf) := goodIn_app (goodIn_of _ (by decide +kernel)) ggX6_reasonOf_X6_goalOf
theorem dX6_reasonOf_0 : decode cX6_reasonOf 0 = .ok (.aload_n 0, 1) := by decide +kernel
theorem dX6_reasonOf_1 : decode cX6_reasonOf 1 = .ok (.invokevirtual 46, 3) := by decide +kernel
theorem dX6_reasonOf_4 : decode cX6_reasonOf 4 = .ok (.ifCond .ne 5, 3) := by decide +kernel
theorem dX6_reasonOf_7 : decode cX6_reasonOf 7 = .ok (.iconst 1, 1) := by decide +kernel
theorem dX6_reasonOf_8 : decode cX6_reasonOf 8 = .ok (.ireturn, 1) := by decide +kernel
theorem dX6_reasonOf_9 : decode cX6_reasonOf 9 = .ok (.aload_n 0, 1) := by decide +kernel
theorem dX6_reasonOf_10 : decode cX6_reasonOf 10 = .ok (.getfield 7, 3) := by decide +kernel
theorem dX6_reasonOf_13 : decode cX6_reasonOf 13 = .ok (.bipush 21, 2) := by decide +kernel
theorem dX6_reasonOf_15 : decode cX6_reasonOf 15 = .ok (.iload_n 1, 1) := by decide +kernel
theorem dX6_reasonOf_16 : decode cX6_reasonOf 16 = .ok (.iadd, 1) := by decide +kernel
theorem dX6_reasonOf_17 : decode cX6_reasonOf 17 = .ok (.iaload, 1) := by decide +kernel
theorem dX6_reasonOf_18 : decode cX6_reasonOf 18 = .ok (.istore_n 2, 1) := by decide +kernel
theorem dX6_reasonOf_19 : decode cX6_reasonOf 19 = .ok (.iload_n 2, 1) := by decide +kernel
theorem dX6_reasonOf_20 : decode cX6_reasonOf 20 = .ok (.ifCond .ge 7, 3) := by decide +kernel
theorem dX6_reasonOf_23 : decode cX6_reasonOf 23 = .ok (.iconst 2, 1) := by decide +kernel
theorem dX6_reasonOf_24 : decode cX6_reasonOf 24 = .ok (.goto 17, 3) := by decide +kernel
theorem dX6_reasonOf_27 : decode cX6_reasonOf 27 = .ok (.aload_n 0, 1) := by decide +kernel
theorem dX6_reasonOf_28 : decode cX6_reasonOf 28 = .ok (.iload_n 1, 1) := by decide +kernel
theorem dX6_reasonOf_29 : decode cX6_reasonOf 29 = .ok (.invokevirtual 137, 3) := by decide +kernel
theorem dX6_reasonOf_32 : decode cX6_reasonOf 32 = .ok (.iload_n 2, 1) := by decide +kernel
theorem dX6_reasonOf_33 : decode cX6_reasonOf 33 = .ok (.if_icmp .ne 7, 3) := by decide +kernel
theorem dX6_reasonOf_36 : decode cX6_reasonOf 36 = .ok (.iconst 0, 1) := by decide +kernel
theorem dX6_reasonOf_37 : decode cX6_reasonOf 37 = .ok (.goto 4, 3) := by decide +kernel
theorem dX6_reasonOf_40 : decode cX6_reasonOf 40 = .ok (.iconst 3, 1) := by decide +kernel
theorem dX6_reasonOf_41 : decode cX6_reasonOf 41 = .ok (.ireturn, 1) := by decide +kernel
set_option maxRecDepth 20000 in
theorem ggX6_reason_X6_isDoor : GoodIn wsX6_reason wsX6_isDoor := goodIn_r _ [6, 7, 8, 9, 5, 10, 67, 68, 69, 70, 71, 72, 73, 74, 75, 76, 77, 78] (by decide +kernel) (by decide +kernel)
set_option maxRecDepth 20000 in
theorem gX6_reason_X6_isDoor : GoodIn wsX6_reason (wsV RX6 86 RX6 yX6_isDoor wsX6_isDoor) := goodIn_app (goodIn_of _ (by decide +kernel)) ggX6_reason_X6_isDoor
set_option maxRecDepth 20000 in
theorem ggX6_reason_X6_reasonOf : GoodIn wsX6_reason wsX6_reasonOf := goodIn_r _ [14, 7, 15, 16, 17, 5, 18, 19, 20, 21, 22, 23, 24, 25, 26, 27, 28, 29, 30, 31, 32, 33, 34, 35, 36, 37, 38, 39, 40, 41, 42, 43, 44, 45, 46, 47, 48, 49, 50, 51, 52, 53, 54, 55, 56, 57, 58, 59, 60, 61, 62, 63, 64, 65, 66, 67, 68, 69, 70, 71, 72, 73, 74, 75, 76, 77, 78] (by decide +kernel) (by decide +kernel)
set_option maxRecDepth 20000 in
theorem gX6_reason_X6_reasonOf : GoodIn wsX6_reason (wsV RX6 140 RX6 yX6_reasonOf wsX6_reasonOf) := goodIn_app (goodIn_of _ (by decide +kernel)) ggX6_reason_X6_reasonOf
theorem dX6_reason_0 : decode cX6_reason 0 = .ok (.aload_n 0, 1) := by decide +kernel
theorem dX6_reason_1 : decode cX6_reason 1 = .ok (.aload_n 0, 1) := by decide +kernel
theorem dX6_reason_2 : decode cX6_reason 2 = .ok (.iload_n 1, 1) := by decide +kernel
theorem dX6_reason_3 : decode cX6_reason 3 = .ok (.invokevirtual 86, 3) := by decide +kernel
theorem dX6_reason_6 : decode cX6_reason 6 = .ok (.ifCond .eq 7, 3) := by decide +kernel
theorem dX6_reason_9 : decode cX6_reason 9 = .ok (.iconst 0, 1) := by decide +kernel
theorem dX6_reason_10 : decode cX6_reason 10 = .ok (.goto 4, 3) := by decide +kernel
theorem dX6_reason_13 : decode cX6_reason 13 = .ok (.iconst 1, 1) := by decide +kernel
theorem dX6_reason_14 : decode cX6_reason 14 = .ok (.putfield 31, 3) := by decide +kernel
theorem dX6_reason_17 : decode cX6_reason 17 = .ok (.aload_n 0, 1) := by decide +kernel
theorem dX6_reason_18 : decode cX6_reason 18 = .ok (.getfield 31, 3) := by decide +kernel
theorem dX6_reason_21 : decode cX6_reason 21 = .ok (.ifCond .le 7, 3) := by decide +kernel
theorem dX6_reason_24 : decode cX6_reason 24 = .ok (.iconst 0, 1) := by decide +kernel
theorem dX6_reason_25 : decode cX6_reason 25 = .ok (.goto 8, 3) := by decide +kernel
theorem dX6_reason_28 : decode cX6_reason 28 = .ok (.aload_n 0, 1) := by decide +kernel
theorem dX6_reason_29 : decode cX6_reason 29 = .ok (.iload_n 1, 1) := by decide +kernel
theorem dX6_reason_30 : decode cX6_reason 30 = .ok (.invokevirtual 140, 3) := by decide +kernel
theorem dX6_reason_33 : decode cX6_reason 33 = .ok (.ireturn, 1) := by decide +kernel
set_option maxRecDepth 20000 in
theorem ggX6_changesToCome_X6_share : GoodIn wsX6_changesToCome wsX6_share := goodIn_r _ [6, 7, 8, 9, 10, 11, 5, 12, 13, 14, 15, 16, 17, 18, 19, 20, 21, 22, 23, 24, 25, 26, 27, 28, 29, 30, 31, 32, 33, 34, 35, 36, 37, 38, 39, 40, 41, 42, 43, 44, 45, 46, 47, 48, 49, 50, 51, 52, 53, 54, 55, 56, 57, 58, 59, 60, 61, 62, 63] (by decide +kernel) (by decide +kernel)
set_option maxRecDepth 20000 in
theorem gX6_changesToCome_X6_share : GoodIn wsX6_changesToCome (wsV RX6 113 RX6 yX6_share wsX6_share) := goodIn_app (goodIn_of _ (by decide +kernel)) ggX6_changesToCome_X6_share
theorem dX6_changesToCome_0 : decode cX6_changesToCome 0 = .ok (.aload_n 0, 1) := by decide +kernel
theorem dX6_changesToCome_1 : decode cX6_changesToCome 1 = .ok (.iconst 0, 1) := by decide +kernel
theorem dX6_changesToCome_2 : decode cX6_changesToCome 2 = .ok (.putfield 31, 3) := by decide +kernel
theorem dX6_changesToCome_5 : decode cX6_changesToCome 5 = .ok (.aload_n 0, 1) := by decide +kernel
theorem dX6_changesToCome_6 : decode cX6_changesToCome 6 = .ok (.invokevirtual 113, 3) := by decide +kernel
theorem dX6_changesToCome_9 : decode cX6_changesToCome 9 = .ok (.ireturn, 1) := by decide +kernel
set_option maxRecDepth 20000 in
theorem ggX6_changesBy_X6_works : GoodIn wsX6_changesBy wsX6_works := goodIn_r _ [6, 1, 55, 56, 57, 58, 59, 60, 61, 62, 63, 64, 65, 66] (by decide +kernel) (by decide +kernel)
set_option maxRecDepth 20000 in
theorem gX6_changesBy_X6_works : GoodIn wsX6_changesBy (wsV RX6 50 RX6 yX6_works wsX6_works) := goodIn_app (goodIn_of _ (by decide +kernel)) ggX6_changesBy_X6_works
set_option maxRecDepth 20000 in
theorem ggX6_changesBy_X6_doLeave : GoodIn wsX6_changesBy wsX6_doLeave := goodIn_r _ [10, 1, 11, 12, 13, 5, 14, 55, 56, 57, 58, 59, 60, 61, 62, 63, 64, 65, 66] (by decide +kernel) (by decide +kernel)
set_option maxRecDepth 20000 in
theorem gX6_changesBy_X6_doLeave : GoodIn wsX6_changesBy (wsV RX6 107 RX6 yX6_doLeave wsX6_doLeave) := goodIn_app (goodIn_of _ (by decide +kernel)) ggX6_changesBy_X6_doLeave
set_option maxRecDepth 20000 in
theorem ggX6_changesBy_X6_share : GoodIn wsX6_changesBy wsX6_share := goodIn_r _ [18, 1, 19, 20, 21, 22, 5, 23, 24, 25, 26, 27, 28, 29, 30, 2, 3, 4, 6, 31, 32, 33, 34, 11, 12, 13, 14, 35, 36, 37, 38, 39, 40, 41, 42, 43, 44, 45, 46, 47, 48, 49, 50, 51, 52, 53, 54, 55, 56, 57, 58, 59, 60, 61, 62, 63, 64, 65, 66] (by decide +kernel) (by decide +kernel)
set_option maxRecDepth 20000 in
theorem gX6_changesBy_X6_share : GoodIn wsX6_changesBy (wsV RX6 113 RX6 yX6_share wsX6_share) := goodIn_app (goodIn_of _ (by decide +kernel)) ggX6_changesBy_X6_share
theorem dX6_changesBy_0 : decode cX6_changesBy 0 = .ok (.aload_n 0, 1) := by decide +kernel
theorem dX6_changesBy_1 : decode cX6_changesBy 1 = .ok (.iload_n 1, 1) := by decide +kernel
theorem dX6_changesBy_2 : decode cX6_changesBy 2 = .ok (.invokevirtual 50, 3) := by decide +kernel
theorem dX6_changesBy_5 : decode cX6_changesBy 5 = .ok (.ifCond .eq 128, 3) := by decide +kernel
theorem dX6_changesBy_8 : decode cX6_changesBy 8 = .ok (.iconst 0, 1) := by decide +kernel
theorem dX6_changesBy_9 : decode cX6_changesBy 9 = .ok (.istore_n 3, 1) := by decide +kernel
theorem dX6_changesBy_10 : decode cX6_changesBy 10 = .ok (.iconst 0, 1) := by decide +kernel
theorem dX6_changesBy_11 : decode cX6_changesBy 11 = .ok (.istore 4, 2) := by decide +kernel
theorem dX6_changesBy_13 : decode cX6_changesBy 13 = .ok (.iload 4, 2) := by decide +kernel
theorem dX6_changesBy_15 : decode cX6_changesBy 15 = .ok (.aload_n 0, 1) := by decide +kernel
theorem dX6_changesBy_16 : decode cX6_changesBy 16 = .ok (.getfield 7, 3) := by decide +kernel
theorem dX6_changesBy_19 : decode cX6_changesBy 19 = .ok (.iconst 0, 1) := by decide +kernel
theorem dX6_changesBy_20 : decode cX6_changesBy 20 = .ok (.iaload, 1) := by decide +kernel
theorem dX6_changesBy_21 : decode cX6_changesBy 21 = .ok (.if_icmp .ge 34, 3) := by decide +kernel
theorem dX6_changesBy_24 : decode cX6_changesBy 24 = .ok (.iload_n 3, 1) := by decide +kernel
theorem dX6_changesBy_25 : decode cX6_changesBy 25 = .ok (.aload_n 0, 1) := by decide +kernel
theorem dX6_changesBy_26 : decode cX6_changesBy 26 = .ok (.getfield 7, 3) := by decide +kernel
theorem dX6_changesBy_29 : decode cX6_changesBy 29 = .ok (.bipush 21, 2) := by decide +kernel
theorem dX6_changesBy_31 : decode cX6_changesBy 31 = .ok (.iload 4, 2) := by decide +kernel
theorem dX6_changesBy_33 : decode cX6_changesBy 33 = .ok (.iadd, 1) := by decide +kernel
theorem dX6_changesBy_34 : decode cX6_changesBy 34 = .ok (.iaload, 1) := by decide +kernel
theorem dX6_changesBy_35 : decode cX6_changesBy 35 = .ok (.iload_n 1, 1) := by decide +kernel
theorem dX6_changesBy_36 : decode cX6_changesBy 36 = .ok (.if_icmp .ne 10, 3) := by decide +kernel
theorem dX6_changesBy_39 : decode cX6_changesBy 39 = .ok (.iconst 1, 1) := by decide +kernel
theorem dX6_changesBy_40 : decode cX6_changesBy 40 = .ok (.iload 4, 2) := by decide +kernel
theorem dX6_changesBy_42 : decode cX6_changesBy 42 = .ok (.ishl, 1) := by decide +kernel
theorem dX6_changesBy_43 : decode cX6_changesBy 43 = .ok (.goto 4, 3) := by decide +kernel
theorem dX6_changesBy_46 : decode cX6_changesBy 46 = .ok (.iconst 0, 1) := by decide +kernel
theorem dX6_changesBy_47 : decode cX6_changesBy 47 = .ok (.ior, 1) := by decide +kernel
theorem dX6_changesBy_48 : decode cX6_changesBy 48 = .ok (.istore_n 3, 1) := by decide +kernel
theorem dX6_changesBy_49 : decode cX6_changesBy 49 = .ok (.iinc 4 1, 3) := by decide +kernel
theorem dX6_changesBy_52 : decode cX6_changesBy 52 = .ok (.goto (-39), 3) := by decide +kernel
theorem dX6_changesBy_55 : decode cX6_changesBy 55 = .ok (.aload_n 0, 1) := by decide +kernel
theorem dX6_changesBy_56 : decode cX6_changesBy 56 = .ok (.iload_n 1, 1) := by decide +kernel
theorem dX6_changesBy_57 : decode cX6_changesBy 57 = .ok (.invokevirtual 107, 3) := by decide +kernel
theorem dX6_changesBy_60 : decode cX6_changesBy 60 = .ok (.pop, 1) := by decide +kernel
theorem dX6_changesBy_61 : decode cX6_changesBy 61 = .ok (.aload_n 0, 1) := by decide +kernel
theorem dX6_changesBy_62 : decode cX6_changesBy 62 = .ok (.invokevirtual 113, 3) := by decide +kernel
theorem dX6_changesBy_65 : decode cX6_changesBy 65 = .ok (.istore_n 2, 1) := by decide +kernel
theorem dX6_changesBy_66 : decode cX6_changesBy 66 = .ok (.aload_n 0, 1) := by decide +kernel
theorem dX6_changesBy_67 : decode cX6_changesBy 67 = .ok (.getfield 7, 3) := by decide +kernel
theorem dX6_changesBy_70 : decode cX6_changesBy 70 = .ok (.bipush 81, 2) := by decide +kernel
theorem dX6_changesBy_72 : decode cX6_changesBy 72 = .ok (.iload_n 1, 1) := by decide +kernel
theorem dX6_changesBy_73 : decode cX6_changesBy 73 = .ok (.iadd, 1) := by decide +kernel
theorem dX6_changesBy_74 : decode cX6_changesBy 74 = .ok (.iconst 1, 1) := by decide +kernel
theorem dX6_changesBy_75 : decode cX6_changesBy 75 = .ok (.iastore, 1) := by decide +kernel
theorem dX6_changesBy_76 : decode cX6_changesBy 76 = .ok (.iconst 0, 1) := by decide +kernel
theorem dX6_changesBy_77 : decode cX6_changesBy 77 = .ok (.istore 4, 2) := by decide +kernel
theorem dX6_changesBy_79 : decode cX6_changesBy 79 = .ok (.iload 4, 2) := by decide +kernel
theorem dX6_changesBy_81 : decode cX6_changesBy 81 = .ok (.aload_n 0, 1) := by decide +kernel
theorem dX6_changesBy_82 : decode cX6_changesBy 82 = .ok (.getfield 7, 3) := by decide +kernel
theorem dX6_changesBy_85 : decode cX6_changesBy 85 = .ok (.iconst 0, 1) := by decide +kernel
theorem dX6_changesBy_86 : decode cX6_changesBy 86 = .ok (.iaload, 1) := by decide +kernel
theorem dX6_changesBy_87 : decode cX6_changesBy 87 = .ok (.if_icmp .ge 43, 3) := by decide +kernel
theorem dX6_changesBy_90 : decode cX6_changesBy 90 = .ok (.aload_n 0, 1) := by decide +kernel
theorem dX6_changesBy_91 : decode cX6_changesBy 91 = .ok (.getfield 7, 3) := by decide +kernel
theorem dX6_changesBy_94 : decode cX6_changesBy 94 = .ok (.bipush 21, 2) := by decide +kernel
theorem dX6_changesBy_96 : decode cX6_changesBy 96 = .ok (.iload 4, 2) := by decide +kernel
theorem dX6_changesBy_98 : decode cX6_changesBy 98 = .ok (.iadd, 1) := by decide +kernel
theorem dX6_changesBy_99 : decode cX6_changesBy 99 = .ok (.iload_n 3, 1) := by decide +kernel
theorem dX6_changesBy_100 : decode cX6_changesBy 100 = .ok (.iload 4, 2) := by decide +kernel
theorem dX6_changesBy_102 : decode cX6_changesBy 102 = .ok (.ishr, 1) := by decide +kernel
theorem dX6_changesBy_103 : decode cX6_changesBy 103 = .ok (.iconst 1, 1) := by decide +kernel
theorem dX6_changesBy_104 : decode cX6_changesBy 104 = .ok (.iand, 1) := by decide +kernel
theorem dX6_changesBy_105 : decode cX6_changesBy 105 = .ok (.iconst 1, 1) := by decide +kernel
theorem dX6_changesBy_106 : decode cX6_changesBy 106 = .ok (.if_icmp .ne 7, 3) := by decide +kernel
theorem dX6_changesBy_109 : decode cX6_changesBy 109 = .ok (.iload_n 1, 1) := by decide +kernel
theorem dX6_changesBy_110 : decode cX6_changesBy 110 = .ok (.goto 13, 3) := by decide +kernel
theorem dX6_changesBy_113 : decode cX6_changesBy 113 = .ok (.aload_n 0, 1) := by decide +kernel
theorem dX6_changesBy_114 : decode cX6_changesBy 114 = .ok (.getfield 7, 3) := by decide +kernel
theorem dX6_changesBy_117 : decode cX6_changesBy 117 = .ok (.bipush 21, 2) := by decide +kernel
theorem dX6_changesBy_119 : decode cX6_changesBy 119 = .ok (.iload 4, 2) := by decide +kernel
theorem dX6_changesBy_121 : decode cX6_changesBy 121 = .ok (.iadd, 1) := by decide +kernel
theorem dX6_changesBy_122 : decode cX6_changesBy 122 = .ok (.iaload, 1) := by decide +kernel
theorem dX6_changesBy_123 : decode cX6_changesBy 123 = .ok (.iastore, 1) := by decide +kernel
theorem dX6_changesBy_124 : decode cX6_changesBy 124 = .ok (.iinc 4 1, 3) := by decide +kernel
theorem dX6_changesBy_127 : decode cX6_changesBy 127 = .ok (.goto (-48), 3) := by decide +kernel
theorem dX6_changesBy_130 : decode cX6_changesBy 130 = .ok (.goto 28, 3) := by decide +kernel
theorem dX6_changesBy_133 : decode cX6_changesBy 133 = .ok (.aload_n 0, 1) := by decide +kernel
theorem dX6_changesBy_134 : decode cX6_changesBy 134 = .ok (.getfield 7, 3) := by decide +kernel
theorem dX6_changesBy_137 : decode cX6_changesBy 137 = .ok (.bipush 81, 2) := by decide +kernel
theorem dX6_changesBy_139 : decode cX6_changesBy 139 = .ok (.iload_n 1, 1) := by decide +kernel
theorem dX6_changesBy_140 : decode cX6_changesBy 140 = .ok (.iadd, 1) := by decide +kernel
theorem dX6_changesBy_141 : decode cX6_changesBy 141 = .ok (.iconst 1, 1) := by decide +kernel
theorem dX6_changesBy_142 : decode cX6_changesBy 142 = .ok (.iastore, 1) := by decide +kernel
theorem dX6_changesBy_143 : decode cX6_changesBy 143 = .ok (.aload_n 0, 1) := by decide +kernel
theorem dX6_changesBy_144 : decode cX6_changesBy 144 = .ok (.invokevirtual 113, 3) := by decide +kernel
theorem dX6_changesBy_147 : decode cX6_changesBy 147 = .ok (.istore_n 2, 1) := by decide +kernel
theorem dX6_changesBy_148 : decode cX6_changesBy 148 = .ok (.aload_n 0, 1) := by decide +kernel
theorem dX6_changesBy_149 : decode cX6_changesBy 149 = .ok (.getfield 7, 3) := by decide +kernel
theorem dX6_changesBy_152 : decode cX6_changesBy 152 = .ok (.bipush 81, 2) := by decide +kernel
theorem dX6_changesBy_154 : decode cX6_changesBy 154 = .ok (.iload_n 1, 1) := by decide +kernel
theorem dX6_changesBy_155 : decode cX6_changesBy 155 = .ok (.iadd, 1) := by decide +kernel
theorem dX6_changesBy_156 : decode cX6_changesBy 156 = .ok (.iconst 0, 1) := by decide +kernel
theorem dX6_changesBy_157 : decode cX6_changesBy 157 = .ok (.iastore, 1) := by decide +kernel
theorem dX6_changesBy_158 : decode cX6_changesBy 158 = .ok (.iload_n 2, 1) := by decide +kernel
theorem dX6_changesBy_159 : decode cX6_changesBy 159 = .ok (.ireturn, 1) := by decide +kernel
set_option maxRecDepth 20000 in
theorem ggX6_changesIf_X6_isMan : GoodIn wsX6_changesIf wsX6_isMan := goodIn_r _ [5, 6, 7, 4, 8] (by decide +kernel) (by decide +kernel)
set_option maxRecDepth 20000 in
theorem gX6_changesIf_X6_isMan : GoodIn wsX6_changesIf (va_wsS RX6 95 yX6_isMan wsX6_isMan) := goodIn_app (goodIn_of _ (by decide +kernel)) ggX6_changesIf_X6_isMan
set_option maxRecDepth 20000 in
theorem ggX6_changesIf_X6_changesBy : GoodIn wsX6_changesIf wsX6_changesBy := goodIn_r _ [12, 13, 14, 15, 16, 4, 17, 18, 19, 20, 21, 22, 23, 24, 25, 26, 27, 28, 29, 30, 31, 32, 33, 34, 35, 36, 37, 38, 39, 40, 41, 42, 43, 44, 45, 46, 47, 48, 49, 50, 51, 52, 53, 54, 55, 56, 57, 58, 59, 60, 61, 62, 63, 64, 65, 66, 67, 68, 69, 70, 71, 72, 73, 74, 75, 76, 77] (by decide +kernel) (by decide +kernel)
set_option maxRecDepth 20000 in
theorem gX6_changesIf_X6_changesBy : GoodIn wsX6_changesIf (wsV RX6 143 RX6 yX6_changesBy wsX6_changesBy) := goodIn_app (goodIn_of _ (by decide +kernel)) ggX6_changesIf_X6_changesBy
theorem dX6_changesIf_0 : decode cX6_changesIf 0 = .ok (.aload_n 0, 1) := by decide +kernel
theorem dX6_changesIf_1 : decode cX6_changesIf 1 = .ok (.iload_n 1, 1) := by decide +kernel
theorem dX6_changesIf_2 : decode cX6_changesIf 2 = .ok (.invokestatic 95, 3) := by decide +kernel
theorem dX6_changesIf_5 : decode cX6_changesIf 5 = .ok (.ifCond .eq 7, 3) := by decide +kernel
theorem dX6_changesIf_8 : decode cX6_changesIf 8 = .ok (.iconst 0, 1) := by decide +kernel
theorem dX6_changesIf_9 : decode cX6_changesIf 9 = .ok (.goto 4, 3) := by decide +kernel
theorem dX6_changesIf_12 : decode cX6_changesIf 12 = .ok (.iconst 1, 1) := by decide +kernel
theorem dX6_changesIf_13 : decode cX6_changesIf 13 = .ok (.putfield 31, 3) := by decide +kernel
theorem dX6_changesIf_16 : decode cX6_changesIf 16 = .ok (.aload_n 0, 1) := by decide +kernel
theorem dX6_changesIf_17 : decode cX6_changesIf 17 = .ok (.getfield 31, 3) := by decide +kernel
theorem dX6_changesIf_20 : decode cX6_changesIf 20 = .ok (.ifCond .le 7, 3) := by decide +kernel
theorem dX6_changesIf_23 : decode cX6_changesIf 23 = .ok (.iconst 0, 1) := by decide +kernel
theorem dX6_changesIf_24 : decode cX6_changesIf 24 = .ok (.goto 8, 3) := by decide +kernel
theorem dX6_changesIf_27 : decode cX6_changesIf 27 = .ok (.aload_n 0, 1) := by decide +kernel
theorem dX6_changesIf_28 : decode cX6_changesIf 28 = .ok (.iload_n 1, 1) := by decide +kernel
theorem dX6_changesIf_29 : decode cX6_changesIf 29 = .ok (.invokevirtual 143, 3) := by decide +kernel
theorem dX6_changesIf_32 : decode cX6_changesIf 32 = .ok (.ireturn, 1) := by decide +kernel
set_option maxRecDepth 20000 in
theorem ggX6_unevenness_X6_sizeOf : GoodIn wsX6_unevenness wsX6_sizeOf := goodIn_r _ [7, 2, 16, 17, 18, 19, 20, 21, 22, 23, 24, 25, 26, 27] (by decide +kernel) (by decide +kernel)
set_option maxRecDepth 20000 in
theorem gX6_unevenness_X6_sizeOf : GoodIn wsX6_unevenness (wsV RX6 42 RX6 yX6_sizeOf wsX6_sizeOf) := goodIn_app (goodIn_of _ (by decide +kernel)) ggX6_unevenness_X6_sizeOf
set_option maxRecDepth 20000 in
theorem ggX6_unevenness_X6_works : GoodIn wsX6_unevenness wsX6_works := goodIn_r _ [11, 2, 16, 17, 18, 19, 20, 21, 22, 23, 24, 25, 26, 27] (by decide +kernel) (by decide +kernel)
set_option maxRecDepth 20000 in
theorem gX6_unevenness_X6_works : GoodIn wsX6_unevenness (wsV RX6 50 RX6 yX6_works wsX6_works) := goodIn_app (goodIn_of _ (by decide +kernel)) ggX6_unevenness_X6_works
set_option maxRecDepth 20000 in
theorem ggX6_unevenness_X6_men : GoodIn wsX6_unevenness wsX6_men := goodIn_r _ [15, 2, 16, 17, 18, 19, 20, 21, 22, 23, 24, 25, 26, 27] (by decide +kernel) (by decide +kernel)
set_option maxRecDepth 20000 in
theorem gX6_unevenness_X6_men : GoodIn wsX6_unevenness (wsV RX6 46 RX6 yX6_men wsX6_men) := goodIn_app (goodIn_of _ (by decide +kernel)) ggX6_unevenness_X6_men
theorem dX6_unevenness_0 : decode cX6_unevenness 0 = .ok (.aload_n 0, 1) := by decide +kernel
theorem dX6_unevenness_1 : decode cX6_unevenness 1 = .ok (.iconst 0, 1) := by decide +kernel
theorem dX6_unevenness_2 : decode cX6_unevenness 2 = .ok (.putfield 31, 3) := by decide +kernel
theorem dX6_unevenness_5 : decode cX6_unevenness 5 = .ok (.bipush 20, 2) := by decide +kernel
theorem dX6_unevenness_7 : decode cX6_unevenness 7 = .ok (.istore_n 1, 1) := by decide +kernel
theorem dX6_unevenness_8 : decode cX6_unevenness 8 = .ok (.iconst 0, 1) := by decide +kernel
theorem dX6_unevenness_9 : decode cX6_unevenness 9 = .ok (.istore_n 2, 1) := by decide +kernel
theorem dX6_unevenness_10 : decode cX6_unevenness 10 = .ok (.iconst 0, 1) := by decide +kernel
theorem dX6_unevenness_11 : decode cX6_unevenness 11 = .ok (.istore_n 3, 1) := by decide +kernel
theorem dX6_unevenness_12 : decode cX6_unevenness 12 = .ok (.iload_n 3, 1) := by decide +kernel
theorem dX6_unevenness_13 : decode cX6_unevenness 13 = .ok (.bipush 6, 2) := by decide +kernel
theorem dX6_unevenness_15 : decode cX6_unevenness 15 = .ok (.if_icmp .ge 50, 3) := by decide +kernel
theorem dX6_unevenness_18 : decode cX6_unevenness 18 = .ok (.aload_n 0, 1) := by decide +kernel
theorem dX6_unevenness_19 : decode cX6_unevenness 19 = .ok (.iload_n 3, 1) := by decide +kernel
theorem dX6_unevenness_20 : decode cX6_unevenness 20 = .ok (.invokevirtual 42, 3) := by decide +kernel
theorem dX6_unevenness_23 : decode cX6_unevenness 23 = .ok (.istore 4, 2) := by decide +kernel
theorem dX6_unevenness_25 : decode cX6_unevenness 25 = .ok (.aload_n 0, 1) := by decide +kernel
theorem dX6_unevenness_26 : decode cX6_unevenness 26 = .ok (.iload_n 3, 1) := by decide +kernel
theorem dX6_unevenness_27 : decode cX6_unevenness 27 = .ok (.invokevirtual 50, 3) := by decide +kernel
theorem dX6_unevenness_30 : decode cX6_unevenness 30 = .ok (.ifCond .eq 14, 3) := by decide +kernel
theorem dX6_unevenness_33 : decode cX6_unevenness 33 = .ok (.iload 4, 2) := by decide +kernel
theorem dX6_unevenness_35 : decode cX6_unevenness 35 = .ok (.iload_n 1, 1) := by decide +kernel
theorem dX6_unevenness_36 : decode cX6_unevenness 36 = .ok (.if_icmp .ge 8, 3) := by decide +kernel
theorem dX6_unevenness_39 : decode cX6_unevenness 39 = .ok (.iload 4, 2) := by decide +kernel
theorem dX6_unevenness_41 : decode cX6_unevenness 41 = .ok (.goto 4, 3) := by decide +kernel
theorem dX6_unevenness_44 : decode cX6_unevenness 44 = .ok (.iload_n 1, 1) := by decide +kernel
theorem dX6_unevenness_45 : decode cX6_unevenness 45 = .ok (.istore_n 1, 1) := by decide +kernel
theorem dX6_unevenness_46 : decode cX6_unevenness 46 = .ok (.iload 4, 2) := by decide +kernel
theorem dX6_unevenness_48 : decode cX6_unevenness 48 = .ok (.iload_n 2, 1) := by decide +kernel
theorem dX6_unevenness_49 : decode cX6_unevenness 49 = .ok (.if_icmp .le 8, 3) := by decide +kernel
theorem dX6_unevenness_52 : decode cX6_unevenness 52 = .ok (.iload 4, 2) := by decide +kernel
theorem dX6_unevenness_54 : decode cX6_unevenness 54 = .ok (.goto 4, 3) := by decide +kernel
theorem dX6_unevenness_57 : decode cX6_unevenness 57 = .ok (.iload_n 2, 1) := by decide +kernel
theorem dX6_unevenness_58 : decode cX6_unevenness 58 = .ok (.istore_n 2, 1) := by decide +kernel
theorem dX6_unevenness_59 : decode cX6_unevenness 59 = .ok (.iinc 3 1, 3) := by decide +kernel
theorem dX6_unevenness_62 : decode cX6_unevenness 62 = .ok (.goto (-50), 3) := by decide +kernel
theorem dX6_unevenness_65 : decode cX6_unevenness 65 = .ok (.aload_n 0, 1) := by decide +kernel
theorem dX6_unevenness_66 : decode cX6_unevenness 66 = .ok (.invokevirtual 46, 3) := by decide +kernel
theorem dX6_unevenness_69 : decode cX6_unevenness 69 = .ok (.ifCond .eq 12, 3) := by decide +kernel
theorem dX6_unevenness_72 : decode cX6_unevenness 72 = .ok (.aload_n 0, 1) := by decide +kernel
theorem dX6_unevenness_73 : decode cX6_unevenness 73 = .ok (.getfield 7, 3) := by decide +kernel
theorem dX6_unevenness_76 : decode cX6_unevenness 76 = .ok (.iconst 0, 1) := by decide +kernel
theorem dX6_unevenness_77 : decode cX6_unevenness 77 = .ok (.iaload, 1) := by decide +kernel
theorem dX6_unevenness_78 : decode cX6_unevenness 78 = .ok (.ifCond .ne 7, 3) := by decide +kernel
theorem dX6_unevenness_81 : decode cX6_unevenness 81 = .ok (.dconst 0, 1) := by decide +kernel
theorem dX6_unevenness_82 : decode cX6_unevenness 82 = .ok (.goto 15, 3) := by decide +kernel
theorem dX6_unevenness_85 : decode cX6_unevenness 85 = .ok (.iload_n 2, 1) := by decide +kernel
theorem dX6_unevenness_86 : decode cX6_unevenness 86 = .ok (.iload_n 1, 1) := by decide +kernel
theorem dX6_unevenness_87 : decode cX6_unevenness 87 = .ok (.isub, 1) := by decide +kernel
theorem dX6_unevenness_88 : decode cX6_unevenness 88 = .ok (.i2d, 1) := by decide +kernel
theorem dX6_unevenness_89 : decode cX6_unevenness 89 = .ok (.aload_n 0, 1) := by decide +kernel
theorem dX6_unevenness_90 : decode cX6_unevenness 90 = .ok (.getfield 7, 3) := by decide +kernel
theorem dX6_unevenness_93 : decode cX6_unevenness 93 = .ok (.iconst 0, 1) := by decide +kernel
theorem dX6_unevenness_94 : decode cX6_unevenness 94 = .ok (.iaload, 1) := by decide +kernel
theorem dX6_unevenness_95 : decode cX6_unevenness 95 = .ok (.i2d, 1) := by decide +kernel
theorem dX6_unevenness_96 : decode cX6_unevenness 96 = .ok (.ddiv, 1) := by decide +kernel
theorem dX6_unevenness_97 : decode cX6_unevenness 97 = .ok (.dreturn, 1) := by decide +kernel
set_option maxRecDepth 20000 in
theorem ggX6_append_X6_in : GoodIn wsX6_append wsX6_in := goodIn_r _ [7] (by decide +kernel) (by decide +kernel)
set_option maxRecDepth 20000 in
theorem gX6_append_X6_in : GoodIn wsX6_append (va_wsS RX6 35 yX6_in wsX6_in) := goodIn_app (goodIn_of _ (by decide +kernel)) ggX6_append_X6_in
theorem dX6_append_0 : decode cX6_append 0 = .ok (.aload_n 0, 1) := by decide +kernel
theorem dX6_append_1 : decode cX6_append 1 = .ok (.iload_n 1, 1) := by decide +kernel
theorem dX6_append_2 : decode cX6_append 2 = .ok (.bipush 33, 2) := by decide +kernel
theorem dX6_append_4 : decode cX6_append 4 = .ok (.bipush 126, 2) := by decide +kernel
theorem dX6_append_6 : decode cX6_append 6 = .ok (.invokestatic 35, 3) := by decide +kernel
theorem dX6_append_9 : decode cX6_append 9 = .ok (.ifCond .ne 7, 3) := by decide +kernel
theorem dX6_append_12 : decode cX6_append 12 = .ok (.iconst 1, 1) := by decide +kernel
theorem dX6_append_13 : decode cX6_append 13 = .ok (.goto 17, 3) := by decide +kernel
theorem dX6_append_16 : decode cX6_append 16 = .ok (.aload_n 0, 1) := by decide +kernel
theorem dX6_append_17 : decode cX6_append 17 = .ok (.getfield 146, 3) := by decide +kernel
theorem dX6_append_20 : decode cX6_append 20 = .ok (.bipush 60, 2) := by decide +kernel
theorem dX6_append_22 : decode cX6_append 22 = .ok (.if_icmp .ne 7, 3) := by decide +kernel
theorem dX6_append_25 : decode cX6_append 25 = .ok (.iconst 2, 1) := by decide +kernel
theorem dX6_append_26 : decode cX6_append 26 = .ok (.goto 4, 3) := by decide +kernel
theorem dX6_append_29 : decode cX6_append 29 = .ok (.iconst 0, 1) := by decide +kernel
theorem dX6_append_30 : decode cX6_append 30 = .ok (.putfield 31, 3) := by decide +kernel
theorem dX6_append_33 : decode cX6_append 33 = .ok (.aload_n 0, 1) := by decide +kernel
theorem dX6_append_34 : decode cX6_append 34 = .ok (.getfield 31, 3) := by decide +kernel
theorem dX6_append_37 : decode cX6_append 37 = .ok (.ifCond .le 5, 3) := by decide +kernel
theorem dX6_append_40 : decode cX6_append 40 = .ok (.iconst 0, 1) := by decide +kernel
theorem dX6_append_41 : decode cX6_append 41 = .ok (.ireturn, 1) := by decide +kernel
theorem dX6_append_42 : decode cX6_append 42 = .ok (.aload_n 0, 1) := by decide +kernel
theorem dX6_append_43 : decode cX6_append 43 = .ok (.getfield 16, 3) := by decide +kernel
theorem dX6_append_46 : decode cX6_append 46 = .ok (.aload_n 0, 1) := by decide +kernel
theorem dX6_append_47 : decode cX6_append 47 = .ok (.getfield 146, 3) := by decide +kernel
theorem dX6_append_50 : decode cX6_append 50 = .ok (.iload_n 1, 1) := by decide +kernel
theorem dX6_append_51 : decode cX6_append 51 = .ok (.iastore, 1) := by decide +kernel
theorem dX6_append_52 : decode cX6_append 52 = .ok (.aload_n 0, 1) := by decide +kernel
theorem dX6_append_53 : decode cX6_append 53 = .ok (.dup, 1) := by decide +kernel
theorem dX6_append_54 : decode cX6_append 54 = .ok (.getfield 146, 3) := by decide +kernel
theorem dX6_append_57 : decode cX6_append 57 = .ok (.iconst 1, 1) := by decide +kernel
theorem dX6_append_58 : decode cX6_append 58 = .ok (.iadd, 1) := by decide +kernel
theorem dX6_append_59 : decode cX6_append 59 = .ok (.putfield 146, 3) := by decide +kernel
theorem dX6_append_62 : decode cX6_append 62 = .ok (.aload_n 0, 1) := by decide +kernel
theorem dX6_append_63 : decode cX6_append 63 = .ok (.getfield 146, 3) := by decide +kernel
theorem dX6_append_66 : decode cX6_append 66 = .ok (.ireturn, 1) := by decide +kernel
theorem dX6_clearText_0 : decode cX6_clearText 0 = .ok (.aload_n 0, 1) := by decide +kernel
theorem dX6_clearText_1 : decode cX6_clearText 1 = .ok (.iconst 0, 1) := by decide +kernel
theorem dX6_clearText_2 : decode cX6_clearText 2 = .ok (.putfield 31, 3) := by decide +kernel
theorem dX6_clearText_5 : decode cX6_clearText 5 = .ok (.aload_n 0, 1) := by decide +kernel
theorem dX6_clearText_6 : decode cX6_clearText 6 = .ok (.getfield 146, 3) := by decide +kernel
theorem dX6_clearText_9 : decode cX6_clearText 9 = .ok (.istore_n 1, 1) := by decide +kernel
theorem dX6_clearText_10 : decode cX6_clearText 10 = .ok (.aload_n 0, 1) := by decide +kernel
theorem dX6_clearText_11 : decode cX6_clearText 11 = .ok (.iconst 0, 1) := by decide +kernel
theorem dX6_clearText_12 : decode cX6_clearText 12 = .ok (.putfield 146, 3) := by decide +kernel
theorem dX6_clearText_15 : decode cX6_clearText 15 = .ok (.iload_n 1, 1) := by decide +kernel
theorem dX6_clearText_16 : decode cX6_clearText 16 = .ok (.ireturn, 1) := by decide +kernel
theorem dX6_at_0 : decode cX6_at 0 = .ok (.iload_n 1, 1) := by decide +kernel
theorem dX6_at_1 : decode cX6_at 1 = .ok (.aload_n 0, 1) := by decide +kernel
theorem dX6_at_2 : decode cX6_at 2 = .ok (.getfield 146, 3) := by decide +kernel
theorem dX6_at_5 : decode cX6_at 5 = .ok (.if_icmp .ge 12, 3) := by decide +kernel
theorem dX6_at_8 : decode cX6_at 8 = .ok (.aload_n 0, 1) := by decide +kernel
theorem dX6_at_9 : decode cX6_at 9 = .ok (.getfield 16, 3) := by decide +kernel
theorem dX6_at_12 : decode cX6_at 12 = .ok (.iload_n 1, 1) := by decide +kernel
theorem dX6_at_13 : decode cX6_at 13 = .ok (.iaload, 1) := by decide +kernel
theorem dX6_at_14 : decode cX6_at 14 = .ok (.goto 4, 3) := by decide +kernel
theorem dX6_at_17 : decode cX6_at 17 = .ok (.iconst 0, 1) := by decide +kernel
theorem dX6_at_18 : decode cX6_at 18 = .ok (.ireturn, 1) := by decide +kernel
set_option maxRecDepth 20000 in
theorem ggX6_readDigit_X6_at : GoodIn wsX6_readDigit wsX6_at := goodIn_r _ [6, 7, 8, 12, 13, 14, 15, 16, 17, 18, 19, 20, 21, 22, 23] (by decide +kernel) (by decide +kernel)
set_option maxRecDepth 20000 in
theorem gX6_readDigit_X6_at : GoodIn wsX6_readDigit (wsV RX6 149 RX6 yX6_at wsX6_at) := goodIn_app (goodIn_of _ (by decide +kernel)) ggX6_readDigit_X6_at
set_option maxRecDepth 20000 in
theorem ggX6_readDigit_X6_in : GoodIn wsX6_readDigit wsX6_in := goodIn_r _ [11] (by decide +kernel) (by decide +kernel)
set_option maxRecDepth 20000 in
theorem gX6_readDigit_X6_in : GoodIn wsX6_readDigit (va_wsS RX6 35 yX6_in wsX6_in) := goodIn_app (goodIn_of _ (by decide +kernel)) ggX6_readDigit_X6_in
theorem dX6_readDigit_0 : decode cX6_readDigit 0 = .ok (.aload_n 0, 1) := by decide +kernel
theorem dX6_readDigit_1 : decode cX6_readDigit 1 = .ok (.aload_n 0, 1) := by decide +kernel
theorem dX6_readDigit_2 : decode cX6_readDigit 2 = .ok (.iload_n 1, 1) := by decide +kernel
theorem dX6_readDigit_3 : decode cX6_readDigit 3 = .ok (.invokevirtual 149, 3) := by decide +kernel
theorem dX6_readDigit_6 : decode cX6_readDigit 6 = .ok (.bipush 48, 2) := by decide +kernel
theorem dX6_readDigit_8 : decode cX6_readDigit 8 = .ok (.isub, 1) := by decide +kernel
theorem dX6_readDigit_9 : decode cX6_readDigit 9 = .ok (.putfield 152, 3) := by decide +kernel
theorem dX6_readDigit_12 : decode cX6_readDigit 12 = .ok (.aload_n 0, 1) := by decide +kernel
theorem dX6_readDigit_13 : decode cX6_readDigit 13 = .ok (.getfield 152, 3) := by decide +kernel
theorem dX6_readDigit_16 : decode cX6_readDigit 16 = .ok (.iload_n 2, 1) := by decide +kernel
theorem dX6_readDigit_17 : decode cX6_readDigit 17 = .ok (.iload_n 3, 1) := by decide +kernel
theorem dX6_readDigit_18 : decode cX6_readDigit 18 = .ok (.invokestatic 35, 3) := by decide +kernel
theorem dX6_readDigit_21 : decode cX6_readDigit 21 = .ok (.ifCond .eq 9, 3) := by decide +kernel
theorem dX6_readDigit_24 : decode cX6_readDigit 24 = .ok (.iload_n 1, 1) := by decide +kernel
theorem dX6_readDigit_25 : decode cX6_readDigit 25 = .ok (.iconst 1, 1) := by decide +kernel
theorem dX6_readDigit_26 : decode cX6_readDigit 26 = .ok (.iadd, 1) := by decide +kernel
theorem dX6_readDigit_27 : decode cX6_readDigit 27 = .ok (.goto 6, 3) := by decide +kernel
theorem dX6_readDigit_30 : decode cX6_readDigit 30 = .ok (.iconst (-1), 1) := by decide +kernel
theorem dX6_readDigit_31 : decode cX6_readDigit 31 = .ok (.iload_n 1, 1) := by decide +kernel
theorem dX6_readDigit_32 : decode cX6_readDigit 32 = .ok (.isub, 1) := by decide +kernel
theorem dX6_readDigit_33 : decode cX6_readDigit 33 = .ok (.ireturn, 1) := by decide +kernel
set_option maxRecDepth 20000 in
theorem ggX6_readPart_X6_at : GoodIn wsX6_readPart wsX6_at := goodIn_r _ [7, 8, 9, 17, 18, 19, 20, 21, 22, 23, 24, 25, 26, 27, 28] (by decide +kernel) (by decide +kernel)
set_option maxRecDepth 20000 in
theorem gX6_readPart_X6_at : GoodIn wsX6_readPart (wsV RX6 149 RX6 yX6_at wsX6_at) := goodIn_app (goodIn_of _ (by decide +kernel)) ggX6_readPart_X6_at
set_option maxRecDepth 20000 in
theorem ggX6_readPart_X6_readDigit : GoodIn wsX6_readPart wsX6_readDigit := goodIn_r _ [13, 2, 3, 4, 5, 6, 7, 8, 9, 14, 15, 16, 17, 18, 19, 20, 21, 22, 23, 24, 25, 26, 27, 28] (by decide +kernel) (by decide +kernel)
set_option maxRecDepth 20000 in
theorem gX6_readPart_X6_readDigit : GoodIn wsX6_readPart (wsV RX6 158 RX6 yX6_readDigit wsX6_readDigit) := goodIn_app (goodIn_of _ (by decide +kernel)) ggX6_readPart_X6_readDigit
set_option maxRecDepth 20000 in
theorem ggX6_readPart_X6_in : GoodIn wsX6_readPart wsX6_in := goodIn_r _ [16] (by decide +kernel) (by decide +kernel)
set_option maxRecDepth 20000 in
theorem gX6_readPart_X6_in : GoodIn wsX6_readPart (va_wsS RX6 35 yX6_in wsX6_in) := goodIn_app (goodIn_of _ (by decide +kernel)) ggX6_readPart_X6_in
theorem dX6_readPart_0 : decode cX6_readPart 0 = .ok (.aload_n 0, 1) := by decide +kernel
theorem dX6_readPart_1 : decode cX6_readPart 1 = .ok (.aload_n 0, 1) := by decide +kernel
theorem dX6_readPart_2 : decode cX6_readPart 2 = .ok (.iload_n 1, 1) := by decide +kernel
theorem dX6_readPart_3 : decode cX6_readPart 3 = .ok (.invokevirtual 149, 3) := by decide +kernel
theorem dX6_readPart_6 : decode cX6_readPart 6 = .ok (.putfield 155, 3) := by decide +kernel
theorem dX6_readPart_9 : decode cX6_readPart 9 = .ok (.aload_n 0, 1) := by decide +kernel
theorem dX6_readPart_10 : decode cX6_readPart 10 = .ok (.getfield 155, 3) := by decide +kernel
theorem dX6_readPart_13 : decode cX6_readPart 13 = .ok (.lookupswitch 103 #[(43, 75), (45, 100), (99, 86), (100, 96), (104, 96), (108, 86), (112, 96), (120, 96)], 75) := by decide +kernel
theorem dX6_readPart_88 : decode cX6_readPart 88 = .ok (.aload_n 0, 1) := by decide +kernel
theorem dX6_readPart_89 : decode cX6_readPart 89 = .ok (.iload_n 1, 1) := by decide +kernel
theorem dX6_readPart_90 : decode cX6_readPart 90 = .ok (.iconst 1, 1) := by decide +kernel
theorem dX6_readPart_91 : decode cX6_readPart 91 = .ok (.iadd, 1) := by decide +kernel
theorem dX6_readPart_92 : decode cX6_readPart 92 = .ok (.iconst 1, 1) := by decide +kernel
theorem dX6_readPart_93 : decode cX6_readPart 93 = .ok (.bipush 9, 2) := by decide +kernel
theorem dX6_readPart_95 : decode cX6_readPart 95 = .ok (.invokevirtual 158, 3) := by decide +kernel
theorem dX6_readPart_98 : decode cX6_readPart 98 = .ok (.ireturn, 1) := by decide +kernel
theorem dX6_readPart_99 : decode cX6_readPart 99 = .ok (.aload_n 0, 1) := by decide +kernel
theorem dX6_readPart_100 : decode cX6_readPart 100 = .ok (.iload_n 1, 1) := by decide +kernel
theorem dX6_readPart_101 : decode cX6_readPart 101 = .ok (.iconst 1, 1) := by decide +kernel
theorem dX6_readPart_102 : decode cX6_readPart 102 = .ok (.iadd, 1) := by decide +kernel
theorem dX6_readPart_103 : decode cX6_readPart 103 = .ok (.iconst 0, 1) := by decide +kernel
theorem dX6_readPart_104 : decode cX6_readPart 104 = .ok (.iconst 5, 1) := by decide +kernel
theorem dX6_readPart_105 : decode cX6_readPart 105 = .ok (.invokevirtual 158, 3) := by decide +kernel
theorem dX6_readPart_108 : decode cX6_readPart 108 = .ok (.ireturn, 1) := by decide +kernel
theorem dX6_readPart_109 : decode cX6_readPart 109 = .ok (.iload_n 1, 1) := by decide +kernel
theorem dX6_readPart_110 : decode cX6_readPart 110 = .ok (.iconst 1, 1) := by decide +kernel
theorem dX6_readPart_111 : decode cX6_readPart 111 = .ok (.iadd, 1) := by decide +kernel
theorem dX6_readPart_112 : decode cX6_readPart 112 = .ok (.ireturn, 1) := by decide +kernel
theorem dX6_readPart_113 : decode cX6_readPart 113 = .ok (.goto 7, 3) := by decide +kernel
theorem dX6_readPart_116 : decode cX6_readPart 116 = .ok (.iconst (-1), 1) := by decide +kernel
theorem dX6_readPart_117 : decode cX6_readPart 117 = .ok (.iload_n 1, 1) := by decide +kernel
theorem dX6_readPart_118 : decode cX6_readPart 118 = .ok (.isub, 1) := by decide +kernel
theorem dX6_readPart_119 : decode cX6_readPart 119 = .ok (.ireturn, 1) := by decide +kernel
theorem dX6_readPart_120 : decode cX6_readPart 120 = .ok (.aload_n 0, 1) := by decide +kernel
theorem dX6_readPart_121 : decode cX6_readPart 121 = .ok (.iload_n 1, 1) := by decide +kernel
theorem dX6_readPart_122 : decode cX6_readPart 122 = .ok (.iconst 1, 1) := by decide +kernel
theorem dX6_readPart_123 : decode cX6_readPart 123 = .ok (.iadd, 1) := by decide +kernel
theorem dX6_readPart_124 : decode cX6_readPart 124 = .ok (.iconst 0, 1) := by decide +kernel
theorem dX6_readPart_125 : decode cX6_readPart 125 = .ok (.bipush 9, 2) := by decide +kernel
theorem dX6_readPart_127 : decode cX6_readPart 127 = .ok (.invokevirtual 158, 3) := by decide +kernel
theorem dX6_readPart_130 : decode cX6_readPart 130 = .ok (.istore_n 2, 1) := by decide +kernel
theorem dX6_readPart_131 : decode cX6_readPart 131 = .ok (.iload_n 2, 1) := by decide +kernel
theorem dX6_readPart_132 : decode cX6_readPart 132 = .ok (.ifCond .le 44, 3) := by decide +kernel
theorem dX6_readPart_135 : decode cX6_readPart 135 = .ok (.aload_n 0, 1) := by decide +kernel
theorem dX6_readPart_136 : decode cX6_readPart 136 = .ok (.getfield 152, 3) := by decide +kernel
theorem dX6_readPart_139 : decode cX6_readPart 139 = .ok (.iconst 1, 1) := by decide +kernel
theorem dX6_readPart_140 : decode cX6_readPart 140 = .ok (.if_icmp .ne 36, 3) := by decide +kernel
theorem dX6_readPart_143 : decode cX6_readPart 143 = .ok (.aload_n 0, 1) := by decide +kernel
theorem dX6_readPart_144 : decode cX6_readPart 144 = .ok (.iload_n 2, 1) := by decide +kernel
theorem dX6_readPart_145 : decode cX6_readPart 145 = .ok (.invokevirtual 149, 3) := by decide +kernel
theorem dX6_readPart_148 : decode cX6_readPart 148 = .ok (.bipush 48, 2) := by decide +kernel
theorem dX6_readPart_150 : decode cX6_readPart 150 = .ok (.bipush 57, 2) := by decide +kernel
theorem dX6_readPart_152 : decode cX6_readPart 152 = .ok (.invokestatic 35, 3) := by decide +kernel
theorem dX6_readPart_155 : decode cX6_readPart 155 = .ok (.ifCond .eq 21, 3) := by decide +kernel
theorem dX6_readPart_158 : decode cX6_readPart 158 = .ok (.aload_n 0, 1) := by decide +kernel
theorem dX6_readPart_159 : decode cX6_readPart 159 = .ok (.bipush 10, 2) := by decide +kernel
theorem dX6_readPart_161 : decode cX6_readPart 161 = .ok (.aload_n 0, 1) := by decide +kernel
theorem dX6_readPart_162 : decode cX6_readPart 162 = .ok (.iload_n 2, 1) := by decide +kernel
theorem dX6_readPart_163 : decode cX6_readPart 163 = .ok (.invokevirtual 149, 3) := by decide +kernel
theorem dX6_readPart_166 : decode cX6_readPart 166 = .ok (.iadd, 1) := by decide +kernel
theorem dX6_readPart_167 : decode cX6_readPart 167 = .ok (.bipush 48, 2) := by decide +kernel
theorem dX6_readPart_169 : decode cX6_readPart 169 = .ok (.isub, 1) := by decide +kernel
theorem dX6_readPart_170 : decode cX6_readPart 170 = .ok (.putfield 152, 3) := by decide +kernel
theorem dX6_readPart_173 : decode cX6_readPart 173 = .ok (.iinc 2 1, 3) := by decide +kernel
theorem dX6_readPart_176 : decode cX6_readPart 176 = .ok (.iload_n 2, 1) := by decide +kernel
theorem dX6_readPart_177 : decode cX6_readPart 177 = .ok (.ireturn, 1) := by decide +kernel
set_option maxRecDepth 20000 in
theorem ggX6_findError_X6_readPart : GoodIn wsX6_findError wsX6_readPart := goodIn_r _ [7, 8, 9, 10, 11, 12, 6, 13, 1, 2, 14, 15, 16, 17, 18, 19, 20, 21, 22, 23, 24, 25, 26, 27, 28, 29, 30, 31, 32] (by decide +kernel) (by decide +kernel)
set_option maxRecDepth 20000 in
theorem gX6_findError_X6_readPart : GoodIn wsX6_findError (wsV RX6 162 RX6 yX6_readPart wsX6_readPart) := goodIn_app (goodIn_of _ (by decide +kernel)) ggX6_findError_X6_readPart
theorem dX6_findError_0 : decode cX6_findError 0 = .ok (.iconst 0, 1) := by decide +kernel
theorem dX6_findError_1 : decode cX6_findError 1 = .ok (.istore_n 1, 1) := by decide +kernel
theorem dX6_findError_2 : decode cX6_findError 2 = .ok (.aload_n 0, 1) := by decide +kernel
theorem dX6_findError_3 : decode cX6_findError 3 = .ok (.iload_n 1, 1) := by decide +kernel
theorem dX6_findError_4 : decode cX6_findError 4 = .ok (.invokevirtual 162, 3) := by decide +kernel
theorem dX6_findError_7 : decode cX6_findError 7 = .ok (.istore_n 1, 1) := by decide +kernel
theorem dX6_findError_8 : decode cX6_findError 8 = .ok (.iload_n 1, 1) := by decide +kernel
theorem dX6_findError_9 : decode cX6_findError 9 = .ok (.ifCond .ge 7, 3) := by decide +kernel
theorem dX6_findError_12 : decode cX6_findError 12 = .ok (.iconst (-1), 1) := by decide +kernel
theorem dX6_findError_13 : decode cX6_findError 13 = .ok (.iload_n 1, 1) := by decide +kernel
theorem dX6_findError_14 : decode cX6_findError 14 = .ok (.isub, 1) := by decide +kernel
theorem dX6_findError_15 : decode cX6_findError 15 = .ok (.ireturn, 1) := by decide +kernel
theorem dX6_findError_16 : decode cX6_findError 16 = .ok (.iload_n 1, 1) := by decide +kernel
theorem dX6_findError_17 : decode cX6_findError 17 = .ok (.aload_n 0, 1) := by decide +kernel
theorem dX6_findError_18 : decode cX6_findError 18 = .ok (.getfield 146, 3) := by decide +kernel
theorem dX6_findError_21 : decode cX6_findError 21 = .ok (.if_icmp .ne 5, 3) := by decide +kernel
theorem dX6_findError_24 : decode cX6_findError 24 = .ok (.iconst (-1), 1) := by decide +kernel
theorem dX6_findError_25 : decode cX6_findError 25 = .ok (.ireturn, 1) := by decide +kernel
theorem dX6_findError_26 : decode cX6_findError 26 = .ok (.aload_n 0, 1) := by decide +kernel
theorem dX6_findError_27 : decode cX6_findError 27 = .ok (.getfield 16, 3) := by decide +kernel
theorem dX6_findError_30 : decode cX6_findError 30 = .ok (.iload_n 1, 1) := by decide +kernel
theorem dX6_findError_31 : decode cX6_findError 31 = .ok (.iaload, 1) := by decide +kernel
theorem dX6_findError_32 : decode cX6_findError 32 = .ok (.bipush 59, 2) := by decide +kernel
theorem dX6_findError_34 : decode cX6_findError 34 = .ok (.if_icmp .eq 5, 3) := by decide +kernel
theorem dX6_findError_37 : decode cX6_findError 37 = .ok (.iload_n 1, 1) := by decide +kernel
theorem dX6_findError_38 : decode cX6_findError 38 = .ok (.ireturn, 1) := by decide +kernel
theorem dX6_findError_39 : decode cX6_findError 39 = .ok (.iinc 1 1, 3) := by decide +kernel
theorem dX6_findError_42 : decode cX6_findError 42 = .ok (.goto (-40), 3) := by decide +kernel
set_option maxRecDepth 20000 in
theorem ggX6_firstError_X6_findError : GoodIn wsX6_firstError wsX6_findError := goodIn_r _ [7, 2, 8, 9, 10, 11, 6, 12, 13, 14, 15, 16, 17, 18, 19, 20, 21, 22, 23, 24, 25, 26, 27, 28, 29, 30, 31, 32, 33, 34, 35, 36, 37] (by decide +kernel) (by decide +kernel)
set_option maxRecDepth 20000 in
theorem gX6_firstError_X6_findError : GoodIn wsX6_firstError (wsV RX6 165 RX6 yX6_findError wsX6_findError) := goodIn_app (goodIn_of _ (by decide +kernel)) ggX6_firstError_X6_findError
theorem dX6_firstError_0 : decode cX6_firstError 0 = .ok (.aload_n 0, 1) := by decide +kernel
theorem dX6_firstError_1 : decode cX6_firstError 1 = .ok (.iconst 0, 1) := by decide +kernel
theorem dX6_firstError_2 : decode cX6_firstError 2 = .ok (.putfield 31, 3) := by decide +kernel
theorem dX6_firstError_5 : decode cX6_firstError 5 = .ok (.aload_n 0, 1) := by decide +kernel
theorem dX6_firstError_6 : decode cX6_firstError 6 = .ok (.invokevirtual 165, 3) := by decide +kernel
theorem dX6_firstError_9 : decode cX6_firstError 9 = .ok (.istore_n 1, 1) := by decide +kernel
theorem dX6_firstError_10 : decode cX6_firstError 10 = .ok (.iload_n 1, 1) := by decide +kernel
theorem dX6_firstError_11 : decode cX6_firstError 11 = .ok (.ifCond .ge 10, 3) := by decide +kernel
theorem dX6_firstError_14 : decode cX6_firstError 14 = .ok (.aload_n 0, 1) := by decide +kernel
theorem dX6_firstError_15 : decode cX6_firstError 15 = .ok (.getfield 146, 3) := by decide +kernel
theorem dX6_firstError_18 : decode cX6_firstError 18 = .ok (.goto 4, 3) := by decide +kernel
theorem dX6_firstError_21 : decode cX6_firstError 21 = .ok (.iload_n 1, 1) := by decide +kernel
theorem dX6_firstError_22 : decode cX6_firstError 22 = .ok (.ireturn, 1) := by decide +kernel
set_option maxRecDepth 20000 in
theorem ggX6_noPart_X6_noAdd : GoodIn wsX6_noPart wsX6_noAdd := goodIn_r _ [7, 8, 9, 10, 6, 11, 47, 48, 49, 50, 51, 52, 53, 54, 55, 56, 57, 58] (by decide +kernel) (by decide +kernel)
set_option maxRecDepth 20000 in
theorem gX6_noPart_X6_noAdd : GoodIn wsX6_noPart (wsV RX6 77 RX6 yX6_noAdd wsX6_noAdd) := goodIn_app (goodIn_of _ (by decide +kernel)) ggX6_noPart_X6_noAdd
set_option maxRecDepth 20000 in
theorem ggX6_noPart_X6_noRemove : GoodIn wsX6_noPart wsX6_noRemove := goodIn_r _ [15, 8, 16, 17, 18, 6, 19, 9, 10, 11, 47, 48, 49, 50, 51, 52, 53, 54, 55, 56, 57, 58] (by decide +kernel) (by decide +kernel)
set_option maxRecDepth 20000 in
theorem gX6_noPart_X6_noRemove : GoodIn wsX6_noPart (wsV RX6 89 RX6 yX6_noRemove wsX6_noRemove) := goodIn_app (goodIn_of _ (by decide +kernel)) ggX6_noPart_X6_noRemove
set_option maxRecDepth 20000 in
theorem ggX6_noPart_X6_noCome : GoodIn wsX6_noPart wsX6_noCome := goodIn_r _ [23, 8, 24, 25, 6, 26, 9, 10, 11, 27, 28, 29, 30, 47, 48, 49, 50, 51, 52, 53, 54, 55, 56, 57, 58] (by decide +kernel) (by decide +kernel)
set_option maxRecDepth 20000 in
theorem gX6_noPart_X6_noCome : GoodIn wsX6_noPart (wsV RX6 98 RX6 yX6_noCome wsX6_noCome) := goodIn_app (goodIn_of _ (by decide +kernel)) ggX6_noPart_X6_noCome
set_option maxRecDepth 20000 in
theorem ggX6_noPart_X6_noLeave : GoodIn wsX6_noPart wsX6_noLeave := goodIn_r _ [34, 8, 24, 25, 6, 26, 9, 10, 11, 27, 28, 29, 30, 47, 48, 49, 50, 51, 52, 53, 54, 55, 56, 57, 58] (by decide +kernel) (by decide +kernel)
set_option maxRecDepth 20000 in
theorem gX6_noPart_X6_noLeave : GoodIn wsX6_noPart (wsV RX6 104 RX6 yX6_noLeave wsX6_noLeave) := goodIn_app (goodIn_of _ (by decide +kernel)) ggX6_noPart_X6_noLeave
set_option maxRecDepth 20000 in
theorem ggX6_noPart_X6_noPlan : GoodIn wsX6_noPart wsX6_noPlan := goodIn_r _ [38, 8, 39, 40, 41, 6, 42, 47, 48, 49, 50, 51, 52, 53, 54, 55, 56, 57, 58] (by decide +kernel) (by decide +kernel)
set_option maxRecDepth 20000 in
theorem gX6_noPart_X6_noPlan : GoodIn wsX6_noPart (wsV RX6 116 RX6 yX6_noPlan wsX6_noPlan) := goodIn_app (goodIn_of _ (by decide +kernel)) ggX6_noPart_X6_noPlan
set_option maxRecDepth 20000 in
theorem ggX6_noPart_X6_noHandover : GoodIn wsX6_noPart wsX6_noHandover := goodIn_r _ [46, 8, 47, 48, 49, 50, 51, 52, 53, 54, 55, 56, 57, 58] (by decide +kernel) (by decide +kernel)
set_option maxRecDepth 20000 in
theorem gX6_noPart_X6_noHandover : GoodIn wsX6_noPart (wsV RX6 122 RX6 yX6_noHandover wsX6_noHandover) := goodIn_app (goodIn_of _ (by decide +kernel)) ggX6_noPart_X6_noHandover
theorem dX6_noPart_0 : decode cX6_noPart 0 = .ok (.aload_n 0, 1) := by decide +kernel
theorem dX6_noPart_1 : decode cX6_noPart 1 = .ok (.getfield 155, 3) := by decide +kernel
theorem dX6_noPart_4 : decode cX6_noPart 4 = .ok (.lookupswitch 103 #[(43, 60), (45, 69), (99, 78), (100, 101), (108, 87), (112, 96)], 60) := by decide +kernel
theorem dX6_noPart_64 : decode cX6_noPart 64 = .ok (.aload_n 0, 1) := by decide +kernel
theorem dX6_noPart_65 : decode cX6_noPart 65 = .ok (.aload_n 0, 1) := by decide +kernel
theorem dX6_noPart_66 : decode cX6_noPart 66 = .ok (.getfield 152, 3) := by decide +kernel
theorem dX6_noPart_69 : decode cX6_noPart 69 = .ok (.invokevirtual 77, 3) := by decide +kernel
theorem dX6_noPart_72 : decode cX6_noPart 72 = .ok (.ireturn, 1) := by decide +kernel
theorem dX6_noPart_73 : decode cX6_noPart 73 = .ok (.aload_n 0, 1) := by decide +kernel
theorem dX6_noPart_74 : decode cX6_noPart 74 = .ok (.aload_n 0, 1) := by decide +kernel
theorem dX6_noPart_75 : decode cX6_noPart 75 = .ok (.getfield 152, 3) := by decide +kernel
theorem dX6_noPart_78 : decode cX6_noPart 78 = .ok (.invokevirtual 89, 3) := by decide +kernel
theorem dX6_noPart_81 : decode cX6_noPart 81 = .ok (.ireturn, 1) := by decide +kernel
theorem dX6_noPart_82 : decode cX6_noPart 82 = .ok (.aload_n 0, 1) := by decide +kernel
theorem dX6_noPart_83 : decode cX6_noPart 83 = .ok (.aload_n 0, 1) := by decide +kernel
theorem dX6_noPart_84 : decode cX6_noPart 84 = .ok (.getfield 152, 3) := by decide +kernel
theorem dX6_noPart_87 : decode cX6_noPart 87 = .ok (.invokevirtual 98, 3) := by decide +kernel
theorem dX6_noPart_90 : decode cX6_noPart 90 = .ok (.ireturn, 1) := by decide +kernel
theorem dX6_noPart_91 : decode cX6_noPart 91 = .ok (.aload_n 0, 1) := by decide +kernel
theorem dX6_noPart_92 : decode cX6_noPart 92 = .ok (.aload_n 0, 1) := by decide +kernel
theorem dX6_noPart_93 : decode cX6_noPart 93 = .ok (.getfield 152, 3) := by decide +kernel
theorem dX6_noPart_96 : decode cX6_noPart 96 = .ok (.invokevirtual 104, 3) := by decide +kernel
theorem dX6_noPart_99 : decode cX6_noPart 99 = .ok (.ireturn, 1) := by decide +kernel
theorem dX6_noPart_100 : decode cX6_noPart 100 = .ok (.aload_n 0, 1) := by decide +kernel
theorem dX6_noPart_101 : decode cX6_noPart 101 = .ok (.invokevirtual 116, 3) := by decide +kernel
theorem dX6_noPart_104 : decode cX6_noPart 104 = .ok (.ireturn, 1) := by decide +kernel
theorem dX6_noPart_105 : decode cX6_noPart 105 = .ok (.iconst 0, 1) := by decide +kernel
theorem dX6_noPart_106 : decode cX6_noPart 106 = .ok (.ireturn, 1) := by decide +kernel
theorem dX6_noPart_107 : decode cX6_noPart 107 = .ok (.aload_n 0, 1) := by decide +kernel
theorem dX6_noPart_108 : decode cX6_noPart 108 = .ok (.invokevirtual 122, 3) := by decide +kernel
theorem dX6_noPart_111 : decode cX6_noPart 111 = .ok (.ireturn, 1) := by decide +kernel
set_option maxRecDepth 20000 in
theorem ggX6_doPart_X6_doAdd : GoodIn wsX6_doPart wsX6_doAdd := goodIn_r _ [7, 8, 85, 86, 87, 88, 89, 90, 91, 92, 93, 94, 95, 96] (by decide +kernel) (by decide +kernel)
set_option maxRecDepth 20000 in
theorem gX6_doPart_X6_doAdd : GoodIn wsX6_doPart (wsV RX6 83 RX6 yX6_doAdd wsX6_doAdd) := goodIn_app (goodIn_of _ (by decide +kernel)) ggX6_doPart_X6_doAdd
set_option maxRecDepth 20000 in
theorem ggX6_doPart_X6_doRemove : GoodIn wsX6_doPart wsX6_doRemove := goodIn_r _ [12, 8, 85, 86, 87, 88, 89, 90, 91, 92, 93, 94, 95, 96] (by decide +kernel) (by decide +kernel)
set_option maxRecDepth 20000 in
theorem gX6_doPart_X6_doRemove : GoodIn wsX6_doPart (wsV RX6 92 RX6 yX6_doRemove wsX6_doRemove) := goodIn_app (goodIn_of _ (by decide +kernel)) ggX6_doPart_X6_doRemove
set_option maxRecDepth 20000 in
theorem ggX6_doPart_X6_doCome : GoodIn wsX6_doPart wsX6_doCome := goodIn_r _ [16, 8, 17, 18, 19, 6, 20, 85, 86, 87, 88, 89, 90, 91, 92, 93, 94, 95, 96] (by decide +kernel) (by decide +kernel)
set_option maxRecDepth 20000 in
theorem gX6_doPart_X6_doCome : GoodIn wsX6_doPart (wsV RX6 101 RX6 yX6_doCome wsX6_doCome) := goodIn_app (goodIn_of _ (by decide +kernel)) ggX6_doPart_X6_doCome
set_option maxRecDepth 20000 in
theorem ggX6_doPart_X6_doLeave : GoodIn wsX6_doPart wsX6_doLeave := goodIn_r _ [24, 8, 25, 26, 27, 6, 28, 85, 86, 87, 88, 89, 90, 91, 92, 93, 94, 95, 96] (by decide +kernel) (by decide +kernel)
set_option maxRecDepth 20000 in
theorem gX6_doPart_X6_doLeave : GoodIn wsX6_doPart (wsV RX6 107 RX6 yX6_doLeave wsX6_doLeave) := goodIn_app (goodIn_of _ (by decide +kernel)) ggX6_doPart_X6_doLeave
set_option maxRecDepth 20000 in
theorem ggX6_doPart_X6_doPlan : GoodIn wsX6_doPart wsX6_doPlan := goodIn_r _ [32, 8, 33, 34, 35, 36, 6, 37, 17, 18, 19, 20, 38, 39, 40, 41, 42, 43, 44, 45, 46, 47, 48, 49, 50, 51, 52, 25, 26, 27, 28, 53, 54, 55, 56, 57, 58, 59, 60, 61, 62, 63, 64, 65, 66, 67, 68, 69, 70, 71, 72, 85, 86, 87, 88, 89, 90, 91, 92, 93, 94, 95, 96] (by decide +kernel) (by decide +kernel)
set_option maxRecDepth 20000 in
theorem gX6_doPart_X6_doPlan : GoodIn wsX6_doPart (wsV RX6 119 RX6 yX6_doPlan wsX6_doPlan) := goodIn_app (goodIn_of _ (by decide +kernel)) ggX6_doPart_X6_doPlan
set_option maxRecDepth 20000 in
theorem ggX6_doPart_X6_doHandOver : GoodIn wsX6_doPart wsX6_doHandOver := goodIn_r _ [76, 8, 85, 86, 87, 88, 89, 90, 91, 92, 93, 94, 95, 96] (by decide +kernel) (by decide +kernel)
set_option maxRecDepth 20000 in
theorem gX6_doPart_X6_doHandOver : GoodIn wsX6_doPart (wsV RX6 125 RX6 yX6_doHandOver wsX6_doHandOver) := goodIn_app (goodIn_of _ (by decide +kernel)) ggX6_doPart_X6_doHandOver
set_option maxRecDepth 20000 in
theorem ggX6_doPart_X6_doCallOff : GoodIn wsX6_doPart wsX6_doCallOff := goodIn_r _ [80, 8, 85, 86, 87, 88, 89, 90, 91, 92, 93, 94, 95, 96] (by decide +kernel) (by decide +kernel)
set_option maxRecDepth 20000 in
theorem gX6_doPart_X6_doCallOff : GoodIn wsX6_doPart (wsV RX6 128 RX6 yX6_doCallOff wsX6_doCallOff) := goodIn_app (goodIn_of _ (by decide +kernel)) ggX6_doPart_X6_doCallOff
set_option maxRecDepth 20000 in
theorem ggX6_doPart_X6_doDeliver : GoodIn wsX6_doPart wsX6_doDeliver := goodIn_r _ [84, 8, 85, 86, 87, 88, 89, 90, 91, 92, 93, 94, 95, 96] (by decide +kernel) (by decide +kernel)
set_option maxRecDepth 20000 in
theorem gX6_doPart_X6_doDeliver : GoodIn wsX6_doPart (wsV RX6 134 RX6 yX6_doDeliver wsX6_doDeliver) := goodIn_app (goodIn_of _ (by decide +kernel)) ggX6_doPart_X6_doDeliver
theorem dX6_doPart_0 : decode cX6_doPart 0 = .ok (.aload_n 0, 1) := by decide +kernel
theorem dX6_doPart_1 : decode cX6_doPart 1 = .ok (.getfield 155, 3) := by decide +kernel
theorem dX6_doPart_4 : decode cX6_doPart 4 = .ok (.lookupswitch 119 #[(43, 68), (45, 77), (99, 86), (104, 109), (108, 95), (112, 104), (120, 114)], 68) := by decide +kernel
theorem dX6_doPart_72 : decode cX6_doPart 72 = .ok (.aload_n 0, 1) := by decide +kernel
theorem dX6_doPart_73 : decode cX6_doPart 73 = .ok (.aload_n 0, 1) := by decide +kernel
theorem dX6_doPart_74 : decode cX6_doPart 74 = .ok (.getfield 152, 3) := by decide +kernel
theorem dX6_doPart_77 : decode cX6_doPart 77 = .ok (.invokevirtual 83, 3) := by decide +kernel
theorem dX6_doPart_80 : decode cX6_doPart 80 = .ok (.ireturn, 1) := by decide +kernel
theorem dX6_doPart_81 : decode cX6_doPart 81 = .ok (.aload_n 0, 1) := by decide +kernel
theorem dX6_doPart_82 : decode cX6_doPart 82 = .ok (.aload_n 0, 1) := by decide +kernel
theorem dX6_doPart_83 : decode cX6_doPart 83 = .ok (.getfield 152, 3) := by decide +kernel
theorem dX6_doPart_86 : decode cX6_doPart 86 = .ok (.invokevirtual 92, 3) := by decide +kernel
theorem dX6_doPart_89 : decode cX6_doPart 89 = .ok (.ireturn, 1) := by decide +kernel
theorem dX6_doPart_90 : decode cX6_doPart 90 = .ok (.aload_n 0, 1) := by decide +kernel
theorem dX6_doPart_91 : decode cX6_doPart 91 = .ok (.aload_n 0, 1) := by decide +kernel
theorem dX6_doPart_92 : decode cX6_doPart 92 = .ok (.getfield 152, 3) := by decide +kernel
theorem dX6_doPart_95 : decode cX6_doPart 95 = .ok (.invokevirtual 101, 3) := by decide +kernel
theorem dX6_doPart_98 : decode cX6_doPart 98 = .ok (.ireturn, 1) := by decide +kernel
theorem dX6_doPart_99 : decode cX6_doPart 99 = .ok (.aload_n 0, 1) := by decide +kernel
theorem dX6_doPart_100 : decode cX6_doPart 100 = .ok (.aload_n 0, 1) := by decide +kernel
theorem dX6_doPart_101 : decode cX6_doPart 101 = .ok (.getfield 152, 3) := by decide +kernel
theorem dX6_doPart_104 : decode cX6_doPart 104 = .ok (.invokevirtual 107, 3) := by decide +kernel
theorem dX6_doPart_107 : decode cX6_doPart 107 = .ok (.ireturn, 1) := by decide +kernel
theorem dX6_doPart_108 : decode cX6_doPart 108 = .ok (.aload_n 0, 1) := by decide +kernel
theorem dX6_doPart_109 : decode cX6_doPart 109 = .ok (.invokevirtual 119, 3) := by decide +kernel
theorem dX6_doPart_112 : decode cX6_doPart 112 = .ok (.ireturn, 1) := by decide +kernel
theorem dX6_doPart_113 : decode cX6_doPart 113 = .ok (.aload_n 0, 1) := by decide +kernel
theorem dX6_doPart_114 : decode cX6_doPart 114 = .ok (.invokevirtual 125, 3) := by decide +kernel
theorem dX6_doPart_117 : decode cX6_doPart 117 = .ok (.ireturn, 1) := by decide +kernel
theorem dX6_doPart_118 : decode cX6_doPart 118 = .ok (.aload_n 0, 1) := by decide +kernel
theorem dX6_doPart_119 : decode cX6_doPart 119 = .ok (.invokevirtual 128, 3) := by decide +kernel
theorem dX6_doPart_122 : decode cX6_doPart 122 = .ok (.ireturn, 1) := by decide +kernel
theorem dX6_doPart_123 : decode cX6_doPart 123 = .ok (.aload_n 0, 1) := by decide +kernel
theorem dX6_doPart_124 : decode cX6_doPart 124 = .ok (.invokevirtual 134, 3) := by decide +kernel
theorem dX6_doPart_127 : decode cX6_doPart 127 = .ok (.ireturn, 1) := by decide +kernel
set_option maxRecDepth 20000 in
theorem ggX6_run_X6_findError : GoodIn wsX6_run wsX6_findError := goodIn_r _ [7, 2, 8, 9, 10, 11, 6, 12, 13, 14, 15, 16, 17, 18, 19, 20, 21, 22, 23, 24, 25, 152, 153, 154, 155, 156, 157, 158, 159, 160, 161, 162, 163] (by decide +kernel) (by decide +kernel)
set_option maxRecDepth 20000 in
theorem gX6_run_X6_findError : GoodIn wsX6_run (wsV RX6 165 RX6 yX6_findError wsX6_findError) := goodIn_app (goodIn_of _ (by decide +kernel)) ggX6_run_X6_findError
set_option maxRecDepth 20000 in
theorem ggX6_run_X6_record : GoodIn wsX6_run wsX6_record := goodIn_r _ [29, 30, 31, 32, 152, 153, 154, 155, 156, 157, 158, 159, 160, 161, 162, 163] (by decide +kernel) (by decide +kernel)
set_option maxRecDepth 20000 in
theorem gX6_run_X6_record : GoodIn wsX6_run (wsV RX6 80 RX6 yX6_record wsX6_record) := goodIn_app (goodIn_of _ (by decide +kernel)) ggX6_run_X6_record
set_option maxRecDepth 20000 in
theorem ggX6_run_X6_readPart : GoodIn wsX6_run wsX6_readPart := goodIn_r _ [12, 13, 14, 15, 16, 17, 6, 18, 2, 8, 19, 20, 21, 22, 23, 24, 25, 152, 153, 154, 155, 156, 157, 158, 159, 160, 161, 162, 163] (by decide +kernel) (by decide +kernel)
set_option maxRecDepth 20000 in
theorem gX6_run_X6_readPart : GoodIn wsX6_run (wsV RX6 162 RX6 yX6_readPart wsX6_readPart) := goodIn_app (goodIn_of _ (by decide +kernel)) ggX6_run_X6_readPart
set_option maxRecDepth 20000 in
theorem ggX6_run_X6_noPart : GoodIn wsX6_run wsX6_noPart := goodIn_r _ [36, 13, 14, 37, 38, 39, 6, 40, 32, 23, 24, 25, 41, 42, 43, 44, 45, 46, 47, 48, 49, 50, 51, 52, 53, 54, 55, 56, 57, 58, 59, 60, 61, 62, 63, 64, 65, 66, 67, 68, 69, 70, 71, 72, 73, 74, 75, 152, 153, 154, 155, 156, 157, 158, 159, 160, 161, 162, 163] (by decide +kernel) (by decide +kernel)
set_option maxRecDepth 20000 in
theorem gX6_run_X6_noPart : GoodIn wsX6_run (wsV RX6 168 RX6 yX6_noPart wsX6_noPart) := goodIn_app (goodIn_of _ (by decide +kernel)) ggX6_run_X6_noPart
set_option maxRecDepth 20000 in
theorem ggX6_run_X6_doPart : GoodIn wsX6_run wsX6_doPart := goodIn_r _ [79, 13, 14, 80, 81, 82, 6, 83, 32, 84, 85, 86, 87, 88, 89, 90, 91, 68, 69, 70, 71, 92, 93, 94, 95, 96, 97, 98, 99, 100, 101, 102, 103, 104, 105, 106, 107, 108, 109, 110, 111, 112, 113, 114, 115, 56, 57, 58, 59, 116, 117, 118, 119, 120, 121, 122, 123, 124, 125, 126, 127, 128, 129, 130, 131, 132, 133, 134, 135, 136, 137, 138, 139, 140, 141, 142, 143, 144, 145, 146, 147, 148, 149, 150, 151, 152, 153, 154, 155, 156, 157, 158, 159, 160, 161, 162, 163] (by decide +kernel) (by decide +kernel)
set_option maxRecDepth 20000 in
theorem gX6_run_X6_doPart : GoodIn wsX6_run (wsV RX6 171 RX6 yX6_doPart wsX6_doPart) := goodIn_app (goodIn_of _ (by decide +kernel)) ggX6_run_X6_doPart
theorem dX6_run_0 : decode cX6_run 0 = .ok (.aload_n 0, 1) := by decide +kernel
theorem dX6_run_1 : decode cX6_run 1 = .ok (.aload_n 0, 1) := by decide +kernel
theorem dX6_run_2 : decode cX6_run 2 = .ok (.invokevirtual 165, 3) := by decide +kernel
theorem dX6_run_5 : decode cX6_run 5 = .ok (.ifCond .ge 7, 3) := by decide +kernel
theorem dX6_run_8 : decode cX6_run 8 = .ok (.iconst 0, 1) := by decide +kernel
theorem dX6_run_9 : decode cX6_run 9 = .ok (.goto 4, 3) := by decide +kernel
theorem dX6_run_12 : decode cX6_run 12 = .ok (.iconst 1, 1) := by decide +kernel
theorem dX6_run_13 : decode cX6_run 13 = .ok (.putfield 31, 3) := by decide +kernel
theorem dX6_run_16 : decode cX6_run 16 = .ok (.aload_n 0, 1) := by decide +kernel
theorem dX6_run_17 : decode cX6_run 17 = .ok (.getfield 31, 3) := by decide +kernel
theorem dX6_run_20 : decode cX6_run 20 = .ok (.ifCond .le 5, 3) := by decide +kernel
theorem dX6_run_23 : decode cX6_run 23 = .ok (.iconst 0, 1) := by decide +kernel
theorem dX6_run_24 : decode cX6_run 24 = .ok (.ireturn, 1) := by decide +kernel
theorem dX6_run_25 : decode cX6_run 25 = .ok (.aload_n 0, 1) := by decide +kernel
theorem dX6_run_26 : decode cX6_run 26 = .ok (.invokevirtual 80, 3) := by decide +kernel
theorem dX6_run_29 : decode cX6_run 29 = .ok (.iconst 0, 1) := by decide +kernel
theorem dX6_run_30 : decode cX6_run 30 = .ok (.istore_n 1, 1) := by decide +kernel
theorem dX6_run_31 : decode cX6_run 31 = .ok (.iconst 0, 1) := by decide +kernel
theorem dX6_run_32 : decode cX6_run 32 = .ok (.istore_n 2, 1) := by decide +kernel
theorem dX6_run_33 : decode cX6_run 33 = .ok (.iconst 1, 1) := by decide +kernel
theorem dX6_run_34 : decode cX6_run 34 = .ok (.istore_n 3, 1) := by decide +kernel
theorem dX6_run_35 : decode cX6_run 35 = .ok (.iload_n 3, 1) := by decide +kernel
theorem dX6_run_36 : decode cX6_run 36 = .ok (.ifCond .eq 47, 3) := by decide +kernel
theorem dX6_run_39 : decode cX6_run 39 = .ok (.iload_n 2, 1) := by decide +kernel
theorem dX6_run_40 : decode cX6_run 40 = .ok (.aload_n 0, 1) := by decide +kernel
theorem dX6_run_41 : decode cX6_run 41 = .ok (.getfield 146, 3) := by decide +kernel
theorem dX6_run_44 : decode cX6_run 44 = .ok (.if_icmp .ge 39, 3) := by decide +kernel
theorem dX6_run_47 : decode cX6_run 47 = .ok (.aload_n 0, 1) := by decide +kernel
theorem dX6_run_48 : decode cX6_run 48 = .ok (.iload_n 2, 1) := by decide +kernel
theorem dX6_run_49 : decode cX6_run 49 = .ok (.invokevirtual 162, 3) := by decide +kernel
theorem dX6_run_52 : decode cX6_run 52 = .ok (.iconst 1, 1) := by decide +kernel
theorem dX6_run_53 : decode cX6_run 53 = .ok (.iadd, 1) := by decide +kernel
theorem dX6_run_54 : decode cX6_run 54 = .ok (.istore_n 2, 1) := by decide +kernel
theorem dX6_run_55 : decode cX6_run 55 = .ok (.aload_n 0, 1) := by decide +kernel
theorem dX6_run_56 : decode cX6_run 56 = .ok (.invokevirtual 168, 3) := by decide +kernel
theorem dX6_run_59 : decode cX6_run 59 = .ok (.ifCond .ne 7, 3) := by decide +kernel
theorem dX6_run_62 : decode cX6_run 62 = .ok (.iconst 1, 1) := by decide +kernel
theorem dX6_run_63 : decode cX6_run 63 = .ok (.goto 4, 3) := by decide +kernel
theorem dX6_run_66 : decode cX6_run 66 = .ok (.iconst 0, 1) := by decide +kernel
theorem dX6_run_67 : decode cX6_run 67 = .ok (.istore_n 3, 1) := by decide +kernel
theorem dX6_run_68 : decode cX6_run 68 = .ok (.iload_n 3, 1) := by decide +kernel
theorem dX6_run_69 : decode cX6_run 69 = .ok (.ifCond .eq (-34), 3) := by decide +kernel
theorem dX6_run_72 : decode cX6_run 72 = .ok (.aload_n 0, 1) := by decide +kernel
theorem dX6_run_73 : decode cX6_run 73 = .ok (.invokevirtual 171, 3) := by decide +kernel
theorem dX6_run_76 : decode cX6_run 76 = .ok (.pop, 1) := by decide +kernel
theorem dX6_run_77 : decode cX6_run 77 = .ok (.iinc 1 1, 3) := by decide +kernel
theorem dX6_run_80 : decode cX6_run 80 = .ok (.goto (-45), 3) := by decide +kernel
theorem dX6_run_83 : decode cX6_run 83 = .ok (.aload_n 0, 1) := by decide +kernel
theorem dX6_run_84 : decode cX6_run 84 = .ok (.iconst 0, 1) := by decide +kernel
theorem dX6_run_85 : decode cX6_run 85 = .ok (.putfield 146, 3) := by decide +kernel
theorem dX6_run_88 : decode cX6_run 88 = .ok (.iload_n 1, 1) := by decide +kernel
theorem dX6_run_89 : decode cX6_run 89 = .ok (.ireturn, 1) := by decide +kernel
set_option maxRecDepth 20000 in
theorem ggX6_digest_X6_share : GoodIn wsX6_digest wsX6_share := goodIn_r _ [9, 4, 10, 11, 12, 13, 8, 14, 15, 16, 17, 18, 19, 20, 21, 22, 23, 24, 25, 26, 27, 28, 29, 30, 31, 32, 33, 34, 35, 36, 37, 38, 39, 40, 41, 42, 43, 44, 45, 46, 47, 48, 49, 50, 51, 52, 53, 78, 79, 80, 81, 82, 83, 84, 85, 86, 87, 88, 89] (by decide +kernel) (by decide +kernel)
set_option maxRecDepth 20000 in
theorem gX6_digest_X6_share : GoodIn wsX6_digest (wsV RX6 113 RX6 yX6_share wsX6_share) := goodIn_app (goodIn_of _ (by decide +kernel)) ggX6_digest_X6_share
set_option maxRecDepth 20000 in
theorem ggX6_digest_X6_sizeOf : GoodIn wsX6_digest wsX6_sizeOf := goodIn_r _ [33, 4, 78, 79, 80, 81, 82, 83, 84, 85, 86, 87, 88, 89] (by decide +kernel) (by decide +kernel)
set_option maxRecDepth 20000 in
theorem gX6_digest_X6_sizeOf : GoodIn wsX6_digest (wsV RX6 42 RX6 yX6_sizeOf wsX6_sizeOf) := goodIn_app (goodIn_of _ (by decide +kernel)) ggX6_digest_X6_sizeOf
set_option maxRecDepth 20000 in
theorem ggX6_digest_X6_loadOf : GoodIn wsX6_digest wsX6_loadOf := goodIn_r _ [57, 4, 78, 79, 80, 81, 82, 83, 84, 85, 86, 87, 88, 89] (by decide +kernel) (by decide +kernel)
set_option maxRecDepth 20000 in
theorem gX6_digest_X6_loadOf : GoodIn wsX6_digest (wsV RX6 110 RX6 yX6_loadOf wsX6_loadOf) := goodIn_app (goodIn_of _ (by decide +kernel)) ggX6_digest_X6_loadOf
set_option maxRecDepth 20000 in
theorem ggX6_digest_X6_changesBy : GoodIn wsX6_digest wsX6_changesBy := goodIn_r _ [61, 4, 22, 23, 24, 8, 25, 62, 63, 64, 65, 30, 31, 32, 33, 5, 6, 7, 9, 10, 11, 12, 13, 14, 15, 16, 17, 18, 19, 20, 21, 26, 27, 28, 29, 34, 35, 36, 37, 38, 39, 40, 41, 42, 43, 44, 45, 46, 47, 48, 49, 50, 51, 52, 53, 78, 79, 80, 81, 82, 83, 84, 85, 86, 87, 88, 89] (by decide +kernel) (by decide +kernel)
set_option maxRecDepth 20000 in
theorem gX6_digest_X6_changesBy : GoodIn wsX6_digest (wsV RX6 143 RX6 yX6_changesBy wsX6_changesBy) := goodIn_app (goodIn_of _ (by decide +kernel)) ggX6_digest_X6_changesBy
set_option maxRecDepth 20000 in
theorem ggX6_digest_X6_plannedNow : GoodIn wsX6_digest wsX6_plannedNow := goodIn_r _ [69, 4, 78, 79, 80, 81, 82, 83, 84, 85, 86, 87, 88, 89] (by decide +kernel) (by decide +kernel)
set_option maxRecDepth 20000 in
theorem gX6_digest_X6_plannedNow : GoodIn wsX6_digest (wsV RX6 131 RX6 yX6_plannedNow wsX6_plannedNow) := goodIn_app (goodIn_of _ (by decide +kernel)) ggX6_digest_X6_plannedNow
set_option maxRecDepth 20000 in
theorem ggX6_digest_X6_goalOf : GoodIn wsX6_digest wsX6_goalOf := goodIn_r _ [73, 10, 5, 6, 7, 8, 9, 4, 11, 12, 13, 14, 15, 16, 17, 18, 19, 20, 21, 22, 23, 24, 25, 26, 27, 28, 29, 30, 31, 32, 33, 34, 35, 36, 37, 38, 39, 40, 41, 42, 43, 44, 45, 46, 47, 48, 49, 50, 51, 52, 53, 78, 79, 80, 81, 82, 83, 84, 85, 86, 87, 88, 89] (by decide +kernel) (by decide +kernel)
set_option maxRecDepth 20000 in
theorem gX6_digest_X6_goalOf : GoodIn wsX6_digest (wsV RX6 137 RX6 yX6_goalOf wsX6_goalOf) := goodIn_app (goodIn_of _ (by decide +kernel)) ggX6_digest_X6_goalOf
set_option maxRecDepth 20000 in
theorem ggX6_digest_X6_reasonOf : GoodIn wsX6_digest wsX6_reasonOf := goodIn_r _ [77, 4, 11, 12, 13, 8, 14, 70, 71, 72, 73, 10, 5, 6, 7, 9, 15, 16, 17, 18, 19, 20, 21, 22, 23, 24, 25, 26, 27, 28, 29, 30, 31, 32, 33, 34, 35, 36, 37, 38, 39, 40, 41, 42, 43, 44, 45, 46, 47, 48, 49, 50, 51, 52, 53, 78, 79, 80, 81, 82, 83, 84, 85, 86, 87, 88, 89] (by decide +kernel) (by decide +kernel)
set_option maxRecDepth 20000 in
theorem gX6_digest_X6_reasonOf : GoodIn wsX6_digest (wsV RX6 140 RX6 yX6_reasonOf wsX6_reasonOf) := goodIn_app (goodIn_of _ (by decide +kernel)) ggX6_digest_X6_reasonOf
theorem dX6_digest_0 : decode cX6_digest 0 = .ok (.aload_n 0, 1) := by decide +kernel
theorem dX6_digest_1 : decode cX6_digest 1 = .ok (.iconst 0, 1) := by decide +kernel
theorem dX6_digest_2 : decode cX6_digest 2 = .ok (.putfield 31, 3) := by decide +kernel
theorem dX6_digest_5 : decode cX6_digest 5 = .ok (.ldc2_w 174, 3) := by decide +kernel
theorem dX6_digest_8 : decode cX6_digest 8 = .ok (.lstore_n 1, 1) := by decide +kernel
theorem dX6_digest_9 : decode cX6_digest 9 = .ok (.ldc2_w 176, 3) := by decide +kernel
theorem dX6_digest_12 : decode cX6_digest 12 = .ok (.ldc2_w 176, 3) := by decide +kernel
theorem dX6_digest_15 : decode cX6_digest 15 = .ok (.ldc2_w 176, 3) := by decide +kernel
theorem dX6_digest_18 : decode cX6_digest 18 = .ok (.lload_n 1, 1) := by decide +kernel
theorem dX6_digest_19 : decode cX6_digest 19 = .ok (.lmul, 1) := by decide +kernel
theorem dX6_digest_20 : decode cX6_digest 20 = .ok (.aload_n 0, 1) := by decide +kernel
theorem dX6_digest_21 : decode cX6_digest 21 = .ok (.getfield 7, 3) := by decide +kernel
theorem dX6_digest_24 : decode cX6_digest 24 = .ok (.iconst 0, 1) := by decide +kernel
theorem dX6_digest_25 : decode cX6_digest 25 = .ok (.iaload, 1) := by decide +kernel
theorem dX6_digest_26 : decode cX6_digest 26 = .ok (.i2l, 1) := by decide +kernel
theorem dX6_digest_27 : decode cX6_digest 27 = .ok (.ladd, 1) := by decide +kernel
theorem dX6_digest_28 : decode cX6_digest 28 = .ok (.lmul, 1) := by decide +kernel
theorem dX6_digest_29 : decode cX6_digest 29 = .ok (.aload_n 0, 1) := by decide +kernel
theorem dX6_digest_30 : decode cX6_digest 30 = .ok (.getfield 7, 3) := by decide +kernel
theorem dX6_digest_33 : decode cX6_digest 33 = .ok (.bipush 87, 2) := by decide +kernel
theorem dX6_digest_35 : decode cX6_digest 35 = .ok (.iaload, 1) := by decide +kernel
theorem dX6_digest_36 : decode cX6_digest 36 = .ok (.i2l, 1) := by decide +kernel
theorem dX6_digest_37 : decode cX6_digest 37 = .ok (.ladd, 1) := by decide +kernel
theorem dX6_digest_38 : decode cX6_digest 38 = .ok (.lmul, 1) := by decide +kernel
theorem dX6_digest_39 : decode cX6_digest 39 = .ok (.aload_n 0, 1) := by decide +kernel
theorem dX6_digest_40 : decode cX6_digest 40 = .ok (.getfield 7, 3) := by decide +kernel
theorem dX6_digest_43 : decode cX6_digest 43 = .ok (.bipush 88, 2) := by decide +kernel
theorem dX6_digest_45 : decode cX6_digest 45 = .ok (.iaload, 1) := by decide +kernel
theorem dX6_digest_46 : decode cX6_digest 46 = .ok (.i2l, 1) := by decide +kernel
theorem dX6_digest_47 : decode cX6_digest 47 = .ok (.ladd, 1) := by decide +kernel
theorem dX6_digest_48 : decode cX6_digest 48 = .ok (.lstore_n 1, 1) := by decide +kernel
theorem dX6_digest_49 : decode cX6_digest 49 = .ok (.ldc2_w 176, 3) := by decide +kernel
theorem dX6_digest_52 : decode cX6_digest 52 = .ok (.ldc2_w 176, 3) := by decide +kernel
theorem dX6_digest_55 : decode cX6_digest 55 = .ok (.ldc2_w 176, 3) := by decide +kernel
theorem dX6_digest_58 : decode cX6_digest 58 = .ok (.lload_n 1, 1) := by decide +kernel
theorem dX6_digest_59 : decode cX6_digest 59 = .ok (.lmul, 1) := by decide +kernel
theorem dX6_digest_60 : decode cX6_digest 60 = .ok (.aload_n 0, 1) := by decide +kernel
theorem dX6_digest_61 : decode cX6_digest 61 = .ok (.getfield 7, 3) := by decide +kernel
theorem dX6_digest_64 : decode cX6_digest 64 = .ok (.bipush 89, 2) := by decide +kernel
theorem dX6_digest_66 : decode cX6_digest 66 = .ok (.iaload, 1) := by decide +kernel
theorem dX6_digest_67 : decode cX6_digest 67 = .ok (.i2l, 1) := by decide +kernel
theorem dX6_digest_68 : decode cX6_digest 68 = .ok (.ladd, 1) := by decide +kernel
theorem dX6_digest_69 : decode cX6_digest 69 = .ok (.lmul, 1) := by decide +kernel
theorem dX6_digest_70 : decode cX6_digest 70 = .ok (.aload_n 0, 1) := by decide +kernel
theorem dX6_digest_71 : decode cX6_digest 71 = .ok (.getfield 7, 3) := by decide +kernel
theorem dX6_digest_74 : decode cX6_digest 74 = .ok (.bipush 90, 2) := by decide +kernel
theorem dX6_digest_76 : decode cX6_digest 76 = .ok (.iaload, 1) := by decide +kernel
theorem dX6_digest_77 : decode cX6_digest 77 = .ok (.i2l, 1) := by decide +kernel
theorem dX6_digest_78 : decode cX6_digest 78 = .ok (.ladd, 1) := by decide +kernel
theorem dX6_digest_79 : decode cX6_digest 79 = .ok (.lmul, 1) := by decide +kernel
theorem dX6_digest_80 : decode cX6_digest 80 = .ok (.aload_n 0, 1) := by decide +kernel
theorem dX6_digest_81 : decode cX6_digest 81 = .ok (.invokevirtual 113, 3) := by decide +kernel
theorem dX6_digest_84 : decode cX6_digest 84 = .ok (.i2l, 1) := by decide +kernel
theorem dX6_digest_85 : decode cX6_digest 85 = .ok (.ladd, 1) := by decide +kernel
theorem dX6_digest_86 : decode cX6_digest 86 = .ok (.lstore_n 1, 1) := by decide +kernel
theorem dX6_digest_87 : decode cX6_digest 87 = .ok (.iconst 0, 1) := by decide +kernel
theorem dX6_digest_88 : decode cX6_digest 88 = .ok (.istore_n 3, 1) := by decide +kernel
theorem dX6_digest_89 : decode cX6_digest 89 = .ok (.iload_n 3, 1) := by decide +kernel
theorem dX6_digest_90 : decode cX6_digest 90 = .ok (.bipush 6, 2) := by decide +kernel
theorem dX6_digest_92 : decode cX6_digest 92 = .ok (.if_icmp .ge 59, 3) := by decide +kernel
theorem dX6_digest_95 : decode cX6_digest 95 = .ok (.ldc2_w 176, 3) := by decide +kernel
theorem dX6_digest_98 : decode cX6_digest 98 = .ok (.ldc2_w 176, 3) := by decide +kernel
theorem dX6_digest_101 : decode cX6_digest 101 = .ok (.ldc2_w 176, 3) := by decide +kernel
theorem dX6_digest_104 : decode cX6_digest 104 = .ok (.ldc2_w 176, 3) := by decide +kernel
theorem dX6_digest_107 : decode cX6_digest 107 = .ok (.lload_n 1, 1) := by decide +kernel
theorem dX6_digest_108 : decode cX6_digest 108 = .ok (.lmul, 1) := by decide +kernel
theorem dX6_digest_109 : decode cX6_digest 109 = .ok (.aload_n 0, 1) := by decide +kernel
theorem dX6_digest_110 : decode cX6_digest 110 = .ok (.getfield 7, 3) := by decide +kernel
theorem dX6_digest_113 : decode cX6_digest 113 = .ok (.bipush 81, 2) := by decide +kernel
theorem dX6_digest_115 : decode cX6_digest 115 = .ok (.iload_n 3, 1) := by decide +kernel
theorem dX6_digest_116 : decode cX6_digest 116 = .ok (.iadd, 1) := by decide +kernel
theorem dX6_digest_117 : decode cX6_digest 117 = .ok (.iaload, 1) := by decide +kernel
theorem dX6_digest_118 : decode cX6_digest 118 = .ok (.i2l, 1) := by decide +kernel
theorem dX6_digest_119 : decode cX6_digest 119 = .ok (.ladd, 1) := by decide +kernel
theorem dX6_digest_120 : decode cX6_digest 120 = .ok (.lmul, 1) := by decide +kernel
theorem dX6_digest_121 : decode cX6_digest 121 = .ok (.aload_n 0, 1) := by decide +kernel
theorem dX6_digest_122 : decode cX6_digest 122 = .ok (.iload_n 3, 1) := by decide +kernel
theorem dX6_digest_123 : decode cX6_digest 123 = .ok (.invokevirtual 42, 3) := by decide +kernel
theorem dX6_digest_126 : decode cX6_digest 126 = .ok (.i2l, 1) := by decide +kernel
theorem dX6_digest_127 : decode cX6_digest 127 = .ok (.ladd, 1) := by decide +kernel
theorem dX6_digest_128 : decode cX6_digest 128 = .ok (.lmul, 1) := by decide +kernel
theorem dX6_digest_129 : decode cX6_digest 129 = .ok (.aload_n 0, 1) := by decide +kernel
theorem dX6_digest_130 : decode cX6_digest 130 = .ok (.iload_n 3, 1) := by decide +kernel
theorem dX6_digest_131 : decode cX6_digest 131 = .ok (.invokevirtual 110, 3) := by decide +kernel
theorem dX6_digest_134 : decode cX6_digest 134 = .ok (.i2l, 1) := by decide +kernel
theorem dX6_digest_135 : decode cX6_digest 135 = .ok (.ladd, 1) := by decide +kernel
theorem dX6_digest_136 : decode cX6_digest 136 = .ok (.lmul, 1) := by decide +kernel
theorem dX6_digest_137 : decode cX6_digest 137 = .ok (.aload_n 0, 1) := by decide +kernel
theorem dX6_digest_138 : decode cX6_digest 138 = .ok (.iload_n 3, 1) := by decide +kernel
theorem dX6_digest_139 : decode cX6_digest 139 = .ok (.invokevirtual 143, 3) := by decide +kernel
theorem dX6_digest_142 : decode cX6_digest 142 = .ok (.i2l, 1) := by decide +kernel
theorem dX6_digest_143 : decode cX6_digest 143 = .ok (.ladd, 1) := by decide +kernel
theorem dX6_digest_144 : decode cX6_digest 144 = .ok (.lstore_n 1, 1) := by decide +kernel
theorem dX6_digest_145 : decode cX6_digest 145 = .ok (.iinc 3 1, 3) := by decide +kernel
theorem dX6_digest_148 : decode cX6_digest 148 = .ok (.goto (-59), 3) := by decide +kernel
theorem dX6_digest_151 : decode cX6_digest 151 = .ok (.iconst 0, 1) := by decide +kernel
theorem dX6_digest_152 : decode cX6_digest 152 = .ok (.istore_n 3, 1) := by decide +kernel
theorem dX6_digest_153 : decode cX6_digest 153 = .ok (.iload_n 3, 1) := by decide +kernel
theorem dX6_digest_154 : decode cX6_digest 154 = .ok (.aload_n 0, 1) := by decide +kernel
theorem dX6_digest_155 : decode cX6_digest 155 = .ok (.getfield 7, 3) := by decide +kernel
theorem dX6_digest_158 : decode cX6_digest 158 = .ok (.iconst 0, 1) := by decide +kernel
theorem dX6_digest_159 : decode cX6_digest 159 = .ok (.iaload, 1) := by decide +kernel
theorem dX6_digest_160 : decode cX6_digest 160 = .ok (.if_icmp .ge 75, 3) := by decide +kernel
theorem dX6_digest_163 : decode cX6_digest 163 = .ok (.ldc2_w 176, 3) := by decide +kernel
theorem dX6_digest_166 : decode cX6_digest 166 = .ok (.ldc2_w 176, 3) := by decide +kernel
theorem dX6_digest_169 : decode cX6_digest 169 = .ok (.ldc2_w 176, 3) := by decide +kernel
theorem dX6_digest_172 : decode cX6_digest 172 = .ok (.lload_n 1, 1) := by decide +kernel
theorem dX6_digest_173 : decode cX6_digest 173 = .ok (.lmul, 1) := by decide +kernel
theorem dX6_digest_174 : decode cX6_digest 174 = .ok (.aload_n 0, 1) := by decide +kernel
theorem dX6_digest_175 : decode cX6_digest 175 = .ok (.getfield 7, 3) := by decide +kernel
theorem dX6_digest_178 : decode cX6_digest 178 = .ok (.iconst 1, 1) := by decide +kernel
theorem dX6_digest_179 : decode cX6_digest 179 = .ok (.iload_n 3, 1) := by decide +kernel
theorem dX6_digest_180 : decode cX6_digest 180 = .ok (.iadd, 1) := by decide +kernel
theorem dX6_digest_181 : decode cX6_digest 181 = .ok (.iaload, 1) := by decide +kernel
theorem dX6_digest_182 : decode cX6_digest 182 = .ok (.i2l, 1) := by decide +kernel
theorem dX6_digest_183 : decode cX6_digest 183 = .ok (.ladd, 1) := by decide +kernel
theorem dX6_digest_184 : decode cX6_digest 184 = .ok (.lmul, 1) := by decide +kernel
theorem dX6_digest_185 : decode cX6_digest 185 = .ok (.aload_n 0, 1) := by decide +kernel
theorem dX6_digest_186 : decode cX6_digest 186 = .ok (.getfield 7, 3) := by decide +kernel
theorem dX6_digest_189 : decode cX6_digest 189 = .ok (.bipush 21, 2) := by decide +kernel
theorem dX6_digest_191 : decode cX6_digest 191 = .ok (.iload_n 3, 1) := by decide +kernel
theorem dX6_digest_192 : decode cX6_digest 192 = .ok (.iadd, 1) := by decide +kernel
theorem dX6_digest_193 : decode cX6_digest 193 = .ok (.iaload, 1) := by decide +kernel
theorem dX6_digest_194 : decode cX6_digest 194 = .ok (.i2l, 1) := by decide +kernel
theorem dX6_digest_195 : decode cX6_digest 195 = .ok (.ladd, 1) := by decide +kernel
theorem dX6_digest_196 : decode cX6_digest 196 = .ok (.lmul, 1) := by decide +kernel
theorem dX6_digest_197 : decode cX6_digest 197 = .ok (.aload_n 0, 1) := by decide +kernel
theorem dX6_digest_198 : decode cX6_digest 198 = .ok (.iload_n 3, 1) := by decide +kernel
theorem dX6_digest_199 : decode cX6_digest 199 = .ok (.invokevirtual 131, 3) := by decide +kernel
theorem dX6_digest_202 : decode cX6_digest 202 = .ok (.i2l, 1) := by decide +kernel
theorem dX6_digest_203 : decode cX6_digest 203 = .ok (.ladd, 1) := by decide +kernel
theorem dX6_digest_204 : decode cX6_digest 204 = .ok (.lstore_n 1, 1) := by decide +kernel
theorem dX6_digest_205 : decode cX6_digest 205 = .ok (.ldc2_w 176, 3) := by decide +kernel
theorem dX6_digest_208 : decode cX6_digest 208 = .ok (.ldc2_w 176, 3) := by decide +kernel
theorem dX6_digest_211 : decode cX6_digest 211 = .ok (.lload_n 1, 1) := by decide +kernel
theorem dX6_digest_212 : decode cX6_digest 212 = .ok (.lmul, 1) := by decide +kernel
theorem dX6_digest_213 : decode cX6_digest 213 = .ok (.aload_n 0, 1) := by decide +kernel
theorem dX6_digest_214 : decode cX6_digest 214 = .ok (.iload_n 3, 1) := by decide +kernel
theorem dX6_digest_215 : decode cX6_digest 215 = .ok (.invokevirtual 137, 3) := by decide +kernel
theorem dX6_digest_218 : decode cX6_digest 218 = .ok (.i2l, 1) := by decide +kernel
theorem dX6_digest_219 : decode cX6_digest 219 = .ok (.ladd, 1) := by decide +kernel
theorem dX6_digest_220 : decode cX6_digest 220 = .ok (.lmul, 1) := by decide +kernel
theorem dX6_digest_221 : decode cX6_digest 221 = .ok (.aload_n 0, 1) := by decide +kernel
theorem dX6_digest_222 : decode cX6_digest 222 = .ok (.iload_n 3, 1) := by decide +kernel
theorem dX6_digest_223 : decode cX6_digest 223 = .ok (.invokevirtual 140, 3) := by decide +kernel
theorem dX6_digest_226 : decode cX6_digest 226 = .ok (.i2l, 1) := by decide +kernel
theorem dX6_digest_227 : decode cX6_digest 227 = .ok (.ladd, 1) := by decide +kernel
theorem dX6_digest_228 : decode cX6_digest 228 = .ok (.lstore_n 1, 1) := by decide +kernel
theorem dX6_digest_229 : decode cX6_digest 229 = .ok (.iinc 3 1, 3) := by decide +kernel
theorem dX6_digest_232 : decode cX6_digest 232 = .ok (.goto (-79), 3) := by decide +kernel
theorem dX6_digest_235 : decode cX6_digest 235 = .ok (.lload_n 1, 1) := by decide +kernel
theorem dX6_digest_236 : decode cX6_digest 236 = .ok (.lreturn, 1) := by decide +kernel
set_option maxRecDepth 20000 in
theorem ggL_addDoorstep_X5_addDoorstep : GoodIn wsL_addDoorstep wsX5_addDoorstep := goodIn_ca (goodIn_ca (goodIn_r _ [7, 8, 9, 10, 11, 12, 13, 6, 14, 15, 16, 17, 18, 19, 20, 21, 22, 23, 24, 25, 26, 27, 28, 29, 30, 31, 32, 33, 34, 35, 36, 37, 38, 39, 40, 41, 42, 43, 44, 45, 46, 47, 48, 49, 50, 51, 52, 53, 54, 55, 56, 57, 58, 59, 60, 61, 62, 63, 64, 65, 66, 67, 68, 69, 70, 71, 72, 73, 74, 75, 76, 77, 78, 79, 80, 81, 82, 83, 84, 85, 86, 87, 88, 89, 90] (by decide +kernel) (by decide +kernel)) (goodIn_sub (fun _ h => List.mem_cons_of_mem _ (List.mem_append_left _ (List.mem_append_right _ h))) (by decide +kernel))) (goodIn_sub (fun _ h => List.mem_cons_of_mem _ (List.mem_append_right _ h)) (by decide +kernel))
set_option maxRecDepth 20000 in
theorem gL_addDoorstep_X5_addDoorstep : GoodIn wsL_addDoorstep (wsV RL 7 RX5 yX5_addDoorstep wsX5_addDoorstep) := goodIn_app (goodIn_of _ (by decide +kernel)) ggL_addDoorstep_X5_addDoorstep
