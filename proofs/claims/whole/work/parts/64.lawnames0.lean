theorem dL_cell_0 : decode cL_cell 0 = .ok (.iload_n 1, 1) := by decide +kernel
theorem dL_cell_1 : decode cL_cell 1 = .ok (.aload_n 0, 1) := by decide +kernel
theorem dL_cell_2 : decode cL_cell 2 = .ok (.arraylength, 1) := by decide +kernel
theorem dL_cell_3 : decode cL_cell 3 = .ok (.if_icmp .ge 9, 3) := by decide +kernel
theorem dL_cell_6 : decode cL_cell 6 = .ok (.aload_n 0, 1) := by decide +kernel
theorem dL_cell_7 : decode cL_cell 7 = .ok (.iload_n 1, 1) := by decide +kernel
theorem dL_cell_8 : decode cL_cell 8 = .ok (.iaload, 1) := by decide +kernel
theorem dL_cell_9 : decode cL_cell 9 = .ok (.goto 4, 3) := by decide +kernel
theorem dL_cell_12 : decode cL_cell 12 = .ok (.iconst 0, 1) := by decide +kernel
theorem dL_cell_13 : decode cL_cell 13 = .ok (.ireturn, 1) := by decide +kernel
set_option maxRecDepth 20000 in
theorem ggL_addLine_X4_addLine : GoodIn wsL_addLine wsX4_addLine := goodIn_ca (goodIn_ca (goodIn_ca (goodIn_r _ [8, 9, 10, 11, 12, 13, 14, 15, 16, 7, 17, 18, 19, 20, 21, 22, 23, 24, 25, 26, 27, 28, 29, 30, 31, 32, 33, 34, 35, 36, 37, 38, 39, 40, 41, 42, 43, 44, 45, 46, 47, 48, 49, 50, 51, 52, 53, 54, 55, 56, 57, 58, 59, 60, 61, 62, 63, 64, 65, 66, 67, 68, 69, 70, 71, 72, 73, 74, 75, 76, 77, 78, 79, 80, 81, 82] (by decide +kernel) (by decide +kernel)) (goodIn_sub (fun _ h => List.mem_cons_of_mem _ (List.mem_append_left _ (List.mem_append_left _ (List.mem_append_right _ h)))) (by decide +kernel))) (goodIn_sub (fun _ h => List.mem_cons_of_mem _ (List.mem_append_left _ (List.mem_append_right _ h))) (by decide +kernel))) (goodIn_sub (fun _ h => List.mem_cons_of_mem _ (List.mem_append_right _ h)) (by decide +kernel))
set_option maxRecDepth 20000 in
theorem gL_addLine_X4_addLine : GoodIn wsL_addLine (wsV RL 7 RX4 yX4_addLine wsX4_addLine) := goodIn_app (goodIn_of _ (by decide +kernel)) ggL_addLine_X4_addLine
theorem dL_addLine_0 : decode cL_addLine 0 = .ok (.aload 4, 2) := by decide +kernel
theorem dL_addLine_2 : decode cL_addLine 2 = .ok (.iconst 0, 1) := by decide +kernel
theorem dL_addLine_3 : decode cL_addLine 3 = .ok (.aload_n 0, 1) := by decide +kernel
theorem dL_addLine_4 : decode cL_addLine 4 = .ok (.iload_n 1, 1) := by decide +kernel
theorem dL_addLine_5 : decode cL_addLine 5 = .ok (.iload_n 2, 1) := by decide +kernel
theorem dL_addLine_6 : decode cL_addLine 6 = .ok (.iload_n 3, 1) := by decide +kernel
theorem dL_addLine_7 : decode cL_addLine 7 = .ok (.invokevirtual 7, 3) := by decide +kernel
theorem dL_addLine_10 : decode cL_addLine 10 = .ok (.i2l, 1) := by decide +kernel
theorem dL_addLine_11 : decode cL_addLine 11 = .ok (.lastore, 1) := by decide +kernel
theorem dL_addLine_12 : decode cL_addLine 12 = .ok (.goto 15, 3) := by decide +kernel
theorem dL_addLine_15 : decode cL_addLine 15 = .ok (.astore 5, 2) := by decide +kernel
theorem dL_addLine_17 : decode cL_addLine 17 = .ok (.iconst 1, 1) := by decide +kernel
theorem dL_addLine_18 : decode cL_addLine 18 = .ok (.ireturn, 1) := by decide +kernel
theorem dL_addLine_19 : decode cL_addLine 19 = .ok (.astore 5, 2) := by decide +kernel
theorem dL_addLine_21 : decode cL_addLine 21 = .ok (.iconst 2, 1) := by decide +kernel
theorem dL_addLine_22 : decode cL_addLine 22 = .ok (.ireturn, 1) := by decide +kernel
theorem dL_addLine_23 : decode cL_addLine 23 = .ok (.astore 5, 2) := by decide +kernel
theorem dL_addLine_25 : decode cL_addLine 25 = .ok (.iconst 3, 1) := by decide +kernel
theorem dL_addLine_26 : decode cL_addLine 26 = .ok (.ireturn, 1) := by decide +kernel
theorem dL_addLine_27 : decode cL_addLine 27 = .ok (.iconst 0, 1) := by decide +kernel
theorem dL_addLine_28 : decode cL_addLine 28 = .ok (.ireturn, 1) := by decide +kernel
set_option maxRecDepth 20000 in
theorem ggL_setBreaker_X4_setBreaker : GoodIn wsL_setBreaker wsX4_setBreaker := goodIn_ca (goodIn_r _ [6, 7, 8, 9, 10, 11, 12, 13, 14, 15, 16, 17, 18, 19, 20, 21, 22, 23, 24, 25, 26, 27, 28, 29, 30, 31, 32, 33, 34, 35, 36, 37, 38, 39, 40, 41, 42, 43, 44, 45, 46, 47, 48, 49, 50, 51, 52, 53, 54, 55, 56, 57, 58, 59, 60, 61, 62, 63] (by decide +kernel) (by decide +kernel)) (goodIn_sub (fun _ h => List.mem_cons_of_mem _ (List.mem_append_right _ h)) (by decide +kernel))
set_option maxRecDepth 20000 in
theorem gL_setBreaker_X4_setBreaker : GoodIn wsL_setBreaker (wsV RL 19 RX4 yX4_setBreaker wsX4_setBreaker) := goodIn_app (goodIn_of _ (by decide +kernel)) ggL_setBreaker_X4_setBreaker
theorem dL_setBreaker_0 : decode cL_setBreaker 0 = .ok (.aload_n 3, 1) := by decide +kernel
theorem dL_setBreaker_1 : decode cL_setBreaker 1 = .ok (.iconst 0, 1) := by decide +kernel
theorem dL_setBreaker_2 : decode cL_setBreaker 2 = .ok (.aload_n 0, 1) := by decide +kernel
theorem dL_setBreaker_3 : decode cL_setBreaker 3 = .ok (.iload_n 1, 1) := by decide +kernel
theorem dL_setBreaker_4 : decode cL_setBreaker 4 = .ok (.iload_n 2, 1) := by decide +kernel
theorem dL_setBreaker_5 : decode cL_setBreaker 5 = .ok (.invokevirtual 19, 3) := by decide +kernel
theorem dL_setBreaker_8 : decode cL_setBreaker 8 = .ok (.ifCond .eq 7, 3) := by decide +kernel
theorem dL_setBreaker_11 : decode cL_setBreaker 11 = .ok (.lconst 1, 1) := by decide +kernel
theorem dL_setBreaker_12 : decode cL_setBreaker 12 = .ok (.goto 4, 3) := by decide +kernel
theorem dL_setBreaker_15 : decode cL_setBreaker 15 = .ok (.lconst 0, 1) := by decide +kernel
theorem dL_setBreaker_16 : decode cL_setBreaker 16 = .ok (.lastore, 1) := by decide +kernel
theorem dL_setBreaker_17 : decode cL_setBreaker 17 = .ok (.goto 7, 3) := by decide +kernel
theorem dL_setBreaker_20 : decode cL_setBreaker 20 = .ok (.astore 4, 2) := by decide +kernel
theorem dL_setBreaker_22 : decode cL_setBreaker 22 = .ok (.iconst 1, 1) := by decide +kernel
theorem dL_setBreaker_23 : decode cL_setBreaker 23 = .ok (.ireturn, 1) := by decide +kernel
theorem dL_setBreaker_24 : decode cL_setBreaker 24 = .ok (.iconst 0, 1) := by decide +kernel
theorem dL_setBreaker_25 : decode cL_setBreaker 25 = .ok (.ireturn, 1) := by decide +kernel
set_option maxRecDepth 20000 in
theorem ggL_reference_X4_reference : GoodIn wsL_reference wsX4_reference := goodIn_ca (goodIn_r _ [6, 7, 8, 9, 10, 5, 11, 12, 13, 14, 15, 16, 17, 18, 19, 20, 21, 22, 23, 24, 25, 26, 27, 28, 29, 30, 31, 32] (by decide +kernel) (by decide +kernel)) (goodIn_sub (fun _ h => List.mem_cons_of_mem _ (List.mem_append_right _ h)) (by decide +kernel))
set_option maxRecDepth 20000 in
theorem gL_reference_X4_reference : GoodIn wsL_reference (wsV RL 23 RX4 yX4_reference wsX4_reference) := goodIn_app (goodIn_of _ (by decide +kernel)) ggL_reference_X4_reference
theorem dL_reference_0 : decode cL_reference 0 = .ok (.aload_n 2, 1) := by decide +kernel
theorem dL_reference_1 : decode cL_reference 1 = .ok (.iconst 0, 1) := by decide +kernel
theorem dL_reference_2 : decode cL_reference 2 = .ok (.aload_n 0, 1) := by decide +kernel
theorem dL_reference_3 : decode cL_reference 3 = .ok (.iload_n 1, 1) := by decide +kernel
theorem dL_reference_4 : decode cL_reference 4 = .ok (.invokevirtual 23, 3) := by decide +kernel
theorem dL_reference_7 : decode cL_reference 7 = .ok (.i2l, 1) := by decide +kernel
theorem dL_reference_8 : decode cL_reference 8 = .ok (.lastore, 1) := by decide +kernel
theorem dL_reference_9 : decode cL_reference 9 = .ok (.goto 6, 3) := by decide +kernel
theorem dL_reference_12 : decode cL_reference 12 = .ok (.astore_n 3, 1) := by decide +kernel
theorem dL_reference_13 : decode cL_reference 13 = .ok (.iconst 1, 1) := by decide +kernel
theorem dL_reference_14 : decode cL_reference 14 = .ok (.ireturn, 1) := by decide +kernel
theorem dL_reference_15 : decode cL_reference 15 = .ok (.iconst 0, 1) := by decide +kernel
theorem dL_reference_16 : decode cL_reference 16 = .ok (.ireturn, 1) := by decide +kernel
set_option maxRecDepth 20000 in
theorem ggL_addMeter_X4_addMeter : GoodIn wsL_addMeter wsX4_addMeter := goodIn_ca (goodIn_ca (goodIn_ca (goodIn_r _ [8, 9, 10, 11, 12, 13, 14, 15, 16, 17, 18, 19, 7, 20, 21, 22, 23, 24, 25, 26, 27, 28, 29, 30, 31, 32, 33, 34, 35, 36, 37, 38, 39, 40, 41, 42, 43, 44, 45, 46, 47, 48, 49, 50, 51, 52, 53, 54, 55, 56, 57, 58, 59, 60, 61, 62, 63, 64, 65, 66] (by decide +kernel) (by decide +kernel)) (goodIn_sub (fun _ h => List.mem_cons_of_mem _ (List.mem_append_left _ (List.mem_append_left _ (List.mem_append_right _ h)))) (by decide +kernel))) (goodIn_sub (fun _ h => List.mem_cons_of_mem _ (List.mem_append_left _ (List.mem_append_right _ h))) (by decide +kernel))) (goodIn_sub (fun _ h => List.mem_cons_of_mem _ (List.mem_append_right _ h)) (by decide +kernel))
set_option maxRecDepth 20000 in
theorem gL_addMeter_X4_addMeter : GoodIn wsL_addMeter (wsV RL 27 RX4 yX4_addMeter wsX4_addMeter) := goodIn_app (goodIn_of _ (by decide +kernel)) ggL_addMeter_X4_addMeter
theorem dL_addMeter_0 : decode cL_addMeter 0 = .ok (.aload 5, 2) := by decide +kernel
theorem dL_addMeter_2 : decode cL_addMeter 2 = .ok (.iconst 0, 1) := by decide +kernel
theorem dL_addMeter_3 : decode cL_addMeter 3 = .ok (.aload_n 0, 1) := by decide +kernel
theorem dL_addMeter_4 : decode cL_addMeter 4 = .ok (.iload_n 1, 1) := by decide +kernel
theorem dL_addMeter_5 : decode cL_addMeter 5 = .ok (.iload_n 2, 1) := by decide +kernel
theorem dL_addMeter_6 : decode cL_addMeter 6 = .ok (.iload_n 3, 1) := by decide +kernel
theorem dL_addMeter_7 : decode cL_addMeter 7 = .ok (.iload 4, 2) := by decide +kernel
theorem dL_addMeter_9 : decode cL_addMeter 9 = .ok (.invokevirtual 27, 3) := by decide +kernel
theorem dL_addMeter_12 : decode cL_addMeter 12 = .ok (.i2l, 1) := by decide +kernel
theorem dL_addMeter_13 : decode cL_addMeter 13 = .ok (.lastore, 1) := by decide +kernel
theorem dL_addMeter_14 : decode cL_addMeter 14 = .ok (.goto 15, 3) := by decide +kernel
theorem dL_addMeter_17 : decode cL_addMeter 17 = .ok (.astore 6, 2) := by decide +kernel
theorem dL_addMeter_19 : decode cL_addMeter 19 = .ok (.iconst 1, 1) := by decide +kernel
theorem dL_addMeter_20 : decode cL_addMeter 20 = .ok (.ireturn, 1) := by decide +kernel
theorem dL_addMeter_21 : decode cL_addMeter 21 = .ok (.astore 6, 2) := by decide +kernel
theorem dL_addMeter_23 : decode cL_addMeter 23 = .ok (.iconst 2, 1) := by decide +kernel
theorem dL_addMeter_24 : decode cL_addMeter 24 = .ok (.ireturn, 1) := by decide +kernel
theorem dL_addMeter_25 : decode cL_addMeter 25 = .ok (.astore 6, 2) := by decide +kernel
theorem dL_addMeter_27 : decode cL_addMeter 27 = .ok (.iconst 3, 1) := by decide +kernel
theorem dL_addMeter_28 : decode cL_addMeter 28 = .ok (.ireturn, 1) := by decide +kernel
theorem dL_addMeter_29 : decode cL_addMeter 29 = .ok (.iconst 0, 1) := by decide +kernel
theorem dL_addMeter_30 : decode cL_addMeter 30 = .ok (.ireturn, 1) := by decide +kernel
set_option maxRecDepth 20000 in
theorem ggL_read_X4_read : GoodIn wsL_read wsX4_read := goodIn_ca (goodIn_ca (goodIn_r _ [7, 8, 9, 10, 11, 6, 12, 13, 14, 15, 16, 17, 18, 19, 20, 21, 22, 23, 24, 25, 26, 27, 28, 29, 30, 31, 32, 33, 34, 35, 36, 37] (by decide +kernel) (by decide +kernel)) (goodIn_sub (fun _ h => List.mem_cons_of_mem _ (List.mem_append_left _ (List.mem_append_right _ h))) (by decide +kernel))) (goodIn_sub (fun _ h => List.mem_cons_of_mem _ (List.mem_append_right _ h)) (by decide +kernel))
set_option maxRecDepth 20000 in
theorem gL_read_X4_read : GoodIn wsL_read (wsV RL 31 RX4 yX4_read wsX4_read) := goodIn_app (goodIn_of _ (by decide +kernel)) ggL_read_X4_read
theorem dL_read_0 : decode cL_read 0 = .ok (.aload_n 3, 1) := by decide +kernel
theorem dL_read_1 : decode cL_read 1 = .ok (.iconst 0, 1) := by decide +kernel
theorem dL_read_2 : decode cL_read 2 = .ok (.aload_n 0, 1) := by decide +kernel
theorem dL_read_3 : decode cL_read 3 = .ok (.iload_n 1, 1) := by decide +kernel
theorem dL_read_4 : decode cL_read 4 = .ok (.iload_n 2, 1) := by decide +kernel
theorem dL_read_5 : decode cL_read 5 = .ok (.invokevirtual 31, 3) := by decide +kernel
theorem dL_read_8 : decode cL_read 8 = .ok (.i2l, 1) := by decide +kernel
theorem dL_read_9 : decode cL_read 9 = .ok (.lastore, 1) := by decide +kernel
theorem dL_read_10 : decode cL_read 10 = .ok (.goto 11, 3) := by decide +kernel
theorem dL_read_13 : decode cL_read 13 = .ok (.astore 4, 2) := by decide +kernel
theorem dL_read_15 : decode cL_read 15 = .ok (.iconst 1, 1) := by decide +kernel
theorem dL_read_16 : decode cL_read 16 = .ok (.ireturn, 1) := by decide +kernel
theorem dL_read_17 : decode cL_read 17 = .ok (.astore 4, 2) := by decide +kernel
theorem dL_read_19 : decode cL_read 19 = .ok (.iconst 2, 1) := by decide +kernel
theorem dL_read_20 : decode cL_read 20 = .ok (.ireturn, 1) := by decide +kernel
theorem dL_read_21 : decode cL_read 21 = .ok (.iconst 0, 1) := by decide +kernel
theorem dL_read_22 : decode cL_read 22 = .ok (.ireturn, 1) := by decide +kernel
set_option maxRecDepth 20000 in
theorem ggL_use_X4_use : GoodIn wsL_use wsX4_use := goodIn_ca (goodIn_r _ [6, 7, 8, 9, 10, 5, 11, 12, 13, 14, 15, 16, 17, 18, 19, 20, 21, 22, 23, 24, 25, 26, 27, 28, 29, 30] (by decide +kernel) (by decide +kernel)) (goodIn_sub (fun _ h => List.mem_cons_of_mem _ (List.mem_append_right _ h)) (by decide +kernel))
set_option maxRecDepth 20000 in
theorem gL_use_X4_use : GoodIn wsL_use (wsV RL 35 RX4 yX4_use wsX4_use) := goodIn_app (goodIn_of _ (by decide +kernel)) ggL_use_X4_use
theorem dL_use_0 : decode cL_use 0 = .ok (.aload_n 3, 1) := by decide +kernel
theorem dL_use_1 : decode cL_use 1 = .ok (.iconst 0, 1) := by decide +kernel
theorem dL_use_2 : decode cL_use 2 = .ok (.aload_n 0, 1) := by decide +kernel
theorem dL_use_3 : decode cL_use 3 = .ok (.iload_n 1, 1) := by decide +kernel
theorem dL_use_4 : decode cL_use 4 = .ok (.iload_n 2, 1) := by decide +kernel
theorem dL_use_5 : decode cL_use 5 = .ok (.invokevirtual 35, 3) := by decide +kernel
theorem dL_use_8 : decode cL_use 8 = .ok (.ifCond .eq 7, 3) := by decide +kernel
theorem dL_use_11 : decode cL_use 11 = .ok (.lconst 1, 1) := by decide +kernel
theorem dL_use_12 : decode cL_use 12 = .ok (.goto 4, 3) := by decide +kernel
theorem dL_use_15 : decode cL_use 15 = .ok (.lconst 0, 1) := by decide +kernel
theorem dL_use_16 : decode cL_use 16 = .ok (.lastore, 1) := by decide +kernel
theorem dL_use_17 : decode cL_use 17 = .ok (.goto 7, 3) := by decide +kernel
theorem dL_use_20 : decode cL_use 20 = .ok (.astore 4, 2) := by decide +kernel
theorem dL_use_22 : decode cL_use 22 = .ok (.iconst 1, 1) := by decide +kernel
theorem dL_use_23 : decode cL_use 23 = .ok (.ireturn, 1) := by decide +kernel
theorem dL_use_24 : decode cL_use 24 = .ok (.iconst 0, 1) := by decide +kernel
theorem dL_use_25 : decode cL_use 25 = .ok (.ireturn, 1) := by decide +kernel
set_option maxRecDepth 20000 in
theorem ggL_countsIn_X4_countsIn : GoodIn wsL_countsIn wsX4_countsIn := goodIn_ca (goodIn_r _ [6, 7, 8, 9, 10, 5, 11, 12, 13, 14, 15, 16, 17, 18, 19, 20, 21, 22, 23, 24, 25, 26, 27, 28, 29, 30, 31, 32, 33, 34, 35, 36, 37, 38, 39, 40, 41, 42, 43, 44, 45, 46, 47, 48, 49, 50, 51] (by decide +kernel) (by decide +kernel)) (goodIn_sub (fun _ h => List.mem_cons_of_mem _ (List.mem_append_right _ h)) (by decide +kernel))
set_option maxRecDepth 20000 in
theorem gL_countsIn_X4_countsIn : GoodIn wsL_countsIn (wsV RL 38 RX4 yX4_countsIn wsX4_countsIn) := goodIn_app (goodIn_of _ (by decide +kernel)) ggL_countsIn_X4_countsIn
theorem dL_countsIn_0 : decode cL_countsIn 0 = .ok (.aload_n 2, 1) := by decide +kernel
theorem dL_countsIn_1 : decode cL_countsIn 1 = .ok (.iconst 0, 1) := by decide +kernel
theorem dL_countsIn_2 : decode cL_countsIn 2 = .ok (.aload_n 0, 1) := by decide +kernel
theorem dL_countsIn_3 : decode cL_countsIn 3 = .ok (.iload_n 1, 1) := by decide +kernel
theorem dL_countsIn_4 : decode cL_countsIn 4 = .ok (.invokevirtual 38, 3) := by decide +kernel
theorem dL_countsIn_7 : decode cL_countsIn 7 = .ok (.i2l, 1) := by decide +kernel
theorem dL_countsIn_8 : decode cL_countsIn 8 = .ok (.lastore, 1) := by decide +kernel
theorem dL_countsIn_9 : decode cL_countsIn 9 = .ok (.goto 6, 3) := by decide +kernel
theorem dL_countsIn_12 : decode cL_countsIn 12 = .ok (.astore_n 3, 1) := by decide +kernel
theorem dL_countsIn_13 : decode cL_countsIn 13 = .ok (.iconst 1, 1) := by decide +kernel
theorem dL_countsIn_14 : decode cL_countsIn 14 = .ok (.ireturn, 1) := by decide +kernel
theorem dL_countsIn_15 : decode cL_countsIn 15 = .ok (.iconst 0, 1) := by decide +kernel
theorem dL_countsIn_16 : decode cL_countsIn 16 = .ok (.ireturn, 1) := by decide +kernel
set_option maxRecDepth 20000 in
theorem ggL_rank_X4_rank : GoodIn wsL_rank wsX4_rank := goodIn_ca (goodIn_r _ [6, 7, 8, 9, 10, 11, 5, 12, 13, 14, 15, 16, 17, 18, 19, 20, 21, 22, 23, 24, 25, 26, 27, 28, 29, 30, 31, 32, 33, 34, 35, 36, 37, 38, 39, 40, 41, 42, 43, 44, 45, 46, 47, 48, 49, 50, 51, 52, 53, 54, 55, 56, 57, 58, 59, 60, 61, 62, 63, 64, 65, 66, 67, 68, 69, 70, 71, 72, 73, 74, 75, 76, 77, 78, 79] (by decide +kernel) (by decide +kernel)) (goodIn_sub (fun _ h => List.mem_cons_of_mem _ (List.mem_append_right _ h)) (by decide +kernel))
set_option maxRecDepth 20000 in
theorem gL_rank_X4_rank : GoodIn wsL_rank (wsV RL 41 RX4 yX4_rank wsX4_rank) := goodIn_app (goodIn_of _ (by decide +kernel)) ggL_rank_X4_rank
theorem dL_rank_0 : decode cL_rank 0 = .ok (.aload_n 2, 1) := by decide +kernel
theorem dL_rank_1 : decode cL_rank 1 = .ok (.iconst 0, 1) := by decide +kernel
theorem dL_rank_2 : decode cL_rank 2 = .ok (.aload_n 0, 1) := by decide +kernel
theorem dL_rank_3 : decode cL_rank 3 = .ok (.iload_n 1, 1) := by decide +kernel
theorem dL_rank_4 : decode cL_rank 4 = .ok (.invokevirtual 41, 3) := by decide +kernel
theorem dL_rank_7 : decode cL_rank 7 = .ok (.i2l, 1) := by decide +kernel
theorem dL_rank_8 : decode cL_rank 8 = .ok (.lastore, 1) := by decide +kernel
theorem dL_rank_9 : decode cL_rank 9 = .ok (.goto 6, 3) := by decide +kernel
theorem dL_rank_12 : decode cL_rank 12 = .ok (.astore_n 3, 1) := by decide +kernel
theorem dL_rank_13 : decode cL_rank 13 = .ok (.iconst 1, 1) := by decide +kernel
theorem dL_rank_14 : decode cL_rank 14 = .ok (.ireturn, 1) := by decide +kernel
theorem dL_rank_15 : decode cL_rank 15 = .ok (.iconst 0, 1) := by decide +kernel
theorem dL_rank_16 : decode cL_rank 16 = .ok (.ireturn, 1) := by decide +kernel
set_option maxRecDepth 20000 in
theorem ggL_isObservable_X4_isObservable : GoodIn wsL_isObservable wsX4_isObservable := goodIn_ca (goodIn_r _ [6, 7, 8, 9, 10, 11, 5, 12, 13, 14, 15, 16, 17, 18, 19, 20, 21, 22, 23, 24, 25, 26, 27, 28, 29, 30, 31, 32, 33, 34, 35, 36, 37, 38, 39, 40, 41, 42, 43, 44, 45, 46, 47, 48, 49, 50, 51, 52, 53, 54, 55, 56, 57, 58, 59, 60, 61, 62, 63, 64, 65, 66, 67, 68, 69, 70, 71, 72, 73, 74, 75, 76, 77, 78, 79, 80, 81, 82, 83, 84, 85, 86, 87, 88, 89, 90, 91, 92, 93] (by decide +kernel) (by decide +kernel)) (goodIn_sub (fun _ h => List.mem_cons_of_mem _ (List.mem_append_right _ h)) (by decide +kernel))
set_option maxRecDepth 20000 in
theorem gL_isObservable_X4_isObservable : GoodIn wsL_isObservable (wsV RL 44 RX4 yX4_isObservable wsX4_isObservable) := goodIn_app (goodIn_of _ (by decide +kernel)) ggL_isObservable_X4_isObservable
theorem dL_isObservable_0 : decode cL_isObservable 0 = .ok (.aload_n 2, 1) := by decide +kernel
theorem dL_isObservable_1 : decode cL_isObservable 1 = .ok (.iconst 0, 1) := by decide +kernel
theorem dL_isObservable_2 : decode cL_isObservable 2 = .ok (.aload_n 0, 1) := by decide +kernel
theorem dL_isObservable_3 : decode cL_isObservable 3 = .ok (.iload_n 1, 1) := by decide +kernel
theorem dL_isObservable_4 : decode cL_isObservable 4 = .ok (.invokevirtual 44, 3) := by decide +kernel
theorem dL_isObservable_7 : decode cL_isObservable 7 = .ok (.ifCond .eq 7, 3) := by decide +kernel
theorem dL_isObservable_10 : decode cL_isObservable 10 = .ok (.lconst 1, 1) := by decide +kernel
theorem dL_isObservable_11 : decode cL_isObservable 11 = .ok (.goto 4, 3) := by decide +kernel
theorem dL_isObservable_14 : decode cL_isObservable 14 = .ok (.lconst 0, 1) := by decide +kernel
theorem dL_isObservable_15 : decode cL_isObservable 15 = .ok (.lastore, 1) := by decide +kernel
theorem dL_isObservable_16 : decode cL_isObservable 16 = .ok (.goto 6, 3) := by decide +kernel
theorem dL_isObservable_19 : decode cL_isObservable 19 = .ok (.astore_n 3, 1) := by decide +kernel
theorem dL_isObservable_20 : decode cL_isObservable 20 = .ok (.iconst 1, 1) := by decide +kernel
theorem dL_isObservable_21 : decode cL_isObservable 21 = .ok (.ireturn, 1) := by decide +kernel
theorem dL_isObservable_22 : decode cL_isObservable 22 = .ok (.iconst 0, 1) := by decide +kernel
theorem dL_isObservable_23 : decode cL_isObservable 23 = .ok (.ireturn, 1) := by decide +kernel
set_option maxRecDepth 20000 in
theorem ggL_isCritical_X4_isCritical : GoodIn wsL_isCritical wsX4_isCritical := goodIn_ca (goodIn_r _ [6, 7, 8, 9, 10, 5, 11, 12, 13, 14, 15, 16, 17, 18, 19, 20, 21, 22, 23, 24, 25, 26, 27, 28, 29, 30, 31, 32, 33, 34, 35, 36, 37, 38, 39, 40, 41, 42, 43, 44, 45, 46, 47, 48, 49, 50, 51, 52, 53, 54, 55, 56, 57, 58, 59, 60, 61, 62, 63, 64, 65, 66, 67, 68, 69, 70, 71, 72, 73, 74, 75, 76, 77, 78, 79, 80, 81, 82, 83, 84, 85, 86, 87, 88, 89, 90, 91, 92, 93] (by decide +kernel) (by decide +kernel)) (goodIn_sub (fun _ h => List.mem_cons_of_mem _ (List.mem_append_right _ h)) (by decide +kernel))
set_option maxRecDepth 20000 in
theorem gL_isCritical_X4_isCritical : GoodIn wsL_isCritical (wsV RL 48 RX4 yX4_isCritical wsX4_isCritical) := goodIn_app (goodIn_of _ (by decide +kernel)) ggL_isCritical_X4_isCritical
theorem dL_isCritical_0 : decode cL_isCritical 0 = .ok (.aload_n 2, 1) := by decide +kernel
theorem dL_isCritical_1 : decode cL_isCritical 1 = .ok (.iconst 0, 1) := by decide +kernel
theorem dL_isCritical_2 : decode cL_isCritical 2 = .ok (.aload_n 0, 1) := by decide +kernel
theorem dL_isCritical_3 : decode cL_isCritical 3 = .ok (.iload_n 1, 1) := by decide +kernel
theorem dL_isCritical_4 : decode cL_isCritical 4 = .ok (.invokevirtual 48, 3) := by decide +kernel
theorem dL_isCritical_7 : decode cL_isCritical 7 = .ok (.ifCond .eq 7, 3) := by decide +kernel
theorem dL_isCritical_10 : decode cL_isCritical 10 = .ok (.lconst 1, 1) := by decide +kernel
theorem dL_isCritical_11 : decode cL_isCritical 11 = .ok (.goto 4, 3) := by decide +kernel
theorem dL_isCritical_14 : decode cL_isCritical 14 = .ok (.lconst 0, 1) := by decide +kernel
theorem dL_isCritical_15 : decode cL_isCritical 15 = .ok (.lastore, 1) := by decide +kernel
theorem dL_isCritical_16 : decode cL_isCritical 16 = .ok (.goto 6, 3) := by decide +kernel
theorem dL_isCritical_19 : decode cL_isCritical 19 = .ok (.astore_n 3, 1) := by decide +kernel
theorem dL_isCritical_20 : decode cL_isCritical 20 = .ok (.iconst 1, 1) := by decide +kernel
theorem dL_isCritical_21 : decode cL_isCritical 21 = .ok (.ireturn, 1) := by decide +kernel
theorem dL_isCritical_22 : decode cL_isCritical 22 = .ok (.iconst 0, 1) := by decide +kernel
theorem dL_isCritical_23 : decode cL_isCritical 23 = .ok (.ireturn, 1) := by decide +kernel
set_option maxRecDepth 20000 in
theorem ggL_angleNumerator_X4_angleNumerator : GoodIn wsL_angleNumerator wsX4_angleNumerator := goodIn_ca (goodIn_ca (goodIn_r _ [7, 8, 9, 10, 11, 6, 12, 13, 14, 15, 16, 17, 18, 19, 20, 21, 22, 23, 24, 25, 26, 27, 28, 29, 30, 31, 32, 33, 34, 35, 36, 37, 38, 39, 40, 41, 42, 43, 44, 45, 46, 47, 48, 49, 50, 51, 52, 53, 54, 55, 56, 57, 58, 59, 60, 61, 62, 63, 64, 65, 66, 67, 68, 69, 70, 71, 72, 73, 74, 75, 76, 77, 78, 79, 80, 81, 82, 83, 84, 85, 86, 87, 88, 89, 90, 91, 92, 93, 94, 95, 96, 97, 98, 99, 100, 101, 102, 103, 104, 105, 106, 107, 108, 109, 110, 111, 112, 113, 114, 115, 116, 117, 118, 119, 120, 121, 122, 123, 124, 125, 126, 127, 128, 129, 130, 131, 132, 133, 134, 135, 136, 137, 138, 139, 140, 141, 142, 143, 144, 145, 146, 147, 148, 149, 150, 151, 152, 153, 154, 155, 156, 157, 158, 159, 160] (by decide +kernel) (by decide +kernel)) (goodIn_sub (fun _ h => List.mem_cons_of_mem _ (List.mem_append_left _ (List.mem_append_right _ h))) (by decide +kernel))) (goodIn_sub (fun _ h => List.mem_cons_of_mem _ (List.mem_append_right _ h)) (by decide +kernel))
set_option maxRecDepth 20000 in
theorem gL_angleNumerator_X4_angleNumerator : GoodIn wsL_angleNumerator (wsV RL 51 RX4 yX4_angleNumerator wsX4_angleNumerator) := goodIn_app (goodIn_of _ (by decide +kernel)) ggL_angleNumerator_X4_angleNumerator
theorem dL_angleNumerator_0 : decode cL_angleNumerator 0 = .ok (.aload_n 2, 1) := by decide +kernel
theorem dL_angleNumerator_1 : decode cL_angleNumerator 1 = .ok (.iconst 0, 1) := by decide +kernel
theorem dL_angleNumerator_2 : decode cL_angleNumerator 2 = .ok (.aload_n 0, 1) := by decide +kernel
theorem dL_angleNumerator_3 : decode cL_angleNumerator 3 = .ok (.iload_n 1, 1) := by decide +kernel
theorem dL_angleNumerator_4 : decode cL_angleNumerator 4 = .ok (.invokevirtual 51, 3) := by decide +kernel
theorem dL_angleNumerator_7 : decode cL_angleNumerator 7 = .ok (.lastore, 1) := by decide +kernel
theorem dL_angleNumerator_8 : decode cL_angleNumerator 8 = .ok (.goto 9, 3) := by decide +kernel
theorem dL_angleNumerator_11 : decode cL_angleNumerator 11 = .ok (.astore_n 3, 1) := by decide +kernel
theorem dL_angleNumerator_12 : decode cL_angleNumerator 12 = .ok (.iconst 1, 1) := by decide +kernel
theorem dL_angleNumerator_13 : decode cL_angleNumerator 13 = .ok (.ireturn, 1) := by decide +kernel
theorem dL_angleNumerator_14 : decode cL_angleNumerator 14 = .ok (.astore_n 3, 1) := by decide +kernel
theorem dL_angleNumerator_15 : decode cL_angleNumerator 15 = .ok (.iconst 2, 1) := by decide +kernel
theorem dL_angleNumerator_16 : decode cL_angleNumerator 16 = .ok (.ireturn, 1) := by decide +kernel
theorem dL_angleNumerator_17 : decode cL_angleNumerator 17 = .ok (.iconst 0, 1) := by decide +kernel
theorem dL_angleNumerator_18 : decode cL_angleNumerator 18 = .ok (.ireturn, 1) := by decide +kernel
set_option maxRecDepth 20000 in
theorem ggL_angleDenominator_X4_angleDenominator : GoodIn wsL_angleDenominator wsX4_angleDenominator := goodIn_ca (goodIn_ca (goodIn_r _ [7, 8, 9, 10, 11, 6, 12, 13, 14, 15, 16, 17, 18, 19, 20, 21, 22, 23, 24, 25, 26, 27, 28, 29, 30, 31, 32, 33, 34, 35, 36, 37, 38, 39, 40, 41, 42, 43, 44, 45, 46, 47, 48, 49, 50, 51, 52, 53, 54, 55, 56, 57, 58, 59, 60, 61, 62, 63, 64, 65, 66, 67, 68, 69, 70, 71, 72, 73, 74, 75, 76, 77, 78, 79, 80, 81, 82, 83, 84, 85, 86, 87, 88, 89, 90, 91, 92, 93, 94, 95, 96, 97, 98, 99, 100, 101, 102, 103, 104, 105, 106, 107, 108, 109, 110, 111, 112, 113, 114, 115, 116, 117, 118, 119, 120, 121, 122, 123, 124, 125, 126, 127, 128, 129, 130, 131, 132, 133, 134, 135, 136, 137, 138, 139, 140, 141, 142, 143, 144, 145, 146, 147, 148, 149, 150, 151, 152, 153, 154, 155, 156, 157, 158, 159, 160] (by decide +kernel) (by decide +kernel)) (goodIn_sub (fun _ h => List.mem_cons_of_mem _ (List.mem_append_left _ (List.mem_append_right _ h))) (by decide +kernel))) (goodIn_sub (fun _ h => List.mem_cons_of_mem _ (List.mem_append_right _ h)) (by decide +kernel))
set_option maxRecDepth 20000 in
theorem gL_angleDenominator_X4_angleDenominator : GoodIn wsL_angleDenominator (wsV RL 55 RX4 yX4_angleDenominator wsX4_angleDenominator) := goodIn_app (goodIn_of _ (by decide +kernel)) ggL_angleDenominator_X4_angleDenominator
theorem dL_angleDenominator_0 : decode cL_angleDenominator 0 = .ok (.aload_n 2, 1) := by decide +kernel
theorem dL_angleDenominator_1 : decode cL_angleDenominator 1 = .ok (.iconst 0, 1) := by decide +kernel
theorem dL_angleDenominator_2 : decode cL_angleDenominator 2 = .ok (.aload_n 0, 1) := by decide +kernel
theorem dL_angleDenominator_3 : decode cL_angleDenominator 3 = .ok (.iload_n 1, 1) := by decide +kernel
theorem dL_angleDenominator_4 : decode cL_angleDenominator 4 = .ok (.invokevirtual 55, 3) := by decide +kernel
theorem dL_angleDenominator_7 : decode cL_angleDenominator 7 = .ok (.lastore, 1) := by decide +kernel
theorem dL_angleDenominator_8 : decode cL_angleDenominator 8 = .ok (.goto 9, 3) := by decide +kernel
theorem dL_angleDenominator_11 : decode cL_angleDenominator 11 = .ok (.astore_n 3, 1) := by decide +kernel
theorem dL_angleDenominator_12 : decode cL_angleDenominator 12 = .ok (.iconst 1, 1) := by decide +kernel
theorem dL_angleDenominator_13 : decode cL_angleDenominator 13 = .ok (.ireturn, 1) := by decide +kernel
theorem dL_angleDenominator_14 : decode cL_angleDenominator 14 = .ok (.astore_n 3, 1) := by decide +kernel
theorem dL_angleDenominator_15 : decode cL_angleDenominator 15 = .ok (.iconst 2, 1) := by decide +kernel
theorem dL_angleDenominator_16 : decode cL_angleDenominator 16 = .ok (.ireturn, 1) := by decide +kernel
theorem dL_angleDenominator_17 : decode cL_angleDenominator 17 = .ok (.iconst 0, 1) := by decide +kernel
theorem dL_angleDenominator_18 : decode cL_angleDenominator 18 = .ok (.ireturn, 1) := by decide +kernel
set_option maxRecDepth 20000 in
theorem ggL_residualNumerator_X4_residualNumerator : GoodIn wsL_residualNumerator wsX4_residualNumerator := goodIn_ca (goodIn_ca (goodIn_r _ [7, 8, 9, 10, 11, 6, 12, 13, 14, 15, 16, 17, 18, 19, 20, 21, 22, 23, 24, 25, 26, 27, 28, 29, 30, 31, 32, 33, 34, 35, 36, 37, 38, 39, 40, 41, 42, 43, 44, 45, 46, 47, 48, 49, 50, 51, 52, 53, 54, 55, 56, 57, 58, 59, 60, 61, 62, 63, 64, 65, 66, 67, 68, 69, 70, 71, 72, 73, 74, 75, 76, 77, 78, 79, 80, 81, 82, 83, 84, 85, 86, 87, 88, 89, 90, 91, 92, 93, 94, 95, 96, 97, 98, 99, 100, 101, 102, 103, 104, 105, 106, 107, 108, 109, 110, 111, 112, 113, 114, 115, 116, 117, 118, 119, 120, 121, 122, 123, 124, 125, 126, 127, 128, 129, 130, 131, 132, 133, 134, 135, 136, 137, 138, 139, 140, 141, 142, 143, 144, 145, 146, 147, 148, 149, 150, 151, 152, 153, 154, 155, 156, 157, 158, 159, 160, 161, 162, 163, 164, 165] (by decide +kernel) (by decide +kernel)) (goodIn_sub (fun _ h => List.mem_cons_of_mem _ (List.mem_append_left _ (List.mem_append_right _ h))) (by decide +kernel))) (goodIn_sub (fun _ h => List.mem_cons_of_mem _ (List.mem_append_right _ h)) (by decide +kernel))
set_option maxRecDepth 20000 in
theorem gL_residualNumerator_X4_residualNumerator : GoodIn wsL_residualNumerator (wsV RL 58 RX4 yX4_residualNumerator wsX4_residualNumerator) := goodIn_app (goodIn_of _ (by decide +kernel)) ggL_residualNumerator_X4_residualNumerator
theorem dL_residualNumerator_0 : decode cL_residualNumerator 0 = .ok (.aload_n 2, 1) := by decide +kernel
theorem dL_residualNumerator_1 : decode cL_residualNumerator 1 = .ok (.iconst 0, 1) := by decide +kernel
theorem dL_residualNumerator_2 : decode cL_residualNumerator 2 = .ok (.aload_n 0, 1) := by decide +kernel
theorem dL_residualNumerator_3 : decode cL_residualNumerator 3 = .ok (.iload_n 1, 1) := by decide +kernel
theorem dL_residualNumerator_4 : decode cL_residualNumerator 4 = .ok (.invokevirtual 58, 3) := by decide +kernel
theorem dL_residualNumerator_7 : decode cL_residualNumerator 7 = .ok (.lastore, 1) := by decide +kernel
theorem dL_residualNumerator_8 : decode cL_residualNumerator 8 = .ok (.goto 9, 3) := by decide +kernel
theorem dL_residualNumerator_11 : decode cL_residualNumerator 11 = .ok (.astore_n 3, 1) := by decide +kernel
theorem dL_residualNumerator_12 : decode cL_residualNumerator 12 = .ok (.iconst 1, 1) := by decide +kernel
theorem dL_residualNumerator_13 : decode cL_residualNumerator 13 = .ok (.ireturn, 1) := by decide +kernel
theorem dL_residualNumerator_14 : decode cL_residualNumerator 14 = .ok (.astore_n 3, 1) := by decide +kernel
theorem dL_residualNumerator_15 : decode cL_residualNumerator 15 = .ok (.iconst 2, 1) := by decide +kernel
theorem dL_residualNumerator_16 : decode cL_residualNumerator 16 = .ok (.ireturn, 1) := by decide +kernel
theorem dL_residualNumerator_17 : decode cL_residualNumerator 17 = .ok (.iconst 0, 1) := by decide +kernel
theorem dL_residualNumerator_18 : decode cL_residualNumerator 18 = .ok (.ireturn, 1) := by decide +kernel
set_option maxRecDepth 20000 in
theorem ggL_residualDenominator_X4_residualDenominator : GoodIn wsL_residualDenominator wsX4_residualDenominator := goodIn_ca (goodIn_ca (goodIn_r _ [7, 8, 9, 10, 11, 6, 12, 13, 14, 15, 16, 17, 18, 19, 20, 21, 22, 23, 24, 25, 26, 27, 28, 29, 30, 31, 32, 33, 34, 35, 36, 37, 38, 39, 40, 41, 42, 43, 44, 45, 46, 47, 48, 49, 50, 51, 52, 53, 54, 55, 56, 57, 58, 59, 60, 61, 62, 63, 64, 65, 66, 67, 68, 69, 70, 71, 72, 73, 74, 75, 76, 77, 78, 79, 80, 81, 82, 83, 84, 85, 86, 87, 88, 89, 90, 91, 92, 93, 94, 95, 96, 97, 98, 99, 100, 101, 102, 103, 104, 105, 106, 107, 108, 109, 110, 111, 112, 113, 114, 115, 116, 117, 118, 119, 120, 121, 122, 123, 124, 125, 126, 127, 128, 129, 130, 131, 132, 133, 134, 135, 136, 137, 138, 139, 140, 141, 142, 143, 144, 145, 146, 147, 148, 149, 150, 151, 152, 153, 154, 155, 156, 157, 158, 159, 160, 161, 162, 163, 164, 165] (by decide +kernel) (by decide +kernel)) (goodIn_sub (fun _ h => List.mem_cons_of_mem _ (List.mem_append_left _ (List.mem_append_right _ h))) (by decide +kernel))) (goodIn_sub (fun _ h => List.mem_cons_of_mem _ (List.mem_append_right _ h)) (by decide +kernel))
set_option maxRecDepth 20000 in
theorem gL_residualDenominator_X4_residualDenominator : GoodIn wsL_residualDenominator (wsV RL 61 RX4 yX4_residualDenominator wsX4_residualDenominator) := goodIn_app (goodIn_of _ (by decide +kernel)) ggL_residualDenominator_X4_residualDenominator
theorem dL_residualDenominator_0 : decode cL_residualDenominator 0 = .ok (.aload_n 2, 1) := by decide +kernel
theorem dL_residualDenominator_1 : decode cL_residualDenominator 1 = .ok (.iconst 0, 1) := by decide +kernel
theorem dL_residualDenominator_2 : decode cL_residualDenominator 2 = .ok (.aload_n 0, 1) := by decide +kernel
theorem dL_residualDenominator_3 : decode cL_residualDenominator 3 = .ok (.iload_n 1, 1) := by decide +kernel
theorem dL_residualDenominator_4 : decode cL_residualDenominator 4 = .ok (.invokevirtual 61, 3) := by decide +kernel
theorem dL_residualDenominator_7 : decode cL_residualDenominator 7 = .ok (.lastore, 1) := by decide +kernel
theorem dL_residualDenominator_8 : decode cL_residualDenominator 8 = .ok (.goto 9, 3) := by decide +kernel
theorem dL_residualDenominator_11 : decode cL_residualDenominator 11 = .ok (.astore_n 3, 1) := by decide +kernel
theorem dL_residualDenominator_12 : decode cL_residualDenominator 12 = .ok (.iconst 1, 1) := by decide +kernel
theorem dL_residualDenominator_13 : decode cL_residualDenominator 13 = .ok (.ireturn, 1) := by decide +kernel
theorem dL_residualDenominator_14 : decode cL_residualDenominator 14 = .ok (.astore_n 3, 1) := by decide +kernel
theorem dL_residualDenominator_15 : decode cL_residualDenominator 15 = .ok (.iconst 2, 1) := by decide +kernel
theorem dL_residualDenominator_16 : decode cL_residualDenominator 16 = .ok (.ireturn, 1) := by decide +kernel
theorem dL_residualDenominator_17 : decode cL_residualDenominator 17 = .ok (.iconst 0, 1) := by decide +kernel
theorem dL_residualDenominator_18 : decode cL_residualDenominator 18 = .ok (.ireturn, 1) := by decide +kernel
set_option maxRecDepth 20000 in
theorem ggL_worst_X4_worst : GoodIn wsL_worst wsX4_worst := goodIn_ca (goodIn_ca (goodIn_r _ [7, 8, 9, 10, 11, 12, 6, 13, 14, 15, 16, 17, 18, 19, 20, 21, 22, 23, 24, 25, 26, 27, 28, 29, 30, 31, 32, 33, 34, 35, 36, 37, 38, 39, 40, 41, 42, 43, 44, 45, 46, 47, 48, 49, 50, 51, 52, 53, 54, 55, 56, 57, 58, 59, 60, 61, 62, 63, 64, 65, 66, 67, 68, 69, 70, 71, 72, 73, 74, 75, 76, 77, 78, 79, 80, 81, 82, 83, 84, 85, 86, 87, 88, 89, 90, 91, 92, 93, 94, 95, 96, 97, 98, 99, 100, 101, 102, 103, 104, 105, 106, 107, 108, 109, 110, 111, 112, 113, 114, 115, 116, 117, 118, 119, 120, 121, 122, 123, 124, 125, 126, 127, 128, 129, 130, 131, 132, 133, 134, 135, 136, 137, 138, 139, 140, 141, 142, 143, 144, 145, 146, 147, 148, 149, 150, 151, 152, 153, 154, 155, 156, 157, 158, 159, 160, 161, 162, 163, 164, 165, 166] (by decide +kernel) (by decide +kernel)) (goodIn_sub (fun _ h => List.mem_cons_of_mem _ (List.mem_append_left _ (List.mem_append_right _ h))) (by decide +kernel))) (goodIn_sub (fun _ h => List.mem_cons_of_mem _ (List.mem_append_right _ h)) (by decide +kernel))
set_option maxRecDepth 20000 in
theorem gL_worst_X4_worst : GoodIn wsL_worst (wsV RL 64 RX4 yX4_worst wsX4_worst) := goodIn_app (goodIn_of _ (by decide +kernel)) ggL_worst_X4_worst
theorem dL_worst_0 : decode cL_worst 0 = .ok (.aload_n 2, 1) := by decide +kernel
theorem dL_worst_1 : decode cL_worst 1 = .ok (.iconst 0, 1) := by decide +kernel
theorem dL_worst_2 : decode cL_worst 2 = .ok (.aload_n 0, 1) := by decide +kernel
theorem dL_worst_3 : decode cL_worst 3 = .ok (.iload_n 1, 1) := by decide +kernel
theorem dL_worst_4 : decode cL_worst 4 = .ok (.invokevirtual 64, 3) := by decide +kernel
theorem dL_worst_7 : decode cL_worst 7 = .ok (.i2l, 1) := by decide +kernel
theorem dL_worst_8 : decode cL_worst 8 = .ok (.lastore, 1) := by decide +kernel
theorem dL_worst_9 : decode cL_worst 9 = .ok (.goto 9, 3) := by decide +kernel
theorem dL_worst_12 : decode cL_worst 12 = .ok (.astore_n 3, 1) := by decide +kernel
theorem dL_worst_13 : decode cL_worst 13 = .ok (.iconst 1, 1) := by decide +kernel
theorem dL_worst_14 : decode cL_worst 14 = .ok (.ireturn, 1) := by decide +kernel
theorem dL_worst_15 : decode cL_worst 15 = .ok (.astore_n 3, 1) := by decide +kernel
theorem dL_worst_16 : decode cL_worst 16 = .ok (.iconst 2, 1) := by decide +kernel
theorem dL_worst_17 : decode cL_worst 17 = .ok (.ireturn, 1) := by decide +kernel
theorem dL_worst_18 : decode cL_worst 18 = .ok (.iconst 0, 1) := by decide +kernel
theorem dL_worst_19 : decode cL_worst 19 = .ok (.ireturn, 1) := by decide +kernel
set_option maxRecDepth 20000 in
theorem ggL_clean_X4_clean : GoodIn wsL_clean wsX4_clean := goodIn_ca (goodIn_ca (goodIn_ca (goodIn_r _ [8, 9, 10, 11, 12, 13, 14, 7, 15, 16, 17, 18, 19, 20, 21, 22, 23, 24, 25, 26, 27, 28, 29, 30, 31, 32, 33, 34, 35, 36, 37, 38, 39, 40, 41, 42, 43, 44, 45, 46, 47, 48, 49, 50, 51, 52, 53, 54, 55, 56, 57, 58, 59, 60, 61, 62, 63, 64, 65, 66, 67, 68, 69, 70, 71, 72, 73, 74, 75, 76, 77, 78, 79, 80, 81, 82, 83, 84, 85, 86, 87, 88, 89, 90, 91, 92, 93, 94, 95, 96, 97, 98, 99, 100, 101, 102, 103, 104, 105, 106, 107, 108, 109, 110, 111, 112, 113, 114, 115, 116, 117, 118, 119, 120, 121, 122, 123, 124, 125, 126, 127, 128, 129, 130, 131, 132, 133, 134, 135, 136, 137, 138, 139, 140, 141, 142, 143, 144, 145, 146, 147, 148, 149, 150, 151, 152, 153, 154, 155, 156, 157, 158, 159, 160, 161, 162, 163, 164, 165, 166, 167, 168, 169, 170, 171, 172, 173, 174, 175, 176, 177, 178] (by decide +kernel) (by decide +kernel)) (goodIn_sub (fun _ h => List.mem_cons_of_mem _ (List.mem_append_left _ (List.mem_append_left _ (List.mem_append_right _ h)))) (by decide +kernel))) (goodIn_sub (fun _ h => List.mem_cons_of_mem _ (List.mem_append_left _ (List.mem_append_right _ h))) (by decide +kernel))) (goodIn_sub (fun _ h => List.mem_cons_of_mem _ (List.mem_append_right _ h)) (by decide +kernel))
set_option maxRecDepth 20000 in
theorem gL_clean_X4_clean : GoodIn wsL_clean (wsV RL 67 RX4 yX4_clean wsX4_clean) := goodIn_app (goodIn_of _ (by decide +kernel)) ggL_clean_X4_clean
theorem dL_clean_0 : decode cL_clean 0 = .ok (.aload_n 3, 1) := by decide +kernel
theorem dL_clean_1 : decode cL_clean 1 = .ok (.iconst 0, 1) := by decide +kernel
theorem dL_clean_2 : decode cL_clean 2 = .ok (.aload_n 0, 1) := by decide +kernel
theorem dL_clean_3 : decode cL_clean 3 = .ok (.iload_n 1, 1) := by decide +kernel
theorem dL_clean_4 : decode cL_clean 4 = .ok (.iload_n 2, 1) := by decide +kernel
theorem dL_clean_5 : decode cL_clean 5 = .ok (.invokevirtual 67, 3) := by decide +kernel
theorem dL_clean_8 : decode cL_clean 8 = .ok (.i2l, 1) := by decide +kernel
theorem dL_clean_9 : decode cL_clean 9 = .ok (.lastore, 1) := by decide +kernel
theorem dL_clean_10 : decode cL_clean 10 = .ok (.goto 15, 3) := by decide +kernel
theorem dL_clean_13 : decode cL_clean 13 = .ok (.astore 4, 2) := by decide +kernel
theorem dL_clean_15 : decode cL_clean 15 = .ok (.iconst 1, 1) := by decide +kernel
theorem dL_clean_16 : decode cL_clean 16 = .ok (.ireturn, 1) := by decide +kernel
theorem dL_clean_17 : decode cL_clean 17 = .ok (.astore 4, 2) := by decide +kernel
theorem dL_clean_19 : decode cL_clean 19 = .ok (.iconst 2, 1) := by decide +kernel
theorem dL_clean_20 : decode cL_clean 20 = .ok (.ireturn, 1) := by decide +kernel
theorem dL_clean_21 : decode cL_clean 21 = .ok (.astore 4, 2) := by decide +kernel
theorem dL_clean_23 : decode cL_clean 23 = .ok (.iconst 3, 1) := by decide +kernel
theorem dL_clean_24 : decode cL_clean 24 = .ok (.ireturn, 1) := by decide +kernel
theorem dL_clean_25 : decode cL_clean 25 = .ok (.iconst 0, 1) := by decide +kernel
theorem dL_clean_26 : decode cL_clean 26 = .ok (.ireturn, 1) := by decide +kernel
set_option maxRecDepth 20000 in
theorem ggL_law_L_cell : GoodIn wsL_law wsL_cell := goodIn_r _ [10] (by decide +kernel) (by decide +kernel)
set_option maxRecDepth 20000 in
theorem gL_law_L_cell : GoodIn wsL_law (va_wsS RL 70 yL_cell wsL_cell) := goodIn_app (goodIn_of _ (by decide +kernel)) ggL_law_L_cell
set_option maxRecDepth 20000 in
theorem ggL_law_X4_init : GoodIn wsL_law wsX4_init := goodIn_r _ [13, 14, 15, 16, 17, 18, 19, 20, 21, 22, 23, 24, 25, 26, 27, 28, 29, 30, 31, 32, 33, 34, 35, 36, 37, 38, 39, 40, 41, 42, 43, 44, 45, 46, 47, 48, 49, 50, 51, 52, 53, 54, 55, 56, 57, 58, 59, 60, 61, 62, 63, 64, 65, 66, 67, 68, 69, 70, 71, 72, 73, 74, 75, 76, 77, 78, 79, 80, 81, 82, 83, 84, 85, 86, 87, 88, 89, 90, 91, 92, 6, 93, 94, 95, 96, 97, 98, 99, 100, 101, 102, 103, 104, 105, 106, 107, 631, 632, 633, 634, 635, 636, 637, 638, 639, 603, 604, 605, 606, 640, 641, 642, 643, 644, 645, 646, 647, 648, 649, 650, 651, 652, 653, 654, 655, 656] (by decide +kernel) (by decide +kernel)
set_option maxRecDepth 20000 in
theorem gL_law_X4_init : GoodIn wsL_law (wsX4_init) := ggL_law_X4_init
set_option maxRecDepth 20000 in
theorem ggL_law_X5_init : GoodIn wsL_law wsX5_init := goodIn_r _ [110, 111, 15, 16, 45, 112, 113, 114, 49, 115, 116, 117, 118, 119, 120, 121, 122, 123, 6, 124, 125, 126, 127, 128, 607, 608, 609, 610, 611, 612, 613, 614, 615, 616, 617, 618, 619, 620, 621, 622, 623, 624, 625, 626, 627, 628, 629, 630] (by decide +kernel) (by decide +kernel)
set_option maxRecDepth 20000 in
theorem gL_law_X5_init : GoodIn wsL_law (wsX5_init) := ggL_law_X5_init
set_option maxRecDepth 20000 in
theorem ggL_law_L_addLine : GoodIn wsL_law wsL_addLine := goodIn_ca (goodIn_ca (goodIn_ca (goodIn_r _ [131, 132, 133, 134, 135, 136, 137, 2, 138, 139, 140, 141, 142, 27, 143, 144, 145, 146, 147, 148, 149, 150, 151, 19, 152, 55, 153, 154, 155, 156, 44, 157, 158, 159, 160, 46, 47, 161, 162, 163, 164, 48, 50, 56, 57, 58, 59, 60, 61, 62, 63, 51, 64, 65, 66, 67, 68, 21, 22, 23, 69, 70, 71, 72, 53, 73, 74, 75, 76, 54, 603, 604, 605, 606, 631, 632, 633, 634, 635, 636, 637, 638, 639] (by decide +kernel) (by decide +kernel)) (goodIn_sub (fun _ h => List.mem_append_left _ (List.mem_append_left _ (List.mem_append_right _ h))) (by decide +kernel))) (goodIn_sub (fun _ h => List.mem_append_left _ (List.mem_append_right _ h)) (by decide +kernel))) (goodIn_sub (fun _ h => List.mem_append_right _ h) (by decide +kernel))
set_option maxRecDepth 20000 in
theorem gL_law_L_addLine : GoodIn wsL_law (va_wsS RL 82 yL_addLine wsL_addLine) := goodIn_app (goodIn_of _ (by decide +kernel)) ggL_law_L_addLine
set_option maxRecDepth 20000 in
theorem ggL_law_X5_addLine : GoodIn wsL_law wsX5_addLine := goodIn_r _ [168, 169, 112, 113, 114, 115, 170, 171, 172, 5, 173, 128, 174, 175, 176, 177, 178, 179, 180, 181, 607, 608, 609, 610, 611, 612, 613, 614, 615, 616, 617, 618, 619, 620, 621, 622, 623, 624, 625, 626, 627, 628, 629, 630] (by decide +kernel) (by decide +kernel)
set_option maxRecDepth 20000 in
theorem gL_law_X5_addLine : GoodIn wsL_law (wsV RL 85 RX5 yX5_addLine wsX5_addLine) := goodIn_app (goodIn_of _ (by decide +kernel)) ggL_law_X5_addLine
set_option maxRecDepth 20000 in
theorem ggL_law_X5_thrown : GoodIn wsL_law wsX5_thrown := goodIn_r _ [185, 181, 607, 608, 609, 610, 611, 612, 613, 614, 615, 616, 617, 618, 619, 620, 621, 622, 623, 624, 625, 626, 627, 628, 629, 630] (by decide +kernel) (by decide +kernel)
set_option maxRecDepth 20000 in
theorem gL_law_X5_thrown : GoodIn wsL_law (wsV RL 86 RX5 yX5_thrown wsX5_thrown) := goodIn_app (goodIn_of _ (by decide +kernel)) ggL_law_X5_thrown
set_option maxRecDepth 20000 in
theorem ggL_law_L_setBreaker : GoodIn wsL_law wsL_setBreaker := goodIn_ca (goodIn_r _ [188, 132, 189, 190, 191, 2, 192, 147, 148, 27, 193, 194, 195, 19, 196, 44, 197, 198, 199, 200, 50, 56, 57, 58, 59, 60, 61, 62, 63, 51, 46, 47, 64, 65, 66, 67, 68, 21, 22, 23, 69, 70, 71, 72, 48, 53, 73, 74, 75, 76, 54, 603, 604, 605, 606, 631, 632, 633, 634, 635, 636, 637, 638, 639] (by decide +kernel) (by decide +kernel)) (goodIn_sub (fun _ h => List.mem_append_right _ h) (by decide +kernel))
set_option maxRecDepth 20000 in
theorem gL_law_L_setBreaker : GoodIn wsL_law (va_wsS RL 90 yL_setBreaker wsL_setBreaker) := goodIn_app (goodIn_of _ (by decide +kernel)) ggL_law_L_setBreaker
set_option maxRecDepth 20000 in
theorem ggL_law_X5_setBreaker : GoodIn wsL_law wsX5_setBreaker := goodIn_r _ [204, 115, 205, 206, 207, 5, 208, 169, 174, 175, 176, 177, 178, 179, 180, 181, 607, 608, 609, 610, 611, 612, 613, 614, 615, 616, 617, 618, 619, 620, 621, 622, 623, 624, 625, 626, 627, 628, 629, 630] (by decide +kernel) (by decide +kernel)
set_option maxRecDepth 20000 in
theorem gL_law_X5_setBreaker : GoodIn wsL_law (wsV RL 93 RX5 yX5_setBreaker wsX5_setBreaker) := goodIn_app (goodIn_of _ (by decide +kernel)) ggL_law_X5_setBreaker
set_option maxRecDepth 20000 in
theorem ggL_law_X4_islands : GoodIn wsL_law wsX4_islands := goodIn_r _ [212, 27, 603, 604, 605, 606, 631, 632, 633, 634, 635, 636, 637, 638, 639] (by decide +kernel) (by decide +kernel)
set_option maxRecDepth 20000 in
theorem gL_law_X4_islands : GoodIn wsL_law (wsV RL 94 RX4 yX4_islands wsX4_islands) := goodIn_app (goodIn_of _ (by decide +kernel)) ggL_law_X4_islands
set_option maxRecDepth 20000 in
theorem ggL_law_X5_islands : GoodIn wsL_law wsX5_islands := goodIn_r _ [216, 128, 121, 217, 218, 219, 5, 220, 169, 115, 112, 113, 221, 222, 223, 224, 181, 607, 608, 609, 610, 611, 612, 613, 614, 615, 616, 617, 618, 619, 620, 621, 622, 623, 624, 625, 626, 627, 628, 629, 630] (by decide +kernel) (by decide +kernel)
set_option maxRecDepth 20000 in
theorem gL_law_X5_islands : GoodIn wsL_law (wsV RL 97 RX5 yX5_islands wsX5_islands) := goodIn_app (goodIn_of _ (by decide +kernel)) ggL_law_X5_islands
set_option maxRecDepth 20000 in
theorem ggL_law_L_reference : GoodIn wsL_law wsL_reference := goodIn_ca (goodIn_r _ [227, 132, 228, 229, 230, 2, 231, 27, 143, 144, 145, 146, 147, 148, 149, 150, 151, 19, 152, 55, 603, 604, 605, 606, 631, 632, 633, 634, 635, 636, 637, 638, 639] (by decide +kernel) (by decide +kernel)) (goodIn_sub (fun _ h => List.mem_append_right _ h) (by decide +kernel))
set_option maxRecDepth 20000 in
theorem gL_law_L_reference : GoodIn wsL_law (va_wsS RL 98 yL_reference wsL_reference) := goodIn_app (goodIn_of _ (by decide +kernel)) ggL_law_L_reference
set_option maxRecDepth 20000 in
theorem ggL_law_X5_reference : GoodIn wsL_law wsX5_reference := goodIn_r _ [235, 121, 170, 171, 172, 5, 173, 128, 174, 175, 176, 177, 178, 179, 180, 181, 217, 218, 219, 220, 169, 115, 112, 113, 607, 608, 609, 610, 611, 612, 613, 614, 615, 616, 617, 618, 619, 620, 621, 622, 623, 624, 625, 626, 627, 628, 629, 630] (by decide +kernel) (by decide +kernel)
set_option maxRecDepth 20000 in
theorem gL_law_X5_reference : GoodIn wsL_law (wsV RL 101 RX5 yX5_reference wsX5_reference) := goodIn_app (goodIn_of _ (by decide +kernel)) ggL_law_X5_reference
set_option maxRecDepth 20000 in
theorem ggL_law_L_addMeter : GoodIn wsL_law wsL_addMeter := goodIn_ca (goodIn_ca (goodIn_ca (goodIn_r _ [238, 133, 132, 134, 239, 240, 241, 2, 242, 139, 140, 147, 148, 141, 142, 27, 31, 243, 244, 245, 246, 193, 194, 195, 19, 196, 44, 149, 150, 151, 152, 55, 247, 248, 249, 30, 250, 81, 251, 252, 253, 254, 82, 83, 84, 85, 86, 603, 604, 605, 606, 631, 632, 633, 634, 635, 636, 637, 638, 639, 640, 641, 642, 643, 644, 645, 646] (by decide +kernel) (by decide +kernel)) (goodIn_sub (fun _ h => List.mem_append_left _ (List.mem_append_left _ (List.mem_append_right _ h))) (by decide +kernel))) (goodIn_sub (fun _ h => List.mem_append_right _ h) (by decide +kernel))) (goodIn_sub (fun _ h => List.mem_append_left _ (List.mem_append_right _ h)) (by decide +kernel))
set_option maxRecDepth 20000 in
theorem gL_law_L_addMeter : GoodIn wsL_law (va_wsS RL 102 yL_addMeter wsL_addMeter) := goodIn_app (goodIn_of _ (by decide +kernel)) ggL_law_L_addMeter
set_option maxRecDepth 20000 in
theorem ggL_law_X5_addMeter : GoodIn wsL_law wsX5_addMeter := goodIn_r _ [258, 259, 116, 117, 118, 119, 120, 174, 175, 5, 176, 205, 206, 207, 208, 169, 170, 171, 172, 173, 128, 177, 178, 179, 180, 181, 607, 608, 609, 610, 611, 612, 613, 614, 615, 616, 617, 618, 619, 620, 621, 622, 623, 624, 625, 626, 627, 628, 629, 630] (by decide +kernel) (by decide +kernel)
set_option maxRecDepth 20000 in
theorem gL_law_X5_addMeter : GoodIn wsL_law (wsV RL 105 RX5 yX5_addMeter wsX5_addMeter) := goodIn_app (goodIn_of _ (by decide +kernel)) ggL_law_X5_addMeter
set_option maxRecDepth 20000 in
theorem ggL_law_L_read : GoodIn wsL_law wsL_read := goodIn_ca (goodIn_ca (goodIn_r _ [262, 132, 133, 263, 264, 265, 2, 266, 31, 267, 268, 269, 270, 147, 148, 271, 272, 273, 30, 274, 81, 243, 244, 245, 246, 139, 140, 603, 604, 605, 606, 640, 641, 642, 643, 644, 645, 646] (by decide +kernel) (by decide +kernel)) (goodIn_sub (fun _ h => List.mem_append_right _ h) (by decide +kernel))) (goodIn_sub (fun _ h => List.mem_append_left _ (List.mem_append_left _ (List.mem_append_right _ h))) (by decide +kernel))
set_option maxRecDepth 20000 in
theorem gL_law_L_read : GoodIn wsL_law (va_wsS RL 106 yL_read wsL_read) := goodIn_app (goodIn_of _ (by decide +kernel)) ggL_law_L_read
set_option maxRecDepth 20000 in
theorem ggL_law_X5_read : GoodIn wsL_law wsX5_read := goodIn_r _ [278, 118, 279, 280, 281, 5, 282, 259, 174, 175, 176, 177, 178, 179, 180, 181, 607, 608, 609, 610, 611, 612, 613, 614, 615, 616, 617, 618, 619, 620, 621, 622, 623, 624, 625, 626, 627, 628, 629, 630] (by decide +kernel) (by decide +kernel)
set_option maxRecDepth 20000 in
theorem gL_law_X5_read : GoodIn wsL_law (wsV RL 109 RX5 yX5_read wsX5_read) := goodIn_app (goodIn_of _ (by decide +kernel)) ggL_law_X5_read
set_option maxRecDepth 20000 in
theorem ggL_law_L_use : GoodIn wsL_law wsL_use := goodIn_ca (goodIn_r _ [285, 132, 286, 287, 288, 2, 289, 31, 267, 268, 269, 270, 147, 148, 271, 272, 273, 30, 274, 81, 603, 604, 605, 606, 640, 641, 642, 643, 644, 645, 646] (by decide +kernel) (by decide +kernel)) (goodIn_sub (fun _ h => List.mem_append_right _ h) (by decide +kernel))
