set_option maxRecDepth 20000 in
theorem ggL_lines_X4_addLine : GoodIn wsL_lines wsX4_addLine := goodIn_ca (goodIn_ca (goodIn_ca (goodIn_r _ [11, 12, 13, 14, 15, 16, 17, 18, 19, 10, 20, 21, 22, 23, 24, 25, 26, 27, 28, 29, 30, 31, 32, 33, 34, 35, 36, 37, 38, 39, 40, 41, 42, 43, 44, 45, 46, 47, 48, 49, 50, 51, 52, 53, 54, 55, 56, 57, 58, 59, 60, 61, 62, 63, 64, 65, 66, 67, 68, 69, 70, 71, 72, 73, 74, 75, 76, 77, 78, 79, 80, 81, 82, 83, 84, 85] (by decide +kernel) (by decide +kernel)) (goodIn_sub (fun _ h => List.mem_cons_of_mem _ (List.mem_append_left _ (List.mem_append_left _ (List.mem_append_right _ h)))) (by decide +kernel))) (goodIn_sub (fun _ h => List.mem_cons_of_mem _ (List.mem_append_left _ (List.mem_append_right _ h))) (by decide +kernel))) (goodIn_sub (fun _ h => List.mem_cons_of_mem _ (List.mem_append_right _ h)) (by decide +kernel))
set_option maxRecDepth 20000 in
theorem gL_lines_X4_addLine : GoodIn wsL_lines (wsV RL 7 RX4 yX4_addLine wsX4_addLine) := goodIn_app (goodIn_of _ (by decide +kernel)) ggL_lines_X4_addLine
theorem dL_lines_0 : decode cL_lines 0 = .ok (.aload_n 0, 1) := by decide +kernel
theorem dL_lines_1 : decode cL_lines 1 = .ok (.iload_n 1, 1) := by decide +kernel
theorem dL_lines_2 : decode cL_lines 2 = .ok (.iload_n 2, 1) := by decide +kernel
theorem dL_lines_3 : decode cL_lines 3 = .ok (.iload_n 3, 1) := by decide +kernel
theorem dL_lines_4 : decode cL_lines 4 = .ok (.invokevirtual 7, 3) := by decide +kernel
theorem dL_lines_7 : decode cL_lines 7 = .ok (.ireturn, 1) := by decide +kernel
theorem dL_lines_8 : decode cL_lines 8 = .ok (.astore 4, 2) := by decide +kernel
theorem dL_lines_10 : decode cL_lines 10 = .ok (.ldc 15, 2) := by decide +kernel
theorem dL_lines_12 : decode cL_lines 12 = .ok (.ireturn, 1) := by decide +kernel
theorem dL_lines_13 : decode cL_lines 13 = .ok (.astore 4, 2) := by decide +kernel
theorem dL_lines_15 : decode cL_lines 15 = .ok (.ldc 18, 2) := by decide +kernel
theorem dL_lines_17 : decode cL_lines 17 = .ok (.ireturn, 1) := by decide +kernel
theorem dL_lines_18 : decode cL_lines 18 = .ok (.astore 4, 2) := by decide +kernel
theorem dL_lines_20 : decode cL_lines 20 = .ok (.ldc 21, 2) := by decide +kernel
theorem dL_lines_22 : decode cL_lines 22 = .ok (.ireturn, 1) := by decide +kernel
set_option maxRecDepth 20000 in
theorem ggL_breaks_X4_setBreaker : GoodIn wsL_breaks wsX4_setBreaker := goodIn_ca (goodIn_r _ [7, 8, 9, 10, 11, 12, 13, 14, 15, 16, 17, 18, 19, 20, 21, 22, 23, 24, 25, 26, 27, 28, 29, 30, 31, 32, 33, 34, 35, 36, 37, 38, 39, 40, 41, 42, 43, 44, 45, 46, 47, 48, 49, 50, 51, 52, 53, 54, 55, 56, 57, 58, 59, 60, 61, 62, 63, 64] (by decide +kernel) (by decide +kernel)) (goodIn_sub (fun _ h => List.mem_cons_of_mem _ (List.mem_append_right _ h)) (by decide +kernel))
set_option maxRecDepth 20000 in
theorem gL_breaks_X4_setBreaker : GoodIn wsL_breaks (wsV RL 22 RX4 yX4_setBreaker wsX4_setBreaker) := goodIn_app (goodIn_of _ (by decide +kernel)) ggL_breaks_X4_setBreaker
theorem dL_breaks_0 : decode cL_breaks 0 = .ok (.aload_n 0, 1) := by decide +kernel
theorem dL_breaks_1 : decode cL_breaks 1 = .ok (.iload_n 1, 1) := by decide +kernel
theorem dL_breaks_2 : decode cL_breaks 2 = .ok (.iload_n 2, 1) := by decide +kernel
theorem dL_breaks_3 : decode cL_breaks 3 = .ok (.invokevirtual 22, 3) := by decide +kernel
theorem dL_breaks_6 : decode cL_breaks 6 = .ok (.ifCond .eq 7, 3) := by decide +kernel
theorem dL_breaks_9 : decode cL_breaks 9 = .ok (.iconst 1, 1) := by decide +kernel
theorem dL_breaks_10 : decode cL_breaks 10 = .ok (.goto 4, 3) := by decide +kernel
theorem dL_breaks_13 : decode cL_breaks 13 = .ok (.iconst 0, 1) := by decide +kernel
theorem dL_breaks_14 : decode cL_breaks 14 = .ok (.ireturn, 1) := by decide +kernel
theorem dL_breaks_15 : decode cL_breaks 15 = .ok (.astore_n 3, 1) := by decide +kernel
theorem dL_breaks_16 : decode cL_breaks 16 = .ok (.ldc 15, 2) := by decide +kernel
theorem dL_breaks_18 : decode cL_breaks 18 = .ok (.ireturn, 1) := by decide +kernel
set_option maxRecDepth 20000 in
theorem ggL_reference_X4_reference : GoodIn wsL_reference wsX4_reference := goodIn_ca (goodIn_r _ [7, 8, 9, 10, 11, 6, 12, 13, 14, 15, 16, 17, 18, 19, 20, 21, 22, 23, 24, 25, 26, 27, 28, 29, 30, 31, 32, 33] (by decide +kernel) (by decide +kernel)) (goodIn_sub (fun _ h => List.mem_cons_of_mem _ (List.mem_append_right _ h)) (by decide +kernel))
set_option maxRecDepth 20000 in
theorem gL_reference_X4_reference : GoodIn wsL_reference (wsV RL 26 RX4 yX4_reference wsX4_reference) := goodIn_app (goodIn_of _ (by decide +kernel)) ggL_reference_X4_reference
theorem dL_reference_0 : decode cL_reference 0 = .ok (.aload_n 0, 1) := by decide +kernel
theorem dL_reference_1 : decode cL_reference 1 = .ok (.iload_n 1, 1) := by decide +kernel
theorem dL_reference_2 : decode cL_reference 2 = .ok (.invokevirtual 26, 3) := by decide +kernel
theorem dL_reference_5 : decode cL_reference 5 = .ok (.ireturn, 1) := by decide +kernel
theorem dL_reference_6 : decode cL_reference 6 = .ok (.astore_n 2, 1) := by decide +kernel
theorem dL_reference_7 : decode cL_reference 7 = .ok (.ldc 15, 2) := by decide +kernel
theorem dL_reference_9 : decode cL_reference 9 = .ok (.ireturn, 1) := by decide +kernel
set_option maxRecDepth 20000 in
theorem ggL_adds_X4_addMeter : GoodIn wsL_adds wsX4_addMeter := goodIn_ca (goodIn_ca (goodIn_ca (goodIn_r _ [11, 12, 13, 14, 15, 16, 17, 18, 19, 20, 21, 22, 10, 23, 24, 25, 26, 27, 28, 29, 30, 31, 32, 33, 34, 35, 36, 37, 38, 39, 40, 41, 42, 43, 44, 45, 46, 47, 48, 49, 50, 51, 52, 53, 54, 55, 56, 57, 58, 59, 60, 61, 62, 63, 64, 65, 66, 67, 68, 69] (by decide +kernel) (by decide +kernel)) (goodIn_sub (fun _ h => List.mem_cons_of_mem _ (List.mem_append_left _ (List.mem_append_left _ (List.mem_append_right _ h)))) (by decide +kernel))) (goodIn_sub (fun _ h => List.mem_cons_of_mem _ (List.mem_append_left _ (List.mem_append_right _ h))) (by decide +kernel))) (goodIn_sub (fun _ h => List.mem_cons_of_mem _ (List.mem_append_right _ h)) (by decide +kernel))
set_option maxRecDepth 20000 in
theorem gL_adds_X4_addMeter : GoodIn wsL_adds (wsV RL 30 RX4 yX4_addMeter wsX4_addMeter) := goodIn_app (goodIn_of _ (by decide +kernel)) ggL_adds_X4_addMeter
theorem dL_adds_0 : decode cL_adds 0 = .ok (.aload_n 0, 1) := by decide +kernel
theorem dL_adds_1 : decode cL_adds 1 = .ok (.iload_n 1, 1) := by decide +kernel
theorem dL_adds_2 : decode cL_adds 2 = .ok (.iload_n 2, 1) := by decide +kernel
theorem dL_adds_3 : decode cL_adds 3 = .ok (.iload_n 3, 1) := by decide +kernel
theorem dL_adds_4 : decode cL_adds 4 = .ok (.iload 4, 2) := by decide +kernel
theorem dL_adds_6 : decode cL_adds 6 = .ok (.invokevirtual 30, 3) := by decide +kernel
theorem dL_adds_9 : decode cL_adds 9 = .ok (.ireturn, 1) := by decide +kernel
theorem dL_adds_10 : decode cL_adds 10 = .ok (.astore 5, 2) := by decide +kernel
theorem dL_adds_12 : decode cL_adds 12 = .ok (.ldc 18, 2) := by decide +kernel
theorem dL_adds_14 : decode cL_adds 14 = .ok (.ireturn, 1) := by decide +kernel
theorem dL_adds_15 : decode cL_adds 15 = .ok (.astore 5, 2) := by decide +kernel
theorem dL_adds_17 : decode cL_adds 17 = .ok (.ldc 15, 2) := by decide +kernel
theorem dL_adds_19 : decode cL_adds 19 = .ok (.ireturn, 1) := by decide +kernel
theorem dL_adds_20 : decode cL_adds 20 = .ok (.astore 5, 2) := by decide +kernel
theorem dL_adds_22 : decode cL_adds 22 = .ok (.ldc 21, 2) := by decide +kernel
theorem dL_adds_24 : decode cL_adds 24 = .ok (.ireturn, 1) := by decide +kernel
set_option maxRecDepth 20000 in
theorem ggL_reads_X4_read : GoodIn wsL_reads wsX4_read := goodIn_ca (goodIn_ca (goodIn_r _ [9, 10, 11, 12, 13, 8, 14, 15, 16, 17, 18, 19, 20, 21, 22, 23, 24, 25, 26, 27, 28, 29, 30, 31, 32, 33, 34, 35, 36, 37, 38, 39] (by decide +kernel) (by decide +kernel)) (goodIn_sub (fun _ h => List.mem_cons_of_mem _ (List.mem_append_left _ (List.mem_append_right _ h))) (by decide +kernel))) (goodIn_sub (fun _ h => List.mem_cons_of_mem _ (List.mem_append_right _ h)) (by decide +kernel))
set_option maxRecDepth 20000 in
theorem gL_reads_X4_read : GoodIn wsL_reads (wsV RL 34 RX4 yX4_read wsX4_read) := goodIn_app (goodIn_of _ (by decide +kernel)) ggL_reads_X4_read
theorem dL_reads_0 : decode cL_reads 0 = .ok (.aload_n 0, 1) := by decide +kernel
theorem dL_reads_1 : decode cL_reads 1 = .ok (.iload_n 1, 1) := by decide +kernel
theorem dL_reads_2 : decode cL_reads 2 = .ok (.iload_n 2, 1) := by decide +kernel
theorem dL_reads_3 : decode cL_reads 3 = .ok (.invokevirtual 34, 3) := by decide +kernel
theorem dL_reads_6 : decode cL_reads 6 = .ok (.ireturn, 1) := by decide +kernel
theorem dL_reads_7 : decode cL_reads 7 = .ok (.astore_n 3, 1) := by decide +kernel
theorem dL_reads_8 : decode cL_reads 8 = .ok (.ldc 15, 2) := by decide +kernel
theorem dL_reads_10 : decode cL_reads 10 = .ok (.ireturn, 1) := by decide +kernel
theorem dL_reads_11 : decode cL_reads 11 = .ok (.astore_n 3, 1) := by decide +kernel
theorem dL_reads_12 : decode cL_reads 12 = .ok (.ldc 18, 2) := by decide +kernel
theorem dL_reads_14 : decode cL_reads 14 = .ok (.ireturn, 1) := by decide +kernel
set_option maxRecDepth 20000 in
theorem ggL_uses_X4_use : GoodIn wsL_uses wsX4_use := goodIn_ca (goodIn_r _ [7, 8, 9, 10, 11, 6, 12, 13, 14, 15, 16, 17, 18, 19, 20, 21, 22, 23, 24, 25, 26, 27, 28, 29, 30, 31] (by decide +kernel) (by decide +kernel)) (goodIn_sub (fun _ h => List.mem_cons_of_mem _ (List.mem_append_right _ h)) (by decide +kernel))
set_option maxRecDepth 20000 in
theorem gL_uses_X4_use : GoodIn wsL_uses (wsV RL 38 RX4 yX4_use wsX4_use) := goodIn_app (goodIn_of _ (by decide +kernel)) ggL_uses_X4_use
theorem dL_uses_0 : decode cL_uses 0 = .ok (.aload_n 0, 1) := by decide +kernel
theorem dL_uses_1 : decode cL_uses 1 = .ok (.iload_n 1, 1) := by decide +kernel
theorem dL_uses_2 : decode cL_uses 2 = .ok (.iload_n 2, 1) := by decide +kernel
theorem dL_uses_3 : decode cL_uses 3 = .ok (.invokevirtual 38, 3) := by decide +kernel
theorem dL_uses_6 : decode cL_uses 6 = .ok (.ifCond .eq 7, 3) := by decide +kernel
theorem dL_uses_9 : decode cL_uses 9 = .ok (.iconst 1, 1) := by decide +kernel
theorem dL_uses_10 : decode cL_uses 10 = .ok (.goto 4, 3) := by decide +kernel
theorem dL_uses_13 : decode cL_uses 13 = .ok (.iconst 0, 1) := by decide +kernel
theorem dL_uses_14 : decode cL_uses 14 = .ok (.ireturn, 1) := by decide +kernel
theorem dL_uses_15 : decode cL_uses 15 = .ok (.astore_n 3, 1) := by decide +kernel
theorem dL_uses_16 : decode cL_uses 16 = .ok (.ldc 15, 2) := by decide +kernel
theorem dL_uses_18 : decode cL_uses 18 = .ok (.ireturn, 1) := by decide +kernel
set_option maxRecDepth 20000 in
theorem ggL_counts_X4_countsIn : GoodIn wsL_counts wsX4_countsIn := goodIn_ca (goodIn_r _ [7, 8, 9, 10, 11, 6, 12, 13, 14, 15, 16, 17, 18, 19, 20, 21, 22, 23, 24, 25, 26, 27, 28, 29, 30, 31, 32, 33, 34, 35, 36, 37, 38, 39, 40, 41, 42, 43, 44, 45, 46, 47, 48, 49, 50, 51, 52] (by decide +kernel) (by decide +kernel)) (goodIn_sub (fun _ h => List.mem_cons_of_mem _ (List.mem_append_right _ h)) (by decide +kernel))
set_option maxRecDepth 20000 in
theorem gL_counts_X4_countsIn : GoodIn wsL_counts (wsV RL 41 RX4 yX4_countsIn wsX4_countsIn) := goodIn_app (goodIn_of _ (by decide +kernel)) ggL_counts_X4_countsIn
theorem dL_counts_0 : decode cL_counts 0 = .ok (.aload_n 0, 1) := by decide +kernel
theorem dL_counts_1 : decode cL_counts 1 = .ok (.iload_n 1, 1) := by decide +kernel
theorem dL_counts_2 : decode cL_counts 2 = .ok (.invokevirtual 41, 3) := by decide +kernel
theorem dL_counts_5 : decode cL_counts 5 = .ok (.ireturn, 1) := by decide +kernel
theorem dL_counts_6 : decode cL_counts 6 = .ok (.astore_n 2, 1) := by decide +kernel
theorem dL_counts_7 : decode cL_counts 7 = .ok (.ldc 15, 2) := by decide +kernel
theorem dL_counts_9 : decode cL_counts 9 = .ok (.ireturn, 1) := by decide +kernel
set_option maxRecDepth 20000 in
theorem ggL_rank_X4_rank : GoodIn wsL_rank wsX4_rank := goodIn_ca (goodIn_r _ [7, 8, 9, 10, 11, 12, 6, 13, 14, 15, 16, 17, 18, 19, 20, 21, 22, 23, 24, 25, 26, 27, 28, 29, 30, 31, 32, 33, 34, 35, 36, 37, 38, 39, 40, 41, 42, 43, 44, 45, 46, 47, 48, 49, 50, 51, 52, 53, 54, 55, 56, 57, 58, 59, 60, 61, 62, 63, 64, 65, 66, 67, 68, 69, 70, 71, 72, 73, 74, 75, 76, 77, 78, 79, 80] (by decide +kernel) (by decide +kernel)) (goodIn_sub (fun _ h => List.mem_cons_of_mem _ (List.mem_append_right _ h)) (by decide +kernel))
set_option maxRecDepth 20000 in
theorem gL_rank_X4_rank : GoodIn wsL_rank (wsV RL 44 RX4 yX4_rank wsX4_rank) := goodIn_app (goodIn_of _ (by decide +kernel)) ggL_rank_X4_rank
theorem dL_rank_0 : decode cL_rank 0 = .ok (.aload_n 0, 1) := by decide +kernel
theorem dL_rank_1 : decode cL_rank 1 = .ok (.iload_n 1, 1) := by decide +kernel
theorem dL_rank_2 : decode cL_rank 2 = .ok (.invokevirtual 44, 3) := by decide +kernel
theorem dL_rank_5 : decode cL_rank 5 = .ok (.ireturn, 1) := by decide +kernel
theorem dL_rank_6 : decode cL_rank 6 = .ok (.astore_n 2, 1) := by decide +kernel
theorem dL_rank_7 : decode cL_rank 7 = .ok (.ldc 15, 2) := by decide +kernel
theorem dL_rank_9 : decode cL_rank 9 = .ok (.ireturn, 1) := by decide +kernel
set_option maxRecDepth 20000 in
theorem ggL_observable_X4_isObservable : GoodIn wsL_observable wsX4_isObservable := goodIn_ca (goodIn_r _ [7, 8, 9, 10, 11, 12, 6, 13, 14, 15, 16, 17, 18, 19, 20, 21, 22, 23, 24, 25, 26, 27, 28, 29, 30, 31, 32, 33, 34, 35, 36, 37, 38, 39, 40, 41, 42, 43, 44, 45, 46, 47, 48, 49, 50, 51, 52, 53, 54, 55, 56, 57, 58, 59, 60, 61, 62, 63, 64, 65, 66, 67, 68, 69, 70, 71, 72, 73, 74, 75, 76, 77, 78, 79, 80, 81, 82, 83, 84, 85, 86, 87, 88, 89, 90, 91, 92, 93, 94] (by decide +kernel) (by decide +kernel)) (goodIn_sub (fun _ h => List.mem_cons_of_mem _ (List.mem_append_right _ h)) (by decide +kernel))
set_option maxRecDepth 20000 in
theorem gL_observable_X4_isObservable : GoodIn wsL_observable (wsV RL 47 RX4 yX4_isObservable wsX4_isObservable) := goodIn_app (goodIn_of _ (by decide +kernel)) ggL_observable_X4_isObservable
theorem dL_observable_0 : decode cL_observable 0 = .ok (.aload_n 0, 1) := by decide +kernel
theorem dL_observable_1 : decode cL_observable 1 = .ok (.iload_n 1, 1) := by decide +kernel
theorem dL_observable_2 : decode cL_observable 2 = .ok (.invokevirtual 47, 3) := by decide +kernel
theorem dL_observable_5 : decode cL_observable 5 = .ok (.ifCond .eq 7, 3) := by decide +kernel
theorem dL_observable_8 : decode cL_observable 8 = .ok (.iconst 1, 1) := by decide +kernel
theorem dL_observable_9 : decode cL_observable 9 = .ok (.goto 4, 3) := by decide +kernel
theorem dL_observable_12 : decode cL_observable 12 = .ok (.iconst 0, 1) := by decide +kernel
theorem dL_observable_13 : decode cL_observable 13 = .ok (.ireturn, 1) := by decide +kernel
theorem dL_observable_14 : decode cL_observable 14 = .ok (.astore_n 2, 1) := by decide +kernel
theorem dL_observable_15 : decode cL_observable 15 = .ok (.ldc 15, 2) := by decide +kernel
theorem dL_observable_17 : decode cL_observable 17 = .ok (.ireturn, 1) := by decide +kernel
set_option maxRecDepth 20000 in
theorem ggL_critical_X4_isCritical : GoodIn wsL_critical wsX4_isCritical := goodIn_ca (goodIn_r _ [7, 8, 9, 10, 11, 6, 12, 13, 14, 15, 16, 17, 18, 19, 20, 21, 22, 23, 24, 25, 26, 27, 28, 29, 30, 31, 32, 33, 34, 35, 36, 37, 38, 39, 40, 41, 42, 43, 44, 45, 46, 47, 48, 49, 50, 51, 52, 53, 54, 55, 56, 57, 58, 59, 60, 61, 62, 63, 64, 65, 66, 67, 68, 69, 70, 71, 72, 73, 74, 75, 76, 77, 78, 79, 80, 81, 82, 83, 84, 85, 86, 87, 88, 89, 90, 91, 92, 93, 94] (by decide +kernel) (by decide +kernel)) (goodIn_sub (fun _ h => List.mem_cons_of_mem _ (List.mem_append_right _ h)) (by decide +kernel))
set_option maxRecDepth 20000 in
theorem gL_critical_X4_isCritical : GoodIn wsL_critical (wsV RL 51 RX4 yX4_isCritical wsX4_isCritical) := goodIn_app (goodIn_of _ (by decide +kernel)) ggL_critical_X4_isCritical
theorem dL_critical_0 : decode cL_critical 0 = .ok (.aload_n 0, 1) := by decide +kernel
theorem dL_critical_1 : decode cL_critical 1 = .ok (.iload_n 1, 1) := by decide +kernel
theorem dL_critical_2 : decode cL_critical 2 = .ok (.invokevirtual 51, 3) := by decide +kernel
theorem dL_critical_5 : decode cL_critical 5 = .ok (.ifCond .eq 7, 3) := by decide +kernel
theorem dL_critical_8 : decode cL_critical 8 = .ok (.iconst 1, 1) := by decide +kernel
theorem dL_critical_9 : decode cL_critical 9 = .ok (.goto 4, 3) := by decide +kernel
theorem dL_critical_12 : decode cL_critical 12 = .ok (.iconst 0, 1) := by decide +kernel
theorem dL_critical_13 : decode cL_critical 13 = .ok (.ireturn, 1) := by decide +kernel
theorem dL_critical_14 : decode cL_critical 14 = .ok (.astore_n 2, 1) := by decide +kernel
theorem dL_critical_15 : decode cL_critical 15 = .ok (.ldc 15, 2) := by decide +kernel
theorem dL_critical_17 : decode cL_critical 17 = .ok (.ireturn, 1) := by decide +kernel
set_option maxRecDepth 20000 in
theorem ggL_top_X4_angleNumerator : GoodIn wsL_top wsX4_angleNumerator := goodIn_ca (goodIn_ca (goodIn_r _ [9, 10, 11, 12, 13, 8, 14, 15, 16, 17, 18, 19, 20, 21, 22, 23, 24, 25, 26, 27, 28, 29, 30, 31, 32, 33, 34, 35, 36, 37, 38, 39, 40, 41, 42, 43, 44, 45, 46, 47, 48, 49, 50, 51, 52, 53, 54, 55, 56, 57, 58, 59, 60, 61, 62, 63, 64, 65, 66, 67, 68, 69, 70, 71, 72, 73, 74, 75, 76, 77, 78, 79, 80, 81, 82, 83, 84, 85, 86, 87, 88, 89, 90, 91, 92, 93, 94, 95, 96, 97, 98, 99, 100, 101, 102, 103, 104, 105, 106, 107, 108, 109, 110, 111, 112, 113, 114, 115, 116, 117, 118, 119, 120, 121, 122, 123, 124, 125, 126, 127, 128, 129, 130, 131, 132, 133, 134, 135, 136, 137, 138, 139, 140, 141, 142, 143, 144, 145, 146, 147, 148, 149, 150, 151, 152, 153, 154, 155, 156, 157, 158, 159, 160, 161, 162] (by decide +kernel) (by decide +kernel)) (goodIn_sub (fun _ h => List.mem_cons_of_mem _ (List.mem_append_left _ (List.mem_append_right _ h))) (by decide +kernel))) (goodIn_sub (fun _ h => List.mem_cons_of_mem _ (List.mem_append_right _ h)) (by decide +kernel))
set_option maxRecDepth 20000 in
theorem gL_top_X4_angleNumerator : GoodIn wsL_top (wsV RL 54 RX4 yX4_angleNumerator wsX4_angleNumerator) := goodIn_app (goodIn_of _ (by decide +kernel)) ggL_top_X4_angleNumerator
theorem dL_top_0 : decode cL_top 0 = .ok (.aload_n 0, 1) := by decide +kernel
theorem dL_top_1 : decode cL_top 1 = .ok (.iload_n 1, 1) := by decide +kernel
theorem dL_top_2 : decode cL_top 2 = .ok (.invokevirtual 54, 3) := by decide +kernel
theorem dL_top_5 : decode cL_top 5 = .ok (.lreturn, 1) := by decide +kernel
theorem dL_top_6 : decode cL_top 6 = .ok (.astore_n 2, 1) := by decide +kernel
theorem dL_top_7 : decode cL_top 7 = .ok (.ldc2_w 58, 3) := by decide +kernel
theorem dL_top_10 : decode cL_top 10 = .ok (.lreturn, 1) := by decide +kernel
theorem dL_top_11 : decode cL_top 11 = .ok (.astore_n 2, 1) := by decide +kernel
theorem dL_top_12 : decode cL_top 12 = .ok (.ldc2_w 60, 3) := by decide +kernel
theorem dL_top_15 : decode cL_top 15 = .ok (.lreturn, 1) := by decide +kernel
set_option maxRecDepth 20000 in
theorem ggL_bottom_X4_angleDenominator : GoodIn wsL_bottom wsX4_angleDenominator := goodIn_ca (goodIn_ca (goodIn_r _ [9, 10, 11, 12, 13, 8, 14, 15, 16, 17, 18, 19, 20, 21, 22, 23, 24, 25, 26, 27, 28, 29, 30, 31, 32, 33, 34, 35, 36, 37, 38, 39, 40, 41, 42, 43, 44, 45, 46, 47, 48, 49, 50, 51, 52, 53, 54, 55, 56, 57, 58, 59, 60, 61, 62, 63, 64, 65, 66, 67, 68, 69, 70, 71, 72, 73, 74, 75, 76, 77, 78, 79, 80, 81, 82, 83, 84, 85, 86, 87, 88, 89, 90, 91, 92, 93, 94, 95, 96, 97, 98, 99, 100, 101, 102, 103, 104, 105, 106, 107, 108, 109, 110, 111, 112, 113, 114, 115, 116, 117, 118, 119, 120, 121, 122, 123, 124, 125, 126, 127, 128, 129, 130, 131, 132, 133, 134, 135, 136, 137, 138, 139, 140, 141, 142, 143, 144, 145, 146, 147, 148, 149, 150, 151, 152, 153, 154, 155, 156, 157, 158, 159, 160, 161, 162] (by decide +kernel) (by decide +kernel)) (goodIn_sub (fun _ h => List.mem_cons_of_mem _ (List.mem_append_left _ (List.mem_append_right _ h))) (by decide +kernel))) (goodIn_sub (fun _ h => List.mem_cons_of_mem _ (List.mem_append_right _ h)) (by decide +kernel))
set_option maxRecDepth 20000 in
theorem gL_bottom_X4_angleDenominator : GoodIn wsL_bottom (wsV RL 62 RX4 yX4_angleDenominator wsX4_angleDenominator) := goodIn_app (goodIn_of _ (by decide +kernel)) ggL_bottom_X4_angleDenominator
theorem dL_bottom_0 : decode cL_bottom 0 = .ok (.aload_n 0, 1) := by decide +kernel
theorem dL_bottom_1 : decode cL_bottom 1 = .ok (.iload_n 1, 1) := by decide +kernel
theorem dL_bottom_2 : decode cL_bottom 2 = .ok (.invokevirtual 62, 3) := by decide +kernel
theorem dL_bottom_5 : decode cL_bottom 5 = .ok (.lreturn, 1) := by decide +kernel
theorem dL_bottom_6 : decode cL_bottom 6 = .ok (.astore_n 2, 1) := by decide +kernel
theorem dL_bottom_7 : decode cL_bottom 7 = .ok (.ldc2_w 58, 3) := by decide +kernel
theorem dL_bottom_10 : decode cL_bottom 10 = .ok (.lreturn, 1) := by decide +kernel
theorem dL_bottom_11 : decode cL_bottom 11 = .ok (.astore_n 2, 1) := by decide +kernel
theorem dL_bottom_12 : decode cL_bottom 12 = .ok (.ldc2_w 60, 3) := by decide +kernel
theorem dL_bottom_15 : decode cL_bottom 15 = .ok (.lreturn, 1) := by decide +kernel
set_option maxRecDepth 20000 in
theorem ggL_over_X4_residualNumerator : GoodIn wsL_over wsX4_residualNumerator := goodIn_ca (goodIn_ca (goodIn_r _ [9, 10, 11, 12, 13, 8, 14, 15, 16, 17, 18, 19, 20, 21, 22, 23, 24, 25, 26, 27, 28, 29, 30, 31, 32, 33, 34, 35, 36, 37, 38, 39, 40, 41, 42, 43, 44, 45, 46, 47, 48, 49, 50, 51, 52, 53, 54, 55, 56, 57, 58, 59, 60, 61, 62, 63, 64, 65, 66, 67, 68, 69, 70, 71, 72, 73, 74, 75, 76, 77, 78, 79, 80, 81, 82, 83, 84, 85, 86, 87, 88, 89, 90, 91, 92, 93, 94, 95, 96, 97, 98, 99, 100, 101, 102, 103, 104, 105, 106, 107, 108, 109, 110, 111, 112, 113, 114, 115, 116, 117, 118, 119, 120, 121, 122, 123, 124, 125, 126, 127, 128, 129, 130, 131, 132, 133, 134, 135, 136, 137, 138, 139, 140, 141, 142, 143, 144, 145, 146, 147, 148, 149, 150, 151, 152, 153, 154, 155, 156, 157, 158, 159, 160, 161, 162, 163, 164, 165, 166, 167] (by decide +kernel) (by decide +kernel)) (goodIn_sub (fun _ h => List.mem_cons_of_mem _ (List.mem_append_left _ (List.mem_append_right _ h))) (by decide +kernel))) (goodIn_sub (fun _ h => List.mem_cons_of_mem _ (List.mem_append_right _ h)) (by decide +kernel))
set_option maxRecDepth 20000 in
theorem gL_over_X4_residualNumerator : GoodIn wsL_over (wsV RL 65 RX4 yX4_residualNumerator wsX4_residualNumerator) := goodIn_app (goodIn_of _ (by decide +kernel)) ggL_over_X4_residualNumerator
theorem dL_over_0 : decode cL_over 0 = .ok (.aload_n 0, 1) := by decide +kernel
theorem dL_over_1 : decode cL_over 1 = .ok (.iload_n 1, 1) := by decide +kernel
theorem dL_over_2 : decode cL_over 2 = .ok (.invokevirtual 65, 3) := by decide +kernel
theorem dL_over_5 : decode cL_over 5 = .ok (.lreturn, 1) := by decide +kernel
theorem dL_over_6 : decode cL_over 6 = .ok (.astore_n 2, 1) := by decide +kernel
theorem dL_over_7 : decode cL_over 7 = .ok (.ldc2_w 58, 3) := by decide +kernel
theorem dL_over_10 : decode cL_over 10 = .ok (.lreturn, 1) := by decide +kernel
theorem dL_over_11 : decode cL_over 11 = .ok (.astore_n 2, 1) := by decide +kernel
theorem dL_over_12 : decode cL_over 12 = .ok (.ldc2_w 60, 3) := by decide +kernel
theorem dL_over_15 : decode cL_over 15 = .ok (.lreturn, 1) := by decide +kernel
set_option maxRecDepth 20000 in
theorem ggL_under_X4_residualDenominator : GoodIn wsL_under wsX4_residualDenominator := goodIn_ca (goodIn_ca (goodIn_r _ [9, 10, 11, 12, 13, 8, 14, 15, 16, 17, 18, 19, 20, 21, 22, 23, 24, 25, 26, 27, 28, 29, 30, 31, 32, 33, 34, 35, 36, 37, 38, 39, 40, 41, 42, 43, 44, 45, 46, 47, 48, 49, 50, 51, 52, 53, 54, 55, 56, 57, 58, 59, 60, 61, 62, 63, 64, 65, 66, 67, 68, 69, 70, 71, 72, 73, 74, 75, 76, 77, 78, 79, 80, 81, 82, 83, 84, 85, 86, 87, 88, 89, 90, 91, 92, 93, 94, 95, 96, 97, 98, 99, 100, 101, 102, 103, 104, 105, 106, 107, 108, 109, 110, 111, 112, 113, 114, 115, 116, 117, 118, 119, 120, 121, 122, 123, 124, 125, 126, 127, 128, 129, 130, 131, 132, 133, 134, 135, 136, 137, 138, 139, 140, 141, 142, 143, 144, 145, 146, 147, 148, 149, 150, 151, 152, 153, 154, 155, 156, 157, 158, 159, 160, 161, 162, 163, 164, 165, 166, 167] (by decide +kernel) (by decide +kernel)) (goodIn_sub (fun _ h => List.mem_cons_of_mem _ (List.mem_append_left _ (List.mem_append_right _ h))) (by decide +kernel))) (goodIn_sub (fun _ h => List.mem_cons_of_mem _ (List.mem_append_right _ h)) (by decide +kernel))
set_option maxRecDepth 20000 in
theorem gL_under_X4_residualDenominator : GoodIn wsL_under (wsV RL 68 RX4 yX4_residualDenominator wsX4_residualDenominator) := goodIn_app (goodIn_of _ (by decide +kernel)) ggL_under_X4_residualDenominator
theorem dL_under_0 : decode cL_under 0 = .ok (.aload_n 0, 1) := by decide +kernel
theorem dL_under_1 : decode cL_under 1 = .ok (.iload_n 1, 1) := by decide +kernel
theorem dL_under_2 : decode cL_under 2 = .ok (.invokevirtual 68, 3) := by decide +kernel
theorem dL_under_5 : decode cL_under 5 = .ok (.lreturn, 1) := by decide +kernel
theorem dL_under_6 : decode cL_under 6 = .ok (.astore_n 2, 1) := by decide +kernel
theorem dL_under_7 : decode cL_under 7 = .ok (.ldc2_w 58, 3) := by decide +kernel
theorem dL_under_10 : decode cL_under 10 = .ok (.lreturn, 1) := by decide +kernel
theorem dL_under_11 : decode cL_under 11 = .ok (.astore_n 2, 1) := by decide +kernel
theorem dL_under_12 : decode cL_under 12 = .ok (.ldc2_w 60, 3) := by decide +kernel
theorem dL_under_15 : decode cL_under 15 = .ok (.lreturn, 1) := by decide +kernel
set_option maxRecDepth 20000 in
theorem ggL_worst_X4_worst : GoodIn wsL_worst wsX4_worst := goodIn_ca (goodIn_ca (goodIn_r _ [9, 10, 11, 12, 13, 14, 8, 15, 16, 17, 18, 19, 20, 21, 22, 23, 24, 25, 26, 27, 28, 29, 30, 31, 32, 33, 34, 35, 36, 37, 38, 39, 40, 41, 42, 43, 44, 45, 46, 47, 48, 49, 50, 51, 52, 53, 54, 55, 56, 57, 58, 59, 60, 61, 62, 63, 64, 65, 66, 67, 68, 69, 70, 71, 72, 73, 74, 75, 76, 77, 78, 79, 80, 81, 82, 83, 84, 85, 86, 87, 88, 89, 90, 91, 92, 93, 94, 95, 96, 97, 98, 99, 100, 101, 102, 103, 104, 105, 106, 107, 108, 109, 110, 111, 112, 113, 114, 115, 116, 117, 118, 119, 120, 121, 122, 123, 124, 125, 126, 127, 128, 129, 130, 131, 132, 133, 134, 135, 136, 137, 138, 139, 140, 141, 142, 143, 144, 145, 146, 147, 148, 149, 150, 151, 152, 153, 154, 155, 156, 157, 158, 159, 160, 161, 162, 163, 164, 165, 166, 167, 168] (by decide +kernel) (by decide +kernel)) (goodIn_sub (fun _ h => List.mem_cons_of_mem _ (List.mem_append_left _ (List.mem_append_right _ h))) (by decide +kernel))) (goodIn_sub (fun _ h => List.mem_cons_of_mem _ (List.mem_append_right _ h)) (by decide +kernel))
set_option maxRecDepth 20000 in
theorem gL_worst_X4_worst : GoodIn wsL_worst (wsV RL 71 RX4 yX4_worst wsX4_worst) := goodIn_app (goodIn_of _ (by decide +kernel)) ggL_worst_X4_worst
theorem dL_worst_0 : decode cL_worst 0 = .ok (.aload_n 0, 1) := by decide +kernel
theorem dL_worst_1 : decode cL_worst 1 = .ok (.iload_n 1, 1) := by decide +kernel
theorem dL_worst_2 : decode cL_worst 2 = .ok (.invokevirtual 71, 3) := by decide +kernel
theorem dL_worst_5 : decode cL_worst 5 = .ok (.ireturn, 1) := by decide +kernel
theorem dL_worst_6 : decode cL_worst 6 = .ok (.astore_n 2, 1) := by decide +kernel
theorem dL_worst_7 : decode cL_worst 7 = .ok (.ldc 15, 2) := by decide +kernel
theorem dL_worst_9 : decode cL_worst 9 = .ok (.ireturn, 1) := by decide +kernel
theorem dL_worst_10 : decode cL_worst 10 = .ok (.astore_n 2, 1) := by decide +kernel
theorem dL_worst_11 : decode cL_worst 11 = .ok (.ldc 21, 2) := by decide +kernel
theorem dL_worst_13 : decode cL_worst 13 = .ok (.ireturn, 1) := by decide +kernel
set_option maxRecDepth 20000 in
theorem ggL_cleans_X4_clean : GoodIn wsL_cleans wsX4_clean := goodIn_ca (goodIn_ca (goodIn_ca (goodIn_r _ [11, 12, 13, 14, 15, 16, 17, 10, 18, 19, 20, 21, 22, 23, 24, 25, 26, 27, 28, 29, 30, 31, 32, 33, 34, 35, 36, 37, 38, 39, 40, 41, 42, 43, 44, 45, 46, 47, 48, 49, 50, 51, 52, 53, 54, 55, 56, 57, 58, 59, 60, 61, 62, 63, 64, 65, 66, 67, 68, 69, 70, 71, 72, 73, 74, 75, 76, 77, 78, 79, 80, 81, 82, 83, 84, 85, 86, 87, 88, 89, 90, 91, 92, 93, 94, 95, 96, 97, 98, 99, 100, 101, 102, 103, 104, 105, 106, 107, 108, 109, 110, 111, 112, 113, 114, 115, 116, 117, 118, 119, 120, 121, 122, 123, 124, 125, 126, 127, 128, 129, 130, 131, 132, 133, 134, 135, 136, 137, 138, 139, 140, 141, 142, 143, 144, 145, 146, 147, 148, 149, 150, 151, 152, 153, 154, 155, 156, 157, 158, 159, 160, 161, 162, 163, 164, 165, 166, 167, 168, 169, 170, 171, 172, 173, 174, 175, 176, 177, 178, 179, 180, 181] (by decide +kernel) (by decide +kernel)) (goodIn_sub (fun _ h => List.mem_cons_of_mem _ (List.mem_append_left _ (List.mem_append_left _ (List.mem_append_right _ h)))) (by decide +kernel))) (goodIn_sub (fun _ h => List.mem_cons_of_mem _ (List.mem_append_left _ (List.mem_append_right _ h))) (by decide +kernel))) (goodIn_sub (fun _ h => List.mem_cons_of_mem _ (List.mem_append_right _ h)) (by decide +kernel))
set_option maxRecDepth 20000 in
theorem gL_cleans_X4_clean : GoodIn wsL_cleans (wsV RL 74 RX4 yX4_clean wsX4_clean) := goodIn_app (goodIn_of _ (by decide +kernel)) ggL_cleans_X4_clean
theorem dL_cleans_0 : decode cL_cleans 0 = .ok (.aload_n 0, 1) := by decide +kernel
theorem dL_cleans_1 : decode cL_cleans 1 = .ok (.iload_n 1, 1) := by decide +kernel
theorem dL_cleans_2 : decode cL_cleans 2 = .ok (.iload_n 2, 1) := by decide +kernel
theorem dL_cleans_3 : decode cL_cleans 3 = .ok (.invokevirtual 74, 3) := by decide +kernel
theorem dL_cleans_6 : decode cL_cleans 6 = .ok (.ireturn, 1) := by decide +kernel
theorem dL_cleans_7 : decode cL_cleans 7 = .ok (.astore_n 3, 1) := by decide +kernel
theorem dL_cleans_8 : decode cL_cleans 8 = .ok (.ldc 15, 2) := by decide +kernel
theorem dL_cleans_10 : decode cL_cleans 10 = .ok (.ireturn, 1) := by decide +kernel
theorem dL_cleans_11 : decode cL_cleans 11 = .ok (.astore_n 3, 1) := by decide +kernel
theorem dL_cleans_12 : decode cL_cleans 12 = .ok (.ldc 18, 2) := by decide +kernel
theorem dL_cleans_14 : decode cL_cleans 14 = .ok (.ireturn, 1) := by decide +kernel
theorem dL_cleans_15 : decode cL_cleans 15 = .ok (.astore_n 3, 1) := by decide +kernel
theorem dL_cleans_16 : decode cL_cleans 16 = .ok (.ldc 21, 2) := by decide +kernel
theorem dL_cleans_18 : decode cL_cleans 18 = .ok (.ireturn, 1) := by decide +kernel
theorem dL_drawn_0 : decode cL_drawn 0 = .ok (.iload_n 1, 1) := by decide +kernel
theorem dL_drawn_1 : decode cL_drawn 1 = .ok (.aload_n 0, 1) := by decide +kernel
theorem dL_drawn_2 : decode cL_drawn 2 = .ok (.arraylength, 1) := by decide +kernel
theorem dL_drawn_3 : decode cL_drawn 3 = .ok (.if_icmp .ge 9, 3) := by decide +kernel
theorem dL_drawn_6 : decode cL_drawn 6 = .ok (.aload_n 0, 1) := by decide +kernel
theorem dL_drawn_7 : decode cL_drawn 7 = .ok (.iload_n 1, 1) := by decide +kernel
theorem dL_drawn_8 : decode cL_drawn 8 = .ok (.iaload, 1) := by decide +kernel
theorem dL_drawn_9 : decode cL_drawn 9 = .ok (.goto 13, 3) := by decide +kernel
theorem dL_drawn_12 : decode cL_drawn 12 = .ok (.ldc 77, 2) := by decide +kernel
theorem dL_drawn_14 : decode cL_drawn 14 = .ok (.iload_n 1, 1) := by decide +kernel
theorem dL_drawn_15 : decode cL_drawn 15 = .ok (.iconst 3, 1) := by decide +kernel
theorem dL_drawn_16 : decode cL_drawn 16 = .ok (.iadd, 1) := by decide +kernel
theorem dL_drawn_17 : decode cL_drawn 17 = .ok (.imul, 1) := by decide +kernel
theorem dL_drawn_18 : decode cL_drawn 18 = .ok (.sipush 13691, 3) := by decide +kernel
theorem dL_drawn_21 : decode cL_drawn 21 = .ok (.iadd, 1) := by decide +kernel
theorem dL_drawn_22 : decode cL_drawn 22 = .ok (.ldc 78, 2) := by decide +kernel
theorem dL_drawn_24 : decode cL_drawn 24 = .ok (.iand, 1) := by decide +kernel
theorem dL_drawn_25 : decode cL_drawn 25 = .ok (.ireturn, 1) := by decide +kernel
set_option maxRecDepth 20000 in
theorem ggL_refuses_L_lines : GoodIn wsL_refuses wsL_lines := goodIn_ca (goodIn_ca (goodIn_ca (goodIn_r _ [9, 10, 11, 12, 1, 2, 4, 13, 14, 15, 16, 17, 18, 19, 20, 21, 22, 23, 24, 25, 26, 27, 28, 29, 30, 31, 32, 33, 34, 35, 36, 37, 38, 39, 40, 41, 42, 43, 44, 45, 46, 47, 48, 49, 50, 51, 52, 53, 54, 55, 56, 57, 58, 59, 60, 61, 62, 63, 64, 65, 66, 67, 68, 69, 70, 71, 72, 73, 74, 75, 76, 77, 78, 355, 356, 357, 358, 359, 360, 361, 362, 363, 364, 365, 366, 367] (by decide +kernel) (by decide +kernel)) (goodIn_sub (fun _ h => List.mem_cons_of_mem _ (List.mem_append_left _ (List.mem_append_left _ (List.mem_append_right _ h)))) (by decide +kernel))) (goodIn_sub (fun _ h => List.mem_cons_of_mem _ (List.mem_append_left _ (List.mem_append_right _ h))) (by decide +kernel))) (goodIn_sub (fun _ h => List.mem_cons_of_mem _ (List.mem_append_right _ h)) (by decide +kernel))
set_option maxRecDepth 20000 in
theorem gL_refuses_L_lines : GoodIn wsL_refuses (va_wsS RL 79 yL_lines wsL_lines) := goodIn_app (goodIn_of _ (by decide +kernel)) ggL_refuses_L_lines
set_option maxRecDepth 20000 in
theorem ggL_refuses_L_breaks : GoodIn wsL_refuses wsL_breaks := goodIn_ca (goodIn_r _ [81, 10, 1, 82, 83, 84, 16, 85, 27, 28, 22, 86, 87, 88, 32, 89, 39, 90, 91, 92, 93, 51, 52, 53, 54, 55, 56, 57, 58, 59, 60, 44, 45, 61, 62, 63, 64, 65, 66, 67, 68, 69, 70, 71, 72, 50, 73, 74, 75, 76, 77, 78, 355, 356, 357, 358, 359, 360, 361, 362, 363, 364, 365, 366, 367] (by decide +kernel) (by decide +kernel)) (goodIn_sub (fun _ h => List.mem_cons_of_mem _ (List.mem_append_right _ h)) (by decide +kernel))
set_option maxRecDepth 20000 in
theorem gL_refuses_L_breaks : GoodIn wsL_refuses (va_wsS RL 85 yL_breaks wsL_breaks) := goodIn_app (goodIn_of _ (by decide +kernel)) ggL_refuses_L_breaks
set_option maxRecDepth 20000 in
theorem ggL_refuses_L_reference : GoodIn wsL_refuses wsL_reference := goodIn_ca (goodIn_r _ [96, 10, 1, 97, 98, 99, 16, 100, 22, 23, 24, 25, 26, 27, 28, 29, 30, 31, 32, 33, 34, 355, 356, 357, 358, 359, 360, 361, 362, 363, 364, 365, 366, 367] (by decide +kernel) (by decide +kernel)) (goodIn_sub (fun _ h => List.mem_cons_of_mem _ (List.mem_append_right _ h)) (by decide +kernel))
set_option maxRecDepth 20000 in
theorem gL_refuses_L_reference : GoodIn wsL_refuses (va_wsS RL 89 yL_reference wsL_reference) := goodIn_app (goodIn_of _ (by decide +kernel)) ggL_refuses_L_reference
set_option maxRecDepth 20000 in
theorem ggL_refuses_L_adds : GoodIn wsL_refuses wsL_adds := goodIn_ca (goodIn_ca (goodIn_ca (goodIn_r _ [103, 11, 10, 12, 2, 1, 4, 104, 105, 106, 16, 107, 18, 19, 27, 28, 20, 21, 22, 108, 109, 110, 111, 112, 86, 87, 88, 32, 89, 39, 29, 30, 31, 33, 34, 113, 114, 115, 116, 117, 118, 119, 120, 121, 122, 123, 124, 125, 126, 127, 355, 356, 357, 358, 359, 360, 361, 362, 363, 364, 365, 366, 367, 368, 369, 370, 371, 372, 373, 374] (by decide +kernel) (by decide +kernel)) (goodIn_sub (fun _ h => List.mem_cons_of_mem _ (List.mem_append_left _ (List.mem_append_left _ (List.mem_append_right _ h)))) (by decide +kernel))) (goodIn_sub (fun _ h => List.mem_cons_of_mem _ (List.mem_append_right _ h)) (by decide +kernel))) (goodIn_sub (fun _ h => List.mem_cons_of_mem _ (List.mem_append_left _ (List.mem_append_right _ h))) (by decide +kernel))
set_option maxRecDepth 20000 in
theorem gL_refuses_L_adds : GoodIn wsL_refuses (va_wsS RL 92 yL_adds wsL_adds) := goodIn_app (goodIn_of _ (by decide +kernel)) ggL_refuses_L_adds
set_option maxRecDepth 20000 in
theorem ggL_refuses_L_reads : GoodIn wsL_refuses wsL_reads := goodIn_ca (goodIn_ca (goodIn_r _ [130, 10, 11, 1, 2, 131, 132, 133, 16, 134, 108, 135, 136, 137, 138, 27, 28, 139, 140, 141, 116, 142, 118, 109, 110, 111, 112, 18, 19, 355, 356, 357, 358, 368, 369, 370, 371, 372, 373, 374] (by decide +kernel) (by decide +kernel)) (goodIn_sub (fun _ h => List.mem_cons_of_mem _ (List.mem_append_right _ h)) (by decide +kernel))) (goodIn_sub (fun _ h => List.mem_cons_of_mem _ (List.mem_append_left _ (List.mem_append_left _ (List.mem_append_right _ h)))) (by decide +kernel))
set_option maxRecDepth 20000 in
theorem gL_refuses_L_reads : GoodIn wsL_refuses (va_wsS RL 96 yL_reads wsL_reads) := goodIn_app (goodIn_of _ (by decide +kernel)) ggL_refuses_L_reads
set_option maxRecDepth 20000 in
theorem ggL_refuses_L_uses : GoodIn wsL_refuses wsL_uses := goodIn_ca (goodIn_r _ [145, 10, 1, 146, 147, 148, 16, 149, 108, 135, 136, 137, 138, 27, 28, 139, 140, 141, 116, 142, 118, 355, 356, 357, 358, 368, 369, 370, 371, 372, 373, 374] (by decide +kernel) (by decide +kernel)) (goodIn_sub (fun _ h => List.mem_cons_of_mem _ (List.mem_append_right _ h)) (by decide +kernel))
set_option maxRecDepth 20000 in
theorem gL_refuses_L_uses : GoodIn wsL_refuses (va_wsS RL 100 yL_uses wsL_uses) := goodIn_app (goodIn_of _ (by decide +kernel)) ggL_refuses_L_uses
set_option maxRecDepth 20000 in
theorem ggL_refuses_L_counts : GoodIn wsL_refuses wsL_counts := goodIn_ca (goodIn_r _ [152, 10, 1, 153, 154, 155, 16, 156, 108, 135, 136, 137, 138, 27, 28, 139, 140, 141, 116, 142, 118, 157, 158, 159, 160, 127, 161, 162, 163, 164, 124, 123, 165, 355, 356, 357, 358, 368, 369, 370, 371, 372, 373, 374, 359, 360, 361, 362, 363, 364, 365, 366, 367] (by decide +kernel) (by decide +kernel)) (goodIn_sub (fun _ h => List.mem_cons_of_mem _ (List.mem_append_right _ h)) (by decide +kernel))
set_option maxRecDepth 20000 in
theorem gL_refuses_L_counts : GoodIn wsL_refuses (va_wsS RL 103 yL_counts wsL_counts) := goodIn_app (goodIn_of _ (by decide +kernel)) ggL_refuses_L_counts
set_option maxRecDepth 20000 in
theorem ggL_refuses_L_rank : GoodIn wsL_refuses wsL_rank := goodIn_ca (goodIn_r _ [168, 10, 1, 169, 170, 171, 16, 172, 173, 22, 23, 24, 25, 26, 27, 28, 29, 30, 31, 32, 33, 34, 174, 175, 176, 177, 178, 179, 180, 181, 182, 183, 184, 185, 158, 159, 116, 160, 127, 161, 162, 163, 164, 124, 123, 165, 186, 187, 188, 189, 190, 191, 192, 193, 194, 195, 196, 197, 355, 356, 357, 358, 359, 360, 361, 362, 363, 364, 365, 366, 367, 375, 376, 377, 368, 369, 370, 371, 372, 373, 374] (by decide +kernel) (by decide +kernel)) (goodIn_sub (fun _ h => List.mem_cons_of_mem _ (List.mem_append_right _ h)) (by decide +kernel))
set_option maxRecDepth 20000 in
theorem gL_refuses_L_rank : GoodIn wsL_refuses (va_wsS RL 106 yL_rank wsL_rank) := goodIn_app (goodIn_of _ (by decide +kernel)) ggL_refuses_L_rank
set_option maxRecDepth 20000 in
theorem ggL_refuses_L_observable : GoodIn wsL_refuses wsL_observable := goodIn_ca (goodIn_r _ [200, 10, 1, 201, 202, 203, 16, 204, 173, 22, 23, 24, 25, 26, 27, 28, 29, 30, 31, 32, 33, 34, 205, 206, 207, 177, 208, 209, 210, 175, 176, 178, 179, 180, 181, 182, 183, 184, 185, 158, 159, 116, 160, 127, 161, 162, 163, 164, 124, 123, 165, 186, 187, 188, 189, 190, 191, 192, 193, 194, 195, 196, 197, 211, 212, 213, 214, 215, 216, 217, 218, 60, 355, 356, 357, 358, 359, 360, 361, 362, 363, 364, 365, 366, 367, 375, 376, 377, 368, 369, 370, 371, 372, 373, 374] (by decide +kernel) (by decide +kernel)) (goodIn_sub (fun _ h => List.mem_cons_of_mem _ (List.mem_append_right _ h)) (by decide +kernel))
set_option maxRecDepth 20000 in
theorem gL_refuses_L_observable : GoodIn wsL_refuses (va_wsS RL 108 yL_observable wsL_observable) := goodIn_app (goodIn_of _ (by decide +kernel)) ggL_refuses_L_observable
set_option maxRecDepth 20000 in
theorem ggL_refuses_L_critical : GoodIn wsL_refuses wsL_critical := goodIn_ca (goodIn_r _ [221, 10, 1, 222, 223, 224, 16, 225, 173, 135, 136, 137, 138, 27, 28, 108, 139, 140, 141, 116, 142, 118, 226, 227, 228, 177, 229, 183, 209, 185, 158, 159, 160, 127, 161, 162, 163, 164, 124, 123, 165, 211, 212, 213, 32, 214, 215, 216, 217, 218, 60, 210, 175, 176, 178, 179, 180, 181, 182, 184, 186, 187, 188, 189, 190, 191, 192, 193, 194, 195, 196, 197, 355, 356, 357, 358, 368, 369, 370, 371, 372, 373, 374, 375, 376, 377, 359, 360, 361, 362, 363, 364, 365, 366, 367] (by decide +kernel) (by decide +kernel)) (goodIn_sub (fun _ h => List.mem_cons_of_mem _ (List.mem_append_right _ h)) (by decide +kernel))
set_option maxRecDepth 20000 in
theorem gL_refuses_L_critical : GoodIn wsL_refuses (va_wsS RL 111 yL_critical wsL_critical) := goodIn_app (goodIn_of _ (by decide +kernel)) ggL_refuses_L_critical
set_option maxRecDepth 20000 in
theorem ggL_refuses_L_top : GoodIn wsL_refuses wsL_top := goodIn_ca (goodIn_ca (goodIn_r _ [232, 10, 12, 3, 5, 233, 234, 235, 16, 236, 237, 238, 239, 240, 241, 22, 23, 24, 25, 26, 27, 28, 29, 30, 31, 32, 33, 34, 242, 243, 244, 245, 20, 21, 173, 205, 206, 207, 177, 208, 209, 210, 175, 176, 178, 179, 180, 181, 182, 183, 184, 185, 158, 159, 116, 160, 127, 161, 162, 163, 164, 124, 123, 165, 186, 187, 188, 189, 190, 191, 192, 193, 194, 195, 196, 197, 211, 212, 213, 214, 215, 216, 217, 218, 60, 246, 247, 248, 249, 250, 251, 252, 253, 254, 255, 256, 257, 258, 259, 260, 261, 262, 263, 264, 265, 266, 267, 268, 269, 270, 271, 272, 273, 274, 275, 276, 277, 278, 279, 280, 281, 282, 283, 284, 285, 286, 287, 288, 67, 289, 290, 291, 292, 355, 356, 357, 358, 378, 379, 380, 381, 382, 383, 384, 359, 360, 361, 362, 363, 364, 365, 366, 367, 375, 376, 377, 368, 369, 370, 371, 372, 373, 374] (by decide +kernel) (by decide +kernel)) (goodIn_sub (fun _ h => List.mem_cons_of_mem _ (List.mem_append_right _ h)) (by decide +kernel))) (goodIn_sub (fun _ h => List.mem_cons_of_mem _ (List.mem_append_left _ (List.mem_append_right _ h))) (by decide +kernel))
set_option maxRecDepth 20000 in
theorem gL_refuses_L_top : GoodIn wsL_refuses (va_wsS RL 114 yL_top wsL_top) := goodIn_app (goodIn_of _ (by decide +kernel)) ggL_refuses_L_top
set_option maxRecDepth 20000 in
theorem ggL_refuses_L_bottom : GoodIn wsL_refuses wsL_bottom := goodIn_ca (goodIn_ca (goodIn_r _ [295, 10, 12, 3, 5, 296, 297, 298, 16, 299, 237, 238, 239, 240, 241, 22, 23, 24, 25, 26, 27, 28, 29, 30, 31, 32, 33, 34, 242, 243, 244, 245, 20, 21, 173, 205, 206, 207, 177, 208, 209, 210, 175, 176, 178, 179, 180, 181, 182, 183, 184, 185, 158, 159, 116, 160, 127, 161, 162, 163, 164, 124, 123, 165, 186, 187, 188, 189, 190, 191, 192, 193, 194, 195, 196, 197, 211, 212, 213, 214, 215, 216, 217, 218, 60, 246, 247, 248, 249, 250, 251, 252, 253, 254, 255, 256, 257, 258, 259, 260, 261, 262, 263, 264, 265, 266, 267, 268, 269, 270, 271, 272, 273, 274, 275, 276, 277, 278, 279, 280, 281, 282, 283, 284, 285, 286, 287, 288, 67, 289, 290, 291, 292, 355, 356, 357, 358, 378, 379, 380, 381, 382, 383, 384, 359, 360, 361, 362, 363, 364, 365, 366, 367, 375, 376, 377, 368, 369, 370, 371, 372, 373, 374] (by decide +kernel) (by decide +kernel)) (goodIn_sub (fun _ h => List.mem_cons_of_mem _ (List.mem_append_right _ h)) (by decide +kernel))) (goodIn_sub (fun _ h => List.mem_cons_of_mem _ (List.mem_append_left _ (List.mem_append_right _ h))) (by decide +kernel))
set_option maxRecDepth 20000 in
theorem gL_refuses_L_bottom : GoodIn wsL_refuses (va_wsS RL 118 yL_bottom wsL_bottom) := goodIn_app (goodIn_of _ (by decide +kernel)) ggL_refuses_L_bottom
set_option maxRecDepth 20000 in
theorem ggL_refuses_L_over : GoodIn wsL_refuses wsL_over := goodIn_ca (goodIn_ca (goodIn_r _ [302, 10, 12, 3, 5, 303, 304, 305, 16, 306, 237, 307, 308, 309, 310, 20, 21, 108, 135, 136, 137, 138, 27, 28, 139, 140, 141, 116, 142, 118, 311, 162, 163, 164, 124, 123, 165, 242, 243, 244, 245, 173, 205, 206, 207, 177, 208, 209, 210, 175, 176, 178, 179, 180, 181, 182, 183, 184, 185, 158, 159, 160, 127, 161, 186, 187, 188, 189, 190, 191, 192, 193, 194, 195, 196, 197, 211, 212, 213, 32, 214, 215, 216, 217, 218, 60, 246, 247, 248, 249, 250, 251, 252, 253, 254, 255, 256, 257, 258, 259, 260, 261, 262, 263, 264, 265, 266, 267, 268, 269, 270, 271, 272, 273, 274, 275, 276, 277, 278, 279, 280, 281, 282, 283, 312, 313, 314, 315, 284, 285, 286, 287, 288, 67, 289, 290, 291, 292, 355, 356, 357, 358, 378, 379, 380, 381, 382, 383, 384, 368, 369, 370, 371, 372, 373, 374, 359, 360, 361, 362, 363, 364, 365, 366, 367, 375, 376, 377] (by decide +kernel) (by decide +kernel)) (goodIn_sub (fun _ h => List.mem_cons_of_mem _ (List.mem_append_left _ (List.mem_append_right _ h))) (by decide +kernel))) (goodIn_sub (fun _ h => List.mem_cons_of_mem _ (List.mem_append_right _ h)) (by decide +kernel))
set_option maxRecDepth 20000 in
theorem gL_refuses_L_over : GoodIn wsL_refuses (va_wsS RL 121 yL_over wsL_over) := goodIn_app (goodIn_of _ (by decide +kernel)) ggL_refuses_L_over
set_option maxRecDepth 20000 in
theorem ggL_refuses_L_under : GoodIn wsL_refuses wsL_under := goodIn_ca (goodIn_ca (goodIn_r _ [318, 10, 12, 3, 5, 319, 320, 321, 16, 322, 237, 307, 308, 309, 310, 20, 21, 108, 135, 136, 137, 138, 27, 28, 139, 140, 141, 116, 142, 118, 311, 162, 163, 164, 124, 123, 165, 242, 243, 244, 245, 173, 205, 206, 207, 177, 208, 209, 210, 175, 176, 178, 179, 180, 181, 182, 183, 184, 185, 158, 159, 160, 127, 161, 186, 187, 188, 189, 190, 191, 192, 193, 194, 195, 196, 197, 211, 212, 213, 32, 214, 215, 216, 217, 218, 60, 246, 247, 248, 249, 250, 251, 252, 253, 254, 255, 256, 257, 258, 259, 260, 261, 262, 263, 264, 265, 266, 267, 268, 269, 270, 271, 272, 273, 274, 275, 276, 277, 278, 279, 280, 281, 282, 283, 312, 313, 314, 315, 284, 285, 286, 287, 288, 67, 289, 290, 291, 292, 355, 356, 357, 358, 378, 379, 380, 381, 382, 383, 384, 368, 369, 370, 371, 372, 373, 374, 359, 360, 361, 362, 363, 364, 365, 366, 367, 375, 376, 377] (by decide +kernel) (by decide +kernel)) (goodIn_sub (fun _ h => List.mem_cons_of_mem _ (List.mem_append_left _ (List.mem_append_right _ h))) (by decide +kernel))) (goodIn_sub (fun _ h => List.mem_cons_of_mem _ (List.mem_append_right _ h)) (by decide +kernel))
set_option maxRecDepth 20000 in
theorem gL_refuses_L_under : GoodIn wsL_refuses (va_wsS RL 124 yL_under wsL_under) := goodIn_app (goodIn_of _ (by decide +kernel)) ggL_refuses_L_under
set_option maxRecDepth 20000 in
theorem ggL_refuses_L_worst : GoodIn wsL_refuses wsL_worst := goodIn_ca (goodIn_ca (goodIn_r _ [325, 10, 12, 1, 4, 326, 327, 328, 16, 329, 237, 22, 238, 239, 240, 241, 23, 24, 25, 26, 27, 28, 29, 30, 31, 32, 33, 34, 242, 243, 244, 245, 20, 21, 173, 205, 206, 207, 177, 208, 209, 210, 175, 176, 178, 179, 180, 181, 182, 183, 184, 185, 158, 159, 116, 160, 127, 161, 162, 163, 164, 124, 123, 165, 186, 187, 188, 189, 190, 191, 192, 193, 194, 195, 196, 197, 211, 212, 213, 214, 215, 216, 217, 218, 60, 246, 247, 248, 249, 250, 251, 252, 253, 254, 255, 256, 257, 258, 259, 260, 261, 262, 263, 264, 265, 266, 267, 268, 269, 270, 271, 272, 273, 274, 275, 276, 277, 278, 279, 280, 281, 282, 283, 330, 331, 332, 333, 334, 335, 336, 337, 338, 288, 67, 289, 339, 313, 314, 315, 355, 356, 357, 358, 359, 360, 361, 362, 363, 364, 365, 366, 367, 375, 376, 377, 368, 369, 370, 371, 372, 373, 374, 378, 379, 380, 381, 382, 383, 384] (by decide +kernel) (by decide +kernel)) (goodIn_sub (fun _ h => List.mem_cons_of_mem _ (List.mem_append_right _ h)) (by decide +kernel))) (goodIn_sub (fun _ h => List.mem_cons_of_mem _ (List.mem_append_left _ (List.mem_append_right _ h))) (by decide +kernel))
set_option maxRecDepth 20000 in
theorem gL_refuses_L_worst : GoodIn wsL_refuses (va_wsS RL 127 yL_worst wsL_worst) := goodIn_app (goodIn_of _ (by decide +kernel)) ggL_refuses_L_worst
set_option maxRecDepth 20000 in
theorem ggL_refuses_L_cleans : GoodIn wsL_refuses wsL_cleans := goodIn_ca (goodIn_ca (goodIn_ca (goodIn_r _ [342, 10, 11, 12, 1, 2, 4, 343, 344, 345, 16, 346, 18, 19, 22, 23, 24, 25, 26, 27, 28, 29, 30, 31, 32, 33, 34, 242, 243, 244, 245, 20, 21, 173, 205, 206, 207, 177, 208, 209, 210, 175, 176, 178, 179, 180, 181, 182, 183, 184, 185, 158, 159, 116, 160, 127, 161, 162, 163, 164, 124, 123, 165, 186, 187, 188, 189, 190, 191, 192, 193, 194, 195, 196, 197, 211, 212, 213, 214, 215, 216, 217, 218, 60, 347, 348, 349, 350, 237, 108, 246, 247, 248, 249, 250, 251, 252, 253, 254, 255, 256, 257, 258, 259, 260, 261, 262, 263, 264, 265, 266, 267, 268, 269, 270, 271, 272, 273, 274, 275, 276, 277, 278, 279, 280, 281, 282, 283, 330, 331, 332, 333, 334, 335, 336, 337, 338, 288, 67, 289, 339, 313, 314, 315, 351, 352, 353, 354, 226, 227, 228, 229, 355, 356, 357, 358, 359, 360, 361, 362, 363, 364, 365, 366, 367, 375, 376, 377, 368, 369, 370, 371, 372, 373, 374, 378, 379, 380, 381, 382, 383, 384] (by decide +kernel) (by decide +kernel)) (goodIn_sub (fun _ h => List.mem_cons_of_mem _ (List.mem_append_left _ (List.mem_append_left _ (List.mem_append_right _ h)))) (by decide +kernel))) (goodIn_sub (fun _ h => List.mem_cons_of_mem _ (List.mem_append_right _ h)) (by decide +kernel))) (goodIn_sub (fun _ h => List.mem_cons_of_mem _ (List.mem_append_left _ (List.mem_append_right _ h))) (by decide +kernel))
set_option maxRecDepth 20000 in
theorem gL_refuses_L_cleans : GoodIn wsL_refuses (va_wsS RL 129 yL_cleans wsL_cleans) := goodIn_app (goodIn_of _ (by decide +kernel)) ggL_refuses_L_cleans
theorem dL_refuses_0 : decode cL_refuses 0 = .ok (.iload_n 2, 1) := by decide +kernel
theorem dL_refuses_1 : decode cL_refuses 1 = .ok (.iconst 2, 1) := by decide +kernel
theorem dL_refuses_2 : decode cL_refuses 2 = .ok (.irem, 1) := by decide +kernel
theorem dL_refuses_3 : decode cL_refuses 3 = .ok (.ifCond .ne 12, 3) := by decide +kernel
theorem dL_refuses_6 : decode cL_refuses 6 = .ok (.iconst (-1), 1) := by decide +kernel
theorem dL_refuses_7 : decode cL_refuses 7 = .ok (.iload_n 2, 1) := by decide +kernel
theorem dL_refuses_8 : decode cL_refuses 8 = .ok (.bipush 50, 2) := by decide +kernel
theorem dL_refuses_10 : decode cL_refuses 10 = .ok (.irem, 1) := by decide +kernel
theorem dL_refuses_11 : decode cL_refuses 11 = .ok (.isub, 1) := by decide +kernel
theorem dL_refuses_12 : decode cL_refuses 12 = .ok (.goto 11, 3) := by decide +kernel
theorem dL_refuses_15 : decode cL_refuses 15 = .ok (.aload_n 1, 1) := by decide +kernel
theorem dL_refuses_16 : decode cL_refuses 16 = .ok (.iconst 0, 1) := by decide +kernel
theorem dL_refuses_17 : decode cL_refuses 17 = .ok (.iaload, 1) := by decide +kernel
theorem dL_refuses_18 : decode cL_refuses 18 = .ok (.iload_n 2, 1) := by decide +kernel
theorem dL_refuses_19 : decode cL_refuses 19 = .ok (.bipush 50, 2) := by decide +kernel
theorem dL_refuses_21 : decode cL_refuses 21 = .ok (.irem, 1) := by decide +kernel
theorem dL_refuses_22 : decode cL_refuses 22 = .ok (.iadd, 1) := by decide +kernel
theorem dL_refuses_23 : decode cL_refuses 23 = .ok (.istore_n 3, 1) := by decide +kernel
theorem dL_refuses_24 : decode cL_refuses 24 = .ok (.iload_n 2, 1) := by decide +kernel
theorem dL_refuses_25 : decode cL_refuses 25 = .ok (.iconst 2, 1) := by decide +kernel
theorem dL_refuses_26 : decode cL_refuses 26 = .ok (.irem, 1) := by decide +kernel
theorem dL_refuses_27 : decode cL_refuses 27 = .ok (.ifCond .ne 12, 3) := by decide +kernel
theorem dL_refuses_30 : decode cL_refuses 30 = .ok (.iconst (-1), 1) := by decide +kernel
theorem dL_refuses_31 : decode cL_refuses 31 = .ok (.iload_n 2, 1) := by decide +kernel
theorem dL_refuses_32 : decode cL_refuses 32 = .ok (.bipush 50, 2) := by decide +kernel
theorem dL_refuses_34 : decode cL_refuses 34 = .ok (.irem, 1) := by decide +kernel
theorem dL_refuses_35 : decode cL_refuses 35 = .ok (.isub, 1) := by decide +kernel
theorem dL_refuses_36 : decode cL_refuses 36 = .ok (.goto 11, 3) := by decide +kernel
theorem dL_refuses_39 : decode cL_refuses 39 = .ok (.aload_n 1, 1) := by decide +kernel
theorem dL_refuses_40 : decode cL_refuses 40 = .ok (.iconst 1, 1) := by decide +kernel
theorem dL_refuses_41 : decode cL_refuses 41 = .ok (.iaload, 1) := by decide +kernel
theorem dL_refuses_42 : decode cL_refuses 42 = .ok (.iload_n 2, 1) := by decide +kernel
theorem dL_refuses_43 : decode cL_refuses 43 = .ok (.bipush 50, 2) := by decide +kernel
theorem dL_refuses_45 : decode cL_refuses 45 = .ok (.irem, 1) := by decide +kernel
theorem dL_refuses_46 : decode cL_refuses 46 = .ok (.iadd, 1) := by decide +kernel
theorem dL_refuses_47 : decode cL_refuses 47 = .ok (.istore 4, 2) := by decide +kernel
theorem dL_refuses_49 : decode cL_refuses 49 = .ok (.iload_n 2, 1) := by decide +kernel
theorem dL_refuses_50 : decode cL_refuses 50 = .ok (.iconst 2, 1) := by decide +kernel
theorem dL_refuses_51 : decode cL_refuses 51 = .ok (.irem, 1) := by decide +kernel
theorem dL_refuses_52 : decode cL_refuses 52 = .ok (.ifCond .ne 12, 3) := by decide +kernel
theorem dL_refuses_55 : decode cL_refuses 55 = .ok (.iconst (-1), 1) := by decide +kernel
theorem dL_refuses_56 : decode cL_refuses 56 = .ok (.iload_n 2, 1) := by decide +kernel
theorem dL_refuses_57 : decode cL_refuses 57 = .ok (.bipush 50, 2) := by decide +kernel
theorem dL_refuses_59 : decode cL_refuses 59 = .ok (.irem, 1) := by decide +kernel
theorem dL_refuses_60 : decode cL_refuses 60 = .ok (.isub, 1) := by decide +kernel
theorem dL_refuses_61 : decode cL_refuses 61 = .ok (.goto 11, 3) := by decide +kernel
theorem dL_refuses_64 : decode cL_refuses 64 = .ok (.aload_n 1, 1) := by decide +kernel
theorem dL_refuses_65 : decode cL_refuses 65 = .ok (.iconst 2, 1) := by decide +kernel
theorem dL_refuses_66 : decode cL_refuses 66 = .ok (.iaload, 1) := by decide +kernel
theorem dL_refuses_67 : decode cL_refuses 67 = .ok (.iload_n 2, 1) := by decide +kernel
theorem dL_refuses_68 : decode cL_refuses 68 = .ok (.bipush 50, 2) := by decide +kernel
theorem dL_refuses_70 : decode cL_refuses 70 = .ok (.irem, 1) := by decide +kernel
theorem dL_refuses_71 : decode cL_refuses 71 = .ok (.iadd, 1) := by decide +kernel
theorem dL_refuses_72 : decode cL_refuses 72 = .ok (.istore 5, 2) := by decide +kernel
theorem dL_refuses_74 : decode cL_refuses 74 = .ok (.iload_n 2, 1) := by decide +kernel
theorem dL_refuses_75 : decode cL_refuses 75 = .ok (.aload_n 1, 1) := by decide +kernel
theorem dL_refuses_76 : decode cL_refuses 76 = .ok (.iconst 0, 1) := by decide +kernel
theorem dL_refuses_77 : decode cL_refuses 77 = .ok (.iaload, 1) := by decide +kernel
theorem dL_refuses_78 : decode cL_refuses 78 = .ok (.irem, 1) := by decide +kernel
theorem dL_refuses_79 : decode cL_refuses 79 = .ok (.istore 6, 2) := by decide +kernel
theorem dL_refuses_81 : decode cL_refuses 81 = .ok (.aload_n 0, 1) := by decide +kernel
theorem dL_refuses_82 : decode cL_refuses 82 = .ok (.iload_n 3, 1) := by decide +kernel
theorem dL_refuses_83 : decode cL_refuses 83 = .ok (.iload_n 3, 1) := by decide +kernel
theorem dL_refuses_84 : decode cL_refuses 84 = .ok (.iconst 0, 1) := by decide +kernel
theorem dL_refuses_85 : decode cL_refuses 85 = .ok (.invokestatic 79, 3) := by decide +kernel
theorem dL_refuses_88 : decode cL_refuses 88 = .ok (.ldc 15, 2) := by decide +kernel
theorem dL_refuses_90 : decode cL_refuses 90 = .ok (.if_icmp .ne 447, 3) := by decide +kernel
theorem dL_refuses_93 : decode cL_refuses 93 = .ok (.aload_n 0, 1) := by decide +kernel
theorem dL_refuses_94 : decode cL_refuses 94 = .ok (.iload 6, 2) := by decide +kernel
theorem dL_refuses_96 : decode cL_refuses 96 = .ok (.iload_n 3, 1) := by decide +kernel
theorem dL_refuses_97 : decode cL_refuses 97 = .ok (.iconst 1, 1) := by decide +kernel
theorem dL_refuses_98 : decode cL_refuses 98 = .ok (.invokestatic 79, 3) := by decide +kernel
theorem dL_refuses_101 : decode cL_refuses 101 = .ok (.ldc 15, 2) := by decide +kernel
theorem dL_refuses_103 : decode cL_refuses 103 = .ok (.if_icmp .ne 434, 3) := by decide +kernel
theorem dL_refuses_106 : decode cL_refuses 106 = .ok (.aload_n 0, 1) := by decide +kernel
theorem dL_refuses_107 : decode cL_refuses 107 = .ok (.iload 6, 2) := by decide +kernel
theorem dL_refuses_109 : decode cL_refuses 109 = .ok (.iload 6, 2) := by decide +kernel
theorem dL_refuses_111 : decode cL_refuses 111 = .ok (.iconst 1, 1) := by decide +kernel
theorem dL_refuses_112 : decode cL_refuses 112 = .ok (.invokestatic 79, 3) := by decide +kernel
theorem dL_refuses_115 : decode cL_refuses 115 = .ok (.ldc 18, 2) := by decide +kernel
theorem dL_refuses_117 : decode cL_refuses 117 = .ok (.if_icmp .ne 420, 3) := by decide +kernel
