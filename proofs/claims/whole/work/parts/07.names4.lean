set_option maxRecDepth 20000 in
theorem gX5_isNeeded_X5_countedIn : GoodIn wsX5_isNeeded (wsV RX5 100 RX5 yX5_countedIn wsX5_countedIn) := goodIn_app (goodIn_of _ (by decide +kernel)) ggX5_isNeeded_X5_countedIn
set_option maxRecDepth 20000 in
theorem ggX5_isNeeded_X5_sees : GoodIn wsX5_isNeeded wsX5_sees := goodIn_r _ [19, 20, 21, 22, 23, 4, 24, 25, 26, 12, 27, 28, 29, 30, 31, 32, 33, 1, 2, 3, 5, 6, 7, 8, 9, 10, 11, 13, 14, 15, 34, 35, 36, 37, 38, 39, 40, 41, 42, 43, 44, 45, 46, 47, 48, 49, 50, 51, 52, 53, 54, 55, 56, 57, 58, 59, 60, 61, 62, 63, 64, 65, 66, 67, 68, 69, 70, 71, 72, 73, 74, 75, 76, 77, 78, 79, 80, 81] (by decide +kernel) (by decide +kernel)
set_option maxRecDepth 20000 in
theorem gX5_isNeeded_X5_sees : GoodIn wsX5_isNeeded (wsV RX5 136 RX5 yX5_sees wsX5_sees) := goodIn_app (goodIn_of _ (by decide +kernel)) ggX5_isNeeded_X5_sees
set_option maxRecDepth 20000 in
theorem ggX5_isNeeded_X5_gather : GoodIn wsX5_isNeeded wsX5_gather := goodIn_r _ [24, 25, 26, 12, 27, 28, 29, 30, 31, 32, 33, 1, 2, 3, 4, 5, 6, 7, 8, 9, 10, 11, 13, 14, 15, 34, 35, 36, 37, 38, 39, 40, 41, 42, 43, 44, 58, 59, 60, 61, 62, 63, 64, 65, 66, 67, 68, 69, 70, 71, 72, 73, 74, 75, 76, 77, 78, 79, 80, 81] (by decide +kernel) (by decide +kernel)
set_option maxRecDepth 20000 in
theorem gX5_isNeeded_X5_gather : GoodIn wsX5_isNeeded (wsV RX5 129 RX5 yX5_gather wsX5_gather) := goodIn_app (goodIn_of _ (by decide +kernel)) ggX5_isNeeded_X5_gather
set_option maxRecDepth 20000 in
theorem ggX5_isNeeded_X5_part : GoodIn wsX5_isNeeded wsX5_part := goodIn_r _ [48, 49, 28, 50, 51, 52, 4, 53, 54, 55, 56, 57, 58, 59, 60, 61, 62, 63, 64, 65, 66, 67, 68, 69, 70, 71, 72, 73, 74, 75, 76, 77, 78, 79, 80, 81] (by decide +kernel) (by decide +kernel)
set_option maxRecDepth 20000 in
theorem gX5_isNeeded_X5_part : GoodIn wsX5_isNeeded (wsV RX5 125 RX5 yX5_part wsX5_part) := goodIn_app (goodIn_of _ (by decide +kernel)) ggX5_isNeeded_X5_part
theorem dX5_isNeeded_0 : decode cX5_isNeeded 0 = .ok (.aload_n 0, 1) := by decide +kernel
theorem dX5_isNeeded_1 : decode cX5_isNeeded 1 = .ok (.iload_n 1, 1) := by decide +kernel
theorem dX5_isNeeded_2 : decode cX5_isNeeded 2 = .ok (.invokevirtual 100, 3) := by decide +kernel
theorem dX5_isNeeded_5 : decode cX5_isNeeded 5 = .ok (.istore_n 2, 1) := by decide +kernel
theorem dX5_isNeeded_6 : decode cX5_isNeeded 6 = .ok (.iload_n 2, 1) := by decide +kernel
theorem dX5_isNeeded_7 : decode cX5_isNeeded 7 = .ok (.iconst (-1), 1) := by decide +kernel
theorem dX5_isNeeded_8 : decode cX5_isNeeded 8 = .ok (.if_icmp .eq 11, 3) := by decide +kernel
theorem dX5_isNeeded_11 : decode cX5_isNeeded 11 = .ok (.aload_n 0, 1) := by decide +kernel
theorem dX5_isNeeded_12 : decode cX5_isNeeded 12 = .ok (.iload_n 2, 1) := by decide +kernel
theorem dX5_isNeeded_13 : decode cX5_isNeeded 13 = .ok (.invokevirtual 136, 3) := by decide +kernel
theorem dX5_isNeeded_16 : decode cX5_isNeeded 16 = .ok (.ifCond .ne 5, 3) := by decide +kernel
theorem dX5_isNeeded_19 : decode cX5_isNeeded 19 = .ok (.iconst 0, 1) := by decide +kernel
theorem dX5_isNeeded_20 : decode cX5_isNeeded 20 = .ok (.ireturn, 1) := by decide +kernel
theorem dX5_isNeeded_21 : decode cX5_isNeeded 21 = .ok (.aload_n 0, 1) := by decide +kernel
theorem dX5_isNeeded_22 : decode cX5_isNeeded 22 = .ok (.iload_n 2, 1) := by decide +kernel
theorem dX5_isNeeded_23 : decode cX5_isNeeded 23 = .ok (.iload_n 1, 1) := by decide +kernel
theorem dX5_isNeeded_24 : decode cX5_isNeeded 24 = .ok (.invokevirtual 129, 3) := by decide +kernel
theorem dX5_isNeeded_27 : decode cX5_isNeeded 27 = .ok (.aload_n 0, 1) := by decide +kernel
theorem dX5_isNeeded_28 : decode cX5_isNeeded 28 = .ok (.bipush 15, 2) := by decide +kernel
theorem dX5_isNeeded_30 : decode cX5_isNeeded 30 = .ok (.invokevirtual 125, 3) := by decide +kernel
theorem dX5_isNeeded_33 : decode cX5_isNeeded 33 = .ok (.lconst 0, 1) := by decide +kernel
theorem dX5_isNeeded_34 : decode cX5_isNeeded 34 = .ok (.lcmp, 1) := by decide +kernel
theorem dX5_isNeeded_35 : decode cX5_isNeeded 35 = .ok (.ifCond .ne 7, 3) := by decide +kernel
theorem dX5_isNeeded_38 : decode cX5_isNeeded 38 = .ok (.iconst 1, 1) := by decide +kernel
theorem dX5_isNeeded_39 : decode cX5_isNeeded 39 = .ok (.goto 4, 3) := by decide +kernel
theorem dX5_isNeeded_42 : decode cX5_isNeeded 42 = .ok (.iconst 0, 1) := by decide +kernel
theorem dX5_isNeeded_43 : decode cX5_isNeeded 43 = .ok (.ireturn, 1) := by decide +kernel
set_option maxRecDepth 20000 in
theorem ggX5_isCritical_X5_isMeter : GoodIn wsX5_isCritical wsX5_isMeter := goodIn_r _ [5, 6, 7, 8, 4, 9, 78, 79, 80, 81, 82, 83, 84, 85, 86, 87, 88, 89, 90, 91, 92, 93, 94, 95, 96, 97, 98, 99, 100, 101] (by decide +kernel) (by decide +kernel)
set_option maxRecDepth 20000 in
theorem gX5_isCritical_X5_isMeter : GoodIn wsX5_isCritical (wsV RX5 94 RX5 yX5_isMeter wsX5_isMeter) := goodIn_app (goodIn_of _ (by decide +kernel)) ggX5_isCritical_X5_isMeter
set_option maxRecDepth 20000 in
theorem ggX5_isCritical_X5_refused : GoodIn wsX5_isCritical wsX5_refused := goodIn_r _ [13, 14, 78, 79, 80, 81, 82, 83, 84, 85, 86, 87, 88, 89, 90, 91, 92, 93, 94, 95, 96, 97, 98, 99, 100, 101] (by decide +kernel) (by decide +kernel)
set_option maxRecDepth 20000 in
theorem gX5_isCritical_X5_refused : GoodIn wsX5_isCritical (wsV RX5 81 RX5 yX5_refused wsX5_refused) := goodIn_app (goodIn_of _ (by decide +kernel)) ggX5_isCritical_X5_refused
set_option maxRecDepth 20000 in
theorem ggX5_isCritical_X5_divide : GoodIn wsX5_isCritical wsX5_divide := goodIn_r _ [18, 19, 20, 21, 22, 23, 24, 78, 79, 80, 81, 82, 83, 84, 85, 86, 87, 88, 89, 90, 91, 92, 93, 94, 95, 96, 97, 98, 99, 100, 101] (by decide +kernel) (by decide +kernel)
set_option maxRecDepth 20000 in
theorem gX5_isCritical_X5_divide : GoodIn wsX5_isCritical (wsV RX5 87 RX5 yX5_divide wsX5_divide) := goodIn_app (goodIn_of _ (by decide +kernel)) ggX5_isCritical_X5_divide
set_option maxRecDepth 20000 in
theorem ggX5_isCritical_X5_isNeeded : GoodIn wsX5_isCritical wsX5_isNeeded := goodIn_r _ [28, 29, 30, 31, 4, 32, 33, 34, 35, 36, 37, 38, 20, 39, 22, 23, 40, 41, 42, 43, 44, 45, 46, 47, 48, 49, 19, 50, 51, 52, 6, 53, 54, 55, 56, 57, 58, 59, 21, 24, 60, 61, 62, 63, 64, 65, 66, 67, 68, 69, 70, 71, 72, 73, 74, 75, 76, 77, 78, 79, 80, 81, 82, 83, 84, 85, 86, 87, 88, 89, 90, 91, 92, 93, 94, 95, 96, 97, 98, 99, 100, 101] (by decide +kernel) (by decide +kernel)
set_option maxRecDepth 20000 in
theorem gX5_isCritical_X5_isNeeded : GoodIn wsX5_isCritical (wsV RX5 152 RX5 yX5_isNeeded wsX5_isNeeded) := goodIn_app (goodIn_of _ (by decide +kernel)) ggX5_isCritical_X5_isNeeded
theorem dX5_isCritical_0 : decode cX5_isCritical 0 = .ok (.aload_n 0, 1) := by decide +kernel
theorem dX5_isCritical_1 : decode cX5_isCritical 1 = .ok (.aload_n 0, 1) := by decide +kernel
theorem dX5_isCritical_2 : decode cX5_isCritical 2 = .ok (.iload_n 1, 1) := by decide +kernel
theorem dX5_isCritical_3 : decode cX5_isCritical 3 = .ok (.invokevirtual 94, 3) := by decide +kernel
theorem dX5_isCritical_6 : decode cX5_isCritical 6 = .ok (.ifCond .eq 7, 3) := by decide +kernel
theorem dX5_isCritical_9 : decode cX5_isCritical 9 = .ok (.iconst 0, 1) := by decide +kernel
theorem dX5_isCritical_10 : decode cX5_isCritical 10 = .ok (.goto 4, 3) := by decide +kernel
theorem dX5_isCritical_13 : decode cX5_isCritical 13 = .ok (.iconst 1, 1) := by decide +kernel
theorem dX5_isCritical_14 : decode cX5_isCritical 14 = .ok (.invokevirtual 81, 3) := by decide +kernel
theorem dX5_isCritical_17 : decode cX5_isCritical 17 = .ok (.ifCond .eq 5, 3) := by decide +kernel
theorem dX5_isCritical_20 : decode cX5_isCritical 20 = .ok (.iconst 0, 1) := by decide +kernel
theorem dX5_isCritical_21 : decode cX5_isCritical 21 = .ok (.ireturn, 1) := by decide +kernel
theorem dX5_isCritical_22 : decode cX5_isCritical 22 = .ok (.aload_n 0, 1) := by decide +kernel
theorem dX5_isCritical_23 : decode cX5_isCritical 23 = .ok (.invokevirtual 87, 3) := by decide +kernel
theorem dX5_isCritical_26 : decode cX5_isCritical 26 = .ok (.aload_n 0, 1) := by decide +kernel
theorem dX5_isCritical_27 : decode cX5_isCritical 27 = .ok (.iload_n 1, 1) := by decide +kernel
theorem dX5_isCritical_28 : decode cX5_isCritical 28 = .ok (.invokevirtual 152, 3) := by decide +kernel
theorem dX5_isCritical_31 : decode cX5_isCritical 31 = .ok (.ireturn, 1) := by decide +kernel
set_option maxRecDepth 20000 in
theorem ggX5_noAngle_X5_divide : GoodIn wsX5_noAngle wsX5_divide := goodIn_r _ [9, 10, 1, 11, 12, 13, 14, 85, 86, 87, 88, 89, 90, 91, 92, 93, 94, 95, 96, 97, 98, 99, 100, 101, 102, 103, 104, 105, 106, 107, 108] (by decide +kernel) (by decide +kernel)
set_option maxRecDepth 20000 in
theorem gX5_noAngle_X5_divide : GoodIn wsX5_noAngle (wsV RX5 87 RX5 yX5_divide wsX5_divide) := goodIn_app (goodIn_of _ (by decide +kernel)) ggX5_noAngle_X5_divide
set_option maxRecDepth 20000 in
theorem ggX5_noAngle_X5_isBus : GoodIn wsX5_noAngle wsX5_isBus := goodIn_r _ [18, 10, 19, 20, 8, 21, 85, 86, 87, 88, 89, 90, 91, 92, 93, 94, 95, 96, 97, 98, 99, 100, 101, 102, 103, 104, 105, 106, 107, 108] (by decide +kernel) (by decide +kernel)
set_option maxRecDepth 20000 in
theorem gX5_noAngle_X5_isBus : GoodIn wsX5_noAngle (wsV RX5 77 RX5 yX5_isBus wsX5_isBus) := goodIn_app (goodIn_of _ (by decide +kernel)) ggX5_noAngle_X5_isBus
set_option maxRecDepth 20000 in
theorem ggX5_noAngle_X5_sees : GoodIn wsX5_noAngle wsX5_sees := goodIn_r _ [25, 4, 26, 27, 28, 8, 29, 30, 10, 1, 2, 31, 32, 33, 34, 35, 36, 37, 38, 39, 40, 41, 42, 43, 44, 45, 46, 47, 12, 13, 48, 49, 50, 51, 11, 14, 52, 53, 54, 55, 56, 57, 58, 59, 60, 61, 62, 63, 64, 65, 66, 67, 68, 69, 85, 86, 87, 88, 89, 90, 91, 92, 93, 94, 95, 96, 97, 98, 99, 100, 101, 102, 103, 104, 105, 106, 107, 108] (by decide +kernel) (by decide +kernel)
set_option maxRecDepth 20000 in
theorem gX5_noAngle_X5_sees : GoodIn wsX5_noAngle (wsV RX5 136 RX5 yX5_sees wsX5_sees) := goodIn_app (goodIn_of _ (by decide +kernel)) ggX5_noAngle_X5_sees
set_option maxRecDepth 20000 in
theorem ggX5_noAngle_X5_refused : GoodIn wsX5_noAngle wsX5_refused := goodIn_r _ [73, 74, 85, 86, 87, 88, 89, 90, 91, 92, 93, 94, 95, 96, 97, 98, 99, 100, 101, 102, 103, 104, 105, 106, 107, 108] (by decide +kernel) (by decide +kernel)
set_option maxRecDepth 20000 in
theorem gX5_noAngle_X5_refused : GoodIn wsX5_noAngle (wsV RX5 81 RX5 yX5_refused wsX5_refused) := goodIn_app (goodIn_of _ (by decide +kernel)) ggX5_noAngle_X5_refused
set_option maxRecDepth 20000 in
theorem ggX5_noAngle_X5_estimate : GoodIn wsX5_noAngle wsX5_estimate := goodIn_r _ [78, 61, 32, 31, 3, 22, 23, 24, 8, 25, 4, 26, 27, 28, 29, 30, 10, 1, 2, 33, 34, 35, 36, 37, 38, 39, 40, 41, 42, 43, 44, 45, 46, 47, 12, 13, 48, 49, 50, 51, 11, 14, 52, 53, 54, 55, 56, 57, 58, 59, 60, 62, 63, 64, 65, 66, 67, 68, 69, 85, 86, 87, 88, 89, 90, 91, 92, 93, 94, 95, 96, 97, 98, 99, 100, 101, 102, 103, 104, 105, 106, 107, 108] (by decide +kernel) (by decide +kernel)
set_option maxRecDepth 20000 in
theorem gX5_noAngle_X5_estimate : GoodIn wsX5_noAngle (wsV RX5 155 RX5 yX5_estimate wsX5_estimate) := goodIn_app (goodIn_of _ (by decide +kernel)) ggX5_noAngle_X5_estimate
set_option maxRecDepth 20000 in
theorem ggX5_noAngle_X5_reduce : GoodIn wsX5_noAngle wsX5_reduce := goodIn_r _ [82, 83, 84, 85, 86, 87, 88, 89, 90, 91, 92, 93, 94, 95, 96, 97, 98, 99, 100, 101, 102, 103, 104, 105, 106, 107, 108] (by decide +kernel) (by decide +kernel)
set_option maxRecDepth 20000 in
theorem gX5_noAngle_X5_reduce : GoodIn wsX5_noAngle (wsV RX5 158 RX5 yX5_reduce wsX5_reduce) := goodIn_app (goodIn_of _ (by decide +kernel)) ggX5_noAngle_X5_reduce
theorem dX5_noAngle_0 : decode cX5_noAngle 0 = .ok (.aload_n 0, 1) := by decide +kernel
theorem dX5_noAngle_1 : decode cX5_noAngle 1 = .ok (.invokevirtual 87, 3) := by decide +kernel
theorem dX5_noAngle_4 : decode cX5_noAngle 4 = .ok (.aload_n 0, 1) := by decide +kernel
theorem dX5_noAngle_5 : decode cX5_noAngle 5 = .ok (.aload_n 0, 1) := by decide +kernel
theorem dX5_noAngle_6 : decode cX5_noAngle 6 = .ok (.iload_n 1, 1) := by decide +kernel
theorem dX5_noAngle_7 : decode cX5_noAngle 7 = .ok (.invokevirtual 77, 3) := by decide +kernel
theorem dX5_noAngle_10 : decode cX5_noAngle 10 = .ok (.ifCond .ne 7, 3) := by decide +kernel
theorem dX5_noAngle_13 : decode cX5_noAngle 13 = .ok (.iconst 1, 1) := by decide +kernel
theorem dX5_noAngle_14 : decode cX5_noAngle 14 = .ok (.goto 21, 3) := by decide +kernel
theorem dX5_noAngle_17 : decode cX5_noAngle 17 = .ok (.aload_n 0, 1) := by decide +kernel
theorem dX5_noAngle_18 : decode cX5_noAngle 18 = .ok (.aload_n 0, 1) := by decide +kernel
theorem dX5_noAngle_19 : decode cX5_noAngle 19 = .ok (.getfield 38, 3) := by decide +kernel
theorem dX5_noAngle_22 : decode cX5_noAngle 22 = .ok (.iload_n 1, 1) := by decide +kernel
theorem dX5_noAngle_23 : decode cX5_noAngle 23 = .ok (.iaload, 1) := by decide +kernel
theorem dX5_noAngle_24 : decode cX5_noAngle 24 = .ok (.invokevirtual 136, 3) := by decide +kernel
theorem dX5_noAngle_27 : decode cX5_noAngle 27 = .ok (.ifCond .eq 7, 3) := by decide +kernel
theorem dX5_noAngle_30 : decode cX5_noAngle 30 = .ok (.iconst 0, 1) := by decide +kernel
theorem dX5_noAngle_31 : decode cX5_noAngle 31 = .ok (.goto 4, 3) := by decide +kernel
theorem dX5_noAngle_34 : decode cX5_noAngle 34 = .ok (.iconst 2, 1) := by decide +kernel
theorem dX5_noAngle_35 : decode cX5_noAngle 35 = .ok (.invokevirtual 81, 3) := by decide +kernel
theorem dX5_noAngle_38 : decode cX5_noAngle 38 = .ok (.ifCond .eq 5, 3) := by decide +kernel
theorem dX5_noAngle_41 : decode cX5_noAngle 41 = .ok (.iconst 1, 1) := by decide +kernel
theorem dX5_noAngle_42 : decode cX5_noAngle 42 = .ok (.ireturn, 1) := by decide +kernel
theorem dX5_noAngle_43 : decode cX5_noAngle 43 = .ok (.aload_n 0, 1) := by decide +kernel
theorem dX5_noAngle_44 : decode cX5_noAngle 44 = .ok (.aload_n 0, 1) := by decide +kernel
theorem dX5_noAngle_45 : decode cX5_noAngle 45 = .ok (.getfield 38, 3) := by decide +kernel
theorem dX5_noAngle_48 : decode cX5_noAngle 48 = .ok (.iload_n 1, 1) := by decide +kernel
theorem dX5_noAngle_49 : decode cX5_noAngle 49 = .ok (.iaload, 1) := by decide +kernel
theorem dX5_noAngle_50 : decode cX5_noAngle 50 = .ok (.invokevirtual 155, 3) := by decide +kernel
theorem dX5_noAngle_53 : decode cX5_noAngle 53 = .ok (.aload_n 0, 1) := by decide +kernel
theorem dX5_noAngle_54 : decode cX5_noAngle 54 = .ok (.aload_n 0, 1) := by decide +kernel
theorem dX5_noAngle_55 : decode cX5_noAngle 55 = .ok (.getfield 41, 3) := by decide +kernel
theorem dX5_noAngle_58 : decode cX5_noAngle 58 = .ok (.iload_n 1, 1) := by decide +kernel
theorem dX5_noAngle_59 : decode cX5_noAngle 59 = .ok (.iaload, 1) := by decide +kernel
theorem dX5_noAngle_60 : decode cX5_noAngle 60 = .ok (.iconst (-1), 1) := by decide +kernel
theorem dX5_noAngle_61 : decode cX5_noAngle 61 = .ok (.if_icmp .ne 7, 3) := by decide +kernel
theorem dX5_noAngle_64 : decode cX5_noAngle 64 = .ok (.lconst 0, 1) := by decide +kernel
theorem dX5_noAngle_65 : decode cX5_noAngle 65 = .ok (.goto 14, 3) := by decide +kernel
theorem dX5_noAngle_68 : decode cX5_noAngle 68 = .ok (.aload_n 0, 1) := by decide +kernel
theorem dX5_noAngle_69 : decode cX5_noAngle 69 = .ok (.getfield 57, 3) := by decide +kernel
theorem dX5_noAngle_72 : decode cX5_noAngle 72 = .ok (.aload_n 0, 1) := by decide +kernel
theorem dX5_noAngle_73 : decode cX5_noAngle 73 = .ok (.getfield 41, 3) := by decide +kernel
theorem dX5_noAngle_76 : decode cX5_noAngle 76 = .ok (.iload_n 1, 1) := by decide +kernel
theorem dX5_noAngle_77 : decode cX5_noAngle 77 = .ok (.iaload, 1) := by decide +kernel
theorem dX5_noAngle_78 : decode cX5_noAngle 78 = .ok (.laload, 1) := by decide +kernel
theorem dX5_noAngle_79 : decode cX5_noAngle 79 = .ok (.aload_n 0, 1) := by decide +kernel
theorem dX5_noAngle_80 : decode cX5_noAngle 80 = .ok (.getfield 132, 3) := by decide +kernel
theorem dX5_noAngle_83 : decode cX5_noAngle 83 = .ok (.invokevirtual 158, 3) := by decide +kernel
theorem dX5_noAngle_86 : decode cX5_noAngle 86 = .ok (.iconst 0, 1) := by decide +kernel
theorem dX5_noAngle_87 : decode cX5_noAngle 87 = .ok (.ireturn, 1) := by decide +kernel
set_option maxRecDepth 20000 in
theorem ggX5_angleNumerator_X5_noAngle : GoodIn wsX5_angleNumerator wsX5_noAngle := goodIn_r _ [6, 7, 8, 9, 10, 11, 12, 13, 5, 14, 15, 16, 17, 18, 19, 20, 21, 22, 23, 24, 25, 26, 27, 28, 29, 30, 31, 32, 33, 34, 35, 36, 37, 38, 39, 40, 41, 42, 43, 44, 45, 46, 47, 48, 49, 50, 51, 52, 53, 54, 55, 56, 57, 58, 59, 60, 61, 62, 63, 64, 65, 66, 67, 68, 69, 70, 71, 72, 73, 74, 75, 76, 77, 78, 79, 80, 81, 82, 83, 84, 85, 86, 87, 1, 88, 89, 90, 91, 92, 93, 94, 95, 96, 97, 98, 99, 100, 101, 102, 103, 104, 105, 106, 107, 108, 109, 110, 111, 112] (by decide +kernel) (by decide +kernel)
set_option maxRecDepth 20000 in
theorem gX5_angleNumerator_X5_noAngle : GoodIn wsX5_angleNumerator (wsV RX5 162 RX5 yX5_noAngle wsX5_noAngle) := goodIn_app (goodIn_of _ (by decide +kernel)) ggX5_angleNumerator_X5_noAngle
theorem dX5_angleNumerator_0 : decode cX5_angleNumerator 0 = .ok (.aload_n 0, 1) := by decide +kernel
theorem dX5_angleNumerator_1 : decode cX5_angleNumerator 1 = .ok (.iload_n 1, 1) := by decide +kernel
theorem dX5_angleNumerator_2 : decode cX5_angleNumerator 2 = .ok (.invokevirtual 162, 3) := by decide +kernel
theorem dX5_angleNumerator_5 : decode cX5_angleNumerator 5 = .ok (.ifCond .eq 7, 3) := by decide +kernel
theorem dX5_angleNumerator_8 : decode cX5_angleNumerator 8 = .ok (.lconst 0, 1) := by decide +kernel
theorem dX5_angleNumerator_9 : decode cX5_angleNumerator 9 = .ok (.goto 7, 3) := by decide +kernel
theorem dX5_angleNumerator_12 : decode cX5_angleNumerator 12 = .ok (.aload_n 0, 1) := by decide +kernel
theorem dX5_angleNumerator_13 : decode cX5_angleNumerator 13 = .ok (.getfield 139, 3) := by decide +kernel
theorem dX5_angleNumerator_16 : decode cX5_angleNumerator 16 = .ok (.lreturn, 1) := by decide +kernel
set_option maxRecDepth 20000 in
theorem ggX5_angleDenominator_X5_noAngle : GoodIn wsX5_angleDenominator wsX5_noAngle := goodIn_r _ [6, 7, 8, 9, 10, 11, 12, 13, 5, 14, 15, 16, 17, 18, 19, 20, 21, 22, 23, 24, 25, 26, 27, 28, 29, 30, 31, 32, 33, 34, 35, 36, 37, 38, 39, 40, 41, 42, 43, 44, 45, 46, 47, 48, 49, 50, 51, 52, 53, 54, 55, 56, 57, 58, 59, 60, 61, 62, 63, 64, 65, 66, 67, 68, 69, 70, 71, 72, 73, 74, 75, 76, 77, 78, 79, 80, 81, 82, 83, 84, 85, 86, 87, 88, 1, 89, 90, 91, 92, 93, 94, 95, 96, 97, 98, 99, 100, 101, 102, 103, 104, 105, 106, 107, 108, 109, 110, 111, 112] (by decide +kernel) (by decide +kernel)
set_option maxRecDepth 20000 in
theorem gX5_angleDenominator_X5_noAngle : GoodIn wsX5_angleDenominator (wsV RX5 162 RX5 yX5_noAngle wsX5_noAngle) := goodIn_app (goodIn_of _ (by decide +kernel)) ggX5_angleDenominator_X5_noAngle
theorem dX5_angleDenominator_0 : decode cX5_angleDenominator 0 = .ok (.aload_n 0, 1) := by decide +kernel
theorem dX5_angleDenominator_1 : decode cX5_angleDenominator 1 = .ok (.iload_n 1, 1) := by decide +kernel
theorem dX5_angleDenominator_2 : decode cX5_angleDenominator 2 = .ok (.invokevirtual 162, 3) := by decide +kernel
theorem dX5_angleDenominator_5 : decode cX5_angleDenominator 5 = .ok (.ifCond .eq 7, 3) := by decide +kernel
theorem dX5_angleDenominator_8 : decode cX5_angleDenominator 8 = .ok (.lconst 0, 1) := by decide +kernel
theorem dX5_angleDenominator_9 : decode cX5_angleDenominator 9 = .ok (.goto 7, 3) := by decide +kernel
theorem dX5_angleDenominator_12 : decode cX5_angleDenominator 12 = .ok (.aload_n 0, 1) := by decide +kernel
theorem dX5_angleDenominator_13 : decode cX5_angleDenominator 13 = .ok (.getfield 142, 3) := by decide +kernel
theorem dX5_angleDenominator_16 : decode cX5_angleDenominator 16 = .ok (.lreturn, 1) := by decide +kernel
set_option maxRecDepth 20000 in
theorem ggX5_noResidual_X5_divide : GoodIn wsX5_noResidual wsX5_divide := goodIn_r _ [6, 7, 8, 9, 10, 11, 12, 89, 90, 91, 92, 93, 94, 95, 96, 97, 98, 99, 100, 101, 102, 103, 104, 105, 106, 107, 108, 109, 110, 111, 112] (by decide +kernel) (by decide +kernel)
set_option maxRecDepth 20000 in
theorem gX5_noResidual_X5_divide : GoodIn wsX5_noResidual (wsV RX5 87 RX5 yX5_divide wsX5_divide) := goodIn_app (goodIn_of _ (by decide +kernel)) ggX5_noResidual_X5_divide
set_option maxRecDepth 20000 in
theorem ggX5_noResidual_X5_isMeter : GoodIn wsX5_noResidual wsX5_isMeter := goodIn_r _ [16, 17, 18, 19, 5, 20, 89, 90, 91, 92, 93, 94, 95, 96, 97, 98, 99, 100, 101, 102, 103, 104, 105, 106, 107, 108, 109, 110, 111, 112] (by decide +kernel) (by decide +kernel)
set_option maxRecDepth 20000 in
theorem gX5_noResidual_X5_isMeter : GoodIn wsX5_noResidual (wsV RX5 94 RX5 yX5_isMeter wsX5_isMeter) := goodIn_app (goodIn_of _ (by decide +kernel)) ggX5_noResidual_X5_isMeter
set_option maxRecDepth 20000 in
theorem ggX5_noResidual_X5_islandOf : GoodIn wsX5_noResidual wsX5_islandOf := goodIn_r _ [24, 25, 8, 26, 10, 11, 89, 90, 91, 92, 93, 94, 95, 96, 97, 98, 99, 100, 101, 102, 103, 104, 105, 106, 107, 108, 109, 110, 111, 112] (by decide +kernel) (by decide +kernel)
set_option maxRecDepth 20000 in
theorem gX5_noResidual_X5_islandOf : GoodIn wsX5_noResidual (wsV RX5 97 RX5 yX5_islandOf wsX5_islandOf) := goodIn_app (goodIn_of _ (by decide +kernel)) ggX5_noResidual_X5_islandOf
set_option maxRecDepth 20000 in
theorem ggX5_noResidual_X5_sees : GoodIn wsX5_noResidual wsX5_sees := goodIn_r _ [30, 1, 31, 32, 33, 5, 34, 35, 7, 8, 36, 37, 38, 17, 39, 40, 41, 42, 43, 44, 45, 46, 21, 22, 23, 24, 25, 26, 10, 11, 47, 48, 49, 50, 9, 12, 51, 52, 53, 54, 55, 56, 57, 58, 59, 60, 61, 62, 63, 64, 65, 66, 67, 68, 89, 90, 91, 92, 93, 94, 95, 96, 97, 98, 99, 100, 101, 102, 103, 104, 105, 106, 107, 108, 109, 110, 111, 112] (by decide +kernel) (by decide +kernel)
set_option maxRecDepth 20000 in
theorem gX5_noResidual_X5_sees : GoodIn wsX5_noResidual (wsV RX5 136 RX5 yX5_sees wsX5_sees) := goodIn_app (goodIn_of _ (by decide +kernel)) ggX5_noResidual_X5_sees
set_option maxRecDepth 20000 in
theorem ggX5_noResidual_X5_refused : GoodIn wsX5_noResidual wsX5_refused := goodIn_r _ [72, 73, 89, 90, 91, 92, 93, 94, 95, 96, 97, 98, 99, 100, 101, 102, 103, 104, 105, 106, 107, 108, 109, 110, 111, 112] (by decide +kernel) (by decide +kernel)
set_option maxRecDepth 20000 in
theorem gX5_noResidual_X5_refused : GoodIn wsX5_noResidual (wsV RX5 81 RX5 yX5_refused wsX5_refused) := goodIn_app (goodIn_of _ (by decide +kernel)) ggX5_noResidual_X5_refused
set_option maxRecDepth 20000 in
theorem ggX5_noResidual_X5_estimate : GoodIn wsX5_noResidual wsX5_estimate := goodIn_r _ [77, 60, 38, 37, 78, 27, 28, 29, 5, 30, 1, 31, 32, 33, 34, 35, 7, 8, 36, 17, 39, 40, 41, 42, 43, 44, 45, 46, 21, 22, 23, 24, 25, 26, 10, 11, 47, 48, 49, 50, 9, 12, 51, 52, 53, 54, 55, 56, 57, 58, 59, 61, 62, 63, 64, 65, 66, 67, 68, 89, 90, 91, 92, 93, 94, 95, 96, 97, 98, 99, 100, 101, 102, 103, 104, 105, 106, 107, 108, 109, 110, 111, 112] (by decide +kernel) (by decide +kernel)
set_option maxRecDepth 20000 in
theorem gX5_noResidual_X5_estimate : GoodIn wsX5_noResidual (wsV RX5 155 RX5 yX5_estimate wsX5_estimate) := goodIn_app (goodIn_of _ (by decide +kernel)) ggX5_noResidual_X5_estimate
set_option maxRecDepth 20000 in
theorem ggX5_noResidual_X5_residual : GoodIn wsX5_noResidual wsX5_residual := goodIn_r _ [82, 41, 1, 40, 78, 47, 48, 49, 5, 50, 9, 25, 26, 11, 12, 10, 51, 52, 53, 54, 55, 36, 89, 90, 91, 92, 93, 94, 95, 96, 97, 98, 99, 100, 101, 102, 103, 104, 105, 106, 107, 108, 109, 110, 111, 112] (by decide +kernel) (by decide +kernel)
set_option maxRecDepth 20000 in
theorem gX5_noResidual_X5_residual : GoodIn wsX5_noResidual (wsV RX5 145 RX5 yX5_residual wsX5_residual) := goodIn_app (goodIn_of _ (by decide +kernel)) ggX5_noResidual_X5_residual
set_option maxRecDepth 20000 in
theorem ggX5_noResidual_X5_reduce : GoodIn wsX5_noResidual wsX5_reduce := goodIn_r _ [86, 87, 88, 89, 90, 91, 92, 93, 94, 95, 96, 97, 98, 99, 100, 101, 102, 103, 104, 105, 106, 107, 108, 109, 110, 111, 112] (by decide +kernel) (by decide +kernel)
set_option maxRecDepth 20000 in
theorem gX5_noResidual_X5_reduce : GoodIn wsX5_noResidual (wsV RX5 158 RX5 yX5_reduce wsX5_reduce) := goodIn_app (goodIn_of _ (by decide +kernel)) ggX5_noResidual_X5_reduce
theorem dX5_noResidual_0 : decode cX5_noResidual 0 = .ok (.aload_n 0, 1) := by decide +kernel
theorem dX5_noResidual_1 : decode cX5_noResidual 1 = .ok (.invokevirtual 87, 3) := by decide +kernel
theorem dX5_noResidual_4 : decode cX5_noResidual 4 = .ok (.aload_n 0, 1) := by decide +kernel
theorem dX5_noResidual_5 : decode cX5_noResidual 5 = .ok (.iload_n 1, 1) := by decide +kernel
theorem dX5_noResidual_6 : decode cX5_noResidual 6 = .ok (.invokevirtual 94, 3) := by decide +kernel
theorem dX5_noResidual_9 : decode cX5_noResidual 9 = .ok (.ifCond .eq 11, 3) := by decide +kernel
theorem dX5_noResidual_12 : decode cX5_noResidual 12 = .ok (.aload_n 0, 1) := by decide +kernel
theorem dX5_noResidual_13 : decode cX5_noResidual 13 = .ok (.iload_n 1, 1) := by decide +kernel
theorem dX5_noResidual_14 : decode cX5_noResidual 14 = .ok (.invokevirtual 97, 3) := by decide +kernel
theorem dX5_noResidual_17 : decode cX5_noResidual 17 = .ok (.goto 4, 3) := by decide +kernel
theorem dX5_noResidual_20 : decode cX5_noResidual 20 = .ok (.iconst (-1), 1) := by decide +kernel
theorem dX5_noResidual_21 : decode cX5_noResidual 21 = .ok (.istore_n 2, 1) := by decide +kernel
theorem dX5_noResidual_22 : decode cX5_noResidual 22 = .ok (.aload_n 0, 1) := by decide +kernel
theorem dX5_noResidual_23 : decode cX5_noResidual 23 = .ok (.aload_n 0, 1) := by decide +kernel
theorem dX5_noResidual_24 : decode cX5_noResidual 24 = .ok (.iload_n 1, 1) := by decide +kernel
theorem dX5_noResidual_25 : decode cX5_noResidual 25 = .ok (.invokevirtual 94, 3) := by decide +kernel
theorem dX5_noResidual_28 : decode cX5_noResidual 28 = .ok (.ifCond .ne 7, 3) := by decide +kernel
theorem dX5_noResidual_31 : decode cX5_noResidual 31 = .ok (.iconst 1, 1) := by decide +kernel
theorem dX5_noResidual_32 : decode cX5_noResidual 32 = .ok (.goto 21, 3) := by decide +kernel
theorem dX5_noResidual_35 : decode cX5_noResidual 35 = .ok (.iload_n 2, 1) := by decide +kernel
theorem dX5_noResidual_36 : decode cX5_noResidual 36 = .ok (.iconst (-1), 1) := by decide +kernel
theorem dX5_noResidual_37 : decode cX5_noResidual 37 = .ok (.if_icmp .eq 15, 3) := by decide +kernel
theorem dX5_noResidual_40 : decode cX5_noResidual 40 = .ok (.aload_n 0, 1) := by decide +kernel
theorem dX5_noResidual_41 : decode cX5_noResidual 41 = .ok (.iload_n 2, 1) := by decide +kernel
theorem dX5_noResidual_42 : decode cX5_noResidual 42 = .ok (.invokevirtual 136, 3) := by decide +kernel
theorem dX5_noResidual_45 : decode cX5_noResidual 45 = .ok (.ifCond .eq 7, 3) := by decide +kernel
theorem dX5_noResidual_48 : decode cX5_noResidual 48 = .ok (.iconst 0, 1) := by decide +kernel
theorem dX5_noResidual_49 : decode cX5_noResidual 49 = .ok (.goto 4, 3) := by decide +kernel
theorem dX5_noResidual_52 : decode cX5_noResidual 52 = .ok (.iconst 2, 1) := by decide +kernel
theorem dX5_noResidual_53 : decode cX5_noResidual 53 = .ok (.invokevirtual 81, 3) := by decide +kernel
theorem dX5_noResidual_56 : decode cX5_noResidual 56 = .ok (.ifCond .eq 5, 3) := by decide +kernel
theorem dX5_noResidual_59 : decode cX5_noResidual 59 = .ok (.iconst 1, 1) := by decide +kernel
theorem dX5_noResidual_60 : decode cX5_noResidual 60 = .ok (.ireturn, 1) := by decide +kernel
theorem dX5_noResidual_61 : decode cX5_noResidual 61 = .ok (.aload_n 0, 1) := by decide +kernel
theorem dX5_noResidual_62 : decode cX5_noResidual 62 = .ok (.iload_n 2, 1) := by decide +kernel
theorem dX5_noResidual_63 : decode cX5_noResidual 63 = .ok (.invokevirtual 155, 3) := by decide +kernel
theorem dX5_noResidual_66 : decode cX5_noResidual 66 = .ok (.aload_n 0, 1) := by decide +kernel
theorem dX5_noResidual_67 : decode cX5_noResidual 67 = .ok (.aload_n 0, 1) := by decide +kernel
theorem dX5_noResidual_68 : decode cX5_noResidual 68 = .ok (.iload_n 1, 1) := by decide +kernel
theorem dX5_noResidual_69 : decode cX5_noResidual 69 = .ok (.invokevirtual 145, 3) := by decide +kernel
theorem dX5_noResidual_72 : decode cX5_noResidual 72 = .ok (.aload_n 0, 1) := by decide +kernel
theorem dX5_noResidual_73 : decode cX5_noResidual 73 = .ok (.getfield 132, 3) := by decide +kernel
theorem dX5_noResidual_76 : decode cX5_noResidual 76 = .ok (.invokevirtual 158, 3) := by decide +kernel
theorem dX5_noResidual_79 : decode cX5_noResidual 79 = .ok (.iconst 0, 1) := by decide +kernel
theorem dX5_noResidual_80 : decode cX5_noResidual 80 = .ok (.ireturn, 1) := by decide +kernel
set_option maxRecDepth 20000 in
theorem ggX5_residualNumerator_X5_noResidual : GoodIn wsX5_residualNumerator wsX5_noResidual := goodIn_r _ [6, 7, 8, 9, 10, 5, 11, 12, 13, 14, 15, 16, 17, 18, 19, 20, 21, 22, 23, 24, 25, 26, 27, 28, 29, 30, 31, 32, 33, 34, 35, 36, 37, 38, 39, 40, 41, 42, 43, 44, 45, 46, 47, 48, 49, 50, 51, 52, 53, 54, 55, 56, 57, 58, 59, 60, 61, 62, 63, 64, 65, 66, 67, 68, 69, 70, 71, 72, 73, 74, 75, 76, 77, 78, 79, 80, 81, 82, 83, 84, 85, 86, 87, 88, 89, 90, 91, 1, 92, 93, 94, 95, 96, 97, 98, 99, 100, 101, 102, 103, 104, 105, 106, 107, 108, 109, 110, 111, 112, 113, 114, 115, 116] (by decide +kernel) (by decide +kernel)
set_option maxRecDepth 20000 in
theorem gX5_residualNumerator_X5_noResidual : GoodIn wsX5_residualNumerator (wsV RX5 165 RX5 yX5_noResidual wsX5_noResidual) := goodIn_app (goodIn_of _ (by decide +kernel)) ggX5_residualNumerator_X5_noResidual
theorem dX5_residualNumerator_0 : decode cX5_residualNumerator 0 = .ok (.aload_n 0, 1) := by decide +kernel
theorem dX5_residualNumerator_1 : decode cX5_residualNumerator 1 = .ok (.iload_n 1, 1) := by decide +kernel
theorem dX5_residualNumerator_2 : decode cX5_residualNumerator 2 = .ok (.invokevirtual 165, 3) := by decide +kernel
theorem dX5_residualNumerator_5 : decode cX5_residualNumerator 5 = .ok (.ifCond .eq 7, 3) := by decide +kernel
theorem dX5_residualNumerator_8 : decode cX5_residualNumerator 8 = .ok (.lconst 0, 1) := by decide +kernel
theorem dX5_residualNumerator_9 : decode cX5_residualNumerator 9 = .ok (.goto 7, 3) := by decide +kernel
theorem dX5_residualNumerator_12 : decode cX5_residualNumerator 12 = .ok (.aload_n 0, 1) := by decide +kernel
theorem dX5_residualNumerator_13 : decode cX5_residualNumerator 13 = .ok (.getfield 139, 3) := by decide +kernel
theorem dX5_residualNumerator_16 : decode cX5_residualNumerator 16 = .ok (.lreturn, 1) := by decide +kernel
set_option maxRecDepth 20000 in
theorem ggX5_residualDenominator_X5_noResidual : GoodIn wsX5_residualDenominator wsX5_noResidual := goodIn_r _ [6, 7, 8, 9, 10, 5, 11, 12, 13, 14, 15, 16, 17, 18, 19, 20, 21, 22, 23, 24, 25, 26, 27, 28, 29, 30, 31, 32, 33, 34, 35, 36, 37, 38, 39, 40, 41, 42, 43, 44, 45, 46, 47, 48, 49, 50, 51, 52, 53, 54, 55, 56, 57, 58, 59, 60, 61, 62, 63, 64, 65, 66, 67, 68, 69, 70, 71, 72, 73, 74, 75, 76, 77, 78, 79, 80, 81, 82, 83, 84, 85, 86, 87, 88, 89, 90, 91, 92, 1, 93, 94, 95, 96, 97, 98, 99, 100, 101, 102, 103, 104, 105, 106, 107, 108, 109, 110, 111, 112, 113, 114, 115, 116] (by decide +kernel) (by decide +kernel)
set_option maxRecDepth 20000 in
theorem gX5_residualDenominator_X5_noResidual : GoodIn wsX5_residualDenominator (wsV RX5 165 RX5 yX5_noResidual wsX5_noResidual) := goodIn_app (goodIn_of _ (by decide +kernel)) ggX5_residualDenominator_X5_noResidual
theorem dX5_residualDenominator_0 : decode cX5_residualDenominator 0 = .ok (.aload_n 0, 1) := by decide +kernel
theorem dX5_residualDenominator_1 : decode cX5_residualDenominator 1 = .ok (.iload_n 1, 1) := by decide +kernel
theorem dX5_residualDenominator_2 : decode cX5_residualDenominator 2 = .ok (.invokevirtual 165, 3) := by decide +kernel
theorem dX5_residualDenominator_5 : decode cX5_residualDenominator 5 = .ok (.ifCond .eq 7, 3) := by decide +kernel
theorem dX5_residualDenominator_8 : decode cX5_residualDenominator 8 = .ok (.lconst 0, 1) := by decide +kernel
theorem dX5_residualDenominator_9 : decode cX5_residualDenominator 9 = .ok (.goto 7, 3) := by decide +kernel
theorem dX5_residualDenominator_12 : decode cX5_residualDenominator 12 = .ok (.aload_n 0, 1) := by decide +kernel
theorem dX5_residualDenominator_13 : decode cX5_residualDenominator 13 = .ok (.getfield 142, 3) := by decide +kernel
theorem dX5_residualDenominator_16 : decode cX5_residualDenominator 16 = .ok (.lreturn, 1) := by decide +kernel
set_option maxRecDepth 20000 in
theorem ggX5_worstOf_X5_estimate : GoodIn wsX5_worstOf wsX5_estimate := goodIn_r _ [6, 7, 8, 9, 10, 11, 12, 13, 5, 14, 15, 16, 17, 18, 19, 20, 21, 22, 23, 1, 24, 25, 26, 27, 28, 29, 30, 31, 32, 33, 34, 35, 36, 37, 38, 39, 40, 41, 42, 43, 44, 45, 46, 47, 48, 49, 50, 51, 52, 53, 54, 55, 56, 57, 58, 59, 60, 61, 62, 71, 72, 73, 74, 75, 76, 77, 78, 79, 80, 81, 82, 83, 84, 85, 86, 87, 88, 89, 90, 91, 92, 93, 94] (by decide +kernel) (by decide +kernel)
set_option maxRecDepth 20000 in
theorem gX5_worstOf_X5_estimate : GoodIn wsX5_worstOf (wsV RX5 155 RX5 yX5_estimate wsX5_estimate) := goodIn_app (goodIn_of _ (by decide +kernel)) ggX5_worstOf_X5_estimate
set_option maxRecDepth 20000 in
theorem ggX5_worstOf_X5_countedIn : GoodIn wsX5_worstOf wsX5_countedIn := goodIn_r _ [30, 31, 32, 33, 34, 5, 35, 36, 22, 37, 38, 39, 71, 72, 73, 74, 75, 76, 77, 78, 79, 80, 81, 82, 83, 84, 85, 86, 87, 88, 89, 90, 91, 92, 93, 94] (by decide +kernel) (by decide +kernel)
set_option maxRecDepth 20000 in
theorem gX5_worstOf_X5_countedIn : GoodIn wsX5_worstOf (wsV RX5 100 RX5 yX5_countedIn wsX5_countedIn) := goodIn_app (goodIn_of _ (by decide +kernel)) ggX5_worstOf_X5_countedIn
set_option maxRecDepth 20000 in
theorem ggX5_worstOf_X5_size : GoodIn wsX5_worstOf wsX5_size := goodIn_r _ [66, 24, 67, 68, 69, 5, 70, 26, 15, 25, 10, 40, 41, 42, 43, 44, 36, 37, 39, 45, 38, 46, 47, 48, 49, 50, 23, 71, 72, 73, 74, 75, 76, 77, 78, 79, 80, 81, 82, 83, 84, 85, 86, 87, 88, 89, 90, 91, 92, 93, 94] (by decide +kernel) (by decide +kernel)
set_option maxRecDepth 20000 in
theorem gX5_worstOf_X5_size : GoodIn wsX5_worstOf (wsV RX5 168 RX5 yX5_size wsX5_size) := goodIn_app (goodIn_of _ (by decide +kernel)) ggX5_worstOf_X5_size
theorem dX5_worstOf_0 : decode cX5_worstOf 0 = .ok (.aload_n 0, 1) := by decide +kernel
theorem dX5_worstOf_1 : decode cX5_worstOf 1 = .ok (.iload_n 1, 1) := by decide +kernel
theorem dX5_worstOf_2 : decode cX5_worstOf 2 = .ok (.invokevirtual 155, 3) := by decide +kernel
theorem dX5_worstOf_5 : decode cX5_worstOf 5 = .ok (.iconst (-1), 1) := by decide +kernel
theorem dX5_worstOf_6 : decode cX5_worstOf 6 = .ok (.istore_n 2, 1) := by decide +kernel
theorem dX5_worstOf_7 : decode cX5_worstOf 7 = .ok (.lconst 0, 1) := by decide +kernel
theorem dX5_worstOf_8 : decode cX5_worstOf 8 = .ok (.lstore_n 3, 1) := by decide +kernel
theorem dX5_worstOf_9 : decode cX5_worstOf 9 = .ok (.iconst 0, 1) := by decide +kernel
theorem dX5_worstOf_10 : decode cX5_worstOf 10 = .ok (.istore 5, 2) := by decide +kernel
theorem dX5_worstOf_12 : decode cX5_worstOf 12 = .ok (.iload 5, 2) := by decide +kernel
theorem dX5_worstOf_14 : decode cX5_worstOf 14 = .ok (.aload_n 0, 1) := by decide +kernel
theorem dX5_worstOf_15 : decode cX5_worstOf 15 = .ok (.getfield 74, 3) := by decide +kernel
theorem dX5_worstOf_18 : decode cX5_worstOf 18 = .ok (.if_icmp .ge 40, 3) := by decide +kernel
theorem dX5_worstOf_21 : decode cX5_worstOf 21 = .ok (.aload_n 0, 1) := by decide +kernel
theorem dX5_worstOf_22 : decode cX5_worstOf 22 = .ok (.iload 5, 2) := by decide +kernel
theorem dX5_worstOf_24 : decode cX5_worstOf 24 = .ok (.invokevirtual 100, 3) := by decide +kernel
theorem dX5_worstOf_27 : decode cX5_worstOf 27 = .ok (.iload_n 1, 1) := by decide +kernel
theorem dX5_worstOf_28 : decode cX5_worstOf 28 = .ok (.if_icmp .ne 24, 3) := by decide +kernel
theorem dX5_worstOf_31 : decode cX5_worstOf 31 = .ok (.aload_n 0, 1) := by decide +kernel
theorem dX5_worstOf_32 : decode cX5_worstOf 32 = .ok (.iload 5, 2) := by decide +kernel
theorem dX5_worstOf_34 : decode cX5_worstOf 34 = .ok (.invokevirtual 168, 3) := by decide +kernel
theorem dX5_worstOf_37 : decode cX5_worstOf 37 = .ok (.lload_n 3, 1) := by decide +kernel
theorem dX5_worstOf_38 : decode cX5_worstOf 38 = .ok (.lcmp, 1) := by decide +kernel
theorem dX5_worstOf_39 : decode cX5_worstOf 39 = .ok (.ifCond .le 13, 3) := by decide +kernel
theorem dX5_worstOf_42 : decode cX5_worstOf 42 = .ok (.iload 5, 2) := by decide +kernel
theorem dX5_worstOf_44 : decode cX5_worstOf 44 = .ok (.istore_n 2, 1) := by decide +kernel
theorem dX5_worstOf_45 : decode cX5_worstOf 45 = .ok (.aload_n 0, 1) := by decide +kernel
theorem dX5_worstOf_46 : decode cX5_worstOf 46 = .ok (.iload 5, 2) := by decide +kernel
theorem dX5_worstOf_48 : decode cX5_worstOf 48 = .ok (.invokevirtual 168, 3) := by decide +kernel
theorem dX5_worstOf_51 : decode cX5_worstOf 51 = .ok (.lstore_n 3, 1) := by decide +kernel
theorem dX5_worstOf_52 : decode cX5_worstOf 52 = .ok (.iinc 5 1, 3) := by decide +kernel
theorem dX5_worstOf_55 : decode cX5_worstOf 55 = .ok (.goto (-43), 3) := by decide +kernel
theorem dX5_worstOf_58 : decode cX5_worstOf 58 = .ok (.iload_n 2, 1) := by decide +kernel
theorem dX5_worstOf_59 : decode cX5_worstOf 59 = .ok (.ireturn, 1) := by decide +kernel
set_option maxRecDepth 20000 in
theorem ggX5_worst_X5_divide : GoodIn wsX5_worst wsX5_divide := goodIn_r _ [6, 7, 1, 8, 9, 10, 11, 91, 92, 93, 94, 95, 96, 97, 98, 99, 100, 101, 102, 103, 104, 105, 106, 107, 108, 109, 110, 111, 112, 113, 114] (by decide +kernel) (by decide +kernel)
set_option maxRecDepth 20000 in
theorem gX5_worst_X5_divide : GoodIn wsX5_worst (wsV RX5 87 RX5 yX5_divide wsX5_divide) := goodIn_app (goodIn_of _ (by decide +kernel)) ggX5_worst_X5_divide
set_option maxRecDepth 20000 in
theorem ggX5_worst_X5_isBus : GoodIn wsX5_worst wsX5_isBus := goodIn_r _ [15, 7, 16, 17, 5, 18, 91, 92, 93, 94, 95, 96, 97, 98, 99, 100, 101, 102, 103, 104, 105, 106, 107, 108, 109, 110, 111, 112, 113, 114] (by decide +kernel) (by decide +kernel)
set_option maxRecDepth 20000 in
theorem gX5_worst_X5_isBus : GoodIn wsX5_worst (wsV RX5 77 RX5 yX5_isBus wsX5_isBus) := goodIn_app (goodIn_of _ (by decide +kernel)) ggX5_worst_X5_isBus
set_option maxRecDepth 20000 in
theorem ggX5_worst_X5_sees : GoodIn wsX5_worst wsX5_sees := goodIn_r _ [22, 23, 24, 25, 26, 5, 27, 28, 7, 1, 29, 30, 31, 32, 33, 34, 35, 36, 37, 38, 39, 40, 41, 42, 43, 44, 45, 46, 9, 10, 47, 48, 49, 50, 8, 11, 51, 52, 53, 54, 55, 56, 57, 58, 59, 60, 61, 62, 63, 64, 65, 66, 67, 68, 91, 92, 93, 94, 95, 96, 97, 98, 99, 100, 101, 102, 103, 104, 105, 106, 107, 108, 109, 110, 111, 112, 113, 114] (by decide +kernel) (by decide +kernel)
set_option maxRecDepth 20000 in
theorem gX5_worst_X5_sees : GoodIn wsX5_worst (wsV RX5 136 RX5 yX5_sees wsX5_sees) := goodIn_app (goodIn_of _ (by decide +kernel)) ggX5_worst_X5_sees
set_option maxRecDepth 20000 in
theorem ggX5_worst_X5_refused : GoodIn wsX5_worst wsX5_refused := goodIn_r _ [72, 73, 91, 92, 93, 94, 95, 96, 97, 98, 99, 100, 101, 102, 103, 104, 105, 106, 107, 108, 109, 110, 111, 112, 113, 114] (by decide +kernel) (by decide +kernel)
set_option maxRecDepth 20000 in
theorem gX5_worst_X5_refused : GoodIn wsX5_worst (wsV RX5 81 RX5 yX5_refused wsX5_refused) := goodIn_app (goodIn_of _ (by decide +kernel)) ggX5_worst_X5_refused
set_option maxRecDepth 20000 in
theorem ggX5_worst_X5_worstOf : GoodIn wsX5_worst wsX5_worstOf := goodIn_r _ [77, 32, 78, 79, 80, 5, 81, 60, 31, 30, 82, 19, 20, 21, 22, 23, 24, 25, 26, 27, 28, 7, 1, 29, 33, 34, 35, 36, 37, 38, 39, 40, 41, 42, 43, 44, 45, 46, 9, 10, 47, 48, 49, 50, 8, 11, 51, 52, 53, 54, 55, 56, 57, 58, 59, 61, 62, 63, 64, 65, 66, 67, 68, 83, 84, 85, 86, 87, 88, 89, 90, 91, 92, 93, 94, 95, 96, 97, 98, 99, 100, 101, 102, 103, 104, 105, 106, 107, 108, 109, 110, 111, 112, 113, 114] (by decide +kernel) (by decide +kernel)
set_option maxRecDepth 20000 in
theorem gX5_worst_X5_worstOf : GoodIn wsX5_worst (wsV RX5 171 RX5 yX5_worstOf wsX5_worstOf) := goodIn_app (goodIn_of _ (by decide +kernel)) ggX5_worst_X5_worstOf
theorem dX5_worst_0 : decode cX5_worst 0 = .ok (.aload_n 0, 1) := by decide +kernel
theorem dX5_worst_1 : decode cX5_worst 1 = .ok (.invokevirtual 87, 3) := by decide +kernel
theorem dX5_worst_4 : decode cX5_worst 4 = .ok (.aload_n 0, 1) := by decide +kernel
theorem dX5_worst_5 : decode cX5_worst 5 = .ok (.aload_n 0, 1) := by decide +kernel
theorem dX5_worst_6 : decode cX5_worst 6 = .ok (.iload_n 1, 1) := by decide +kernel
theorem dX5_worst_7 : decode cX5_worst 7 = .ok (.invokevirtual 77, 3) := by decide +kernel
theorem dX5_worst_10 : decode cX5_worst 10 = .ok (.ifCond .ne 7, 3) := by decide +kernel
theorem dX5_worst_13 : decode cX5_worst 13 = .ok (.iconst 1, 1) := by decide +kernel
theorem dX5_worst_14 : decode cX5_worst 14 = .ok (.goto 21, 3) := by decide +kernel
theorem dX5_worst_17 : decode cX5_worst 17 = .ok (.aload_n 0, 1) := by decide +kernel
theorem dX5_worst_18 : decode cX5_worst 18 = .ok (.aload_n 0, 1) := by decide +kernel
theorem dX5_worst_19 : decode cX5_worst 19 = .ok (.getfield 38, 3) := by decide +kernel
theorem dX5_worst_22 : decode cX5_worst 22 = .ok (.iload_n 1, 1) := by decide +kernel
theorem dX5_worst_23 : decode cX5_worst 23 = .ok (.iaload, 1) := by decide +kernel
theorem dX5_worst_24 : decode cX5_worst 24 = .ok (.invokevirtual 136, 3) := by decide +kernel
theorem dX5_worst_27 : decode cX5_worst 27 = .ok (.ifCond .eq 7, 3) := by decide +kernel
theorem dX5_worst_30 : decode cX5_worst 30 = .ok (.iconst 0, 1) := by decide +kernel
theorem dX5_worst_31 : decode cX5_worst 31 = .ok (.goto 4, 3) := by decide +kernel
theorem dX5_worst_34 : decode cX5_worst 34 = .ok (.iconst 2, 1) := by decide +kernel
theorem dX5_worst_35 : decode cX5_worst 35 = .ok (.invokevirtual 81, 3) := by decide +kernel
theorem dX5_worst_38 : decode cX5_worst 38 = .ok (.ifCond .eq 5, 3) := by decide +kernel
theorem dX5_worst_41 : decode cX5_worst 41 = .ok (.iconst 0, 1) := by decide +kernel
theorem dX5_worst_42 : decode cX5_worst 42 = .ok (.ireturn, 1) := by decide +kernel
theorem dX5_worst_43 : decode cX5_worst 43 = .ok (.aload_n 0, 1) := by decide +kernel
theorem dX5_worst_44 : decode cX5_worst 44 = .ok (.aload_n 0, 1) := by decide +kernel
theorem dX5_worst_45 : decode cX5_worst 45 = .ok (.getfield 38, 3) := by decide +kernel
theorem dX5_worst_48 : decode cX5_worst 48 = .ok (.iload_n 1, 1) := by decide +kernel
theorem dX5_worst_49 : decode cX5_worst 49 = .ok (.iaload, 1) := by decide +kernel
theorem dX5_worst_50 : decode cX5_worst 50 = .ok (.invokevirtual 171, 3) := by decide +kernel
theorem dX5_worst_53 : decode cX5_worst 53 = .ok (.ireturn, 1) := by decide +kernel
set_option maxRecDepth 20000 in
theorem ggX5_clean_X5_divide : GoodIn wsX5_clean wsX5_divide := goodIn_r _ [8, 9, 1, 10, 11, 12, 13, 95, 96, 97, 98, 99, 100, 101, 102, 103, 104, 105, 106, 107, 108, 109, 110, 111, 112, 113, 114, 115, 116, 117, 118] (by decide +kernel) (by decide +kernel)
set_option maxRecDepth 20000 in
theorem gX5_clean_X5_divide : GoodIn wsX5_clean (wsV RX5 87 RX5 yX5_divide wsX5_divide) := goodIn_app (goodIn_of _ (by decide +kernel)) ggX5_clean_X5_divide
set_option maxRecDepth 20000 in
theorem ggX5_clean_X5_isBus : GoodIn wsX5_clean wsX5_isBus := goodIn_r _ [17, 9, 18, 19, 7, 20, 95, 96, 97, 98, 99, 100, 101, 102, 103, 104, 105, 106, 107, 108, 109, 110, 111, 112, 113, 114, 115, 116, 117, 118] (by decide +kernel) (by decide +kernel)
set_option maxRecDepth 20000 in
theorem gX5_clean_X5_isBus : GoodIn wsX5_clean (wsV RX5 77 RX5 yX5_isBus wsX5_isBus) := goodIn_app (goodIn_of _ (by decide +kernel)) ggX5_clean_X5_isBus
set_option maxRecDepth 20000 in
theorem ggX5_clean_X5_in : GoodIn wsX5_clean wsX5_in := goodIn_r _ [20] (by decide +kernel) (by decide +kernel)
set_option maxRecDepth 20000 in
theorem gX5_clean_X5_in : GoodIn wsX5_clean (va_wsS RX5 67 yX5_in wsX5_in) := goodIn_app (goodIn_of _ (by decide +kernel)) ggX5_clean_X5_in
set_option maxRecDepth 20000 in
theorem ggX5_clean_X5_sees : GoodIn wsX5_clean wsX5_sees := goodIn_r _ [24, 2, 25, 26, 27, 7, 28, 29, 9, 1, 30, 31, 32, 33, 34, 35, 36, 37, 38, 39, 40, 3, 41, 42, 43, 44, 45, 46, 11, 12, 47, 48, 49, 50, 10, 13, 51, 52, 53, 54, 55, 56, 57, 58, 59, 60, 61, 62, 63, 64, 65, 66, 67, 68, 95, 96, 97, 98, 99, 100, 101, 102, 103, 104, 105, 106, 107, 108, 109, 110, 111, 112, 113, 114, 115, 116, 117, 118] (by decide +kernel) (by decide +kernel)
set_option maxRecDepth 20000 in
theorem gX5_clean_X5_sees : GoodIn wsX5_clean (wsV RX5 136 RX5 yX5_sees wsX5_sees) := goodIn_app (goodIn_of _ (by decide +kernel)) ggX5_clean_X5_sees
set_option maxRecDepth 20000 in
theorem ggX5_clean_X5_refused : GoodIn wsX5_clean wsX5_refused := goodIn_r _ [72, 73, 95, 96, 97, 98, 99, 100, 101, 102, 103, 104, 105, 106, 107, 108, 109, 110, 111, 112, 113, 114, 115, 116, 117, 118] (by decide +kernel) (by decide +kernel)
set_option maxRecDepth 20000 in
theorem gX5_clean_X5_refused : GoodIn wsX5_clean (wsV RX5 81 RX5 yX5_refused wsX5_refused) := goodIn_app (goodIn_of _ (by decide +kernel)) ggX5_clean_X5_refused
set_option maxRecDepth 20000 in
theorem ggX5_clean_X5_worstOf : GoodIn wsX5_clean wsX5_worstOf := goodIn_r _ [77, 33, 78, 79, 80, 7, 81, 60, 32, 31, 82, 21, 22, 23, 24, 2, 25, 26, 27, 28, 29, 9, 1, 30, 34, 35, 36, 37, 38, 39, 40, 3, 41, 42, 43, 44, 45, 46, 11, 12, 47, 48, 49, 50, 10, 13, 51, 52, 53, 54, 55, 56, 57, 58, 59, 61, 62, 63, 64, 65, 66, 67, 68, 83, 84, 85, 86, 87, 88, 89, 90, 95, 96, 97, 98, 99, 100, 101, 102, 103, 104, 105, 106, 107, 108, 109, 110, 111, 112, 113, 114, 115, 116, 117, 118] (by decide +kernel) (by decide +kernel)
set_option maxRecDepth 20000 in
theorem gX5_clean_X5_worstOf : GoodIn wsX5_clean (wsV RX5 171 RX5 yX5_worstOf wsX5_worstOf) := goodIn_app (goodIn_of _ (by decide +kernel)) ggX5_clean_X5_worstOf
set_option maxRecDepth 20000 in
theorem ggX5_clean_X5_size : GoodIn wsX5_clean wsX5_size := goodIn_r _ [86, 34, 87, 88, 89, 7, 90, 36, 2, 35, 82, 47, 48, 49, 50, 10, 45, 46, 12, 13, 11, 51, 52, 53, 54, 55, 30, 95, 96, 97, 98, 99, 100, 101, 102, 103, 104, 105, 106, 107, 108, 109, 110, 111, 112, 113, 114, 115, 116, 117, 118] (by decide +kernel) (by decide +kernel)
set_option maxRecDepth 20000 in
theorem gX5_clean_X5_size : GoodIn wsX5_clean (wsV RX5 168 RX5 yX5_size wsX5_size) := goodIn_app (goodIn_of _ (by decide +kernel)) ggX5_clean_X5_size
set_option maxRecDepth 20000 in
theorem ggX5_clean_X5_isNeeded : GoodIn wsX5_clean wsX5_isNeeded := goodIn_r _ [94, 37, 38, 39, 7, 40, 3, 41, 42, 43, 44, 45, 1, 46, 11, 12, 21, 22, 23, 24, 2, 25, 26, 27, 28, 29, 9, 30, 31, 32, 33, 34, 35, 36, 47, 48, 49, 50, 10, 13, 51, 52, 53, 54, 55, 56, 57, 58, 59, 60, 61, 62, 63, 64, 65, 66, 67, 68, 95, 96, 97, 98, 99, 100, 101, 102, 103, 104, 105, 106, 107, 108, 109, 110, 111, 112, 113, 114, 115, 116, 117, 118] (by decide +kernel) (by decide +kernel)
set_option maxRecDepth 20000 in
theorem gX5_clean_X5_isNeeded : GoodIn wsX5_clean (wsV RX5 152 RX5 yX5_isNeeded wsX5_isNeeded) := goodIn_app (goodIn_of _ (by decide +kernel)) ggX5_clean_X5_isNeeded
theorem dX5_clean_0 : decode cX5_clean 0 = .ok (.aload_n 0, 1) := by decide +kernel
theorem dX5_clean_1 : decode cX5_clean 1 = .ok (.invokevirtual 87, 3) := by decide +kernel
theorem dX5_clean_4 : decode cX5_clean 4 = .ok (.aload_n 0, 1) := by decide +kernel
theorem dX5_clean_5 : decode cX5_clean 5 = .ok (.aload_n 0, 1) := by decide +kernel
theorem dX5_clean_6 : decode cX5_clean 6 = .ok (.iload_n 1, 1) := by decide +kernel
theorem dX5_clean_7 : decode cX5_clean 7 = .ok (.invokevirtual 77, 3) := by decide +kernel
theorem dX5_clean_10 : decode cX5_clean 10 = .ok (.ifCond .ne 7, 3) := by decide +kernel
theorem dX5_clean_13 : decode cX5_clean 13 = .ok (.iconst 1, 1) := by decide +kernel
theorem dX5_clean_14 : decode cX5_clean 14 = .ok (.goto 36, 3) := by decide +kernel
theorem dX5_clean_17 : decode cX5_clean 17 = .ok (.iload_n 2, 1) := by decide +kernel
theorem dX5_clean_18 : decode cX5_clean 18 = .ok (.iconst 0, 1) := by decide +kernel
theorem dX5_clean_19 : decode cX5_clean 19 = .ok (.sipush 200, 3) := by decide +kernel
theorem dX5_clean_22 : decode cX5_clean 22 = .ok (.invokestatic 67, 3) := by decide +kernel
theorem dX5_clean_25 : decode cX5_clean 25 = .ok (.ifCond .ne 7, 3) := by decide +kernel
theorem dX5_clean_28 : decode cX5_clean 28 = .ok (.iconst 2, 1) := by decide +kernel
theorem dX5_clean_29 : decode cX5_clean 29 = .ok (.goto 21, 3) := by decide +kernel
theorem dX5_clean_32 : decode cX5_clean 32 = .ok (.aload_n 0, 1) := by decide +kernel
theorem dX5_clean_33 : decode cX5_clean 33 = .ok (.aload_n 0, 1) := by decide +kernel
theorem dX5_clean_34 : decode cX5_clean 34 = .ok (.getfield 38, 3) := by decide +kernel
theorem dX5_clean_37 : decode cX5_clean 37 = .ok (.iload_n 1, 1) := by decide +kernel
theorem dX5_clean_38 : decode cX5_clean 38 = .ok (.iaload, 1) := by decide +kernel
theorem dX5_clean_39 : decode cX5_clean 39 = .ok (.invokevirtual 136, 3) := by decide +kernel
theorem dX5_clean_42 : decode cX5_clean 42 = .ok (.ifCond .eq 7, 3) := by decide +kernel
theorem dX5_clean_45 : decode cX5_clean 45 = .ok (.iconst 0, 1) := by decide +kernel
theorem dX5_clean_46 : decode cX5_clean 46 = .ok (.goto 4, 3) := by decide +kernel
theorem dX5_clean_49 : decode cX5_clean 49 = .ok (.iconst 3, 1) := by decide +kernel
theorem dX5_clean_50 : decode cX5_clean 50 = .ok (.invokevirtual 81, 3) := by decide +kernel
theorem dX5_clean_53 : decode cX5_clean 53 = .ok (.ifCond .eq 5, 3) := by decide +kernel
theorem dX5_clean_56 : decode cX5_clean 56 = .ok (.iconst 0, 1) := by decide +kernel
theorem dX5_clean_57 : decode cX5_clean 57 = .ok (.ireturn, 1) := by decide +kernel
theorem dX5_clean_58 : decode cX5_clean 58 = .ok (.iconst 0, 1) := by decide +kernel
theorem dX5_clean_59 : decode cX5_clean 59 = .ok (.istore_n 3, 1) := by decide +kernel
theorem dX5_clean_60 : decode cX5_clean 60 = .ok (.aload_n 0, 1) := by decide +kernel
theorem dX5_clean_61 : decode cX5_clean 61 = .ok (.aload_n 0, 1) := by decide +kernel
theorem dX5_clean_62 : decode cX5_clean 62 = .ok (.getfield 38, 3) := by decide +kernel
theorem dX5_clean_65 : decode cX5_clean 65 = .ok (.iload_n 1, 1) := by decide +kernel
theorem dX5_clean_66 : decode cX5_clean 66 = .ok (.iaload, 1) := by decide +kernel
theorem dX5_clean_67 : decode cX5_clean 67 = .ok (.invokevirtual 171, 3) := by decide +kernel
theorem dX5_clean_70 : decode cX5_clean 70 = .ok (.istore 4, 2) := by decide +kernel
theorem dX5_clean_72 : decode cX5_clean 72 = .ok (.iload 4, 2) := by decide +kernel
theorem dX5_clean_74 : decode cX5_clean 74 = .ok (.iconst (-1), 1) := by decide +kernel
theorem dX5_clean_75 : decode cX5_clean 75 = .ok (.if_icmp .eq 55, 3) := by decide +kernel
theorem dX5_clean_78 : decode cX5_clean 78 = .ok (.aload_n 0, 1) := by decide +kernel
theorem dX5_clean_79 : decode cX5_clean 79 = .ok (.iload 4, 2) := by decide +kernel
theorem dX5_clean_81 : decode cX5_clean 81 = .ok (.invokevirtual 168, 3) := by decide +kernel
theorem dX5_clean_84 : decode cX5_clean 84 = .ok (.iload_n 2, 1) := by decide +kernel
theorem dX5_clean_85 : decode cX5_clean 85 = .ok (.i2l, 1) := by decide +kernel
theorem dX5_clean_86 : decode cX5_clean 86 = .ok (.aload_n 0, 1) := by decide +kernel
theorem dX5_clean_87 : decode cX5_clean 87 = .ok (.getfield 132, 3) := by decide +kernel
theorem dX5_clean_90 : decode cX5_clean 90 = .ok (.lmul, 1) := by decide +kernel
theorem dX5_clean_91 : decode cX5_clean 91 = .ok (.lcmp, 1) := by decide +kernel
theorem dX5_clean_92 : decode cX5_clean 92 = .ok (.ifCond .le 38, 3) := by decide +kernel
theorem dX5_clean_95 : decode cX5_clean 95 = .ok (.aload_n 0, 1) := by decide +kernel
theorem dX5_clean_96 : decode cX5_clean 96 = .ok (.iload 4, 2) := by decide +kernel
theorem dX5_clean_98 : decode cX5_clean 98 = .ok (.invokevirtual 152, 3) := by decide +kernel
theorem dX5_clean_101 : decode cX5_clean 101 = .ok (.ifCond .ne 29, 3) := by decide +kernel
theorem dX5_clean_104 : decode cX5_clean 104 = .ok (.aload_n 0, 1) := by decide +kernel
theorem dX5_clean_105 : decode cX5_clean 105 = .ok (.getfield 35, 3) := by decide +kernel
theorem dX5_clean_108 : decode cX5_clean 108 = .ok (.iload 4, 2) := by decide +kernel
theorem dX5_clean_110 : decode cX5_clean 110 = .ok (.iconst 0, 1) := by decide +kernel
theorem dX5_clean_111 : decode cX5_clean 111 = .ok (.bastore, 1) := by decide +kernel
theorem dX5_clean_112 : decode cX5_clean 112 = .ok (.iinc 3 1, 3) := by decide +kernel
theorem dX5_clean_115 : decode cX5_clean 115 = .ok (.aload_n 0, 1) := by decide +kernel
theorem dX5_clean_116 : decode cX5_clean 116 = .ok (.aload_n 0, 1) := by decide +kernel
theorem dX5_clean_117 : decode cX5_clean 117 = .ok (.getfield 38, 3) := by decide +kernel
theorem dX5_clean_120 : decode cX5_clean 120 = .ok (.iload_n 1, 1) := by decide +kernel
theorem dX5_clean_121 : decode cX5_clean 121 = .ok (.iaload, 1) := by decide +kernel
theorem dX5_clean_122 : decode cX5_clean 122 = .ok (.invokevirtual 171, 3) := by decide +kernel
theorem dX5_clean_125 : decode cX5_clean 125 = .ok (.istore 4, 2) := by decide +kernel
theorem dX5_clean_127 : decode cX5_clean 127 = .ok (.goto (-55), 3) := by decide +kernel
theorem dX5_clean_130 : decode cX5_clean 130 = .ok (.iload_n 3, 1) := by decide +kernel
theorem dX5_clean_131 : decode cX5_clean 131 = .ok (.ireturn, 1) := by decide +kernel
theorem dJ6_bitCount_0f7a4_0 : decode cJ6_bitCount_0f7a4 0 = .ok (.iload_n 0, 1) := by decide +kernel
theorem dJ6_bitCount_0f7a4_1 : decode cJ6_bitCount_0f7a4 1 = .ok (.iload_n 0, 1) := by decide +kernel
theorem dJ6_bitCount_0f7a4_2 : decode cJ6_bitCount_0f7a4 2 = .ok (.iconst 1, 1) := by decide +kernel
theorem dJ6_bitCount_0f7a4_3 : decode cJ6_bitCount_0f7a4 3 = .ok (.iushr, 1) := by decide +kernel
theorem dJ6_bitCount_0f7a4_4 : decode cJ6_bitCount_0f7a4 4 = .ok (.ldc_w 265, 3) := by decide +kernel
theorem dJ6_bitCount_0f7a4_7 : decode cJ6_bitCount_0f7a4 7 = .ok (.iand, 1) := by decide +kernel
theorem dJ6_bitCount_0f7a4_8 : decode cJ6_bitCount_0f7a4 8 = .ok (.isub, 1) := by decide +kernel
theorem dJ6_bitCount_0f7a4_9 : decode cJ6_bitCount_0f7a4 9 = .ok (.istore_n 0, 1) := by decide +kernel
theorem dJ6_bitCount_0f7a4_10 : decode cJ6_bitCount_0f7a4 10 = .ok (.iload_n 0, 1) := by decide +kernel
theorem dJ6_bitCount_0f7a4_11 : decode cJ6_bitCount_0f7a4 11 = .ok (.ldc_w 266, 3) := by decide +kernel
theorem dJ6_bitCount_0f7a4_14 : decode cJ6_bitCount_0f7a4 14 = .ok (.iand, 1) := by decide +kernel
theorem dJ6_bitCount_0f7a4_15 : decode cJ6_bitCount_0f7a4 15 = .ok (.iload_n 0, 1) := by decide +kernel
theorem dJ6_bitCount_0f7a4_16 : decode cJ6_bitCount_0f7a4 16 = .ok (.iconst 2, 1) := by decide +kernel
theorem dJ6_bitCount_0f7a4_17 : decode cJ6_bitCount_0f7a4 17 = .ok (.iushr, 1) := by decide +kernel
theorem dJ6_bitCount_0f7a4_18 : decode cJ6_bitCount_0f7a4 18 = .ok (.ldc_w 266, 3) := by decide +kernel
theorem dJ6_bitCount_0f7a4_21 : decode cJ6_bitCount_0f7a4 21 = .ok (.iand, 1) := by decide +kernel
theorem dJ6_bitCount_0f7a4_22 : decode cJ6_bitCount_0f7a4 22 = .ok (.iadd, 1) := by decide +kernel
theorem dJ6_bitCount_0f7a4_23 : decode cJ6_bitCount_0f7a4 23 = .ok (.istore_n 0, 1) := by decide +kernel
theorem dJ6_bitCount_0f7a4_24 : decode cJ6_bitCount_0f7a4 24 = .ok (.iload_n 0, 1) := by decide +kernel
theorem dJ6_bitCount_0f7a4_25 : decode cJ6_bitCount_0f7a4 25 = .ok (.iload_n 0, 1) := by decide +kernel
theorem dJ6_bitCount_0f7a4_26 : decode cJ6_bitCount_0f7a4 26 = .ok (.iconst 4, 1) := by decide +kernel
theorem dJ6_bitCount_0f7a4_27 : decode cJ6_bitCount_0f7a4 27 = .ok (.iushr, 1) := by decide +kernel
theorem dJ6_bitCount_0f7a4_28 : decode cJ6_bitCount_0f7a4 28 = .ok (.iadd, 1) := by decide +kernel
theorem dJ6_bitCount_0f7a4_29 : decode cJ6_bitCount_0f7a4 29 = .ok (.ldc_w 267, 3) := by decide +kernel
theorem dJ6_bitCount_0f7a4_32 : decode cJ6_bitCount_0f7a4 32 = .ok (.iand, 1) := by decide +kernel
theorem dJ6_bitCount_0f7a4_33 : decode cJ6_bitCount_0f7a4 33 = .ok (.istore_n 0, 1) := by decide +kernel
theorem dJ6_bitCount_0f7a4_34 : decode cJ6_bitCount_0f7a4 34 = .ok (.iload_n 0, 1) := by decide +kernel
theorem dJ6_bitCount_0f7a4_35 : decode cJ6_bitCount_0f7a4 35 = .ok (.iload_n 0, 1) := by decide +kernel
theorem dJ6_bitCount_0f7a4_36 : decode cJ6_bitCount_0f7a4 36 = .ok (.bipush 8, 2) := by decide +kernel
theorem dJ6_bitCount_0f7a4_38 : decode cJ6_bitCount_0f7a4 38 = .ok (.iushr, 1) := by decide +kernel
theorem dJ6_bitCount_0f7a4_39 : decode cJ6_bitCount_0f7a4 39 = .ok (.iadd, 1) := by decide +kernel
theorem dJ6_bitCount_0f7a4_40 : decode cJ6_bitCount_0f7a4 40 = .ok (.istore_n 0, 1) := by decide +kernel
theorem dJ6_bitCount_0f7a4_41 : decode cJ6_bitCount_0f7a4 41 = .ok (.iload_n 0, 1) := by decide +kernel
theorem dJ6_bitCount_0f7a4_42 : decode cJ6_bitCount_0f7a4 42 = .ok (.iload_n 0, 1) := by decide +kernel
theorem dJ6_bitCount_0f7a4_43 : decode cJ6_bitCount_0f7a4 43 = .ok (.bipush 16, 2) := by decide +kernel
theorem dJ6_bitCount_0f7a4_45 : decode cJ6_bitCount_0f7a4 45 = .ok (.iushr, 1) := by decide +kernel
theorem dJ6_bitCount_0f7a4_46 : decode cJ6_bitCount_0f7a4 46 = .ok (.iadd, 1) := by decide +kernel
theorem dJ6_bitCount_0f7a4_47 : decode cJ6_bitCount_0f7a4 47 = .ok (.istore_n 0, 1) := by decide +kernel
theorem dJ6_bitCount_0f7a4_48 : decode cJ6_bitCount_0f7a4 48 = .ok (.iload_n 0, 1) := by decide +kernel
theorem dJ6_bitCount_0f7a4_49 : decode cJ6_bitCount_0f7a4 49 = .ok (.bipush 63, 2) := by decide +kernel
theorem dJ6_bitCount_0f7a4_51 : decode cJ6_bitCount_0f7a4 51 = .ok (.iand, 1) := by decide +kernel
theorem dJ6_bitCount_0f7a4_52 : decode cJ6_bitCount_0f7a4 52 = .ok (.ireturn, 1) := by decide +kernel
theorem dJ9_abs_067f4_0 : decode cJ9_abs_067f4 0 = .ok (.lload_n 0, 1) := by decide +kernel
theorem dJ9_abs_067f4_1 : decode cJ9_abs_067f4 1 = .ok (.lconst 0, 1) := by decide +kernel
theorem dJ9_abs_067f4_2 : decode cJ9_abs_067f4 2 = .ok (.lcmp, 1) := by decide +kernel
theorem dJ9_abs_067f4_3 : decode cJ9_abs_067f4 3 = .ok (.ifCond .ge 8, 3) := by decide +kernel
theorem dJ9_abs_067f4_6 : decode cJ9_abs_067f4 6 = .ok (.lload_n 0, 1) := by decide +kernel
theorem dJ9_abs_067f4_7 : decode cJ9_abs_067f4 7 = .ok (.lneg, 1) := by decide +kernel
theorem dJ9_abs_067f4_8 : decode cJ9_abs_067f4 8 = .ok (.goto 4, 3) := by decide +kernel
theorem dJ9_abs_067f4_11 : decode cJ9_abs_067f4 11 = .ok (.lload_n 0, 1) := by decide +kernel
theorem dJ9_abs_067f4_12 : decode cJ9_abs_067f4 12 = .ok (.lreturn, 1) := by decide +kernel
theorem dJ9_max_7cf53_0 : decode cJ9_max_7cf53 0 = .ok (.iload_n 0, 1) := by decide +kernel
theorem dJ9_max_7cf53_1 : decode cJ9_max_7cf53 1 = .ok (.iload_n 1, 1) := by decide +kernel
theorem dJ9_max_7cf53_2 : decode cJ9_max_7cf53 2 = .ok (.if_icmp .lt 7, 3) := by decide +kernel
theorem dJ9_max_7cf53_5 : decode cJ9_max_7cf53 5 = .ok (.iload_n 0, 1) := by decide +kernel
theorem dJ9_max_7cf53_6 : decode cJ9_max_7cf53 6 = .ok (.goto 4, 3) := by decide +kernel
theorem dJ9_max_7cf53_9 : decode cJ9_max_7cf53 9 = .ok (.iload_n 1, 1) := by decide +kernel
theorem dJ9_max_7cf53_10 : decode cJ9_max_7cf53 10 = .ok (.ireturn, 1) := by decide +kernel
theorem dJ9_max_f86c9_0 : decode cJ9_max_f86c9 0 = .ok (.lload_n 0, 1) := by decide +kernel
theorem dJ9_max_f86c9_1 : decode cJ9_max_f86c9 1 = .ok (.lload_n 2, 1) := by decide +kernel
theorem dJ9_max_f86c9_2 : decode cJ9_max_f86c9 2 = .ok (.lcmp, 1) := by decide +kernel
theorem dJ9_max_f86c9_3 : decode cJ9_max_f86c9 3 = .ok (.ifCond .lt 7, 3) := by decide +kernel
theorem dJ9_max_f86c9_6 : decode cJ9_max_f86c9 6 = .ok (.lload_n 0, 1) := by decide +kernel
theorem dJ9_max_f86c9_7 : decode cJ9_max_f86c9 7 = .ok (.goto 4, 3) := by decide +kernel
theorem dJ9_max_f86c9_10 : decode cJ9_max_f86c9 10 = .ok (.lload_n 2, 1) := by decide +kernel
theorem dJ9_max_f86c9_11 : decode cJ9_max_f86c9 11 = .ok (.lreturn, 1) := by decide +kernel
theorem dJ9_min_7cf53_0 : decode cJ9_min_7cf53 0 = .ok (.iload_n 0, 1) := by decide +kernel
theorem dJ9_min_7cf53_1 : decode cJ9_min_7cf53 1 = .ok (.iload_n 1, 1) := by decide +kernel
theorem dJ9_min_7cf53_2 : decode cJ9_min_7cf53 2 = .ok (.if_icmp .gt 7, 3) := by decide +kernel
theorem dJ9_min_7cf53_5 : decode cJ9_min_7cf53 5 = .ok (.iload_n 0, 1) := by decide +kernel
theorem dJ9_min_7cf53_6 : decode cJ9_min_7cf53 6 = .ok (.goto 4, 3) := by decide +kernel
theorem dJ9_min_7cf53_9 : decode cJ9_min_7cf53 9 = .ok (.iload_n 1, 1) := by decide +kernel
theorem dJ9_min_7cf53_10 : decode cJ9_min_7cf53 10 = .ok (.ireturn, 1) := by decide +kernel
