theorem dX5_divide_4 : decode cX5_divide 4 = .ok (.getfield 60, 3) := by decide +kernel
theorem dX5_divide_7 : decode cX5_divide 7 = .ok (.if_icmp .ge 16, 3) := by decide +kernel
theorem dX5_divide_10 : decode cX5_divide 10 = .ok (.aload_n 0, 1) := by decide +kernel
theorem dX5_divide_11 : decode cX5_divide 11 = .ok (.getfield 38, 3) := by decide +kernel
theorem dX5_divide_14 : decode cX5_divide 14 = .ok (.iload_n 1, 1) := by decide +kernel
theorem dX5_divide_15 : decode cX5_divide 15 = .ok (.iload_n 1, 1) := by decide +kernel
theorem dX5_divide_16 : decode cX5_divide 16 = .ok (.iastore, 1) := by decide +kernel
theorem dX5_divide_17 : decode cX5_divide 17 = .ok (.iinc 1 1, 3) := by decide +kernel
theorem dX5_divide_20 : decode cX5_divide 20 = .ok (.goto (-18), 3) := by decide +kernel
theorem dX5_divide_23 : decode cX5_divide 23 = .ok (.iconst 0, 1) := by decide +kernel
theorem dX5_divide_24 : decode cX5_divide 24 = .ok (.istore_n 1, 1) := by decide +kernel
theorem dX5_divide_25 : decode cX5_divide 25 = .ok (.iload_n 1, 1) := by decide +kernel
theorem dX5_divide_26 : decode cX5_divide 26 = .ok (.aload_n 0, 1) := by decide +kernel
theorem dX5_divide_27 : decode cX5_divide 27 = .ok (.getfield 60, 3) := by decide +kernel
theorem dX5_divide_30 : decode cX5_divide 30 = .ok (.if_icmp .ge 105, 3) := by decide +kernel
theorem dX5_divide_33 : decode cX5_divide 33 = .ok (.iconst 0, 1) := by decide +kernel
theorem dX5_divide_34 : decode cX5_divide 34 = .ok (.istore_n 2, 1) := by decide +kernel
theorem dX5_divide_35 : decode cX5_divide 35 = .ok (.iload_n 2, 1) := by decide +kernel
theorem dX5_divide_36 : decode cX5_divide 36 = .ok (.aload_n 0, 1) := by decide +kernel
theorem dX5_divide_37 : decode cX5_divide 37 = .ok (.getfield 71, 3) := by decide +kernel
theorem dX5_divide_40 : decode cX5_divide 40 = .ok (.if_icmp .ge 89, 3) := by decide +kernel
theorem dX5_divide_43 : decode cX5_divide 43 = .ok (.aload_n 0, 1) := by decide +kernel
theorem dX5_divide_44 : decode cX5_divide 44 = .ok (.getfield 19, 3) := by decide +kernel
theorem dX5_divide_47 : decode cX5_divide 47 = .ok (.iload_n 2, 1) := by decide +kernel
theorem dX5_divide_48 : decode cX5_divide 48 = .ok (.baload, 1) := by decide +kernel
theorem dX5_divide_49 : decode cX5_divide 49 = .ok (.ifCond .eq 74, 3) := by decide +kernel
theorem dX5_divide_52 : decode cX5_divide 52 = .ok (.aload_n 0, 1) := by decide +kernel
theorem dX5_divide_53 : decode cX5_divide 53 = .ok (.getfield 38, 3) := by decide +kernel
theorem dX5_divide_56 : decode cX5_divide 56 = .ok (.aload_n 0, 1) := by decide +kernel
theorem dX5_divide_57 : decode cX5_divide 57 = .ok (.getfield 7, 3) := by decide +kernel
theorem dX5_divide_60 : decode cX5_divide 60 = .ok (.iload_n 2, 1) := by decide +kernel
theorem dX5_divide_61 : decode cX5_divide 61 = .ok (.iaload, 1) := by decide +kernel
theorem dX5_divide_62 : decode cX5_divide 62 = .ok (.iaload, 1) := by decide +kernel
theorem dX5_divide_63 : decode cX5_divide 63 = .ok (.istore_n 3, 1) := by decide +kernel
theorem dX5_divide_64 : decode cX5_divide 64 = .ok (.aload_n 0, 1) := by decide +kernel
theorem dX5_divide_65 : decode cX5_divide 65 = .ok (.getfield 38, 3) := by decide +kernel
theorem dX5_divide_68 : decode cX5_divide 68 = .ok (.aload_n 0, 1) := by decide +kernel
theorem dX5_divide_69 : decode cX5_divide 69 = .ok (.getfield 13, 3) := by decide +kernel
theorem dX5_divide_72 : decode cX5_divide 72 = .ok (.iload_n 2, 1) := by decide +kernel
theorem dX5_divide_73 : decode cX5_divide 73 = .ok (.iaload, 1) := by decide +kernel
theorem dX5_divide_74 : decode cX5_divide 74 = .ok (.iaload, 1) := by decide +kernel
theorem dX5_divide_75 : decode cX5_divide 75 = .ok (.istore 4, 2) := by decide +kernel
theorem dX5_divide_77 : decode cX5_divide 77 = .ok (.aload_n 0, 1) := by decide +kernel
theorem dX5_divide_78 : decode cX5_divide 78 = .ok (.getfield 38, 3) := by decide +kernel
theorem dX5_divide_81 : decode cX5_divide 81 = .ok (.aload_n 0, 1) := by decide +kernel
theorem dX5_divide_82 : decode cX5_divide 82 = .ok (.getfield 7, 3) := by decide +kernel
theorem dX5_divide_85 : decode cX5_divide 85 = .ok (.iload_n 2, 1) := by decide +kernel
theorem dX5_divide_86 : decode cX5_divide 86 = .ok (.iaload, 1) := by decide +kernel
theorem dX5_divide_87 : decode cX5_divide 87 = .ok (.iload_n 3, 1) := by decide +kernel
theorem dX5_divide_88 : decode cX5_divide 88 = .ok (.iload 4, 2) := by decide +kernel
theorem dX5_divide_90 : decode cX5_divide 90 = .ok (.if_icmp .ge 7, 3) := by decide +kernel
theorem dX5_divide_93 : decode cX5_divide 93 = .ok (.iload_n 3, 1) := by decide +kernel
theorem dX5_divide_94 : decode cX5_divide 94 = .ok (.goto 5, 3) := by decide +kernel
theorem dX5_divide_97 : decode cX5_divide 97 = .ok (.iload 4, 2) := by decide +kernel
theorem dX5_divide_99 : decode cX5_divide 99 = .ok (.iastore, 1) := by decide +kernel
theorem dX5_divide_100 : decode cX5_divide 100 = .ok (.aload_n 0, 1) := by decide +kernel
theorem dX5_divide_101 : decode cX5_divide 101 = .ok (.getfield 38, 3) := by decide +kernel
theorem dX5_divide_104 : decode cX5_divide 104 = .ok (.aload_n 0, 1) := by decide +kernel
theorem dX5_divide_105 : decode cX5_divide 105 = .ok (.getfield 13, 3) := by decide +kernel
theorem dX5_divide_108 : decode cX5_divide 108 = .ok (.iload_n 2, 1) := by decide +kernel
theorem dX5_divide_109 : decode cX5_divide 109 = .ok (.iaload, 1) := by decide +kernel
theorem dX5_divide_110 : decode cX5_divide 110 = .ok (.iload_n 3, 1) := by decide +kernel
theorem dX5_divide_111 : decode cX5_divide 111 = .ok (.iload 4, 2) := by decide +kernel
theorem dX5_divide_113 : decode cX5_divide 113 = .ok (.if_icmp .ge 7, 3) := by decide +kernel
theorem dX5_divide_116 : decode cX5_divide 116 = .ok (.iload_n 3, 1) := by decide +kernel
theorem dX5_divide_117 : decode cX5_divide 117 = .ok (.goto 5, 3) := by decide +kernel
theorem dX5_divide_120 : decode cX5_divide 120 = .ok (.iload 4, 2) := by decide +kernel
theorem dX5_divide_122 : decode cX5_divide 122 = .ok (.iastore, 1) := by decide +kernel
theorem dX5_divide_123 : decode cX5_divide 123 = .ok (.iinc 2 1, 3) := by decide +kernel
theorem dX5_divide_126 : decode cX5_divide 126 = .ok (.goto (-91), 3) := by decide +kernel
theorem dX5_divide_129 : decode cX5_divide 129 = .ok (.iinc 1 1, 3) := by decide +kernel
theorem dX5_divide_132 : decode cX5_divide 132 = .ok (.goto (-107), 3) := by decide +kernel
theorem dX5_divide_135 : decode cX5_divide 135 = .ok (.return_, 1) := by decide +kernel
set_option maxRecDepth 20000 in
theorem ggX5_islands_X5_divide : GoodIn wsX5_islands wsX5_divide := goodIn_r _ [7, 1, 2, 8, 9, 10, 11, 17, 18, 19, 20, 21, 22, 23, 24, 25, 26, 27, 28, 29, 30, 31, 32, 33, 34, 35, 36, 37, 38, 39, 40] (by decide +kernel) (by decide +kernel)
set_option maxRecDepth 20000 in
theorem gX5_islands_X5_divide : GoodIn wsX5_islands (wsV RX5 87 RX5 yX5_divide wsX5_divide) := goodIn_app (goodIn_of _ (by decide +kernel)) ggX5_islands_X5_divide
set_option maxRecDepth 20000 in
theorem ggX5_islands_X5_fine : GoodIn wsX5_islands wsX5_fine := goodIn_r _ [15, 16, 17, 18, 19, 20, 21, 22, 23, 24, 25, 26, 27, 28, 29, 30, 31, 32, 33, 34, 35, 36, 37, 38, 39, 40] (by decide +kernel) (by decide +kernel)
set_option maxRecDepth 20000 in
theorem gX5_islands_X5_fine : GoodIn wsX5_islands (wsV RX5 90 RX5 yX5_fine wsX5_fine) := goodIn_app (goodIn_of _ (by decide +kernel)) ggX5_islands_X5_fine
theorem dX5_islands_0 : decode cX5_islands 0 = .ok (.aload_n 0, 1) := by decide +kernel
theorem dX5_islands_1 : decode cX5_islands 1 = .ok (.invokevirtual 87, 3) := by decide +kernel
theorem dX5_islands_4 : decode cX5_islands 4 = .ok (.iconst 0, 1) := by decide +kernel
theorem dX5_islands_5 : decode cX5_islands 5 = .ok (.istore_n 1, 1) := by decide +kernel
theorem dX5_islands_6 : decode cX5_islands 6 = .ok (.iconst 0, 1) := by decide +kernel
theorem dX5_islands_7 : decode cX5_islands 7 = .ok (.istore_n 2, 1) := by decide +kernel
theorem dX5_islands_8 : decode cX5_islands 8 = .ok (.iload_n 2, 1) := by decide +kernel
theorem dX5_islands_9 : decode cX5_islands 9 = .ok (.aload_n 0, 1) := by decide +kernel
theorem dX5_islands_10 : decode cX5_islands 10 = .ok (.getfield 60, 3) := by decide +kernel
theorem dX5_islands_13 : decode cX5_islands 13 = .ok (.if_icmp .ge 27, 3) := by decide +kernel
theorem dX5_islands_16 : decode cX5_islands 16 = .ok (.iload_n 1, 1) := by decide +kernel
theorem dX5_islands_17 : decode cX5_islands 17 = .ok (.aload_n 0, 1) := by decide +kernel
theorem dX5_islands_18 : decode cX5_islands 18 = .ok (.getfield 38, 3) := by decide +kernel
theorem dX5_islands_21 : decode cX5_islands 21 = .ok (.iload_n 2, 1) := by decide +kernel
theorem dX5_islands_22 : decode cX5_islands 22 = .ok (.iaload, 1) := by decide +kernel
theorem dX5_islands_23 : decode cX5_islands 23 = .ok (.iload_n 2, 1) := by decide +kernel
theorem dX5_islands_24 : decode cX5_islands 24 = .ok (.if_icmp .ne 7, 3) := by decide +kernel
theorem dX5_islands_27 : decode cX5_islands 27 = .ok (.iconst 1, 1) := by decide +kernel
theorem dX5_islands_28 : decode cX5_islands 28 = .ok (.goto 4, 3) := by decide +kernel
theorem dX5_islands_31 : decode cX5_islands 31 = .ok (.iconst 0, 1) := by decide +kernel
theorem dX5_islands_32 : decode cX5_islands 32 = .ok (.iadd, 1) := by decide +kernel
theorem dX5_islands_33 : decode cX5_islands 33 = .ok (.istore_n 1, 1) := by decide +kernel
theorem dX5_islands_34 : decode cX5_islands 34 = .ok (.iinc 2 1, 3) := by decide +kernel
theorem dX5_islands_37 : decode cX5_islands 37 = .ok (.goto (-29), 3) := by decide +kernel
theorem dX5_islands_40 : decode cX5_islands 40 = .ok (.aload_n 0, 1) := by decide +kernel
theorem dX5_islands_41 : decode cX5_islands 41 = .ok (.iload_n 1, 1) := by decide +kernel
theorem dX5_islands_42 : decode cX5_islands 42 = .ok (.invokevirtual 90, 3) := by decide +kernel
theorem dX5_islands_45 : decode cX5_islands 45 = .ok (.ireturn, 1) := by decide +kernel
set_option maxRecDepth 20000 in
theorem ggX5_reference_X5_isBus : GoodIn wsX5_reference wsX5_isBus := goodIn_r _ [6, 7, 8, 9, 5, 10, 24, 25, 26, 27, 28, 29, 30, 31, 32, 33, 34, 35, 36, 37, 38, 39, 40, 41, 42, 43, 44, 45, 46, 47] (by decide +kernel) (by decide +kernel)
set_option maxRecDepth 20000 in
theorem gX5_reference_X5_isBus : GoodIn wsX5_reference (wsV RX5 77 RX5 yX5_isBus wsX5_isBus) := goodIn_app (goodIn_of _ (by decide +kernel)) ggX5_reference_X5_isBus
set_option maxRecDepth 20000 in
theorem ggX5_reference_X5_refused : GoodIn wsX5_reference wsX5_refused := goodIn_r _ [14, 15, 24, 25, 26, 27, 28, 29, 30, 31, 32, 33, 34, 35, 36, 37, 38, 39, 40, 41, 42, 43, 44, 45, 46, 47] (by decide +kernel) (by decide +kernel)
set_option maxRecDepth 20000 in
theorem gX5_reference_X5_refused : GoodIn wsX5_reference (wsV RX5 81 RX5 yX5_refused wsX5_refused) := goodIn_app (goodIn_of _ (by decide +kernel)) ggX5_reference_X5_refused
set_option maxRecDepth 20000 in
theorem ggX5_reference_X5_divide : GoodIn wsX5_reference wsX5_divide := goodIn_r _ [19, 7, 1, 20, 21, 22, 23, 24, 25, 26, 27, 28, 29, 30, 31, 32, 33, 34, 35, 36, 37, 38, 39, 40, 41, 42, 43, 44, 45, 46, 47] (by decide +kernel) (by decide +kernel)
set_option maxRecDepth 20000 in
theorem gX5_reference_X5_divide : GoodIn wsX5_reference (wsV RX5 87 RX5 yX5_divide wsX5_divide) := goodIn_app (goodIn_of _ (by decide +kernel)) ggX5_reference_X5_divide
theorem dX5_reference_0 : decode cX5_reference 0 = .ok (.aload_n 0, 1) := by decide +kernel
theorem dX5_reference_1 : decode cX5_reference 1 = .ok (.aload_n 0, 1) := by decide +kernel
theorem dX5_reference_2 : decode cX5_reference 2 = .ok (.iload_n 1, 1) := by decide +kernel
theorem dX5_reference_3 : decode cX5_reference 3 = .ok (.invokevirtual 77, 3) := by decide +kernel
theorem dX5_reference_6 : decode cX5_reference 6 = .ok (.ifCond .eq 7, 3) := by decide +kernel
theorem dX5_reference_9 : decode cX5_reference 9 = .ok (.iconst 0, 1) := by decide +kernel
theorem dX5_reference_10 : decode cX5_reference 10 = .ok (.goto 4, 3) := by decide +kernel
theorem dX5_reference_13 : decode cX5_reference 13 = .ok (.iconst 1, 1) := by decide +kernel
theorem dX5_reference_14 : decode cX5_reference 14 = .ok (.invokevirtual 81, 3) := by decide +kernel
theorem dX5_reference_17 : decode cX5_reference 17 = .ok (.ifCond .eq 5, 3) := by decide +kernel
theorem dX5_reference_20 : decode cX5_reference 20 = .ok (.iconst 0, 1) := by decide +kernel
theorem dX5_reference_21 : decode cX5_reference 21 = .ok (.ireturn, 1) := by decide +kernel
theorem dX5_reference_22 : decode cX5_reference 22 = .ok (.aload_n 0, 1) := by decide +kernel
theorem dX5_reference_23 : decode cX5_reference 23 = .ok (.invokevirtual 87, 3) := by decide +kernel
theorem dX5_reference_26 : decode cX5_reference 26 = .ok (.aload_n 0, 1) := by decide +kernel
theorem dX5_reference_27 : decode cX5_reference 27 = .ok (.getfield 38, 3) := by decide +kernel
theorem dX5_reference_30 : decode cX5_reference 30 = .ok (.iload_n 1, 1) := by decide +kernel
theorem dX5_reference_31 : decode cX5_reference 31 = .ok (.iaload, 1) := by decide +kernel
theorem dX5_reference_32 : decode cX5_reference 32 = .ok (.ireturn, 1) := by decide +kernel
set_option maxRecDepth 20000 in
theorem ggX5_addMeter_X5_in : GoodIn wsX5_addMeter wsX5_in := goodIn_r _ [10] (by decide +kernel) (by decide +kernel)
set_option maxRecDepth 20000 in
theorem gX5_addMeter_X5_in : GoodIn wsX5_addMeter (va_wsS RX5 67 yX5_in wsX5_in) := goodIn_app (goodIn_of _ (by decide +kernel)) ggX5_addMeter_X5_in
set_option maxRecDepth 20000 in
theorem ggX5_addMeter_X5_isLine : GoodIn wsX5_addMeter wsX5_isLine := goodIn_r _ [14, 15, 7, 8, 9, 10, 26, 27, 28, 29, 30, 31, 32, 33, 34, 35, 36, 37, 38, 39, 40, 41, 42, 43, 44, 45, 46, 47, 48, 49] (by decide +kernel) (by decide +kernel)
set_option maxRecDepth 20000 in
theorem gX5_addMeter_X5_isLine : GoodIn wsX5_addMeter (wsV RX5 84 RX5 yX5_isLine wsX5_isLine) := goodIn_app (goodIn_of _ (by decide +kernel)) ggX5_addMeter_X5_isLine
set_option maxRecDepth 20000 in
theorem ggX5_addMeter_X5_isBus : GoodIn wsX5_addMeter wsX5_isBus := goodIn_r _ [19, 20, 7, 8, 9, 10, 26, 27, 28, 29, 30, 31, 32, 33, 34, 35, 36, 37, 38, 39, 40, 41, 42, 43, 44, 45, 46, 47, 48, 49] (by decide +kernel) (by decide +kernel)
set_option maxRecDepth 20000 in
theorem gX5_addMeter_X5_isBus : GoodIn wsX5_addMeter (wsV RX5 77 RX5 yX5_isBus wsX5_isBus) := goodIn_app (goodIn_of _ (by decide +kernel)) ggX5_addMeter_X5_isBus
set_option maxRecDepth 20000 in
theorem ggX5_addMeter_X5_refused : GoodIn wsX5_addMeter wsX5_refused := goodIn_r _ [24, 25, 26, 27, 28, 29, 30, 31, 32, 33, 34, 35, 36, 37, 38, 39, 40, 41, 42, 43, 44, 45, 46, 47, 48, 49] (by decide +kernel) (by decide +kernel)
set_option maxRecDepth 20000 in
theorem gX5_addMeter_X5_refused : GoodIn wsX5_addMeter (wsV RX5 81 RX5 yX5_refused wsX5_refused) := goodIn_app (goodIn_of _ (by decide +kernel)) ggX5_addMeter_X5_refused
theorem dX5_addMeter_0 : decode cX5_addMeter 0 = .ok (.iload_n 1, 1) := by decide +kernel
theorem dX5_addMeter_1 : decode cX5_addMeter 1 = .ok (.iconst 0, 1) := by decide +kernel
theorem dX5_addMeter_2 : decode cX5_addMeter 2 = .ok (.iconst 1, 1) := by decide +kernel
theorem dX5_addMeter_3 : decode cX5_addMeter 3 = .ok (.invokestatic 67, 3) := by decide +kernel
theorem dX5_addMeter_6 : decode cX5_addMeter 6 = .ok (.ifCond .eq 28, 3) := by decide +kernel
theorem dX5_addMeter_9 : decode cX5_addMeter 9 = .ok (.iload_n 3, 1) := by decide +kernel
theorem dX5_addMeter_10 : decode cX5_addMeter 10 = .ok (.bipush (-50), 2) := by decide +kernel
theorem dX5_addMeter_12 : decode cX5_addMeter 12 = .ok (.bipush 50, 2) := by decide +kernel
theorem dX5_addMeter_14 : decode cX5_addMeter 14 = .ok (.invokestatic 67, 3) := by decide +kernel
theorem dX5_addMeter_17 : decode cX5_addMeter 17 = .ok (.ifCond .eq 17, 3) := by decide +kernel
theorem dX5_addMeter_20 : decode cX5_addMeter 20 = .ok (.iload 4, 2) := by decide +kernel
theorem dX5_addMeter_22 : decode cX5_addMeter 22 = .ok (.iconst 1, 1) := by decide +kernel
theorem dX5_addMeter_23 : decode cX5_addMeter 23 = .ok (.iconst 2, 1) := by decide +kernel
theorem dX5_addMeter_24 : decode cX5_addMeter 24 = .ok (.invokestatic 67, 3) := by decide +kernel
theorem dX5_addMeter_27 : decode cX5_addMeter 27 = .ok (.ifCond .eq 7, 3) := by decide +kernel
theorem dX5_addMeter_30 : decode cX5_addMeter 30 = .ok (.iconst 1, 1) := by decide +kernel
theorem dX5_addMeter_31 : decode cX5_addMeter 31 = .ok (.goto 4, 3) := by decide +kernel
theorem dX5_addMeter_34 : decode cX5_addMeter 34 = .ok (.iconst 0, 1) := by decide +kernel
theorem dX5_addMeter_35 : decode cX5_addMeter 35 = .ok (.istore 5, 2) := by decide +kernel
theorem dX5_addMeter_37 : decode cX5_addMeter 37 = .ok (.iload_n 1, 1) := by decide +kernel
theorem dX5_addMeter_38 : decode cX5_addMeter 38 = .ok (.ifCond .ne 11, 3) := by decide +kernel
theorem dX5_addMeter_41 : decode cX5_addMeter 41 = .ok (.aload_n 0, 1) := by decide +kernel
theorem dX5_addMeter_42 : decode cX5_addMeter 42 = .ok (.iload_n 2, 1) := by decide +kernel
theorem dX5_addMeter_43 : decode cX5_addMeter 43 = .ok (.invokevirtual 84, 3) := by decide +kernel
theorem dX5_addMeter_46 : decode cX5_addMeter 46 = .ok (.goto 8, 3) := by decide +kernel
theorem dX5_addMeter_49 : decode cX5_addMeter 49 = .ok (.aload_n 0, 1) := by decide +kernel
theorem dX5_addMeter_50 : decode cX5_addMeter 50 = .ok (.iload_n 2, 1) := by decide +kernel
theorem dX5_addMeter_51 : decode cX5_addMeter 51 = .ok (.invokevirtual 77, 3) := by decide +kernel
theorem dX5_addMeter_54 : decode cX5_addMeter 54 = .ok (.istore 6, 2) := by decide +kernel
theorem dX5_addMeter_56 : decode cX5_addMeter 56 = .ok (.aload_n 0, 1) := by decide +kernel
theorem dX5_addMeter_57 : decode cX5_addMeter 57 = .ok (.iload 5, 2) := by decide +kernel
theorem dX5_addMeter_59 : decode cX5_addMeter 59 = .ok (.ifCond .ne 7, 3) := by decide +kernel
theorem dX5_addMeter_62 : decode cX5_addMeter 62 = .ok (.iconst 1, 1) := by decide +kernel
theorem dX5_addMeter_63 : decode cX5_addMeter 63 = .ok (.goto 26, 3) := by decide +kernel
theorem dX5_addMeter_66 : decode cX5_addMeter 66 = .ok (.iload 6, 2) := by decide +kernel
theorem dX5_addMeter_68 : decode cX5_addMeter 68 = .ok (.ifCond .ne 7, 3) := by decide +kernel
theorem dX5_addMeter_71 : decode cX5_addMeter 71 = .ok (.iconst 2, 1) := by decide +kernel
theorem dX5_addMeter_72 : decode cX5_addMeter 72 = .ok (.goto 17, 3) := by decide +kernel
theorem dX5_addMeter_75 : decode cX5_addMeter 75 = .ok (.aload_n 0, 1) := by decide +kernel
theorem dX5_addMeter_76 : decode cX5_addMeter 76 = .ok (.getfield 74, 3) := by decide +kernel
theorem dX5_addMeter_79 : decode cX5_addMeter 79 = .ok (.bipush 10, 2) := by decide +kernel
theorem dX5_addMeter_81 : decode cX5_addMeter 81 = .ok (.if_icmp .ne 7, 3) := by decide +kernel
theorem dX5_addMeter_84 : decode cX5_addMeter 84 = .ok (.iconst 3, 1) := by decide +kernel
theorem dX5_addMeter_85 : decode cX5_addMeter 85 = .ok (.goto 4, 3) := by decide +kernel
theorem dX5_addMeter_88 : decode cX5_addMeter 88 = .ok (.iconst 0, 1) := by decide +kernel
theorem dX5_addMeter_89 : decode cX5_addMeter 89 = .ok (.invokevirtual 81, 3) := by decide +kernel
theorem dX5_addMeter_92 : decode cX5_addMeter 92 = .ok (.ifCond .eq 5, 3) := by decide +kernel
theorem dX5_addMeter_95 : decode cX5_addMeter 95 = .ok (.iconst 0, 1) := by decide +kernel
theorem dX5_addMeter_96 : decode cX5_addMeter 96 = .ok (.ireturn, 1) := by decide +kernel
theorem dX5_addMeter_97 : decode cX5_addMeter 97 = .ok (.aload_n 0, 1) := by decide +kernel
theorem dX5_addMeter_98 : decode cX5_addMeter 98 = .ok (.getfield 23, 3) := by decide +kernel
theorem dX5_addMeter_101 : decode cX5_addMeter 101 = .ok (.aload_n 0, 1) := by decide +kernel
theorem dX5_addMeter_102 : decode cX5_addMeter 102 = .ok (.getfield 74, 3) := by decide +kernel
theorem dX5_addMeter_105 : decode cX5_addMeter 105 = .ok (.iload_n 1, 1) := by decide +kernel
theorem dX5_addMeter_106 : decode cX5_addMeter 106 = .ok (.iastore, 1) := by decide +kernel
theorem dX5_addMeter_107 : decode cX5_addMeter 107 = .ok (.aload_n 0, 1) := by decide +kernel
theorem dX5_addMeter_108 : decode cX5_addMeter 108 = .ok (.getfield 26, 3) := by decide +kernel
theorem dX5_addMeter_111 : decode cX5_addMeter 111 = .ok (.aload_n 0, 1) := by decide +kernel
theorem dX5_addMeter_112 : decode cX5_addMeter 112 = .ok (.getfield 74, 3) := by decide +kernel
theorem dX5_addMeter_115 : decode cX5_addMeter 115 = .ok (.iload_n 2, 1) := by decide +kernel
theorem dX5_addMeter_116 : decode cX5_addMeter 116 = .ok (.iastore, 1) := by decide +kernel
theorem dX5_addMeter_117 : decode cX5_addMeter 117 = .ok (.aload_n 0, 1) := by decide +kernel
theorem dX5_addMeter_118 : decode cX5_addMeter 118 = .ok (.getfield 29, 3) := by decide +kernel
theorem dX5_addMeter_121 : decode cX5_addMeter 121 = .ok (.aload_n 0, 1) := by decide +kernel
theorem dX5_addMeter_122 : decode cX5_addMeter 122 = .ok (.getfield 74, 3) := by decide +kernel
theorem dX5_addMeter_125 : decode cX5_addMeter 125 = .ok (.iload_n 3, 1) := by decide +kernel
theorem dX5_addMeter_126 : decode cX5_addMeter 126 = .ok (.iastore, 1) := by decide +kernel
theorem dX5_addMeter_127 : decode cX5_addMeter 127 = .ok (.aload_n 0, 1) := by decide +kernel
theorem dX5_addMeter_128 : decode cX5_addMeter 128 = .ok (.getfield 32, 3) := by decide +kernel
theorem dX5_addMeter_131 : decode cX5_addMeter 131 = .ok (.aload_n 0, 1) := by decide +kernel
theorem dX5_addMeter_132 : decode cX5_addMeter 132 = .ok (.getfield 74, 3) := by decide +kernel
theorem dX5_addMeter_135 : decode cX5_addMeter 135 = .ok (.iload 4, 2) := by decide +kernel
theorem dX5_addMeter_137 : decode cX5_addMeter 137 = .ok (.iastore, 1) := by decide +kernel
theorem dX5_addMeter_138 : decode cX5_addMeter 138 = .ok (.aload_n 0, 1) := by decide +kernel
theorem dX5_addMeter_139 : decode cX5_addMeter 139 = .ok (.getfield 35, 3) := by decide +kernel
theorem dX5_addMeter_142 : decode cX5_addMeter 142 = .ok (.aload_n 0, 1) := by decide +kernel
theorem dX5_addMeter_143 : decode cX5_addMeter 143 = .ok (.getfield 74, 3) := by decide +kernel
theorem dX5_addMeter_146 : decode cX5_addMeter 146 = .ok (.iconst 1, 1) := by decide +kernel
theorem dX5_addMeter_147 : decode cX5_addMeter 147 = .ok (.bastore, 1) := by decide +kernel
theorem dX5_addMeter_148 : decode cX5_addMeter 148 = .ok (.aload_n 0, 1) := by decide +kernel
theorem dX5_addMeter_149 : decode cX5_addMeter 149 = .ok (.dup, 1) := by decide +kernel
theorem dX5_addMeter_150 : decode cX5_addMeter 150 = .ok (.getfield 74, 3) := by decide +kernel
theorem dX5_addMeter_153 : decode cX5_addMeter 153 = .ok (.iconst 1, 1) := by decide +kernel
theorem dX5_addMeter_154 : decode cX5_addMeter 154 = .ok (.iadd, 1) := by decide +kernel
theorem dX5_addMeter_155 : decode cX5_addMeter 155 = .ok (.putfield 74, 3) := by decide +kernel
theorem dX5_addMeter_158 : decode cX5_addMeter 158 = .ok (.aload_n 0, 1) := by decide +kernel
theorem dX5_addMeter_159 : decode cX5_addMeter 159 = .ok (.getfield 74, 3) := by decide +kernel
theorem dX5_addMeter_162 : decode cX5_addMeter 162 = .ok (.iconst 1, 1) := by decide +kernel
theorem dX5_addMeter_163 : decode cX5_addMeter 163 = .ok (.isub, 1) := by decide +kernel
theorem dX5_addMeter_164 : decode cX5_addMeter 164 = .ok (.ireturn, 1) := by decide +kernel
set_option maxRecDepth 20000 in
theorem ggX5_read_X5_isMeter : GoodIn wsX5_read wsX5_isMeter := goodIn_r _ [6, 7, 8, 9, 5, 10, 16, 17, 18, 19, 20, 21, 22, 23, 24, 25, 26, 27, 28, 29, 30, 31, 32, 33, 34, 35, 36, 37, 38, 39] (by decide +kernel) (by decide +kernel)
set_option maxRecDepth 20000 in
theorem gX5_read_X5_isMeter : GoodIn wsX5_read (wsV RX5 94 RX5 yX5_isMeter wsX5_isMeter) := goodIn_app (goodIn_of _ (by decide +kernel)) ggX5_read_X5_isMeter
set_option maxRecDepth 20000 in
theorem ggX5_read_X5_in : GoodIn wsX5_read wsX5_in := goodIn_r _ [10] (by decide +kernel) (by decide +kernel)
set_option maxRecDepth 20000 in
theorem gX5_read_X5_in : GoodIn wsX5_read (va_wsS RX5 67 yX5_in wsX5_in) := goodIn_app (goodIn_of _ (by decide +kernel)) ggX5_read_X5_in
set_option maxRecDepth 20000 in
theorem ggX5_read_X5_refused : GoodIn wsX5_read wsX5_refused := goodIn_r _ [14, 15, 16, 17, 18, 19, 20, 21, 22, 23, 24, 25, 26, 27, 28, 29, 30, 31, 32, 33, 34, 35, 36, 37, 38, 39] (by decide +kernel) (by decide +kernel)
set_option maxRecDepth 20000 in
theorem gX5_read_X5_refused : GoodIn wsX5_read (wsV RX5 81 RX5 yX5_refused wsX5_refused) := goodIn_app (goodIn_of _ (by decide +kernel)) ggX5_read_X5_refused
theorem dX5_read_0 : decode cX5_read 0 = .ok (.aload_n 0, 1) := by decide +kernel
theorem dX5_read_1 : decode cX5_read 1 = .ok (.aload_n 0, 1) := by decide +kernel
theorem dX5_read_2 : decode cX5_read 2 = .ok (.iload_n 1, 1) := by decide +kernel
theorem dX5_read_3 : decode cX5_read 3 = .ok (.invokevirtual 94, 3) := by decide +kernel
theorem dX5_read_6 : decode cX5_read 6 = .ok (.ifCond .ne 7, 3) := by decide +kernel
theorem dX5_read_9 : decode cX5_read 9 = .ok (.iconst 1, 1) := by decide +kernel
theorem dX5_read_10 : decode cX5_read 10 = .ok (.goto 19, 3) := by decide +kernel
theorem dX5_read_13 : decode cX5_read 13 = .ok (.iload_n 2, 1) := by decide +kernel
theorem dX5_read_14 : decode cX5_read 14 = .ok (.bipush (-50), 2) := by decide +kernel
theorem dX5_read_16 : decode cX5_read 16 = .ok (.bipush 50, 2) := by decide +kernel
theorem dX5_read_18 : decode cX5_read 18 = .ok (.invokestatic 67, 3) := by decide +kernel
theorem dX5_read_21 : decode cX5_read 21 = .ok (.ifCond .eq 7, 3) := by decide +kernel
theorem dX5_read_24 : decode cX5_read 24 = .ok (.iconst 0, 1) := by decide +kernel
theorem dX5_read_25 : decode cX5_read 25 = .ok (.goto 4, 3) := by decide +kernel
theorem dX5_read_28 : decode cX5_read 28 = .ok (.iconst 2, 1) := by decide +kernel
theorem dX5_read_29 : decode cX5_read 29 = .ok (.invokevirtual 81, 3) := by decide +kernel
theorem dX5_read_32 : decode cX5_read 32 = .ok (.ifCond .eq 5, 3) := by decide +kernel
theorem dX5_read_35 : decode cX5_read 35 = .ok (.iconst 0, 1) := by decide +kernel
theorem dX5_read_36 : decode cX5_read 36 = .ok (.ireturn, 1) := by decide +kernel
theorem dX5_read_37 : decode cX5_read 37 = .ok (.aload_n 0, 1) := by decide +kernel
theorem dX5_read_38 : decode cX5_read 38 = .ok (.getfield 29, 3) := by decide +kernel
theorem dX5_read_41 : decode cX5_read 41 = .ok (.iload_n 1, 1) := by decide +kernel
theorem dX5_read_42 : decode cX5_read 42 = .ok (.iaload, 1) := by decide +kernel
theorem dX5_read_43 : decode cX5_read 43 = .ok (.istore_n 3, 1) := by decide +kernel
theorem dX5_read_44 : decode cX5_read 44 = .ok (.aload_n 0, 1) := by decide +kernel
theorem dX5_read_45 : decode cX5_read 45 = .ok (.getfield 29, 3) := by decide +kernel
theorem dX5_read_48 : decode cX5_read 48 = .ok (.iload_n 1, 1) := by decide +kernel
theorem dX5_read_49 : decode cX5_read 49 = .ok (.iload_n 2, 1) := by decide +kernel
theorem dX5_read_50 : decode cX5_read 50 = .ok (.iastore, 1) := by decide +kernel
theorem dX5_read_51 : decode cX5_read 51 = .ok (.iload_n 3, 1) := by decide +kernel
theorem dX5_read_52 : decode cX5_read 52 = .ok (.ireturn, 1) := by decide +kernel
set_option maxRecDepth 20000 in
theorem ggX5_use_X5_isMeter : GoodIn wsX5_use wsX5_isMeter := goodIn_r _ [6, 7, 8, 9, 5, 10, 16, 17, 18, 19, 20, 21, 22, 23, 24, 25, 26, 27, 28, 29, 30, 31, 32, 33, 34, 35, 36, 37, 38, 39] (by decide +kernel) (by decide +kernel)
set_option maxRecDepth 20000 in
theorem gX5_use_X5_isMeter : GoodIn wsX5_use (wsV RX5 94 RX5 yX5_isMeter wsX5_isMeter) := goodIn_app (goodIn_of _ (by decide +kernel)) ggX5_use_X5_isMeter
set_option maxRecDepth 20000 in
theorem ggX5_use_X5_refused : GoodIn wsX5_use wsX5_refused := goodIn_r _ [14, 15, 16, 17, 18, 19, 20, 21, 22, 23, 24, 25, 26, 27, 28, 29, 30, 31, 32, 33, 34, 35, 36, 37, 38, 39] (by decide +kernel) (by decide +kernel)
set_option maxRecDepth 20000 in
theorem gX5_use_X5_refused : GoodIn wsX5_use (wsV RX5 81 RX5 yX5_refused wsX5_refused) := goodIn_app (goodIn_of _ (by decide +kernel)) ggX5_use_X5_refused
theorem dX5_use_0 : decode cX5_use 0 = .ok (.aload_n 0, 1) := by decide +kernel
theorem dX5_use_1 : decode cX5_use 1 = .ok (.aload_n 0, 1) := by decide +kernel
theorem dX5_use_2 : decode cX5_use 2 = .ok (.iload_n 1, 1) := by decide +kernel
theorem dX5_use_3 : decode cX5_use 3 = .ok (.invokevirtual 94, 3) := by decide +kernel
theorem dX5_use_6 : decode cX5_use 6 = .ok (.ifCond .eq 7, 3) := by decide +kernel
theorem dX5_use_9 : decode cX5_use 9 = .ok (.iconst 0, 1) := by decide +kernel
theorem dX5_use_10 : decode cX5_use 10 = .ok (.goto 4, 3) := by decide +kernel
theorem dX5_use_13 : decode cX5_use 13 = .ok (.iconst 1, 1) := by decide +kernel
theorem dX5_use_14 : decode cX5_use 14 = .ok (.invokevirtual 81, 3) := by decide +kernel
theorem dX5_use_17 : decode cX5_use 17 = .ok (.ifCond .eq 5, 3) := by decide +kernel
theorem dX5_use_20 : decode cX5_use 20 = .ok (.iconst 0, 1) := by decide +kernel
theorem dX5_use_21 : decode cX5_use 21 = .ok (.ireturn, 1) := by decide +kernel
theorem dX5_use_22 : decode cX5_use 22 = .ok (.aload_n 0, 1) := by decide +kernel
theorem dX5_use_23 : decode cX5_use 23 = .ok (.getfield 35, 3) := by decide +kernel
theorem dX5_use_26 : decode cX5_use 26 = .ok (.iload_n 1, 1) := by decide +kernel
theorem dX5_use_27 : decode cX5_use 27 = .ok (.baload, 1) := by decide +kernel
theorem dX5_use_28 : decode cX5_use 28 = .ok (.istore_n 3, 1) := by decide +kernel
theorem dX5_use_29 : decode cX5_use 29 = .ok (.aload_n 0, 1) := by decide +kernel
theorem dX5_use_30 : decode cX5_use 30 = .ok (.getfield 35, 3) := by decide +kernel
theorem dX5_use_33 : decode cX5_use 33 = .ok (.iload_n 1, 1) := by decide +kernel
theorem dX5_use_34 : decode cX5_use 34 = .ok (.iload_n 2, 1) := by decide +kernel
theorem dX5_use_35 : decode cX5_use 35 = .ok (.bastore, 1) := by decide +kernel
theorem dX5_use_36 : decode cX5_use 36 = .ok (.iload_n 3, 1) := by decide +kernel
theorem dX5_use_37 : decode cX5_use 37 = .ok (.ireturn, 1) := by decide +kernel
theorem dX5_islandOf_0 : decode cX5_islandOf 0 = .ok (.aload_n 0, 1) := by decide +kernel
theorem dX5_islandOf_1 : decode cX5_islandOf 1 = .ok (.getfield 23, 3) := by decide +kernel
theorem dX5_islandOf_4 : decode cX5_islandOf 4 = .ok (.iload_n 1, 1) := by decide +kernel
theorem dX5_islandOf_5 : decode cX5_islandOf 5 = .ok (.iaload, 1) := by decide +kernel
theorem dX5_islandOf_6 : decode cX5_islandOf 6 = .ok (.iconst 1, 1) := by decide +kernel
theorem dX5_islandOf_7 : decode cX5_islandOf 7 = .ok (.if_icmp .ne 15, 3) := by decide +kernel
theorem dX5_islandOf_10 : decode cX5_islandOf 10 = .ok (.aload_n 0, 1) := by decide +kernel
theorem dX5_islandOf_11 : decode cX5_islandOf 11 = .ok (.getfield 38, 3) := by decide +kernel
theorem dX5_islandOf_14 : decode cX5_islandOf 14 = .ok (.aload_n 0, 1) := by decide +kernel
theorem dX5_islandOf_15 : decode cX5_islandOf 15 = .ok (.getfield 26, 3) := by decide +kernel
theorem dX5_islandOf_18 : decode cX5_islandOf 18 = .ok (.iload_n 1, 1) := by decide +kernel
theorem dX5_islandOf_19 : decode cX5_islandOf 19 = .ok (.iaload, 1) := by decide +kernel
theorem dX5_islandOf_20 : decode cX5_islandOf 20 = .ok (.iaload, 1) := by decide +kernel
theorem dX5_islandOf_21 : decode cX5_islandOf 21 = .ok (.ireturn, 1) := by decide +kernel
theorem dX5_islandOf_22 : decode cX5_islandOf 22 = .ok (.aload_n 0, 1) := by decide +kernel
theorem dX5_islandOf_23 : decode cX5_islandOf 23 = .ok (.getfield 19, 3) := by decide +kernel
theorem dX5_islandOf_26 : decode cX5_islandOf 26 = .ok (.aload_n 0, 1) := by decide +kernel
theorem dX5_islandOf_27 : decode cX5_islandOf 27 = .ok (.getfield 26, 3) := by decide +kernel
theorem dX5_islandOf_30 : decode cX5_islandOf 30 = .ok (.iload_n 1, 1) := by decide +kernel
theorem dX5_islandOf_31 : decode cX5_islandOf 31 = .ok (.iaload, 1) := by decide +kernel
theorem dX5_islandOf_32 : decode cX5_islandOf 32 = .ok (.baload, 1) := by decide +kernel
theorem dX5_islandOf_33 : decode cX5_islandOf 33 = .ok (.ifCond .eq 22, 3) := by decide +kernel
theorem dX5_islandOf_36 : decode cX5_islandOf 36 = .ok (.aload_n 0, 1) := by decide +kernel
theorem dX5_islandOf_37 : decode cX5_islandOf 37 = .ok (.getfield 38, 3) := by decide +kernel
theorem dX5_islandOf_40 : decode cX5_islandOf 40 = .ok (.aload_n 0, 1) := by decide +kernel
theorem dX5_islandOf_41 : decode cX5_islandOf 41 = .ok (.getfield 7, 3) := by decide +kernel
theorem dX5_islandOf_44 : decode cX5_islandOf 44 = .ok (.aload_n 0, 1) := by decide +kernel
theorem dX5_islandOf_45 : decode cX5_islandOf 45 = .ok (.getfield 26, 3) := by decide +kernel
theorem dX5_islandOf_48 : decode cX5_islandOf 48 = .ok (.iload_n 1, 1) := by decide +kernel
theorem dX5_islandOf_49 : decode cX5_islandOf 49 = .ok (.iaload, 1) := by decide +kernel
theorem dX5_islandOf_50 : decode cX5_islandOf 50 = .ok (.iaload, 1) := by decide +kernel
theorem dX5_islandOf_51 : decode cX5_islandOf 51 = .ok (.iaload, 1) := by decide +kernel
theorem dX5_islandOf_52 : decode cX5_islandOf 52 = .ok (.goto 4, 3) := by decide +kernel
theorem dX5_islandOf_55 : decode cX5_islandOf 55 = .ok (.iconst (-1), 1) := by decide +kernel
theorem dX5_islandOf_56 : decode cX5_islandOf 56 = .ok (.ireturn, 1) := by decide +kernel
set_option maxRecDepth 20000 in
theorem ggX5_countedIn_X5_islandOf : GoodIn wsX5_countedIn wsX5_islandOf := goodIn_r _ [6, 7, 8, 9, 10, 11, 12, 13, 14, 15, 16, 17, 18, 19, 20, 21, 22, 23, 24, 25, 26, 27, 28, 29, 30, 31, 32, 33, 34, 35] (by decide +kernel) (by decide +kernel)
set_option maxRecDepth 20000 in
theorem gX5_countedIn_X5_islandOf : GoodIn wsX5_countedIn (wsV RX5 97 RX5 yX5_islandOf wsX5_islandOf) := goodIn_app (goodIn_of _ (by decide +kernel)) ggX5_countedIn_X5_islandOf
theorem dX5_countedIn_0 : decode cX5_countedIn 0 = .ok (.aload_n 0, 1) := by decide +kernel
theorem dX5_countedIn_1 : decode cX5_countedIn 1 = .ok (.getfield 35, 3) := by decide +kernel
theorem dX5_countedIn_4 : decode cX5_countedIn 4 = .ok (.iload_n 1, 1) := by decide +kernel
theorem dX5_countedIn_5 : decode cX5_countedIn 5 = .ok (.baload, 1) := by decide +kernel
theorem dX5_countedIn_6 : decode cX5_countedIn 6 = .ok (.ifCond .eq 11, 3) := by decide +kernel
theorem dX5_countedIn_9 : decode cX5_countedIn 9 = .ok (.aload_n 0, 1) := by decide +kernel
theorem dX5_countedIn_10 : decode cX5_countedIn 10 = .ok (.iload_n 1, 1) := by decide +kernel
theorem dX5_countedIn_11 : decode cX5_countedIn 11 = .ok (.invokevirtual 97, 3) := by decide +kernel
theorem dX5_countedIn_14 : decode cX5_countedIn 14 = .ok (.goto 4, 3) := by decide +kernel
theorem dX5_countedIn_17 : decode cX5_countedIn 17 = .ok (.iconst (-1), 1) := by decide +kernel
theorem dX5_countedIn_18 : decode cX5_countedIn 18 = .ok (.ireturn, 1) := by decide +kernel
set_option maxRecDepth 20000 in
theorem ggX5_countsIn_X5_isMeter : GoodIn wsX5_countsIn wsX5_isMeter := goodIn_r _ [5, 6, 7, 8, 4, 9, 36, 37, 38, 39, 40, 41, 42, 43, 44, 45, 46, 47, 48, 49, 50, 51, 52, 53, 54, 55, 56, 57, 58, 59] (by decide +kernel) (by decide +kernel)
set_option maxRecDepth 20000 in
theorem gX5_countsIn_X5_isMeter : GoodIn wsX5_countsIn (wsV RX5 94 RX5 yX5_isMeter wsX5_isMeter) := goodIn_app (goodIn_of _ (by decide +kernel)) ggX5_countsIn_X5_isMeter
set_option maxRecDepth 20000 in
theorem ggX5_countsIn_X5_refused : GoodIn wsX5_countsIn wsX5_refused := goodIn_r _ [13, 14, 36, 37, 38, 39, 40, 41, 42, 43, 44, 45, 46, 47, 48, 49, 50, 51, 52, 53, 54, 55, 56, 57, 58, 59] (by decide +kernel) (by decide +kernel)
set_option maxRecDepth 20000 in
theorem gX5_countsIn_X5_refused : GoodIn wsX5_countsIn (wsV RX5 81 RX5 yX5_refused wsX5_refused) := goodIn_app (goodIn_of _ (by decide +kernel)) ggX5_countsIn_X5_refused
set_option maxRecDepth 20000 in
theorem ggX5_countsIn_X5_divide : GoodIn wsX5_countsIn wsX5_divide := goodIn_r _ [18, 19, 20, 21, 22, 23, 24, 36, 37, 38, 39, 40, 41, 42, 43, 44, 45, 46, 47, 48, 49, 50, 51, 52, 53, 54, 55, 56, 57, 58, 59] (by decide +kernel) (by decide +kernel)
set_option maxRecDepth 20000 in
theorem gX5_countsIn_X5_divide : GoodIn wsX5_countsIn (wsV RX5 87 RX5 yX5_divide wsX5_divide) := goodIn_app (goodIn_of _ (by decide +kernel)) ggX5_countsIn_X5_divide
set_option maxRecDepth 20000 in
theorem ggX5_countsIn_X5_countedIn : GoodIn wsX5_countsIn wsX5_countedIn := goodIn_r _ [28, 29, 30, 31, 32, 4, 33, 34, 20, 35, 22, 23, 36, 37, 38, 39, 40, 41, 42, 43, 44, 45, 46, 47, 48, 49, 50, 51, 52, 53, 54, 55, 56, 57, 58, 59] (by decide +kernel) (by decide +kernel)
set_option maxRecDepth 20000 in
theorem gX5_countsIn_X5_countedIn : GoodIn wsX5_countsIn (wsV RX5 100 RX5 yX5_countedIn wsX5_countedIn) := goodIn_app (goodIn_of _ (by decide +kernel)) ggX5_countsIn_X5_countedIn
theorem dX5_countsIn_0 : decode cX5_countsIn 0 = .ok (.aload_n 0, 1) := by decide +kernel
theorem dX5_countsIn_1 : decode cX5_countsIn 1 = .ok (.aload_n 0, 1) := by decide +kernel
theorem dX5_countsIn_2 : decode cX5_countsIn 2 = .ok (.iload_n 1, 1) := by decide +kernel
theorem dX5_countsIn_3 : decode cX5_countsIn 3 = .ok (.invokevirtual 94, 3) := by decide +kernel
theorem dX5_countsIn_6 : decode cX5_countsIn 6 = .ok (.ifCond .eq 7, 3) := by decide +kernel
theorem dX5_countsIn_9 : decode cX5_countsIn 9 = .ok (.iconst 0, 1) := by decide +kernel
theorem dX5_countsIn_10 : decode cX5_countsIn 10 = .ok (.goto 4, 3) := by decide +kernel
theorem dX5_countsIn_13 : decode cX5_countsIn 13 = .ok (.iconst 1, 1) := by decide +kernel
theorem dX5_countsIn_14 : decode cX5_countsIn 14 = .ok (.invokevirtual 81, 3) := by decide +kernel
theorem dX5_countsIn_17 : decode cX5_countsIn 17 = .ok (.ifCond .eq 5, 3) := by decide +kernel
theorem dX5_countsIn_20 : decode cX5_countsIn 20 = .ok (.iconst 0, 1) := by decide +kernel
theorem dX5_countsIn_21 : decode cX5_countsIn 21 = .ok (.ireturn, 1) := by decide +kernel
theorem dX5_countsIn_22 : decode cX5_countsIn 22 = .ok (.aload_n 0, 1) := by decide +kernel
theorem dX5_countsIn_23 : decode cX5_countsIn 23 = .ok (.invokevirtual 87, 3) := by decide +kernel
theorem dX5_countsIn_26 : decode cX5_countsIn 26 = .ok (.aload_n 0, 1) := by decide +kernel
theorem dX5_countsIn_27 : decode cX5_countsIn 27 = .ok (.iload_n 1, 1) := by decide +kernel
theorem dX5_countsIn_28 : decode cX5_countsIn 28 = .ok (.invokevirtual 100, 3) := by decide +kernel
theorem dX5_countsIn_31 : decode cX5_countsIn 31 = .ok (.ireturn, 1) := by decide +kernel
theorem dX5_add_0 : decode cX5_add 0 = .ok (.aload_n 0, 1) := by decide +kernel
theorem dX5_add_1 : decode cX5_add 1 = .ok (.getfield 41, 3) := by decide +kernel
theorem dX5_add_4 : decode cX5_add 4 = .ok (.iload_n 1, 1) := by decide +kernel
theorem dX5_add_5 : decode cX5_add 5 = .ok (.iaload, 1) := by decide +kernel
theorem dX5_add_6 : decode cX5_add 6 = .ok (.iconst (-1), 1) := by decide +kernel
theorem dX5_add_7 : decode cX5_add 7 = .ok (.if_icmp .eq 18, 3) := by decide +kernel
theorem dX5_add_10 : decode cX5_add 10 = .ok (.aload_n 0, 1) := by decide +kernel
theorem dX5_add_11 : decode cX5_add 11 = .ok (.getfield 44, 3) := by decide +kernel
theorem dX5_add_14 : decode cX5_add 14 = .ok (.aload_n 0, 1) := by decide +kernel
theorem dX5_add_15 : decode cX5_add 15 = .ok (.getfield 41, 3) := by decide +kernel
theorem dX5_add_18 : decode cX5_add 18 = .ok (.iload_n 1, 1) := by decide +kernel
theorem dX5_add_19 : decode cX5_add 19 = .ok (.iaload, 1) := by decide +kernel
theorem dX5_add_20 : decode cX5_add 20 = .ok (.dup2, 1) := by decide +kernel
theorem dX5_add_21 : decode cX5_add 21 = .ok (.iaload, 1) := by decide +kernel
theorem dX5_add_22 : decode cX5_add 22 = .ok (.iload_n 2, 1) := by decide +kernel
theorem dX5_add_23 : decode cX5_add 23 = .ok (.iadd, 1) := by decide +kernel
theorem dX5_add_24 : decode cX5_add 24 = .ok (.iastore, 1) := by decide +kernel
theorem dX5_add_25 : decode cX5_add 25 = .ok (.return_, 1) := by decide +kernel
set_option maxRecDepth 20000 in
theorem ggX5_layRow_X5_add : GoodIn wsX5_layRow wsX5_add := goodIn_r _ [13, 14, 1, 15, 16, 17, 18, 19, 20, 21, 22, 23, 24, 25, 26, 27, 28, 29, 30, 31, 32, 33, 34, 35, 36, 37, 38] (by decide +kernel) (by decide +kernel)
set_option maxRecDepth 20000 in
theorem gX5_layRow_X5_add : GoodIn wsX5_layRow (wsV RX5 103 RX5 yX5_add wsX5_add) := goodIn_app (goodIn_of _ (by decide +kernel)) ggX5_layRow_X5_add
theorem dX5_layRow_0 : decode cX5_layRow 0 = .ok (.iconst 0, 1) := by decide +kernel
theorem dX5_layRow_1 : decode cX5_layRow 1 = .ok (.istore_n 2, 1) := by decide +kernel
theorem dX5_layRow_2 : decode cX5_layRow 2 = .ok (.iload_n 2, 1) := by decide +kernel
theorem dX5_layRow_3 : decode cX5_layRow 3 = .ok (.iconst 4, 1) := by decide +kernel
theorem dX5_layRow_4 : decode cX5_layRow 4 = .ok (.if_icmp .ge 16, 3) := by decide +kernel
theorem dX5_layRow_7 : decode cX5_layRow 7 = .ok (.aload_n 0, 1) := by decide +kernel
theorem dX5_layRow_8 : decode cX5_layRow 8 = .ok (.getfield 44, 3) := by decide +kernel
theorem dX5_layRow_11 : decode cX5_layRow 11 = .ok (.iload_n 2, 1) := by decide +kernel
theorem dX5_layRow_12 : decode cX5_layRow 12 = .ok (.iconst 0, 1) := by decide +kernel
theorem dX5_layRow_13 : decode cX5_layRow 13 = .ok (.iastore, 1) := by decide +kernel
theorem dX5_layRow_14 : decode cX5_layRow 14 = .ok (.iinc 2 1, 3) := by decide +kernel
theorem dX5_layRow_17 : decode cX5_layRow 17 = .ok (.goto (-15), 3) := by decide +kernel
theorem dX5_layRow_20 : decode cX5_layRow 20 = .ok (.iconst 0, 1) := by decide +kernel
theorem dX5_layRow_21 : decode cX5_layRow 21 = .ok (.istore_n 2, 1) := by decide +kernel
theorem dX5_layRow_22 : decode cX5_layRow 22 = .ok (.iload_n 2, 1) := by decide +kernel
theorem dX5_layRow_23 : decode cX5_layRow 23 = .ok (.aload_n 0, 1) := by decide +kernel
theorem dX5_layRow_24 : decode cX5_layRow 24 = .ok (.getfield 71, 3) := by decide +kernel
theorem dX5_layRow_27 : decode cX5_layRow 27 = .ok (.if_icmp .ge 175, 3) := by decide +kernel
theorem dX5_layRow_30 : decode cX5_layRow 30 = .ok (.aload_n 0, 1) := by decide +kernel
theorem dX5_layRow_31 : decode cX5_layRow 31 = .ok (.getfield 23, 3) := by decide +kernel
theorem dX5_layRow_34 : decode cX5_layRow 34 = .ok (.iload_n 1, 1) := by decide +kernel
theorem dX5_layRow_35 : decode cX5_layRow 35 = .ok (.iaload, 1) := by decide +kernel
theorem dX5_layRow_36 : decode cX5_layRow 36 = .ok (.ifCond .ne 17, 3) := by decide +kernel
theorem dX5_layRow_39 : decode cX5_layRow 39 = .ok (.aload_n 0, 1) := by decide +kernel
theorem dX5_layRow_40 : decode cX5_layRow 40 = .ok (.getfield 26, 3) := by decide +kernel
theorem dX5_layRow_43 : decode cX5_layRow 43 = .ok (.iload_n 1, 1) := by decide +kernel
theorem dX5_layRow_44 : decode cX5_layRow 44 = .ok (.iaload, 1) := by decide +kernel
theorem dX5_layRow_45 : decode cX5_layRow 45 = .ok (.iload_n 2, 1) := by decide +kernel
theorem dX5_layRow_46 : decode cX5_layRow 46 = .ok (.if_icmp .ne 7, 3) := by decide +kernel
theorem dX5_layRow_49 : decode cX5_layRow 49 = .ok (.iconst 1, 1) := by decide +kernel
theorem dX5_layRow_50 : decode cX5_layRow 50 = .ok (.goto 4, 3) := by decide +kernel
theorem dX5_layRow_53 : decode cX5_layRow 53 = .ok (.iconst 0, 1) := by decide +kernel
theorem dX5_layRow_54 : decode cX5_layRow 54 = .ok (.istore_n 3, 1) := by decide +kernel
theorem dX5_layRow_55 : decode cX5_layRow 55 = .ok (.aload_n 0, 1) := by decide +kernel
theorem dX5_layRow_56 : decode cX5_layRow 56 = .ok (.getfield 23, 3) := by decide +kernel
theorem dX5_layRow_59 : decode cX5_layRow 59 = .ok (.iload_n 1, 1) := by decide +kernel
theorem dX5_layRow_60 : decode cX5_layRow 60 = .ok (.iaload, 1) := by decide +kernel
theorem dX5_layRow_61 : decode cX5_layRow 61 = .ok (.iconst 1, 1) := by decide +kernel
theorem dX5_layRow_62 : decode cX5_layRow 62 = .ok (.if_icmp .ne 22, 3) := by decide +kernel
theorem dX5_layRow_65 : decode cX5_layRow 65 = .ok (.aload_n 0, 1) := by decide +kernel
theorem dX5_layRow_66 : decode cX5_layRow 66 = .ok (.getfield 7, 3) := by decide +kernel
theorem dX5_layRow_69 : decode cX5_layRow 69 = .ok (.iload_n 2, 1) := by decide +kernel
theorem dX5_layRow_70 : decode cX5_layRow 70 = .ok (.iaload, 1) := by decide +kernel
theorem dX5_layRow_71 : decode cX5_layRow 71 = .ok (.aload_n 0, 1) := by decide +kernel
theorem dX5_layRow_72 : decode cX5_layRow 72 = .ok (.getfield 26, 3) := by decide +kernel
theorem dX5_layRow_75 : decode cX5_layRow 75 = .ok (.iload_n 1, 1) := by decide +kernel
theorem dX5_layRow_76 : decode cX5_layRow 76 = .ok (.iaload, 1) := by decide +kernel
theorem dX5_layRow_77 : decode cX5_layRow 77 = .ok (.if_icmp .ne 7, 3) := by decide +kernel
theorem dX5_layRow_80 : decode cX5_layRow 80 = .ok (.iconst 1, 1) := by decide +kernel
theorem dX5_layRow_81 : decode cX5_layRow 81 = .ok (.goto 4, 3) := by decide +kernel
theorem dX5_layRow_84 : decode cX5_layRow 84 = .ok (.iconst 0, 1) := by decide +kernel
theorem dX5_layRow_85 : decode cX5_layRow 85 = .ok (.istore 4, 2) := by decide +kernel
theorem dX5_layRow_87 : decode cX5_layRow 87 = .ok (.aload_n 0, 1) := by decide +kernel
theorem dX5_layRow_88 : decode cX5_layRow 88 = .ok (.getfield 23, 3) := by decide +kernel
theorem dX5_layRow_91 : decode cX5_layRow 91 = .ok (.iload_n 1, 1) := by decide +kernel
theorem dX5_layRow_92 : decode cX5_layRow 92 = .ok (.iaload, 1) := by decide +kernel
theorem dX5_layRow_93 : decode cX5_layRow 93 = .ok (.iconst 1, 1) := by decide +kernel
theorem dX5_layRow_94 : decode cX5_layRow 94 = .ok (.if_icmp .ne 22, 3) := by decide +kernel
theorem dX5_layRow_97 : decode cX5_layRow 97 = .ok (.aload_n 0, 1) := by decide +kernel
theorem dX5_layRow_98 : decode cX5_layRow 98 = .ok (.getfield 13, 3) := by decide +kernel
theorem dX5_layRow_101 : decode cX5_layRow 101 = .ok (.iload_n 2, 1) := by decide +kernel
theorem dX5_layRow_102 : decode cX5_layRow 102 = .ok (.iaload, 1) := by decide +kernel
theorem dX5_layRow_103 : decode cX5_layRow 103 = .ok (.aload_n 0, 1) := by decide +kernel
theorem dX5_layRow_104 : decode cX5_layRow 104 = .ok (.getfield 26, 3) := by decide +kernel
theorem dX5_layRow_107 : decode cX5_layRow 107 = .ok (.iload_n 1, 1) := by decide +kernel
theorem dX5_layRow_108 : decode cX5_layRow 108 = .ok (.iaload, 1) := by decide +kernel
theorem dX5_layRow_109 : decode cX5_layRow 109 = .ok (.if_icmp .ne 7, 3) := by decide +kernel
theorem dX5_layRow_112 : decode cX5_layRow 112 = .ok (.iconst 1, 1) := by decide +kernel
theorem dX5_layRow_113 : decode cX5_layRow 113 = .ok (.goto 4, 3) := by decide +kernel
theorem dX5_layRow_116 : decode cX5_layRow 116 = .ok (.iconst 0, 1) := by decide +kernel
theorem dX5_layRow_117 : decode cX5_layRow 117 = .ok (.istore 5, 2) := by decide +kernel
theorem dX5_layRow_119 : decode cX5_layRow 119 = .ok (.aload_n 0, 1) := by decide +kernel
theorem dX5_layRow_120 : decode cX5_layRow 120 = .ok (.getfield 19, 3) := by decide +kernel
theorem dX5_layRow_123 : decode cX5_layRow 123 = .ok (.iload_n 2, 1) := by decide +kernel
theorem dX5_layRow_124 : decode cX5_layRow 124 = .ok (.baload, 1) := by decide +kernel
theorem dX5_layRow_125 : decode cX5_layRow 125 = .ok (.ifCond .ne 7, 3) := by decide +kernel
theorem dX5_layRow_128 : decode cX5_layRow 128 = .ok (.iconst 0, 1) := by decide +kernel
theorem dX5_layRow_129 : decode cX5_layRow 129 = .ok (.goto 26, 3) := by decide +kernel
theorem dX5_layRow_132 : decode cX5_layRow 132 = .ok (.iload_n 3, 1) := by decide +kernel
theorem dX5_layRow_133 : decode cX5_layRow 133 = .ok (.ifCond .ne 8, 3) := by decide +kernel
theorem dX5_layRow_136 : decode cX5_layRow 136 = .ok (.iload 4, 2) := by decide +kernel
theorem dX5_layRow_138 : decode cX5_layRow 138 = .ok (.ifCond .eq 7, 3) := by decide +kernel
theorem dX5_layRow_141 : decode cX5_layRow 141 = .ok (.iconst 1, 1) := by decide +kernel
theorem dX5_layRow_142 : decode cX5_layRow 142 = .ok (.goto 13, 3) := by decide +kernel
theorem dX5_layRow_145 : decode cX5_layRow 145 = .ok (.iload 5, 2) := by decide +kernel
theorem dX5_layRow_147 : decode cX5_layRow 147 = .ok (.ifCond .eq 7, 3) := by decide +kernel
theorem dX5_layRow_150 : decode cX5_layRow 150 = .ok (.iconst (-1), 1) := by decide +kernel
theorem dX5_layRow_151 : decode cX5_layRow 151 = .ok (.goto 4, 3) := by decide +kernel
theorem dX5_layRow_154 : decode cX5_layRow 154 = .ok (.iconst 0, 1) := by decide +kernel
theorem dX5_layRow_155 : decode cX5_layRow 155 = .ok (.istore 6, 2) := by decide +kernel
theorem dX5_layRow_157 : decode cX5_layRow 157 = .ok (.aload_n 0, 1) := by decide +kernel
theorem dX5_layRow_158 : decode cX5_layRow 158 = .ok (.aload_n 0, 1) := by decide +kernel
theorem dX5_layRow_159 : decode cX5_layRow 159 = .ok (.getfield 7, 3) := by decide +kernel
theorem dX5_layRow_162 : decode cX5_layRow 162 = .ok (.iload_n 2, 1) := by decide +kernel
theorem dX5_layRow_163 : decode cX5_layRow 163 = .ok (.iaload, 1) := by decide +kernel
theorem dX5_layRow_164 : decode cX5_layRow 164 = .ok (.iload 6, 2) := by decide +kernel
theorem dX5_layRow_166 : decode cX5_layRow 166 = .ok (.aload_n 0, 1) := by decide +kernel
theorem dX5_layRow_167 : decode cX5_layRow 167 = .ok (.getfield 16, 3) := by decide +kernel
theorem dX5_layRow_170 : decode cX5_layRow 170 = .ok (.iload_n 2, 1) := by decide +kernel
theorem dX5_layRow_171 : decode cX5_layRow 171 = .ok (.iaload, 1) := by decide +kernel
theorem dX5_layRow_172 : decode cX5_layRow 172 = .ok (.imul, 1) := by decide +kernel
theorem dX5_layRow_173 : decode cX5_layRow 173 = .ok (.invokevirtual 103, 3) := by decide +kernel
theorem dX5_layRow_176 : decode cX5_layRow 176 = .ok (.aload_n 0, 1) := by decide +kernel
theorem dX5_layRow_177 : decode cX5_layRow 177 = .ok (.aload_n 0, 1) := by decide +kernel
theorem dX5_layRow_178 : decode cX5_layRow 178 = .ok (.getfield 13, 3) := by decide +kernel
theorem dX5_layRow_181 : decode cX5_layRow 181 = .ok (.iload_n 2, 1) := by decide +kernel
theorem dX5_layRow_182 : decode cX5_layRow 182 = .ok (.iaload, 1) := by decide +kernel
theorem dX5_layRow_183 : decode cX5_layRow 183 = .ok (.iload 6, 2) := by decide +kernel
theorem dX5_layRow_185 : decode cX5_layRow 185 = .ok (.ineg, 1) := by decide +kernel
theorem dX5_layRow_186 : decode cX5_layRow 186 = .ok (.aload_n 0, 1) := by decide +kernel
theorem dX5_layRow_187 : decode cX5_layRow 187 = .ok (.getfield 16, 3) := by decide +kernel
theorem dX5_layRow_190 : decode cX5_layRow 190 = .ok (.iload_n 2, 1) := by decide +kernel
theorem dX5_layRow_191 : decode cX5_layRow 191 = .ok (.iaload, 1) := by decide +kernel
theorem dX5_layRow_192 : decode cX5_layRow 192 = .ok (.imul, 1) := by decide +kernel
theorem dX5_layRow_193 : decode cX5_layRow 193 = .ok (.invokevirtual 103, 3) := by decide +kernel
theorem dX5_layRow_196 : decode cX5_layRow 196 = .ok (.iinc 2 1, 3) := by decide +kernel
theorem dX5_layRow_199 : decode cX5_layRow 199 = .ok (.goto (-177), 3) := by decide +kernel
theorem dX5_layRow_202 : decode cX5_layRow 202 = .ok (.return_, 1) := by decide +kernel
set_option maxRecDepth 20000 in
theorem ggX5_gather_X5_countedIn : GoodIn wsX5_gather wsX5_countedIn := goodIn_r _ [15, 16, 17, 18, 19, 14, 20, 21, 3, 22, 23, 24, 36, 37, 38, 39, 40, 41, 42, 43, 44, 45, 46, 47, 48, 49, 50, 51, 52, 53, 54, 55, 56, 57, 58, 59] (by decide +kernel) (by decide +kernel)
set_option maxRecDepth 20000 in
theorem gX5_gather_X5_countedIn : GoodIn wsX5_gather (wsV RX5 100 RX5 yX5_countedIn wsX5_countedIn) := goodIn_app (goodIn_of _ (by decide +kernel)) ggX5_gather_X5_countedIn
set_option maxRecDepth 20000 in
theorem ggX5_gather_X5_layRow : GoodIn wsX5_gather wsX5_layRow := goodIn_r _ [28, 9, 29, 21, 22, 24, 30, 23, 31, 32, 33, 34, 14, 35, 4, 36, 37, 38, 39, 40, 41, 42, 43, 44, 45, 46, 47, 48, 49, 50, 51, 52, 53, 54, 55, 56, 57, 58, 59] (by decide +kernel) (by decide +kernel)
set_option maxRecDepth 20000 in
theorem gX5_gather_X5_layRow : GoodIn wsX5_gather (wsV RX5 110 RX5 yX5_layRow wsX5_layRow) := goodIn_app (goodIn_of _ (by decide +kernel)) ggX5_gather_X5_layRow
theorem dX5_gather_0 : decode cX5_gather 0 = .ok (.aload_n 0, 1) := by decide +kernel
theorem dX5_gather_1 : decode cX5_gather 1 = .ok (.iconst 0, 1) := by decide +kernel
theorem dX5_gather_2 : decode cX5_gather 2 = .ok (.putfield 107, 3) := by decide +kernel
theorem dX5_gather_5 : decode cX5_gather 5 = .ok (.iconst 0, 1) := by decide +kernel
theorem dX5_gather_6 : decode cX5_gather 6 = .ok (.istore_n 3, 1) := by decide +kernel
theorem dX5_gather_7 : decode cX5_gather 7 = .ok (.iload_n 3, 1) := by decide +kernel
theorem dX5_gather_8 : decode cX5_gather 8 = .ok (.aload_n 0, 1) := by decide +kernel
theorem dX5_gather_9 : decode cX5_gather 9 = .ok (.getfield 60, 3) := by decide +kernel
theorem dX5_gather_12 : decode cX5_gather 12 = .ok (.if_icmp .ge 69, 3) := by decide +kernel
theorem dX5_gather_15 : decode cX5_gather 15 = .ok (.aload_n 0, 1) := by decide +kernel
theorem dX5_gather_16 : decode cX5_gather 16 = .ok (.getfield 38, 3) := by decide +kernel
theorem dX5_gather_19 : decode cX5_gather 19 = .ok (.iload_n 3, 1) := by decide +kernel
theorem dX5_gather_20 : decode cX5_gather 20 = .ok (.iaload, 1) := by decide +kernel
theorem dX5_gather_21 : decode cX5_gather 21 = .ok (.iload_n 1, 1) := by decide +kernel
theorem dX5_gather_22 : decode cX5_gather 22 = .ok (.if_icmp .ne 12, 3) := by decide +kernel
theorem dX5_gather_25 : decode cX5_gather 25 = .ok (.iload_n 3, 1) := by decide +kernel
theorem dX5_gather_26 : decode cX5_gather 26 = .ok (.iload_n 1, 1) := by decide +kernel
theorem dX5_gather_27 : decode cX5_gather 27 = .ok (.if_icmp .eq 7, 3) := by decide +kernel
theorem dX5_gather_30 : decode cX5_gather 30 = .ok (.iconst 1, 1) := by decide +kernel
theorem dX5_gather_31 : decode cX5_gather 31 = .ok (.goto 4, 3) := by decide +kernel
theorem dX5_gather_34 : decode cX5_gather 34 = .ok (.iconst 0, 1) := by decide +kernel
theorem dX5_gather_35 : decode cX5_gather 35 = .ok (.istore 4, 2) := by decide +kernel
theorem dX5_gather_37 : decode cX5_gather 37 = .ok (.aload_n 0, 1) := by decide +kernel
theorem dX5_gather_38 : decode cX5_gather 38 = .ok (.getfield 41, 3) := by decide +kernel
theorem dX5_gather_41 : decode cX5_gather 41 = .ok (.iload_n 3, 1) := by decide +kernel
theorem dX5_gather_42 : decode cX5_gather 42 = .ok (.iload 4, 2) := by decide +kernel
theorem dX5_gather_44 : decode cX5_gather 44 = .ok (.ifCond .eq 10, 3) := by decide +kernel
theorem dX5_gather_47 : decode cX5_gather 47 = .ok (.aload_n 0, 1) := by decide +kernel
theorem dX5_gather_48 : decode cX5_gather 48 = .ok (.getfield 107, 3) := by decide +kernel
theorem dX5_gather_51 : decode cX5_gather 51 = .ok (.goto 4, 3) := by decide +kernel
theorem dX5_gather_54 : decode cX5_gather 54 = .ok (.iconst (-1), 1) := by decide +kernel
theorem dX5_gather_55 : decode cX5_gather 55 = .ok (.iastore, 1) := by decide +kernel
theorem dX5_gather_56 : decode cX5_gather 56 = .ok (.aload_n 0, 1) := by decide +kernel
theorem dX5_gather_57 : decode cX5_gather 57 = .ok (.dup, 1) := by decide +kernel
theorem dX5_gather_58 : decode cX5_gather 58 = .ok (.getfield 107, 3) := by decide +kernel
theorem dX5_gather_61 : decode cX5_gather 61 = .ok (.iload 4, 2) := by decide +kernel
theorem dX5_gather_63 : decode cX5_gather 63 = .ok (.ifCond .eq 7, 3) := by decide +kernel
theorem dX5_gather_66 : decode cX5_gather 66 = .ok (.iconst 1, 1) := by decide +kernel
theorem dX5_gather_67 : decode cX5_gather 67 = .ok (.goto 4, 3) := by decide +kernel
theorem dX5_gather_70 : decode cX5_gather 70 = .ok (.iconst 0, 1) := by decide +kernel
theorem dX5_gather_71 : decode cX5_gather 71 = .ok (.iadd, 1) := by decide +kernel
theorem dX5_gather_72 : decode cX5_gather 72 = .ok (.putfield 107, 3) := by decide +kernel
theorem dX5_gather_75 : decode cX5_gather 75 = .ok (.iinc 3 1, 3) := by decide +kernel
theorem dX5_gather_78 : decode cX5_gather 78 = .ok (.goto (-71), 3) := by decide +kernel
theorem dX5_gather_81 : decode cX5_gather 81 = .ok (.iconst 0, 1) := by decide +kernel
theorem dX5_gather_82 : decode cX5_gather 82 = .ok (.istore_n 3, 1) := by decide +kernel
theorem dX5_gather_83 : decode cX5_gather 83 = .ok (.iload_n 3, 1) := by decide +kernel
theorem dX5_gather_84 : decode cX5_gather 84 = .ok (.bipush 16, 2) := by decide +kernel
theorem dX5_gather_86 : decode cX5_gather 86 = .ok (.if_icmp .ge 36, 3) := by decide +kernel
theorem dX5_gather_89 : decode cX5_gather 89 = .ok (.aload_n 0, 1) := by decide +kernel
theorem dX5_gather_90 : decode cX5_gather 90 = .ok (.getfield 47, 3) := by decide +kernel
theorem dX5_gather_93 : decode cX5_gather 93 = .ok (.iload_n 3, 1) := by decide +kernel
theorem dX5_gather_94 : decode cX5_gather 94 = .ok (.iload_n 3, 1) := by decide +kernel
theorem dX5_gather_95 : decode cX5_gather 95 = .ok (.iconst 5, 1) := by decide +kernel
theorem dX5_gather_96 : decode cX5_gather 96 = .ok (.irem, 1) := by decide +kernel
theorem dX5_gather_97 : decode cX5_gather 97 = .ok (.ifCond .ne 17, 3) := by decide +kernel
theorem dX5_gather_100 : decode cX5_gather 100 = .ok (.iload_n 3, 1) := by decide +kernel
theorem dX5_gather_101 : decode cX5_gather 101 = .ok (.iconst 5, 1) := by decide +kernel
theorem dX5_gather_102 : decode cX5_gather 102 = .ok (.idiv, 1) := by decide +kernel
theorem dX5_gather_103 : decode cX5_gather 103 = .ok (.aload_n 0, 1) := by decide +kernel
theorem dX5_gather_104 : decode cX5_gather 104 = .ok (.getfield 107, 3) := by decide +kernel
theorem dX5_gather_107 : decode cX5_gather 107 = .ok (.if_icmp .lt 7, 3) := by decide +kernel
theorem dX5_gather_110 : decode cX5_gather 110 = .ok (.lconst 1, 1) := by decide +kernel
theorem dX5_gather_111 : decode cX5_gather 111 = .ok (.goto 4, 3) := by decide +kernel
theorem dX5_gather_114 : decode cX5_gather 114 = .ok (.lconst 0, 1) := by decide +kernel
theorem dX5_gather_115 : decode cX5_gather 115 = .ok (.lastore, 1) := by decide +kernel
theorem dX5_gather_116 : decode cX5_gather 116 = .ok (.iinc 3 1, 3) := by decide +kernel
theorem dX5_gather_119 : decode cX5_gather 119 = .ok (.goto (-36), 3) := by decide +kernel
theorem dX5_gather_122 : decode cX5_gather 122 = .ok (.iconst 0, 1) := by decide +kernel
theorem dX5_gather_123 : decode cX5_gather 123 = .ok (.istore_n 3, 1) := by decide +kernel
theorem dX5_gather_124 : decode cX5_gather 124 = .ok (.iload_n 3, 1) := by decide +kernel
theorem dX5_gather_125 : decode cX5_gather 125 = .ok (.iconst 4, 1) := by decide +kernel
theorem dX5_gather_126 : decode cX5_gather 126 = .ok (.if_icmp .ge 16, 3) := by decide +kernel
theorem dX5_gather_129 : decode cX5_gather 129 = .ok (.aload_n 0, 1) := by decide +kernel
theorem dX5_gather_130 : decode cX5_gather 130 = .ok (.getfield 51, 3) := by decide +kernel
theorem dX5_gather_133 : decode cX5_gather 133 = .ok (.iload_n 3, 1) := by decide +kernel
theorem dX5_gather_134 : decode cX5_gather 134 = .ok (.lconst 0, 1) := by decide +kernel
theorem dX5_gather_135 : decode cX5_gather 135 = .ok (.lastore, 1) := by decide +kernel
theorem dX5_gather_136 : decode cX5_gather 136 = .ok (.iinc 3 1, 3) := by decide +kernel
theorem dX5_gather_139 : decode cX5_gather 139 = .ok (.goto (-15), 3) := by decide +kernel
theorem dX5_gather_142 : decode cX5_gather 142 = .ok (.iconst 0, 1) := by decide +kernel
theorem dX5_gather_143 : decode cX5_gather 143 = .ok (.istore_n 3, 1) := by decide +kernel
theorem dX5_gather_144 : decode cX5_gather 144 = .ok (.iload_n 3, 1) := by decide +kernel
theorem dX5_gather_145 : decode cX5_gather 145 = .ok (.aload_n 0, 1) := by decide +kernel
theorem dX5_gather_146 : decode cX5_gather 146 = .ok (.getfield 74, 3) := by decide +kernel
theorem dX5_gather_149 : decode cX5_gather 149 = .ok (.if_icmp .ge 135, 3) := by decide +kernel
theorem dX5_gather_152 : decode cX5_gather 152 = .ok (.iload_n 3, 1) := by decide +kernel
theorem dX5_gather_153 : decode cX5_gather 153 = .ok (.iload_n 2, 1) := by decide +kernel
theorem dX5_gather_154 : decode cX5_gather 154 = .ok (.if_icmp .eq 124, 3) := by decide +kernel
theorem dX5_gather_157 : decode cX5_gather 157 = .ok (.aload_n 0, 1) := by decide +kernel
theorem dX5_gather_158 : decode cX5_gather 158 = .ok (.iload_n 3, 1) := by decide +kernel
theorem dX5_gather_159 : decode cX5_gather 159 = .ok (.invokevirtual 100, 3) := by decide +kernel
theorem dX5_gather_162 : decode cX5_gather 162 = .ok (.iload_n 1, 1) := by decide +kernel
theorem dX5_gather_163 : decode cX5_gather 163 = .ok (.if_icmp .ne 115, 3) := by decide +kernel
theorem dX5_gather_166 : decode cX5_gather 166 = .ok (.aload_n 0, 1) := by decide +kernel
theorem dX5_gather_167 : decode cX5_gather 167 = .ok (.iload_n 3, 1) := by decide +kernel
theorem dX5_gather_168 : decode cX5_gather 168 = .ok (.invokevirtual 110, 3) := by decide +kernel
theorem dX5_gather_171 : decode cX5_gather 171 = .ok (.aload_n 0, 1) := by decide +kernel
theorem dX5_gather_172 : decode cX5_gather 172 = .ok (.getfield 32, 3) := by decide +kernel
theorem dX5_gather_175 : decode cX5_gather 175 = .ok (.iload_n 3, 1) := by decide +kernel
theorem dX5_gather_176 : decode cX5_gather 176 = .ok (.iaload, 1) := by decide +kernel
theorem dX5_gather_177 : decode cX5_gather 177 = .ok (.aload_n 0, 1) := by decide +kernel
theorem dX5_gather_178 : decode cX5_gather 178 = .ok (.getfield 32, 3) := by decide +kernel
theorem dX5_gather_181 : decode cX5_gather 181 = .ok (.iload_n 3, 1) := by decide +kernel
theorem dX5_gather_182 : decode cX5_gather 182 = .ok (.iaload, 1) := by decide +kernel
theorem dX5_gather_183 : decode cX5_gather 183 = .ok (.imul, 1) := by decide +kernel
theorem dX5_gather_184 : decode cX5_gather 184 = .ok (.istore 4, 2) := by decide +kernel
theorem dX5_gather_186 : decode cX5_gather 186 = .ok (.iconst 0, 1) := by decide +kernel
theorem dX5_gather_187 : decode cX5_gather 187 = .ok (.istore 5, 2) := by decide +kernel
theorem dX5_gather_189 : decode cX5_gather 189 = .ok (.iload 5, 2) := by decide +kernel
theorem dX5_gather_191 : decode cX5_gather 191 = .ok (.bipush 16, 2) := by decide +kernel
theorem dX5_gather_193 : decode cX5_gather 193 = .ok (.if_icmp .ge 42, 3) := by decide +kernel
theorem dX5_gather_196 : decode cX5_gather 196 = .ok (.aload_n 0, 1) := by decide +kernel
theorem dX5_gather_197 : decode cX5_gather 197 = .ok (.getfield 47, 3) := by decide +kernel
theorem dX5_gather_200 : decode cX5_gather 200 = .ok (.iload 5, 2) := by decide +kernel
theorem dX5_gather_202 : decode cX5_gather 202 = .ok (.dup2, 1) := by decide +kernel
theorem dX5_gather_203 : decode cX5_gather 203 = .ok (.laload, 1) := by decide +kernel
theorem dX5_gather_204 : decode cX5_gather 204 = .ok (.iload 4, 2) := by decide +kernel
theorem dX5_gather_206 : decode cX5_gather 206 = .ok (.aload_n 0, 1) := by decide +kernel
theorem dX5_gather_207 : decode cX5_gather 207 = .ok (.getfield 44, 3) := by decide +kernel
theorem dX5_gather_210 : decode cX5_gather 210 = .ok (.iload 5, 2) := by decide +kernel
theorem dX5_gather_212 : decode cX5_gather 212 = .ok (.iconst 4, 1) := by decide +kernel
theorem dX5_gather_213 : decode cX5_gather 213 = .ok (.idiv, 1) := by decide +kernel
theorem dX5_gather_214 : decode cX5_gather 214 = .ok (.iaload, 1) := by decide +kernel
theorem dX5_gather_215 : decode cX5_gather 215 = .ok (.imul, 1) := by decide +kernel
theorem dX5_gather_216 : decode cX5_gather 216 = .ok (.aload_n 0, 1) := by decide +kernel
theorem dX5_gather_217 : decode cX5_gather 217 = .ok (.getfield 44, 3) := by decide +kernel
theorem dX5_gather_220 : decode cX5_gather 220 = .ok (.iload 5, 2) := by decide +kernel
theorem dX5_gather_222 : decode cX5_gather 222 = .ok (.iconst 4, 1) := by decide +kernel
theorem dX5_gather_223 : decode cX5_gather 223 = .ok (.irem, 1) := by decide +kernel
theorem dX5_gather_224 : decode cX5_gather 224 = .ok (.iaload, 1) := by decide +kernel
theorem dX5_gather_225 : decode cX5_gather 225 = .ok (.imul, 1) := by decide +kernel
theorem dX5_gather_226 : decode cX5_gather 226 = .ok (.i2l, 1) := by decide +kernel
theorem dX5_gather_227 : decode cX5_gather 227 = .ok (.ladd, 1) := by decide +kernel
theorem dX5_gather_228 : decode cX5_gather 228 = .ok (.lastore, 1) := by decide +kernel
theorem dX5_gather_229 : decode cX5_gather 229 = .ok (.iinc 5 1, 3) := by decide +kernel
theorem dX5_gather_232 : decode cX5_gather 232 = .ok (.goto (-43), 3) := by decide +kernel
theorem dX5_gather_235 : decode cX5_gather 235 = .ok (.iconst 0, 1) := by decide +kernel
theorem dX5_gather_236 : decode cX5_gather 236 = .ok (.istore 5, 2) := by decide +kernel
theorem dX5_gather_238 : decode cX5_gather 238 = .ok (.iload 5, 2) := by decide +kernel
theorem dX5_gather_240 : decode cX5_gather 240 = .ok (.iconst 4, 1) := by decide +kernel
theorem dX5_gather_241 : decode cX5_gather 241 = .ok (.if_icmp .ge 37, 3) := by decide +kernel
theorem dX5_gather_244 : decode cX5_gather 244 = .ok (.aload_n 0, 1) := by decide +kernel
theorem dX5_gather_245 : decode cX5_gather 245 = .ok (.getfield 51, 3) := by decide +kernel
theorem dX5_gather_248 : decode cX5_gather 248 = .ok (.iload 5, 2) := by decide +kernel
theorem dX5_gather_250 : decode cX5_gather 250 = .ok (.dup2, 1) := by decide +kernel
theorem dX5_gather_251 : decode cX5_gather 251 = .ok (.laload, 1) := by decide +kernel
theorem dX5_gather_252 : decode cX5_gather 252 = .ok (.iload 4, 2) := by decide +kernel
theorem dX5_gather_254 : decode cX5_gather 254 = .ok (.aload_n 0, 1) := by decide +kernel
theorem dX5_gather_255 : decode cX5_gather 255 = .ok (.getfield 44, 3) := by decide +kernel
theorem dX5_gather_258 : decode cX5_gather 258 = .ok (.iload 5, 2) := by decide +kernel
theorem dX5_gather_260 : decode cX5_gather 260 = .ok (.iaload, 1) := by decide +kernel
theorem dX5_gather_261 : decode cX5_gather 261 = .ok (.imul, 1) := by decide +kernel
theorem dX5_gather_262 : decode cX5_gather 262 = .ok (.aload_n 0, 1) := by decide +kernel
theorem dX5_gather_263 : decode cX5_gather 263 = .ok (.getfield 29, 3) := by decide +kernel
theorem dX5_gather_266 : decode cX5_gather 266 = .ok (.iload_n 3, 1) := by decide +kernel
theorem dX5_gather_267 : decode cX5_gather 267 = .ok (.iaload, 1) := by decide +kernel
theorem dX5_gather_268 : decode cX5_gather 268 = .ok (.imul, 1) := by decide +kernel
theorem dX5_gather_269 : decode cX5_gather 269 = .ok (.i2l, 1) := by decide +kernel
theorem dX5_gather_270 : decode cX5_gather 270 = .ok (.ladd, 1) := by decide +kernel
theorem dX5_gather_271 : decode cX5_gather 271 = .ok (.lastore, 1) := by decide +kernel
theorem dX5_gather_272 : decode cX5_gather 272 = .ok (.iinc 5 1, 3) := by decide +kernel
theorem dX5_gather_275 : decode cX5_gather 275 = .ok (.goto (-37), 3) := by decide +kernel
theorem dX5_gather_278 : decode cX5_gather 278 = .ok (.iinc 3 1, 3) := by decide +kernel
theorem dX5_gather_281 : decode cX5_gather 281 = .ok (.goto (-137), 3) := by decide +kernel
theorem dX5_gather_284 : decode cX5_gather 284 = .ok (.return_, 1) := by decide +kernel
theorem dX5_pair_0 : decode cX5_pair 0 = .ok (.aload_n 0, 1) := by decide +kernel
theorem dX5_pair_1 : decode cX5_pair 1 = .ok (.getfield 54, 3) := by decide +kernel
theorem dX5_pair_4 : decode cX5_pair 4 = .ok (.iconst 4, 1) := by decide +kernel
theorem dX5_pair_5 : decode cX5_pair 5 = .ok (.iload_n 1, 1) := by decide +kernel
theorem dX5_pair_6 : decode cX5_pair 6 = .ok (.imul, 1) := by decide +kernel
theorem dX5_pair_7 : decode cX5_pair 7 = .ok (.iload_n 2, 1) := by decide +kernel
theorem dX5_pair_8 : decode cX5_pair 8 = .ok (.iadd, 1) := by decide +kernel
theorem dX5_pair_9 : decode cX5_pair 9 = .ok (.laload, 1) := by decide +kernel
theorem dX5_pair_10 : decode cX5_pair 10 = .ok (.aload_n 0, 1) := by decide +kernel
theorem dX5_pair_11 : decode cX5_pair 11 = .ok (.getfield 54, 3) := by decide +kernel
theorem dX5_pair_14 : decode cX5_pair 14 = .ok (.iconst 4, 1) := by decide +kernel
theorem dX5_pair_15 : decode cX5_pair 15 = .ok (.iload_n 1, 1) := by decide +kernel
theorem dX5_pair_16 : decode cX5_pair 16 = .ok (.imul, 1) := by decide +kernel
theorem dX5_pair_17 : decode cX5_pair 17 = .ok (.iconst 4, 1) := by decide +kernel
theorem dX5_pair_18 : decode cX5_pair 18 = .ok (.iadd, 1) := by decide +kernel
theorem dX5_pair_19 : decode cX5_pair 19 = .ok (.iload_n 3, 1) := by decide +kernel
theorem dX5_pair_20 : decode cX5_pair 20 = .ok (.iadd, 1) := by decide +kernel
theorem dX5_pair_21 : decode cX5_pair 21 = .ok (.laload, 1) := by decide +kernel
theorem dX5_pair_22 : decode cX5_pair 22 = .ok (.lmul, 1) := by decide +kernel
theorem dX5_pair_23 : decode cX5_pair 23 = .ok (.aload_n 0, 1) := by decide +kernel
theorem dX5_pair_24 : decode cX5_pair 24 = .ok (.getfield 54, 3) := by decide +kernel
theorem dX5_pair_27 : decode cX5_pair 27 = .ok (.iconst 4, 1) := by decide +kernel
theorem dX5_pair_28 : decode cX5_pair 28 = .ok (.iload_n 1, 1) := by decide +kernel
theorem dX5_pair_29 : decode cX5_pair 29 = .ok (.imul, 1) := by decide +kernel
theorem dX5_pair_30 : decode cX5_pair 30 = .ok (.iload_n 3, 1) := by decide +kernel
theorem dX5_pair_31 : decode cX5_pair 31 = .ok (.iadd, 1) := by decide +kernel
theorem dX5_pair_32 : decode cX5_pair 32 = .ok (.laload, 1) := by decide +kernel
theorem dX5_pair_33 : decode cX5_pair 33 = .ok (.aload_n 0, 1) := by decide +kernel
theorem dX5_pair_34 : decode cX5_pair 34 = .ok (.getfield 54, 3) := by decide +kernel
theorem dX5_pair_37 : decode cX5_pair 37 = .ok (.iconst 4, 1) := by decide +kernel
theorem dX5_pair_38 : decode cX5_pair 38 = .ok (.iload_n 1, 1) := by decide +kernel
theorem dX5_pair_39 : decode cX5_pair 39 = .ok (.imul, 1) := by decide +kernel
theorem dX5_pair_40 : decode cX5_pair 40 = .ok (.iconst 4, 1) := by decide +kernel
theorem dX5_pair_41 : decode cX5_pair 41 = .ok (.iadd, 1) := by decide +kernel
theorem dX5_pair_42 : decode cX5_pair 42 = .ok (.iload_n 2, 1) := by decide +kernel
theorem dX5_pair_43 : decode cX5_pair 43 = .ok (.iadd, 1) := by decide +kernel
theorem dX5_pair_44 : decode cX5_pair 44 = .ok (.laload, 1) := by decide +kernel
theorem dX5_pair_45 : decode cX5_pair 45 = .ok (.lmul, 1) := by decide +kernel
theorem dX5_pair_46 : decode cX5_pair 46 = .ok (.lsub, 1) := by decide +kernel
theorem dX5_pair_47 : decode cX5_pair 47 = .ok (.lreturn, 1) := by decide +kernel
set_option maxRecDepth 20000 in
theorem ggX5_determinant_X5_pair : GoodIn wsX5_determinant wsX5_pair := goodIn_r _ [5, 6, 7, 8, 9, 10, 11, 12, 13, 14, 15, 16, 17, 18, 19, 20, 21, 22, 23, 24, 25, 26, 27, 28, 29, 30] (by decide +kernel) (by decide +kernel)
set_option maxRecDepth 20000 in
theorem gX5_determinant_X5_pair : GoodIn wsX5_determinant (wsV RX5 114 RX5 yX5_pair wsX5_pair) := goodIn_app (goodIn_of _ (by decide +kernel)) ggX5_determinant_X5_pair
theorem dX5_determinant_0 : decode cX5_determinant 0 = .ok (.aload_n 0, 1) := by decide +kernel
theorem dX5_determinant_1 : decode cX5_determinant 1 = .ok (.iconst 0, 1) := by decide +kernel
theorem dX5_determinant_2 : decode cX5_determinant 2 = .ok (.iconst 0, 1) := by decide +kernel
theorem dX5_determinant_3 : decode cX5_determinant 3 = .ok (.iconst 1, 1) := by decide +kernel
theorem dX5_determinant_4 : decode cX5_determinant 4 = .ok (.invokevirtual 114, 3) := by decide +kernel
theorem dX5_determinant_7 : decode cX5_determinant 7 = .ok (.aload_n 0, 1) := by decide +kernel
theorem dX5_determinant_8 : decode cX5_determinant 8 = .ok (.iconst 2, 1) := by decide +kernel
theorem dX5_determinant_9 : decode cX5_determinant 9 = .ok (.iconst 2, 1) := by decide +kernel
theorem dX5_determinant_10 : decode cX5_determinant 10 = .ok (.iconst 3, 1) := by decide +kernel
theorem dX5_determinant_11 : decode cX5_determinant 11 = .ok (.invokevirtual 114, 3) := by decide +kernel
theorem dX5_determinant_14 : decode cX5_determinant 14 = .ok (.lmul, 1) := by decide +kernel
theorem dX5_determinant_15 : decode cX5_determinant 15 = .ok (.aload_n 0, 1) := by decide +kernel
theorem dX5_determinant_16 : decode cX5_determinant 16 = .ok (.iconst 0, 1) := by decide +kernel
theorem dX5_determinant_17 : decode cX5_determinant 17 = .ok (.iconst 0, 1) := by decide +kernel
theorem dX5_determinant_18 : decode cX5_determinant 18 = .ok (.iconst 2, 1) := by decide +kernel
theorem dX5_determinant_19 : decode cX5_determinant 19 = .ok (.invokevirtual 114, 3) := by decide +kernel
theorem dX5_determinant_22 : decode cX5_determinant 22 = .ok (.aload_n 0, 1) := by decide +kernel
theorem dX5_determinant_23 : decode cX5_determinant 23 = .ok (.iconst 2, 1) := by decide +kernel
theorem dX5_determinant_24 : decode cX5_determinant 24 = .ok (.iconst 1, 1) := by decide +kernel
theorem dX5_determinant_25 : decode cX5_determinant 25 = .ok (.iconst 3, 1) := by decide +kernel
theorem dX5_determinant_26 : decode cX5_determinant 26 = .ok (.invokevirtual 114, 3) := by decide +kernel
theorem dX5_determinant_29 : decode cX5_determinant 29 = .ok (.lmul, 1) := by decide +kernel
theorem dX5_determinant_30 : decode cX5_determinant 30 = .ok (.lsub, 1) := by decide +kernel
theorem dX5_determinant_31 : decode cX5_determinant 31 = .ok (.aload_n 0, 1) := by decide +kernel
theorem dX5_determinant_32 : decode cX5_determinant 32 = .ok (.iconst 0, 1) := by decide +kernel
theorem dX5_determinant_33 : decode cX5_determinant 33 = .ok (.iconst 0, 1) := by decide +kernel
theorem dX5_determinant_34 : decode cX5_determinant 34 = .ok (.iconst 3, 1) := by decide +kernel
theorem dX5_determinant_35 : decode cX5_determinant 35 = .ok (.invokevirtual 114, 3) := by decide +kernel
theorem dX5_determinant_38 : decode cX5_determinant 38 = .ok (.aload_n 0, 1) := by decide +kernel
theorem dX5_determinant_39 : decode cX5_determinant 39 = .ok (.iconst 2, 1) := by decide +kernel
theorem dX5_determinant_40 : decode cX5_determinant 40 = .ok (.iconst 1, 1) := by decide +kernel
theorem dX5_determinant_41 : decode cX5_determinant 41 = .ok (.iconst 2, 1) := by decide +kernel
theorem dX5_determinant_42 : decode cX5_determinant 42 = .ok (.invokevirtual 114, 3) := by decide +kernel
theorem dX5_determinant_45 : decode cX5_determinant 45 = .ok (.lmul, 1) := by decide +kernel
theorem dX5_determinant_46 : decode cX5_determinant 46 = .ok (.ladd, 1) := by decide +kernel
theorem dX5_determinant_47 : decode cX5_determinant 47 = .ok (.aload_n 0, 1) := by decide +kernel
theorem dX5_determinant_48 : decode cX5_determinant 48 = .ok (.iconst 0, 1) := by decide +kernel
theorem dX5_determinant_49 : decode cX5_determinant 49 = .ok (.iconst 1, 1) := by decide +kernel
theorem dX5_determinant_50 : decode cX5_determinant 50 = .ok (.iconst 2, 1) := by decide +kernel
theorem dX5_determinant_51 : decode cX5_determinant 51 = .ok (.invokevirtual 114, 3) := by decide +kernel
theorem dX5_determinant_54 : decode cX5_determinant 54 = .ok (.aload_n 0, 1) := by decide +kernel
theorem dX5_determinant_55 : decode cX5_determinant 55 = .ok (.iconst 2, 1) := by decide +kernel
theorem dX5_determinant_56 : decode cX5_determinant 56 = .ok (.iconst 0, 1) := by decide +kernel
theorem dX5_determinant_57 : decode cX5_determinant 57 = .ok (.iconst 3, 1) := by decide +kernel
theorem dX5_determinant_58 : decode cX5_determinant 58 = .ok (.invokevirtual 114, 3) := by decide +kernel
theorem dX5_determinant_61 : decode cX5_determinant 61 = .ok (.lmul, 1) := by decide +kernel
theorem dX5_determinant_62 : decode cX5_determinant 62 = .ok (.ladd, 1) := by decide +kernel
theorem dX5_determinant_63 : decode cX5_determinant 63 = .ok (.aload_n 0, 1) := by decide +kernel
theorem dX5_determinant_64 : decode cX5_determinant 64 = .ok (.iconst 0, 1) := by decide +kernel
theorem dX5_determinant_65 : decode cX5_determinant 65 = .ok (.iconst 1, 1) := by decide +kernel
theorem dX5_determinant_66 : decode cX5_determinant 66 = .ok (.iconst 3, 1) := by decide +kernel
theorem dX5_determinant_67 : decode cX5_determinant 67 = .ok (.invokevirtual 114, 3) := by decide +kernel
theorem dX5_determinant_70 : decode cX5_determinant 70 = .ok (.aload_n 0, 1) := by decide +kernel
theorem dX5_determinant_71 : decode cX5_determinant 71 = .ok (.iconst 2, 1) := by decide +kernel
theorem dX5_determinant_72 : decode cX5_determinant 72 = .ok (.iconst 0, 1) := by decide +kernel
theorem dX5_determinant_73 : decode cX5_determinant 73 = .ok (.iconst 2, 1) := by decide +kernel
theorem dX5_determinant_74 : decode cX5_determinant 74 = .ok (.invokevirtual 114, 3) := by decide +kernel
theorem dX5_determinant_77 : decode cX5_determinant 77 = .ok (.lmul, 1) := by decide +kernel
theorem dX5_determinant_78 : decode cX5_determinant 78 = .ok (.lsub, 1) := by decide +kernel
theorem dX5_determinant_79 : decode cX5_determinant 79 = .ok (.aload_n 0, 1) := by decide +kernel
theorem dX5_determinant_80 : decode cX5_determinant 80 = .ok (.iconst 0, 1) := by decide +kernel
theorem dX5_determinant_81 : decode cX5_determinant 81 = .ok (.iconst 2, 1) := by decide +kernel
theorem dX5_determinant_82 : decode cX5_determinant 82 = .ok (.iconst 3, 1) := by decide +kernel
theorem dX5_determinant_83 : decode cX5_determinant 83 = .ok (.invokevirtual 114, 3) := by decide +kernel
theorem dX5_determinant_86 : decode cX5_determinant 86 = .ok (.aload_n 0, 1) := by decide +kernel
theorem dX5_determinant_87 : decode cX5_determinant 87 = .ok (.iconst 2, 1) := by decide +kernel
theorem dX5_determinant_88 : decode cX5_determinant 88 = .ok (.iconst 0, 1) := by decide +kernel
theorem dX5_determinant_89 : decode cX5_determinant 89 = .ok (.iconst 1, 1) := by decide +kernel
theorem dX5_determinant_90 : decode cX5_determinant 90 = .ok (.invokevirtual 114, 3) := by decide +kernel
theorem dX5_determinant_93 : decode cX5_determinant 93 = .ok (.lmul, 1) := by decide +kernel
theorem dX5_determinant_94 : decode cX5_determinant 94 = .ok (.ladd, 1) := by decide +kernel
theorem dX5_determinant_95 : decode cX5_determinant 95 = .ok (.lreturn, 1) := by decide +kernel
set_option maxRecDepth 20000 in
theorem ggX5_part_X5_determinant : GoodIn wsX5_part wsX5_determinant := goodIn_r _ [7, 8, 9, 10, 6, 11, 1, 12, 13, 14, 15, 16, 17, 18, 19, 20, 21, 22, 23, 24, 25, 26, 27, 28, 29, 30, 31, 32, 33, 34, 35] (by decide +kernel) (by decide +kernel)
set_option maxRecDepth 20000 in
theorem gX5_part_X5_determinant : GoodIn wsX5_part (wsV RX5 118 RX5 yX5_determinant wsX5_determinant) := goodIn_app (goodIn_of _ (by decide +kernel)) ggX5_part_X5_determinant
theorem dX5_part_0 : decode cX5_part 0 = .ok (.iconst 0, 1) := by decide +kernel
theorem dX5_part_1 : decode cX5_part 1 = .ok (.istore_n 2, 1) := by decide +kernel
theorem dX5_part_2 : decode cX5_part 2 = .ok (.iload_n 2, 1) := by decide +kernel
theorem dX5_part_3 : decode cX5_part 3 = .ok (.bipush 16, 2) := by decide +kernel
theorem dX5_part_5 : decode cX5_part 5 = .ok (.if_icmp .ge 67, 3) := by decide +kernel
theorem dX5_part_8 : decode cX5_part 8 = .ok (.iload_n 1, 1) := by decide +kernel
theorem dX5_part_9 : decode cX5_part 9 = .ok (.iload_n 2, 1) := by decide +kernel
theorem dX5_part_10 : decode cX5_part 10 = .ok (.iconst 4, 1) := by decide +kernel
theorem dX5_part_11 : decode cX5_part 11 = .ok (.idiv, 1) := by decide +kernel
theorem dX5_part_12 : decode cX5_part 12 = .ok (.ishr, 1) := by decide +kernel
theorem dX5_part_13 : decode cX5_part 13 = .ok (.iconst 1, 1) := by decide +kernel
theorem dX5_part_14 : decode cX5_part 14 = .ok (.iand, 1) := by decide +kernel
theorem dX5_part_15 : decode cX5_part 15 = .ok (.iconst 1, 1) := by decide +kernel
theorem dX5_part_16 : decode cX5_part 16 = .ok (.if_icmp .ne 18, 3) := by decide +kernel
theorem dX5_part_19 : decode cX5_part 19 = .ok (.iload_n 1, 1) := by decide +kernel
theorem dX5_part_20 : decode cX5_part 20 = .ok (.iload_n 2, 1) := by decide +kernel
theorem dX5_part_21 : decode cX5_part 21 = .ok (.iconst 4, 1) := by decide +kernel
theorem dX5_part_22 : decode cX5_part 22 = .ok (.irem, 1) := by decide +kernel
theorem dX5_part_23 : decode cX5_part 23 = .ok (.ishr, 1) := by decide +kernel
theorem dX5_part_24 : decode cX5_part 24 = .ok (.iconst 1, 1) := by decide +kernel
theorem dX5_part_25 : decode cX5_part 25 = .ok (.iand, 1) := by decide +kernel
theorem dX5_part_26 : decode cX5_part 26 = .ok (.iconst 1, 1) := by decide +kernel
theorem dX5_part_27 : decode cX5_part 27 = .ok (.if_icmp .ne 7, 3) := by decide +kernel
theorem dX5_part_30 : decode cX5_part 30 = .ok (.iconst 1, 1) := by decide +kernel
theorem dX5_part_31 : decode cX5_part 31 = .ok (.goto 4, 3) := by decide +kernel
theorem dX5_part_34 : decode cX5_part 34 = .ok (.iconst 0, 1) := by decide +kernel
theorem dX5_part_35 : decode cX5_part 35 = .ok (.istore_n 3, 1) := by decide +kernel
theorem dX5_part_36 : decode cX5_part 36 = .ok (.aload_n 0, 1) := by decide +kernel
theorem dX5_part_37 : decode cX5_part 37 = .ok (.getfield 54, 3) := by decide +kernel
theorem dX5_part_40 : decode cX5_part 40 = .ok (.iload_n 2, 1) := by decide +kernel
theorem dX5_part_41 : decode cX5_part 41 = .ok (.iload_n 3, 1) := by decide +kernel
theorem dX5_part_42 : decode cX5_part 42 = .ok (.ifCond .eq 12, 3) := by decide +kernel
theorem dX5_part_45 : decode cX5_part 45 = .ok (.aload_n 0, 1) := by decide +kernel
theorem dX5_part_46 : decode cX5_part 46 = .ok (.getfield 47, 3) := by decide +kernel
theorem dX5_part_49 : decode cX5_part 49 = .ok (.iload_n 2, 1) := by decide +kernel
theorem dX5_part_50 : decode cX5_part 50 = .ok (.laload, 1) := by decide +kernel
theorem dX5_part_51 : decode cX5_part 51 = .ok (.goto 14, 3) := by decide +kernel
theorem dX5_part_54 : decode cX5_part 54 = .ok (.iload_n 2, 1) := by decide +kernel
theorem dX5_part_55 : decode cX5_part 55 = .ok (.iconst 5, 1) := by decide +kernel
theorem dX5_part_56 : decode cX5_part 56 = .ok (.irem, 1) := by decide +kernel
theorem dX5_part_57 : decode cX5_part 57 = .ok (.ifCond .ne 7, 3) := by decide +kernel
theorem dX5_part_60 : decode cX5_part 60 = .ok (.lconst 1, 1) := by decide +kernel
theorem dX5_part_61 : decode cX5_part 61 = .ok (.goto 4, 3) := by decide +kernel
theorem dX5_part_64 : decode cX5_part 64 = .ok (.lconst 0, 1) := by decide +kernel
theorem dX5_part_65 : decode cX5_part 65 = .ok (.lastore, 1) := by decide +kernel
theorem dX5_part_66 : decode cX5_part 66 = .ok (.iinc 2 1, 3) := by decide +kernel
theorem dX5_part_69 : decode cX5_part 69 = .ok (.goto (-67), 3) := by decide +kernel
theorem dX5_part_72 : decode cX5_part 72 = .ok (.aload_n 0, 1) := by decide +kernel
theorem dX5_part_73 : decode cX5_part 73 = .ok (.invokevirtual 118, 3) := by decide +kernel
theorem dX5_part_76 : decode cX5_part 76 = .ok (.lreturn, 1) := by decide +kernel
theorem dX5_bits_0 : decode cX5_bits 0 = .ok (.iconst 0, 1) := by decide +kernel
theorem dX5_bits_1 : decode cX5_bits 1 = .ok (.istore_n 1, 1) := by decide +kernel
theorem dX5_bits_2 : decode cX5_bits 2 = .ok (.iload_n 0, 1) := by decide +kernel
theorem dX5_bits_3 : decode cX5_bits 3 = .ok (.istore_n 2, 1) := by decide +kernel
theorem dX5_bits_4 : decode cX5_bits 4 = .ok (.iload_n 2, 1) := by decide +kernel
theorem dX5_bits_5 : decode cX5_bits 5 = .ok (.ifCond .eq 15, 3) := by decide +kernel
theorem dX5_bits_8 : decode cX5_bits 8 = .ok (.iinc 1 1, 3) := by decide +kernel
theorem dX5_bits_11 : decode cX5_bits 11 = .ok (.iload_n 2, 1) := by decide +kernel
theorem dX5_bits_12 : decode cX5_bits 12 = .ok (.iload_n 2, 1) := by decide +kernel
theorem dX5_bits_13 : decode cX5_bits 13 = .ok (.iconst 1, 1) := by decide +kernel
theorem dX5_bits_14 : decode cX5_bits 14 = .ok (.isub, 1) := by decide +kernel
theorem dX5_bits_15 : decode cX5_bits 15 = .ok (.iand, 1) := by decide +kernel
theorem dX5_bits_16 : decode cX5_bits 16 = .ok (.istore_n 2, 1) := by decide +kernel
theorem dX5_bits_17 : decode cX5_bits 17 = .ok (.goto (-13), 3) := by decide +kernel
theorem dX5_bits_20 : decode cX5_bits 20 = .ok (.iload_n 1, 1) := by decide +kernel
theorem dX5_bits_21 : decode cX5_bits 21 = .ok (.ireturn, 1) := by decide +kernel
set_option maxRecDepth 20000 in
theorem ggX5_rankNow_X5_bits : GoodIn wsX5_rankNow wsX5_bits := goodIn_r _ [5] (by decide +kernel) (by decide +kernel)
set_option maxRecDepth 20000 in
theorem gX5_rankNow_X5_bits : GoodIn wsX5_rankNow (va_wsS RX5 122 yX5_bits wsX5_bits) := goodIn_app (goodIn_of _ (by decide +kernel)) ggX5_rankNow_X5_bits
set_option maxRecDepth 20000 in
theorem ggX5_rankNow_X5_part : GoodIn wsX5_rankNow wsX5_part := goodIn_r _ [9, 10, 11, 12, 13, 14, 4, 15, 16, 17, 18, 19, 20, 21, 22, 23, 24, 25, 26, 27, 28, 29, 30, 31, 32, 33, 34, 35, 36, 37, 38, 39, 40, 41, 42, 43] (by decide +kernel) (by decide +kernel)
set_option maxRecDepth 20000 in
theorem gX5_rankNow_X5_part : GoodIn wsX5_rankNow (wsV RX5 125 RX5 yX5_part wsX5_part) := goodIn_app (goodIn_of _ (by decide +kernel)) ggX5_rankNow_X5_part
theorem dX5_rankNow_0 : decode cX5_rankNow 0 = .ok (.iconst 0, 1) := by decide +kernel
theorem dX5_rankNow_1 : decode cX5_rankNow 1 = .ok (.istore_n 1, 1) := by decide +kernel
theorem dX5_rankNow_2 : decode cX5_rankNow 2 = .ok (.iconst 1, 1) := by decide +kernel
theorem dX5_rankNow_3 : decode cX5_rankNow 3 = .ok (.istore_n 2, 1) := by decide +kernel
theorem dX5_rankNow_4 : decode cX5_rankNow 4 = .ok (.iload_n 2, 1) := by decide +kernel
theorem dX5_rankNow_5 : decode cX5_rankNow 5 = .ok (.iconst 1, 1) := by decide +kernel
theorem dX5_rankNow_6 : decode cX5_rankNow 6 = .ok (.aload_n 0, 1) := by decide +kernel
theorem dX5_rankNow_7 : decode cX5_rankNow 7 = .ok (.getfield 107, 3) := by decide +kernel
theorem dX5_rankNow_10 : decode cX5_rankNow 10 = .ok (.ishl, 1) := by decide +kernel
theorem dX5_rankNow_11 : decode cX5_rankNow 11 = .ok (.if_icmp .ge 36, 3) := by decide +kernel
theorem dX5_rankNow_14 : decode cX5_rankNow 14 = .ok (.iload_n 2, 1) := by decide +kernel
theorem dX5_rankNow_15 : decode cX5_rankNow 15 = .ok (.invokestatic 122, 3) := by decide +kernel
theorem dX5_rankNow_18 : decode cX5_rankNow 18 = .ok (.iload_n 1, 1) := by decide +kernel
theorem dX5_rankNow_19 : decode cX5_rankNow 19 = .ok (.if_icmp .le 20, 3) := by decide +kernel
theorem dX5_rankNow_22 : decode cX5_rankNow 22 = .ok (.aload_n 0, 1) := by decide +kernel
theorem dX5_rankNow_23 : decode cX5_rankNow 23 = .ok (.iload_n 2, 1) := by decide +kernel
theorem dX5_rankNow_24 : decode cX5_rankNow 24 = .ok (.invokevirtual 125, 3) := by decide +kernel
theorem dX5_rankNow_27 : decode cX5_rankNow 27 = .ok (.lconst 0, 1) := by decide +kernel
theorem dX5_rankNow_28 : decode cX5_rankNow 28 = .ok (.lcmp, 1) := by decide +kernel
theorem dX5_rankNow_29 : decode cX5_rankNow 29 = .ok (.ifCond .eq 10, 3) := by decide +kernel
theorem dX5_rankNow_32 : decode cX5_rankNow 32 = .ok (.iload_n 2, 1) := by decide +kernel
theorem dX5_rankNow_33 : decode cX5_rankNow 33 = .ok (.invokestatic 122, 3) := by decide +kernel
theorem dX5_rankNow_36 : decode cX5_rankNow 36 = .ok (.goto 4, 3) := by decide +kernel
theorem dX5_rankNow_39 : decode cX5_rankNow 39 = .ok (.iload_n 1, 1) := by decide +kernel
theorem dX5_rankNow_40 : decode cX5_rankNow 40 = .ok (.istore_n 1, 1) := by decide +kernel
theorem dX5_rankNow_41 : decode cX5_rankNow 41 = .ok (.iinc 2 1, 3) := by decide +kernel
theorem dX5_rankNow_44 : decode cX5_rankNow 44 = .ok (.goto (-40), 3) := by decide +kernel
theorem dX5_rankNow_47 : decode cX5_rankNow 47 = .ok (.iload_n 1, 1) := by decide +kernel
theorem dX5_rankNow_48 : decode cX5_rankNow 48 = .ok (.ireturn, 1) := by decide +kernel
set_option maxRecDepth 20000 in
theorem ggX5_sees_X5_gather : GoodIn wsX5_sees wsX5_gather := goodIn_r _ [6, 7, 8, 9, 10, 11, 12, 13, 14, 15, 16, 17, 18, 19, 5, 20, 21, 22, 23, 24, 25, 26, 27, 28, 29, 30, 31, 32, 33, 34, 35, 36, 37, 38, 39, 40, 54, 55, 56, 57, 58, 59, 60, 61, 62, 63, 64, 65, 66, 67, 68, 69, 70, 71, 72, 73, 74, 75, 76, 77] (by decide +kernel) (by decide +kernel)
set_option maxRecDepth 20000 in
theorem gX5_sees_X5_gather : GoodIn wsX5_sees (wsV RX5 129 RX5 yX5_gather wsX5_gather) := goodIn_app (goodIn_of _ (by decide +kernel)) ggX5_sees_X5_gather
set_option maxRecDepth 20000 in
theorem ggX5_sees_X5_part : GoodIn wsX5_sees wsX5_part := goodIn_r _ [44, 45, 11, 46, 47, 48, 5, 49, 50, 51, 52, 53, 54, 55, 56, 57, 58, 59, 60, 61, 62, 63, 64, 65, 66, 67, 68, 69, 70, 71, 72, 73, 74, 75, 76, 77] (by decide +kernel) (by decide +kernel)
set_option maxRecDepth 20000 in
theorem gX5_sees_X5_part : GoodIn wsX5_sees (wsV RX5 125 RX5 yX5_part wsX5_part) := goodIn_app (goodIn_of _ (by decide +kernel)) ggX5_sees_X5_part
theorem dX5_sees_0 : decode cX5_sees 0 = .ok (.aload_n 0, 1) := by decide +kernel
theorem dX5_sees_1 : decode cX5_sees 1 = .ok (.iload_n 1, 1) := by decide +kernel
theorem dX5_sees_2 : decode cX5_sees 2 = .ok (.iconst (-1), 1) := by decide +kernel
theorem dX5_sees_3 : decode cX5_sees 3 = .ok (.invokevirtual 129, 3) := by decide +kernel
theorem dX5_sees_6 : decode cX5_sees 6 = .ok (.aload_n 0, 1) := by decide +kernel
theorem dX5_sees_7 : decode cX5_sees 7 = .ok (.aload_n 0, 1) := by decide +kernel
theorem dX5_sees_8 : decode cX5_sees 8 = .ok (.bipush 15, 2) := by decide +kernel
theorem dX5_sees_10 : decode cX5_sees 10 = .ok (.invokevirtual 125, 3) := by decide +kernel
theorem dX5_sees_13 : decode cX5_sees 13 = .ok (.putfield 132, 3) := by decide +kernel
theorem dX5_sees_16 : decode cX5_sees 16 = .ok (.aload_n 0, 1) := by decide +kernel
theorem dX5_sees_17 : decode cX5_sees 17 = .ok (.getfield 132, 3) := by decide +kernel
theorem dX5_sees_20 : decode cX5_sees 20 = .ok (.lconst 0, 1) := by decide +kernel
theorem dX5_sees_21 : decode cX5_sees 21 = .ok (.lcmp, 1) := by decide +kernel
theorem dX5_sees_22 : decode cX5_sees 22 = .ok (.ifCond .eq 7, 3) := by decide +kernel
theorem dX5_sees_25 : decode cX5_sees 25 = .ok (.iconst 1, 1) := by decide +kernel
theorem dX5_sees_26 : decode cX5_sees 26 = .ok (.goto 4, 3) := by decide +kernel
theorem dX5_sees_29 : decode cX5_sees 29 = .ok (.iconst 0, 1) := by decide +kernel
theorem dX5_sees_30 : decode cX5_sees 30 = .ok (.ireturn, 1) := by decide +kernel
set_option maxRecDepth 20000 in
theorem ggX5_estimate_X5_sees : GoodIn wsX5_estimate wsX5_sees := goodIn_r _ [9, 10, 11, 12, 13, 8, 14, 15, 16, 17, 18, 3, 2, 19, 20, 21, 22, 23, 24, 25, 26, 27, 28, 29, 30, 31, 32, 33, 34, 35, 36, 37, 38, 39, 40, 41, 42, 43, 44, 45, 46, 47, 48, 49, 50, 1, 51, 52, 53, 54, 55, 56, 57, 58, 59, 60, 61, 62, 63, 64, 65, 66, 67, 68, 69, 70, 71, 72, 73, 74, 75, 76, 77, 78, 79, 80, 81, 82] (by decide +kernel) (by decide +kernel)
set_option maxRecDepth 20000 in
theorem gX5_estimate_X5_sees : GoodIn wsX5_estimate (wsV RX5 136 RX5 yX5_sees wsX5_sees) := goodIn_app (goodIn_of _ (by decide +kernel)) ggX5_estimate_X5_sees
set_option maxRecDepth 20000 in
theorem ggX5_estimate_X5_determinant : GoodIn wsX5_estimate wsX5_determinant := goodIn_r _ [54, 55, 56, 57, 8, 58, 1, 59, 60, 61, 62, 63, 64, 65, 66, 67, 68, 69, 70, 71, 72, 73, 74, 75, 76, 77, 78, 79, 80, 81, 82] (by decide +kernel) (by decide +kernel)
set_option maxRecDepth 20000 in
theorem gX5_estimate_X5_determinant : GoodIn wsX5_estimate (wsV RX5 118 RX5 yX5_determinant wsX5_determinant) := goodIn_app (goodIn_of _ (by decide +kernel)) ggX5_estimate_X5_determinant
theorem dX5_estimate_0 : decode cX5_estimate 0 = .ok (.aload_n 0, 1) := by decide +kernel
theorem dX5_estimate_1 : decode cX5_estimate 1 = .ok (.iload_n 1, 1) := by decide +kernel
theorem dX5_estimate_2 : decode cX5_estimate 2 = .ok (.invokevirtual 136, 3) := by decide +kernel
theorem dX5_estimate_5 : decode cX5_estimate 5 = .ok (.pop, 1) := by decide +kernel
theorem dX5_estimate_6 : decode cX5_estimate 6 = .ok (.iconst 0, 1) := by decide +kernel
theorem dX5_estimate_7 : decode cX5_estimate 7 = .ok (.istore_n 2, 1) := by decide +kernel
theorem dX5_estimate_8 : decode cX5_estimate 8 = .ok (.iload_n 2, 1) := by decide +kernel
theorem dX5_estimate_9 : decode cX5_estimate 9 = .ok (.iconst 4, 1) := by decide +kernel
theorem dX5_estimate_10 : decode cX5_estimate 10 = .ok (.if_icmp .ge 63, 3) := by decide +kernel
theorem dX5_estimate_13 : decode cX5_estimate 13 = .ok (.iconst 0, 1) := by decide +kernel
theorem dX5_estimate_14 : decode cX5_estimate 14 = .ok (.istore_n 3, 1) := by decide +kernel
theorem dX5_estimate_15 : decode cX5_estimate 15 = .ok (.iload_n 3, 1) := by decide +kernel
theorem dX5_estimate_16 : decode cX5_estimate 16 = .ok (.bipush 16, 2) := by decide +kernel
theorem dX5_estimate_18 : decode cX5_estimate 18 = .ok (.if_icmp .ge 39, 3) := by decide +kernel
theorem dX5_estimate_21 : decode cX5_estimate 21 = .ok (.aload_n 0, 1) := by decide +kernel
theorem dX5_estimate_22 : decode cX5_estimate 22 = .ok (.getfield 54, 3) := by decide +kernel
theorem dX5_estimate_25 : decode cX5_estimate 25 = .ok (.iload_n 3, 1) := by decide +kernel
theorem dX5_estimate_26 : decode cX5_estimate 26 = .ok (.iload_n 3, 1) := by decide +kernel
theorem dX5_estimate_27 : decode cX5_estimate 27 = .ok (.iconst 4, 1) := by decide +kernel
theorem dX5_estimate_28 : decode cX5_estimate 28 = .ok (.irem, 1) := by decide +kernel
theorem dX5_estimate_29 : decode cX5_estimate 29 = .ok (.iload_n 2, 1) := by decide +kernel
theorem dX5_estimate_30 : decode cX5_estimate 30 = .ok (.if_icmp .ne 14, 3) := by decide +kernel
theorem dX5_estimate_33 : decode cX5_estimate 33 = .ok (.aload_n 0, 1) := by decide +kernel
theorem dX5_estimate_34 : decode cX5_estimate 34 = .ok (.getfield 51, 3) := by decide +kernel
theorem dX5_estimate_37 : decode cX5_estimate 37 = .ok (.iload_n 3, 1) := by decide +kernel
theorem dX5_estimate_38 : decode cX5_estimate 38 = .ok (.iconst 4, 1) := by decide +kernel
theorem dX5_estimate_39 : decode cX5_estimate 39 = .ok (.idiv, 1) := by decide +kernel
theorem dX5_estimate_40 : decode cX5_estimate 40 = .ok (.laload, 1) := by decide +kernel
theorem dX5_estimate_41 : decode cX5_estimate 41 = .ok (.goto 9, 3) := by decide +kernel
theorem dX5_estimate_44 : decode cX5_estimate 44 = .ok (.aload_n 0, 1) := by decide +kernel
theorem dX5_estimate_45 : decode cX5_estimate 45 = .ok (.getfield 47, 3) := by decide +kernel
theorem dX5_estimate_48 : decode cX5_estimate 48 = .ok (.iload_n 3, 1) := by decide +kernel
theorem dX5_estimate_49 : decode cX5_estimate 49 = .ok (.laload, 1) := by decide +kernel
theorem dX5_estimate_50 : decode cX5_estimate 50 = .ok (.lastore, 1) := by decide +kernel
theorem dX5_estimate_51 : decode cX5_estimate 51 = .ok (.iinc 3 1, 3) := by decide +kernel
theorem dX5_estimate_54 : decode cX5_estimate 54 = .ok (.goto (-39), 3) := by decide +kernel
theorem dX5_estimate_57 : decode cX5_estimate 57 = .ok (.aload_n 0, 1) := by decide +kernel
theorem dX5_estimate_58 : decode cX5_estimate 58 = .ok (.getfield 57, 3) := by decide +kernel
theorem dX5_estimate_61 : decode cX5_estimate 61 = .ok (.iload_n 2, 1) := by decide +kernel
theorem dX5_estimate_62 : decode cX5_estimate 62 = .ok (.aload_n 0, 1) := by decide +kernel
theorem dX5_estimate_63 : decode cX5_estimate 63 = .ok (.invokevirtual 118, 3) := by decide +kernel
theorem dX5_estimate_66 : decode cX5_estimate 66 = .ok (.lastore, 1) := by decide +kernel
theorem dX5_estimate_67 : decode cX5_estimate 67 = .ok (.iinc 2 1, 3) := by decide +kernel
theorem dX5_estimate_70 : decode cX5_estimate 70 = .ok (.goto (-62), 3) := by decide +kernel
theorem dX5_estimate_73 : decode cX5_estimate 73 = .ok (.return_, 1) := by decide +kernel
theorem dX5_reduce_0 : decode cX5_reduce 0 = .ok (.lload_n 1, 1) := by decide +kernel
theorem dX5_reduce_1 : decode cX5_reduce 1 = .ok (.lconst 0, 1) := by decide +kernel
theorem dX5_reduce_2 : decode cX5_reduce 2 = .ok (.lcmp, 1) := by decide +kernel
theorem dX5_reduce_3 : decode cX5_reduce 3 = .ok (.ifCond .ge 8, 3) := by decide +kernel
theorem dX5_reduce_6 : decode cX5_reduce 6 = .ok (.lload_n 1, 1) := by decide +kernel
theorem dX5_reduce_7 : decode cX5_reduce 7 = .ok (.lneg, 1) := by decide +kernel
theorem dX5_reduce_8 : decode cX5_reduce 8 = .ok (.goto 4, 3) := by decide +kernel
theorem dX5_reduce_11 : decode cX5_reduce 11 = .ok (.lload_n 1, 1) := by decide +kernel
theorem dX5_reduce_12 : decode cX5_reduce 12 = .ok (.lstore 5, 2) := by decide +kernel
theorem dX5_reduce_14 : decode cX5_reduce 14 = .ok (.lload_n 3, 1) := by decide +kernel
theorem dX5_reduce_15 : decode cX5_reduce 15 = .ok (.lstore 7, 2) := by decide +kernel
theorem dX5_reduce_17 : decode cX5_reduce 17 = .ok (.lload 7, 2) := by decide +kernel
theorem dX5_reduce_19 : decode cX5_reduce 19 = .ok (.lconst 0, 1) := by decide +kernel
theorem dX5_reduce_20 : decode cX5_reduce 20 = .ok (.lcmp, 1) := by decide +kernel
theorem dX5_reduce_21 : decode cX5_reduce 21 = .ok (.ifCond .eq 21, 3) := by decide +kernel
theorem dX5_reduce_24 : decode cX5_reduce 24 = .ok (.lload 5, 2) := by decide +kernel
theorem dX5_reduce_26 : decode cX5_reduce 26 = .ok (.lload 7, 2) := by decide +kernel
theorem dX5_reduce_28 : decode cX5_reduce 28 = .ok (.lrem, 1) := by decide +kernel
theorem dX5_reduce_29 : decode cX5_reduce 29 = .ok (.lstore 9, 2) := by decide +kernel
theorem dX5_reduce_31 : decode cX5_reduce 31 = .ok (.lload 7, 2) := by decide +kernel
theorem dX5_reduce_33 : decode cX5_reduce 33 = .ok (.lstore 5, 2) := by decide +kernel
theorem dX5_reduce_35 : decode cX5_reduce 35 = .ok (.lload 9, 2) := by decide +kernel
theorem dX5_reduce_37 : decode cX5_reduce 37 = .ok (.lstore 7, 2) := by decide +kernel
theorem dX5_reduce_39 : decode cX5_reduce 39 = .ok (.goto (-22), 3) := by decide +kernel
theorem dX5_reduce_42 : decode cX5_reduce 42 = .ok (.aload_n 0, 1) := by decide +kernel
theorem dX5_reduce_43 : decode cX5_reduce 43 = .ok (.lload_n 1, 1) := by decide +kernel
theorem dX5_reduce_44 : decode cX5_reduce 44 = .ok (.lload 5, 2) := by decide +kernel
theorem dX5_reduce_46 : decode cX5_reduce 46 = .ok (.ldiv, 1) := by decide +kernel
theorem dX5_reduce_47 : decode cX5_reduce 47 = .ok (.putfield 139, 3) := by decide +kernel
theorem dX5_reduce_50 : decode cX5_reduce 50 = .ok (.aload_n 0, 1) := by decide +kernel
theorem dX5_reduce_51 : decode cX5_reduce 51 = .ok (.lload_n 3, 1) := by decide +kernel
theorem dX5_reduce_52 : decode cX5_reduce 52 = .ok (.lload 5, 2) := by decide +kernel
theorem dX5_reduce_54 : decode cX5_reduce 54 = .ok (.ldiv, 1) := by decide +kernel
theorem dX5_reduce_55 : decode cX5_reduce 55 = .ok (.putfield 142, 3) := by decide +kernel
theorem dX5_reduce_58 : decode cX5_reduce 58 = .ok (.return_, 1) := by decide +kernel
set_option maxRecDepth 20000 in
theorem ggX5_residual_X5_layRow : GoodIn wsX5_residual wsX5_layRow := goodIn_r _ [9, 3, 10, 11, 12, 13, 14, 15, 16, 17, 18, 19, 8, 20, 21, 22, 23, 24, 25, 26, 27, 28, 29, 30, 31, 32, 33, 34, 35, 36, 37, 38, 39, 40, 41, 42, 43, 44, 45] (by decide +kernel) (by decide +kernel)
set_option maxRecDepth 20000 in
theorem gX5_residual_X5_layRow : GoodIn wsX5_residual (wsV RX5 110 RX5 yX5_layRow wsX5_layRow) := goodIn_app (goodIn_of _ (by decide +kernel)) ggX5_residual_X5_layRow
theorem dX5_residual_0 : decode cX5_residual 0 = .ok (.aload_n 0, 1) := by decide +kernel
theorem dX5_residual_1 : decode cX5_residual 1 = .ok (.iload_n 1, 1) := by decide +kernel
theorem dX5_residual_2 : decode cX5_residual 2 = .ok (.invokevirtual 110, 3) := by decide +kernel
theorem dX5_residual_5 : decode cX5_residual 5 = .ok (.aload_n 0, 1) := by decide +kernel
theorem dX5_residual_6 : decode cX5_residual 6 = .ok (.getfield 29, 3) := by decide +kernel
theorem dX5_residual_9 : decode cX5_residual 9 = .ok (.iload_n 1, 1) := by decide +kernel
theorem dX5_residual_10 : decode cX5_residual 10 = .ok (.iaload, 1) := by decide +kernel
theorem dX5_residual_11 : decode cX5_residual 11 = .ok (.i2l, 1) := by decide +kernel
theorem dX5_residual_12 : decode cX5_residual 12 = .ok (.aload_n 0, 1) := by decide +kernel
theorem dX5_residual_13 : decode cX5_residual 13 = .ok (.getfield 132, 3) := by decide +kernel
theorem dX5_residual_16 : decode cX5_residual 16 = .ok (.lmul, 1) := by decide +kernel
theorem dX5_residual_17 : decode cX5_residual 17 = .ok (.lstore_n 2, 1) := by decide +kernel
theorem dX5_residual_18 : decode cX5_residual 18 = .ok (.iconst 0, 1) := by decide +kernel
theorem dX5_residual_19 : decode cX5_residual 19 = .ok (.istore 4, 2) := by decide +kernel
theorem dX5_residual_21 : decode cX5_residual 21 = .ok (.iload 4, 2) := by decide +kernel
theorem dX5_residual_23 : decode cX5_residual 23 = .ok (.iconst 4, 1) := by decide +kernel
theorem dX5_residual_24 : decode cX5_residual 24 = .ok (.if_icmp .ge 28, 3) := by decide +kernel
theorem dX5_residual_27 : decode cX5_residual 27 = .ok (.lload_n 2, 1) := by decide +kernel
theorem dX5_residual_28 : decode cX5_residual 28 = .ok (.aload_n 0, 1) := by decide +kernel
theorem dX5_residual_29 : decode cX5_residual 29 = .ok (.getfield 44, 3) := by decide +kernel
theorem dX5_residual_32 : decode cX5_residual 32 = .ok (.iload 4, 2) := by decide +kernel
theorem dX5_residual_34 : decode cX5_residual 34 = .ok (.iaload, 1) := by decide +kernel
theorem dX5_residual_35 : decode cX5_residual 35 = .ok (.i2l, 1) := by decide +kernel
theorem dX5_residual_36 : decode cX5_residual 36 = .ok (.aload_n 0, 1) := by decide +kernel
theorem dX5_residual_37 : decode cX5_residual 37 = .ok (.getfield 57, 3) := by decide +kernel
theorem dX5_residual_40 : decode cX5_residual 40 = .ok (.iload 4, 2) := by decide +kernel
theorem dX5_residual_42 : decode cX5_residual 42 = .ok (.laload, 1) := by decide +kernel
theorem dX5_residual_43 : decode cX5_residual 43 = .ok (.lmul, 1) := by decide +kernel
theorem dX5_residual_44 : decode cX5_residual 44 = .ok (.lsub, 1) := by decide +kernel
theorem dX5_residual_45 : decode cX5_residual 45 = .ok (.lstore_n 2, 1) := by decide +kernel
theorem dX5_residual_46 : decode cX5_residual 46 = .ok (.iinc 4 1, 3) := by decide +kernel
theorem dX5_residual_49 : decode cX5_residual 49 = .ok (.goto (-28), 3) := by decide +kernel
theorem dX5_residual_52 : decode cX5_residual 52 = .ok (.lload_n 2, 1) := by decide +kernel
theorem dX5_residual_53 : decode cX5_residual 53 = .ok (.lreturn, 1) := by decide +kernel
set_option maxRecDepth 20000 in
theorem ggX5_size_X5_residual : GoodIn wsX5_size wsX5_residual := goodIn_r _ [6, 7, 8, 9, 10, 11, 12, 13, 5, 14, 15, 16, 17, 18, 19, 20, 21, 22, 23, 24, 25, 26, 27, 28, 29, 30, 31, 32, 33, 34, 35, 36, 37, 38, 39, 40, 41, 42, 43, 44, 45, 46, 47, 48, 49, 50] (by decide +kernel) (by decide +kernel)
set_option maxRecDepth 20000 in
theorem gX5_size_X5_residual : GoodIn wsX5_size (wsV RX5 145 RX5 yX5_residual wsX5_residual) := goodIn_app (goodIn_of _ (by decide +kernel)) ggX5_size_X5_residual
theorem dX5_size_0 : decode cX5_size 0 = .ok (.aload_n 0, 1) := by decide +kernel
theorem dX5_size_1 : decode cX5_size 1 = .ok (.iload_n 1, 1) := by decide +kernel
theorem dX5_size_2 : decode cX5_size 2 = .ok (.invokevirtual 145, 3) := by decide +kernel
theorem dX5_size_5 : decode cX5_size 5 = .ok (.lstore_n 2, 1) := by decide +kernel
theorem dX5_size_6 : decode cX5_size 6 = .ok (.aload_n 0, 1) := by decide +kernel
theorem dX5_size_7 : decode cX5_size 7 = .ok (.getfield 32, 3) := by decide +kernel
theorem dX5_size_10 : decode cX5_size 10 = .ok (.iload_n 1, 1) := by decide +kernel
theorem dX5_size_11 : decode cX5_size 11 = .ok (.iaload, 1) := by decide +kernel
theorem dX5_size_12 : decode cX5_size 12 = .ok (.i2l, 1) := by decide +kernel
theorem dX5_size_13 : decode cX5_size 13 = .ok (.lload_n 2, 1) := by decide +kernel
theorem dX5_size_14 : decode cX5_size 14 = .ok (.lconst 0, 1) := by decide +kernel
theorem dX5_size_15 : decode cX5_size 15 = .ok (.lcmp, 1) := by decide +kernel
theorem dX5_size_16 : decode cX5_size 16 = .ok (.ifCond .ge 8, 3) := by decide +kernel
theorem dX5_size_19 : decode cX5_size 19 = .ok (.lload_n 2, 1) := by decide +kernel
theorem dX5_size_20 : decode cX5_size 20 = .ok (.lneg, 1) := by decide +kernel
theorem dX5_size_21 : decode cX5_size 21 = .ok (.goto 4, 3) := by decide +kernel
theorem dX5_size_24 : decode cX5_size 24 = .ok (.lload_n 2, 1) := by decide +kernel
theorem dX5_size_25 : decode cX5_size 25 = .ok (.lmul, 1) := by decide +kernel
theorem dX5_size_26 : decode cX5_size 26 = .ok (.lreturn, 1) := by decide +kernel
set_option maxRecDepth 20000 in
theorem ggX5_rank_X5_isBus : GoodIn wsX5_rank wsX5_isBus := goodIn_r _ [6, 7, 8, 9, 5, 10, 76, 77, 78, 79, 80, 81, 82, 83, 84, 85, 86, 87, 88, 89, 90, 91, 92, 93, 94, 95, 96, 97, 98, 99] (by decide +kernel) (by decide +kernel)
set_option maxRecDepth 20000 in
theorem gX5_rank_X5_isBus : GoodIn wsX5_rank (wsV RX5 77 RX5 yX5_isBus wsX5_isBus) := goodIn_app (goodIn_of _ (by decide +kernel)) ggX5_rank_X5_isBus
set_option maxRecDepth 20000 in
theorem ggX5_rank_X5_refused : GoodIn wsX5_rank wsX5_refused := goodIn_r _ [14, 15, 76, 77, 78, 79, 80, 81, 82, 83, 84, 85, 86, 87, 88, 89, 90, 91, 92, 93, 94, 95, 96, 97, 98, 99] (by decide +kernel) (by decide +kernel)
set_option maxRecDepth 20000 in
theorem gX5_rank_X5_refused : GoodIn wsX5_rank (wsV RX5 81 RX5 yX5_refused wsX5_refused) := goodIn_app (goodIn_of _ (by decide +kernel)) ggX5_rank_X5_refused
set_option maxRecDepth 20000 in
theorem ggX5_rank_X5_divide : GoodIn wsX5_rank wsX5_divide := goodIn_r _ [19, 7, 1, 20, 21, 22, 23, 76, 77, 78, 79, 80, 81, 82, 83, 84, 85, 86, 87, 88, 89, 90, 91, 92, 93, 94, 95, 96, 97, 98, 99] (by decide +kernel) (by decide +kernel)
set_option maxRecDepth 20000 in
theorem gX5_rank_X5_divide : GoodIn wsX5_rank (wsV RX5 87 RX5 yX5_divide wsX5_divide) := goodIn_app (goodIn_of _ (by decide +kernel)) ggX5_rank_X5_divide
set_option maxRecDepth 20000 in
theorem ggX5_rank_X5_gather : GoodIn wsX5_rank wsX5_gather := goodIn_r _ [27, 28, 7, 1, 29, 30, 31, 32, 33, 34, 35, 36, 37, 38, 5, 39, 40, 41, 42, 43, 44, 45, 46, 21, 22, 47, 48, 49, 50, 20, 23, 51, 52, 53, 54, 55, 76, 77, 78, 79, 80, 81, 82, 83, 84, 85, 86, 87, 88, 89, 90, 91, 92, 93, 94, 95, 96, 97, 98, 99] (by decide +kernel) (by decide +kernel)
set_option maxRecDepth 20000 in
theorem gX5_rank_X5_gather : GoodIn wsX5_rank (wsV RX5 129 RX5 yX5_gather wsX5_gather) := goodIn_app (goodIn_of _ (by decide +kernel)) ggX5_rank_X5_gather
set_option maxRecDepth 20000 in
theorem ggX5_rank_X5_rankNow : GoodIn wsX5_rank wsX5_rankNow := goodIn_r _ [59, 28, 60, 61, 5, 62, 63, 64, 65, 66, 67, 30, 68, 69, 70, 71, 72, 73, 74, 75, 76, 77, 78, 79, 80, 81, 82, 83, 84, 85, 86, 87, 88, 89, 90, 91, 92, 93, 94, 95, 96, 97, 98, 99] (by decide +kernel) (by decide +kernel)
set_option maxRecDepth 20000 in
theorem gX5_rank_X5_rankNow : GoodIn wsX5_rank (wsV RX5 148 RX5 yX5_rankNow wsX5_rankNow) := goodIn_app (goodIn_of _ (by decide +kernel)) ggX5_rank_X5_rankNow
theorem dX5_rank_0 : decode cX5_rank 0 = .ok (.aload_n 0, 1) := by decide +kernel
theorem dX5_rank_1 : decode cX5_rank 1 = .ok (.aload_n 0, 1) := by decide +kernel
theorem dX5_rank_2 : decode cX5_rank 2 = .ok (.iload_n 1, 1) := by decide +kernel
theorem dX5_rank_3 : decode cX5_rank 3 = .ok (.invokevirtual 77, 3) := by decide +kernel
theorem dX5_rank_6 : decode cX5_rank 6 = .ok (.ifCond .eq 7, 3) := by decide +kernel
theorem dX5_rank_9 : decode cX5_rank 9 = .ok (.iconst 0, 1) := by decide +kernel
theorem dX5_rank_10 : decode cX5_rank 10 = .ok (.goto 4, 3) := by decide +kernel
theorem dX5_rank_13 : decode cX5_rank 13 = .ok (.iconst 1, 1) := by decide +kernel
theorem dX5_rank_14 : decode cX5_rank 14 = .ok (.invokevirtual 81, 3) := by decide +kernel
theorem dX5_rank_17 : decode cX5_rank 17 = .ok (.ifCond .eq 5, 3) := by decide +kernel
theorem dX5_rank_20 : decode cX5_rank 20 = .ok (.iconst 0, 1) := by decide +kernel
theorem dX5_rank_21 : decode cX5_rank 21 = .ok (.ireturn, 1) := by decide +kernel
theorem dX5_rank_22 : decode cX5_rank 22 = .ok (.aload_n 0, 1) := by decide +kernel
theorem dX5_rank_23 : decode cX5_rank 23 = .ok (.invokevirtual 87, 3) := by decide +kernel
theorem dX5_rank_26 : decode cX5_rank 26 = .ok (.aload_n 0, 1) := by decide +kernel
theorem dX5_rank_27 : decode cX5_rank 27 = .ok (.aload_n 0, 1) := by decide +kernel
theorem dX5_rank_28 : decode cX5_rank 28 = .ok (.getfield 38, 3) := by decide +kernel
theorem dX5_rank_31 : decode cX5_rank 31 = .ok (.iload_n 1, 1) := by decide +kernel
theorem dX5_rank_32 : decode cX5_rank 32 = .ok (.iaload, 1) := by decide +kernel
theorem dX5_rank_33 : decode cX5_rank 33 = .ok (.iconst (-1), 1) := by decide +kernel
theorem dX5_rank_34 : decode cX5_rank 34 = .ok (.invokevirtual 129, 3) := by decide +kernel
theorem dX5_rank_37 : decode cX5_rank 37 = .ok (.aload_n 0, 1) := by decide +kernel
theorem dX5_rank_38 : decode cX5_rank 38 = .ok (.invokevirtual 148, 3) := by decide +kernel
theorem dX5_rank_41 : decode cX5_rank 41 = .ok (.ireturn, 1) := by decide +kernel
set_option maxRecDepth 20000 in
theorem ggX5_isObservable_X5_isBus : GoodIn wsX5_isObservable wsX5_isBus := goodIn_r _ [6, 7, 8, 9, 5, 10, 74, 75, 76, 77, 78, 79, 80, 81, 82, 83, 84, 85, 86, 87, 88, 89, 90, 91, 92, 93, 94, 95, 96, 97] (by decide +kernel) (by decide +kernel)
set_option maxRecDepth 20000 in
theorem gX5_isObservable_X5_isBus : GoodIn wsX5_isObservable (wsV RX5 77 RX5 yX5_isBus wsX5_isBus) := goodIn_app (goodIn_of _ (by decide +kernel)) ggX5_isObservable_X5_isBus
set_option maxRecDepth 20000 in
theorem ggX5_isObservable_X5_refused : GoodIn wsX5_isObservable wsX5_refused := goodIn_r _ [14, 15, 74, 75, 76, 77, 78, 79, 80, 81, 82, 83, 84, 85, 86, 87, 88, 89, 90, 91, 92, 93, 94, 95, 96, 97] (by decide +kernel) (by decide +kernel)
set_option maxRecDepth 20000 in
theorem gX5_isObservable_X5_refused : GoodIn wsX5_isObservable (wsV RX5 81 RX5 yX5_refused wsX5_refused) := goodIn_app (goodIn_of _ (by decide +kernel)) ggX5_isObservable_X5_refused
set_option maxRecDepth 20000 in
theorem ggX5_isObservable_X5_divide : GoodIn wsX5_isObservable wsX5_divide := goodIn_r _ [19, 7, 1, 20, 21, 22, 23, 74, 75, 76, 77, 78, 79, 80, 81, 82, 83, 84, 85, 86, 87, 88, 89, 90, 91, 92, 93, 94, 95, 96, 97] (by decide +kernel) (by decide +kernel)
set_option maxRecDepth 20000 in
theorem gX5_isObservable_X5_divide : GoodIn wsX5_isObservable (wsV RX5 87 RX5 yX5_divide wsX5_divide) := goodIn_app (goodIn_of _ (by decide +kernel)) ggX5_isObservable_X5_divide
set_option maxRecDepth 20000 in
theorem ggX5_isObservable_X5_sees : GoodIn wsX5_isObservable wsX5_sees := goodIn_r _ [27, 28, 29, 30, 31, 5, 32, 33, 7, 1, 34, 35, 36, 37, 38, 39, 40, 41, 42, 43, 44, 45, 46, 47, 48, 49, 50, 51, 21, 22, 52, 53, 54, 55, 20, 23, 56, 57, 58, 59, 60, 61, 62, 63, 64, 65, 66, 67, 68, 69, 70, 71, 72, 73, 74, 75, 76, 77, 78, 79, 80, 81, 82, 83, 84, 85, 86, 87, 88, 89, 90, 91, 92, 93, 94, 95, 96, 97] (by decide +kernel) (by decide +kernel)
set_option maxRecDepth 20000 in
theorem gX5_isObservable_X5_sees : GoodIn wsX5_isObservable (wsV RX5 136 RX5 yX5_sees wsX5_sees) := goodIn_app (goodIn_of _ (by decide +kernel)) ggX5_isObservable_X5_sees
theorem dX5_isObservable_0 : decode cX5_isObservable 0 = .ok (.aload_n 0, 1) := by decide +kernel
theorem dX5_isObservable_1 : decode cX5_isObservable 1 = .ok (.aload_n 0, 1) := by decide +kernel
theorem dX5_isObservable_2 : decode cX5_isObservable 2 = .ok (.iload_n 1, 1) := by decide +kernel
theorem dX5_isObservable_3 : decode cX5_isObservable 3 = .ok (.invokevirtual 77, 3) := by decide +kernel
theorem dX5_isObservable_6 : decode cX5_isObservable 6 = .ok (.ifCond .eq 7, 3) := by decide +kernel
theorem dX5_isObservable_9 : decode cX5_isObservable 9 = .ok (.iconst 0, 1) := by decide +kernel
theorem dX5_isObservable_10 : decode cX5_isObservable 10 = .ok (.goto 4, 3) := by decide +kernel
theorem dX5_isObservable_13 : decode cX5_isObservable 13 = .ok (.iconst 1, 1) := by decide +kernel
theorem dX5_isObservable_14 : decode cX5_isObservable 14 = .ok (.invokevirtual 81, 3) := by decide +kernel
theorem dX5_isObservable_17 : decode cX5_isObservable 17 = .ok (.ifCond .eq 5, 3) := by decide +kernel
theorem dX5_isObservable_20 : decode cX5_isObservable 20 = .ok (.iconst 0, 1) := by decide +kernel
theorem dX5_isObservable_21 : decode cX5_isObservable 21 = .ok (.ireturn, 1) := by decide +kernel
theorem dX5_isObservable_22 : decode cX5_isObservable 22 = .ok (.aload_n 0, 1) := by decide +kernel
theorem dX5_isObservable_23 : decode cX5_isObservable 23 = .ok (.invokevirtual 87, 3) := by decide +kernel
theorem dX5_isObservable_26 : decode cX5_isObservable 26 = .ok (.aload_n 0, 1) := by decide +kernel
theorem dX5_isObservable_27 : decode cX5_isObservable 27 = .ok (.aload_n 0, 1) := by decide +kernel
theorem dX5_isObservable_28 : decode cX5_isObservable 28 = .ok (.getfield 38, 3) := by decide +kernel
theorem dX5_isObservable_31 : decode cX5_isObservable 31 = .ok (.iload_n 1, 1) := by decide +kernel
theorem dX5_isObservable_32 : decode cX5_isObservable 32 = .ok (.iaload, 1) := by decide +kernel
theorem dX5_isObservable_33 : decode cX5_isObservable 33 = .ok (.invokevirtual 136, 3) := by decide +kernel
theorem dX5_isObservable_36 : decode cX5_isObservable 36 = .ok (.ireturn, 1) := by decide +kernel
set_option maxRecDepth 20000 in
theorem ggX5_isNeeded_X5_countedIn : GoodIn wsX5_isNeeded wsX5_countedIn := goodIn_r _ [5, 6, 7, 8, 9, 4, 10, 11, 12, 13, 14, 15, 58, 59, 60, 61, 62, 63, 64, 65, 66, 67, 68, 69, 70, 71, 72, 73, 74, 75, 76, 77, 78, 79, 80, 81] (by decide +kernel) (by decide +kernel)
