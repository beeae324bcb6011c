theorem dX3_fillRows_20 : decode cX3_fillRows 20 = .ok (.iload_n 1, 1) := by decide +kernel
theorem dX3_fillRows_21 : decode cX3_fillRows 21 = .ok (.if_icmp .eq 19, 3) := by decide +kernel
theorem dX3_fillRows_24 : decode cX3_fillRows 24 = .ok (.aload_n 0, 1) := by decide +kernel
theorem dX3_fillRows_25 : decode cX3_fillRows 25 = .ok (.getfield 20, 3) := by decide +kernel
theorem dX3_fillRows_28 : decode cX3_fillRows 28 = .ok (.iload_n 3, 1) := by decide +kernel
theorem dX3_fillRows_29 : decode cX3_fillRows 29 = .ok (.invokevirtual 34, 3) := by decide +kernel
theorem dX3_fillRows_32 : decode cX3_fillRows 32 = .ok (.iload_n 2, 1) := by decide +kernel
theorem dX3_fillRows_33 : decode cX3_fillRows 33 = .ok (.if_icmp .ne 7, 3) := by decide +kernel
theorem dX3_fillRows_36 : decode cX3_fillRows 36 = .ok (.iconst 1, 1) := by decide +kernel
theorem dX3_fillRows_37 : decode cX3_fillRows 37 = .ok (.goto 4, 3) := by decide +kernel
theorem dX3_fillRows_40 : decode cX3_fillRows 40 = .ok (.iconst 0, 1) := by decide +kernel
theorem dX3_fillRows_41 : decode cX3_fillRows 41 = .ok (.istore 4, 2) := by decide +kernel
theorem dX3_fillRows_43 : decode cX3_fillRows 43 = .ok (.iconst 0, 1) := by decide +kernel
theorem dX3_fillRows_44 : decode cX3_fillRows 44 = .ok (.istore 5, 2) := by decide +kernel
theorem dX3_fillRows_46 : decode cX3_fillRows 46 = .ok (.iload 5, 2) := by decide +kernel
theorem dX3_fillRows_48 : decode cX3_fillRows 48 = .ok (.iconst 5, 1) := by decide +kernel
theorem dX3_fillRows_49 : decode cX3_fillRows 49 = .ok (.if_icmp .ge 44, 3) := by decide +kernel
theorem dX3_fillRows_52 : decode cX3_fillRows 52 = .ok (.aload_n 0, 1) := by decide +kernel
theorem dX3_fillRows_53 : decode cX3_fillRows 53 = .ok (.getfield 11, 3) := by decide +kernel
theorem dX3_fillRows_56 : decode cX3_fillRows 56 = .ok (.iload_n 3, 1) := by decide +kernel
theorem dX3_fillRows_57 : decode cX3_fillRows 57 = .ok (.aaload, 1) := by decide +kernel
theorem dX3_fillRows_58 : decode cX3_fillRows 58 = .ok (.iload 5, 2) := by decide +kernel
theorem dX3_fillRows_60 : decode cX3_fillRows 60 = .ok (.iload 4, 2) := by decide +kernel
theorem dX3_fillRows_62 : decode cX3_fillRows 62 = .ok (.ifCond .eq 23, 3) := by decide +kernel
theorem dX3_fillRows_65 : decode cX3_fillRows 65 = .ok (.iload 5, 2) := by decide +kernel
theorem dX3_fillRows_67 : decode cX3_fillRows 67 = .ok (.iload_n 2, 1) := by decide +kernel
theorem dX3_fillRows_68 : decode cX3_fillRows 68 = .ok (.if_icmp .eq 17, 3) := by decide +kernel
theorem dX3_fillRows_71 : decode cX3_fillRows 71 = .ok (.aload_n 0, 1) := by decide +kernel
theorem dX3_fillRows_72 : decode cX3_fillRows 72 = .ok (.getfield 20, 3) := by decide +kernel
theorem dX3_fillRows_75 : decode cX3_fillRows 75 = .ok (.iload_n 3, 1) := by decide +kernel
theorem dX3_fillRows_76 : decode cX3_fillRows 76 = .ok (.iload 5, 2) := by decide +kernel
theorem dX3_fillRows_78 : decode cX3_fillRows 78 = .ok (.invokevirtual 54, 3) := by decide +kernel
theorem dX3_fillRows_81 : decode cX3_fillRows 81 = .ok (.i2l, 1) := by decide +kernel
theorem dX3_fillRows_82 : decode cX3_fillRows 82 = .ok (.goto 4, 3) := by decide +kernel
theorem dX3_fillRows_85 : decode cX3_fillRows 85 = .ok (.lconst 0, 1) := by decide +kernel
theorem dX3_fillRows_86 : decode cX3_fillRows 86 = .ok (.lastore, 1) := by decide +kernel
theorem dX3_fillRows_87 : decode cX3_fillRows 87 = .ok (.iinc 5 1, 3) := by decide +kernel
theorem dX3_fillRows_90 : decode cX3_fillRows 90 = .ok (.goto (-44), 3) := by decide +kernel
theorem dX3_fillRows_93 : decode cX3_fillRows 93 = .ok (.iinc 3 1, 3) := by decide +kernel
theorem dX3_fillRows_96 : decode cX3_fillRows 96 = .ok (.goto (-94), 3) := by decide +kernel
theorem dX3_fillRows_99 : decode cX3_fillRows 99 = .ok (.return_, 1) := by decide +kernel
theorem dX3_raisePivot_0 : decode cX3_raisePivot 0 = .ok (.iload_n 1, 1) := by decide +kernel
theorem dX3_raisePivot_1 : decode cX3_raisePivot 1 = .ok (.istore_n 3, 1) := by decide +kernel
theorem dX3_raisePivot_2 : decode cX3_raisePivot 2 = .ok (.iload_n 3, 1) := by decide +kernel
theorem dX3_raisePivot_3 : decode cX3_raisePivot 3 = .ok (.bipush 10, 2) := by decide +kernel
theorem dX3_raisePivot_5 : decode cX3_raisePivot 5 = .ok (.if_icmp .ge 52, 3) := by decide +kernel
theorem dX3_raisePivot_8 : decode cX3_raisePivot 8 = .ok (.aload_n 0, 1) := by decide +kernel
theorem dX3_raisePivot_9 : decode cX3_raisePivot 9 = .ok (.getfield 11, 3) := by decide +kernel
theorem dX3_raisePivot_12 : decode cX3_raisePivot 12 = .ok (.iload_n 3, 1) := by decide +kernel
theorem dX3_raisePivot_13 : decode cX3_raisePivot 13 = .ok (.aaload, 1) := by decide +kernel
theorem dX3_raisePivot_14 : decode cX3_raisePivot 14 = .ok (.iload_n 2, 1) := by decide +kernel
theorem dX3_raisePivot_15 : decode cX3_raisePivot 15 = .ok (.laload, 1) := by decide +kernel
theorem dX3_raisePivot_16 : decode cX3_raisePivot 16 = .ok (.lconst 0, 1) := by decide +kernel
theorem dX3_raisePivot_17 : decode cX3_raisePivot 17 = .ok (.lcmp, 1) := by decide +kernel
theorem dX3_raisePivot_18 : decode cX3_raisePivot 18 = .ok (.ifCond .eq 33, 3) := by decide +kernel
theorem dX3_raisePivot_21 : decode cX3_raisePivot 21 = .ok (.aload_n 0, 1) := by decide +kernel
theorem dX3_raisePivot_22 : decode cX3_raisePivot 22 = .ok (.getfield 11, 3) := by decide +kernel
theorem dX3_raisePivot_25 : decode cX3_raisePivot 25 = .ok (.iload_n 3, 1) := by decide +kernel
theorem dX3_raisePivot_26 : decode cX3_raisePivot 26 = .ok (.aaload, 1) := by decide +kernel
theorem dX3_raisePivot_27 : decode cX3_raisePivot 27 = .ok (.astore 4, 2) := by decide +kernel
theorem dX3_raisePivot_29 : decode cX3_raisePivot 29 = .ok (.aload_n 0, 1) := by decide +kernel
theorem dX3_raisePivot_30 : decode cX3_raisePivot 30 = .ok (.getfield 11, 3) := by decide +kernel
theorem dX3_raisePivot_33 : decode cX3_raisePivot 33 = .ok (.iload_n 3, 1) := by decide +kernel
theorem dX3_raisePivot_34 : decode cX3_raisePivot 34 = .ok (.aload_n 0, 1) := by decide +kernel
theorem dX3_raisePivot_35 : decode cX3_raisePivot 35 = .ok (.getfield 11, 3) := by decide +kernel
theorem dX3_raisePivot_38 : decode cX3_raisePivot 38 = .ok (.iload_n 1, 1) := by decide +kernel
theorem dX3_raisePivot_39 : decode cX3_raisePivot 39 = .ok (.aaload, 1) := by decide +kernel
theorem dX3_raisePivot_40 : decode cX3_raisePivot 40 = .ok (.aastore, 1) := by decide +kernel
theorem dX3_raisePivot_41 : decode cX3_raisePivot 41 = .ok (.aload_n 0, 1) := by decide +kernel
theorem dX3_raisePivot_42 : decode cX3_raisePivot 42 = .ok (.getfield 11, 3) := by decide +kernel
theorem dX3_raisePivot_45 : decode cX3_raisePivot 45 = .ok (.iload_n 1, 1) := by decide +kernel
theorem dX3_raisePivot_46 : decode cX3_raisePivot 46 = .ok (.aload 4, 2) := by decide +kernel
theorem dX3_raisePivot_48 : decode cX3_raisePivot 48 = .ok (.aastore, 1) := by decide +kernel
theorem dX3_raisePivot_49 : decode cX3_raisePivot 49 = .ok (.iconst 1, 1) := by decide +kernel
theorem dX3_raisePivot_50 : decode cX3_raisePivot 50 = .ok (.ireturn, 1) := by decide +kernel
theorem dX3_raisePivot_51 : decode cX3_raisePivot 51 = .ok (.iinc 3 1, 3) := by decide +kernel
theorem dX3_raisePivot_54 : decode cX3_raisePivot 54 = .ok (.goto (-52), 3) := by decide +kernel
theorem dX3_raisePivot_57 : decode cX3_raisePivot 57 = .ok (.iconst 0, 1) := by decide +kernel
theorem dX3_raisePivot_58 : decode cX3_raisePivot 58 = .ok (.ireturn, 1) := by decide +kernel
theorem dX3_clearBelow_0 : decode cX3_clearBelow 0 = .ok (.aload_n 0, 1) := by decide +kernel
theorem dX3_clearBelow_1 : decode cX3_clearBelow 1 = .ok (.getfield 11, 3) := by decide +kernel
theorem dX3_clearBelow_4 : decode cX3_clearBelow 4 = .ok (.iload_n 1, 1) := by decide +kernel
theorem dX3_clearBelow_5 : decode cX3_clearBelow 5 = .ok (.aaload, 1) := by decide +kernel
theorem dX3_clearBelow_6 : decode cX3_clearBelow 6 = .ok (.iload_n 2, 1) := by decide +kernel
theorem dX3_clearBelow_7 : decode cX3_clearBelow 7 = .ok (.laload, 1) := by decide +kernel
theorem dX3_clearBelow_8 : decode cX3_clearBelow 8 = .ok (.lstore_n 3, 1) := by decide +kernel
theorem dX3_clearBelow_9 : decode cX3_clearBelow 9 = .ok (.iload_n 1, 1) := by decide +kernel
theorem dX3_clearBelow_10 : decode cX3_clearBelow 10 = .ok (.iconst 1, 1) := by decide +kernel
theorem dX3_clearBelow_11 : decode cX3_clearBelow 11 = .ok (.iadd, 1) := by decide +kernel
theorem dX3_clearBelow_12 : decode cX3_clearBelow 12 = .ok (.istore 5, 2) := by decide +kernel
theorem dX3_clearBelow_14 : decode cX3_clearBelow 14 = .ok (.iload 5, 2) := by decide +kernel
theorem dX3_clearBelow_16 : decode cX3_clearBelow 16 = .ok (.bipush 10, 2) := by decide +kernel
theorem dX3_clearBelow_18 : decode cX3_clearBelow 18 = .ok (.if_icmp .ge 70, 3) := by decide +kernel
theorem dX3_clearBelow_21 : decode cX3_clearBelow 21 = .ok (.aload_n 0, 1) := by decide +kernel
theorem dX3_clearBelow_22 : decode cX3_clearBelow 22 = .ok (.getfield 11, 3) := by decide +kernel
theorem dX3_clearBelow_25 : decode cX3_clearBelow 25 = .ok (.iload 5, 2) := by decide +kernel
theorem dX3_clearBelow_27 : decode cX3_clearBelow 27 = .ok (.aaload, 1) := by decide +kernel
theorem dX3_clearBelow_28 : decode cX3_clearBelow 28 = .ok (.iload_n 2, 1) := by decide +kernel
theorem dX3_clearBelow_29 : decode cX3_clearBelow 29 = .ok (.laload, 1) := by decide +kernel
theorem dX3_clearBelow_30 : decode cX3_clearBelow 30 = .ok (.lstore 6, 2) := by decide +kernel
theorem dX3_clearBelow_32 : decode cX3_clearBelow 32 = .ok (.iconst 0, 1) := by decide +kernel
theorem dX3_clearBelow_33 : decode cX3_clearBelow 33 = .ok (.istore 8, 2) := by decide +kernel
theorem dX3_clearBelow_35 : decode cX3_clearBelow 35 = .ok (.iload 8, 2) := by decide +kernel
theorem dX3_clearBelow_37 : decode cX3_clearBelow 37 = .ok (.iconst 5, 1) := by decide +kernel
theorem dX3_clearBelow_38 : decode cX3_clearBelow 38 = .ok (.if_icmp .ge 44, 3) := by decide +kernel
theorem dX3_clearBelow_41 : decode cX3_clearBelow 41 = .ok (.aload_n 0, 1) := by decide +kernel
theorem dX3_clearBelow_42 : decode cX3_clearBelow 42 = .ok (.getfield 11, 3) := by decide +kernel
theorem dX3_clearBelow_45 : decode cX3_clearBelow 45 = .ok (.iload 5, 2) := by decide +kernel
theorem dX3_clearBelow_47 : decode cX3_clearBelow 47 = .ok (.aaload, 1) := by decide +kernel
theorem dX3_clearBelow_48 : decode cX3_clearBelow 48 = .ok (.iload 8, 2) := by decide +kernel
theorem dX3_clearBelow_50 : decode cX3_clearBelow 50 = .ok (.lload_n 3, 1) := by decide +kernel
theorem dX3_clearBelow_51 : decode cX3_clearBelow 51 = .ok (.aload_n 0, 1) := by decide +kernel
theorem dX3_clearBelow_52 : decode cX3_clearBelow 52 = .ok (.getfield 11, 3) := by decide +kernel
theorem dX3_clearBelow_55 : decode cX3_clearBelow 55 = .ok (.iload 5, 2) := by decide +kernel
theorem dX3_clearBelow_57 : decode cX3_clearBelow 57 = .ok (.aaload, 1) := by decide +kernel
theorem dX3_clearBelow_58 : decode cX3_clearBelow 58 = .ok (.iload 8, 2) := by decide +kernel
theorem dX3_clearBelow_60 : decode cX3_clearBelow 60 = .ok (.laload, 1) := by decide +kernel
theorem dX3_clearBelow_61 : decode cX3_clearBelow 61 = .ok (.lmul, 1) := by decide +kernel
theorem dX3_clearBelow_62 : decode cX3_clearBelow 62 = .ok (.lload 6, 2) := by decide +kernel
theorem dX3_clearBelow_64 : decode cX3_clearBelow 64 = .ok (.aload_n 0, 1) := by decide +kernel
theorem dX3_clearBelow_65 : decode cX3_clearBelow 65 = .ok (.getfield 11, 3) := by decide +kernel
theorem dX3_clearBelow_68 : decode cX3_clearBelow 68 = .ok (.iload_n 1, 1) := by decide +kernel
theorem dX3_clearBelow_69 : decode cX3_clearBelow 69 = .ok (.aaload, 1) := by decide +kernel
theorem dX3_clearBelow_70 : decode cX3_clearBelow 70 = .ok (.iload 8, 2) := by decide +kernel
theorem dX3_clearBelow_72 : decode cX3_clearBelow 72 = .ok (.laload, 1) := by decide +kernel
theorem dX3_clearBelow_73 : decode cX3_clearBelow 73 = .ok (.lmul, 1) := by decide +kernel
theorem dX3_clearBelow_74 : decode cX3_clearBelow 74 = .ok (.lsub, 1) := by decide +kernel
theorem dX3_clearBelow_75 : decode cX3_clearBelow 75 = .ok (.lastore, 1) := by decide +kernel
theorem dX3_clearBelow_76 : decode cX3_clearBelow 76 = .ok (.iinc 8 1, 3) := by decide +kernel
theorem dX3_clearBelow_79 : decode cX3_clearBelow 79 = .ok (.goto (-44), 3) := by decide +kernel
theorem dX3_clearBelow_82 : decode cX3_clearBelow 82 = .ok (.iinc 5 1, 3) := by decide +kernel
theorem dX3_clearBelow_85 : decode cX3_clearBelow 85 = .ok (.goto (-71), 3) := by decide +kernel
theorem dX3_clearBelow_88 : decode cX3_clearBelow 88 = .ok (.return_, 1) := by decide +kernel
set_option maxRecDepth 20000 in
theorem ggX4_init_X1_init : GoodIn wsX4_init wsX1_init := goodIn_r _ [29, 30, 2, 3, 31, 32, 33, 34, 35, 36, 37, 38, 39, 40, 41, 42, 43, 44, 45, 6, 46, 47, 48, 49, 50, 51, 52, 53, 54, 55, 8, 9, 10, 56, 57, 58, 59, 60, 61, 62, 63, 96, 97, 98, 99, 100, 101, 102, 103, 104] (by decide +kernel) (by decide +kernel)
set_option maxRecDepth 20000 in
theorem gX4_init_X1_init : GoodIn wsX4_init (wsX1_init) := ggX4_init_X1_init
set_option maxRecDepth 20000 in
theorem ggX4_init_X2_init : GoodIn wsX4_init wsX2_init := goodIn_r _ [66, 67, 2, 3, 68, 32, 69, 70, 71, 72, 36, 73, 74, 109, 110, 111, 112, 113, 114, 115] (by decide +kernel) (by decide +kernel)
set_option maxRecDepth 20000 in
theorem gX4_init_X2_init : GoodIn wsX4_init (wsX2_init) := ggX4_init_X2_init
set_option maxRecDepth 20000 in
theorem ggX4_init_X3_init : GoodIn wsX4_init wsX3_init := goodIn_r _ [77, 78, 2, 3, 79, 80, 81, 82, 83, 116, 117, 118] (by decide +kernel) (by decide +kernel)
set_option maxRecDepth 20000 in
theorem gX4_init_X3_init : GoodIn wsX4_init (wsX3_init) := ggX4_init_X3_init
set_option maxRecDepth 20000 in
theorem ggX4_init_X0_init : GoodIn wsX4_init wsX0_init := goodIn_r _ [86, 87, 2, 3, 88, 80, 89, 90, 91, 92, 93, 94, 95, 119, 120, 121, 122, 123, 124, 125] (by decide +kernel) (by decide +kernel)
set_option maxRecDepth 20000 in
theorem gX4_init_X0_init : GoodIn wsX4_init (wsX0_init) := ggX4_init_X0_init
theorem dX4_init_0 : decode cX4_init 0 = .ok (.aload_n 0, 1) := by decide +kernel
theorem dX4_init_1 : decode cX4_init 1 = .ok (.invokespecial 3, 3) := by decide +kernel
theorem dX4_init_4 : decode cX4_init 4 = .ok (.aload_n 0, 1) := by decide +kernel
theorem dX4_init_5 : decode cX4_init 5 = .ok (.new 9, 3) := by decide +kernel
theorem dX4_init_8 : decode cX4_init 8 = .ok (.dup, 1) := by decide +kernel
theorem dX4_init_9 : decode cX4_init 9 = .ok (.iconst 2, 1) := by decide +kernel
theorem dX4_init_10 : decode cX4_init 10 = .ok (.iload_n 1, 1) := by decide +kernel
theorem dX4_init_11 : decode cX4_init 11 = .ok (.iconst 5, 1) := by decide +kernel
theorem dX4_init_12 : decode cX4_init 12 = .ok (.invokestatic 11, 3) := by decide +kernel
theorem dX4_init_15 : decode cX4_init 15 = .ok (.invokestatic 17, 3) := by decide +kernel
theorem dX4_init_18 : decode cX4_init 18 = .ok (.invokespecial 20, 3) := by decide +kernel
theorem dX4_init_21 : decode cX4_init 21 = .ok (.putfield 23, 3) := by decide +kernel
theorem dX4_init_24 : decode cX4_init 24 = .ok (.aload_n 0, 1) := by decide +kernel
theorem dX4_init_25 : decode cX4_init 25 = .ok (.new 27, 3) := by decide +kernel
theorem dX4_init_28 : decode cX4_init 28 = .ok (.dup, 1) := by decide +kernel
theorem dX4_init_29 : decode cX4_init 29 = .ok (.aload_n 0, 1) := by decide +kernel
theorem dX4_init_30 : decode cX4_init 30 = .ok (.getfield 23, 3) := by decide +kernel
theorem dX4_init_33 : decode cX4_init 33 = .ok (.invokespecial 29, 3) := by decide +kernel
theorem dX4_init_36 : decode cX4_init 36 = .ok (.putfield 32, 3) := by decide +kernel
theorem dX4_init_39 : decode cX4_init 39 = .ok (.aload_n 0, 1) := by decide +kernel
theorem dX4_init_40 : decode cX4_init 40 = .ok (.new 36, 3) := by decide +kernel
theorem dX4_init_43 : decode cX4_init 43 = .ok (.dup, 1) := by decide +kernel
theorem dX4_init_44 : decode cX4_init 44 = .ok (.aload_n 0, 1) := by decide +kernel
theorem dX4_init_45 : decode cX4_init 45 = .ok (.getfield 23, 3) := by decide +kernel
theorem dX4_init_48 : decode cX4_init 48 = .ok (.aload_n 0, 1) := by decide +kernel
theorem dX4_init_49 : decode cX4_init 49 = .ok (.getfield 32, 3) := by decide +kernel
theorem dX4_init_52 : decode cX4_init 52 = .ok (.invokespecial 38, 3) := by decide +kernel
theorem dX4_init_55 : decode cX4_init 55 = .ok (.putfield 41, 3) := by decide +kernel
theorem dX4_init_58 : decode cX4_init 58 = .ok (.aload_n 0, 1) := by decide +kernel
theorem dX4_init_59 : decode cX4_init 59 = .ok (.new 45, 3) := by decide +kernel
theorem dX4_init_62 : decode cX4_init 62 = .ok (.dup, 1) := by decide +kernel
theorem dX4_init_63 : decode cX4_init 63 = .ok (.aload_n 0, 1) := by decide +kernel
theorem dX4_init_64 : decode cX4_init 64 = .ok (.getfield 23, 3) := by decide +kernel
theorem dX4_init_67 : decode cX4_init 67 = .ok (.aload_n 0, 1) := by decide +kernel
theorem dX4_init_68 : decode cX4_init 68 = .ok (.getfield 32, 3) := by decide +kernel
theorem dX4_init_71 : decode cX4_init 71 = .ok (.invokespecial 47, 3) := by decide +kernel
theorem dX4_init_74 : decode cX4_init 74 = .ok (.putfield 48, 3) := by decide +kernel
theorem dX4_init_77 : decode cX4_init 77 = .ok (.return_, 1) := by decide +kernel
set_option maxRecDepth 20000 in
theorem ggX4_addLine_X4_requireBus : GoodIn wsX4_addLine wsX4_requireBus := goodIn_ca (goodIn_r _ [10, 11, 12, 5, 13, 14, 15, 16, 17, 18, 63, 64, 65, 66, 67, 68, 69, 70, 71, 72, 73, 74, 75] (by decide +kernel) (by decide +kernel)) (goodIn_sub (fun _ h => List.mem_cons_of_mem _ (List.mem_append_right _ h)) (by decide +kernel))
set_option maxRecDepth 20000 in
theorem gX4_addLine_X4_requireBus : GoodIn wsX4_addLine (wsV RX4 52 RX4 yX4_requireBus wsX4_requireBus) := goodIn_app (goodIn_of _ (by decide +kernel)) ggX4_addLine_X4_requireBus
set_option maxRecDepth 20000 in
theorem ggX4_addLine_X1_isFull : GoodIn wsX4_addLine wsX1_isFull := goodIn_r _ [22, 23, 67, 68, 69, 70, 71, 72, 73, 74, 75] (by decide +kernel) (by decide +kernel)
set_option maxRecDepth 20000 in
theorem gX4_addLine_X1_isFull : GoodIn wsX4_addLine (wsV RX4 64 RX1 yX1_isFull wsX1_isFull) := goodIn_app (goodIn_of _ (by decide +kernel)) ggX4_addLine_X1_isFull
set_option maxRecDepth 20000 in
theorem ggX4_addLine_X1_hasLineBetween : GoodIn wsX4_addLine wsX1_hasLineBetween := goodIn_r _ [27, 23, 28, 29, 67, 68, 69, 70, 71, 72, 73, 74, 75] (by decide +kernel) (by decide +kernel)
set_option maxRecDepth 20000 in
theorem gX4_addLine_X1_hasLineBetween : GoodIn wsX4_addLine (wsV RX4 73 RX1 yX1_hasLineBetween wsX1_hasLineBetween) := goodIn_app (goodIn_of _ (by decide +kernel)) ggX4_addLine_X1_hasLineBetween
set_option maxRecDepth 20000 in
theorem ggX4_addLine_X1_append : GoodIn wsX4_addLine wsX1_append := goodIn_r _ [33, 23, 28, 29, 34, 35, 36, 37, 38, 16, 39, 40, 41, 42, 43, 44, 45, 46, 47, 48, 49, 50, 51, 52, 53, 54, 55, 56, 57, 58, 59, 60, 61, 62, 67, 68, 69, 70, 71, 72, 73, 74, 75] (by decide +kernel) (by decide +kernel)
set_option maxRecDepth 20000 in
theorem gX4_addLine_X1_append : GoodIn wsX4_addLine (wsV RX4 79 RX1 yX1_append wsX1_append) := goodIn_app (goodIn_of _ (by decide +kernel)) ggX4_addLine_X1_append
theorem dX4_addLine_0 : decode cX4_addLine 0 = .ok (.aload_n 0, 1) := by decide +kernel
theorem dX4_addLine_1 : decode cX4_addLine 1 = .ok (.iload_n 1, 1) := by decide +kernel
theorem dX4_addLine_2 : decode cX4_addLine 2 = .ok (.invokevirtual 52, 3) := by decide +kernel
theorem dX4_addLine_5 : decode cX4_addLine 5 = .ok (.aload_n 0, 1) := by decide +kernel
theorem dX4_addLine_6 : decode cX4_addLine 6 = .ok (.iload_n 2, 1) := by decide +kernel
theorem dX4_addLine_7 : decode cX4_addLine 7 = .ok (.invokevirtual 52, 3) := by decide +kernel
theorem dX4_addLine_10 : decode cX4_addLine 10 = .ok (.iload_n 1, 1) := by decide +kernel
theorem dX4_addLine_11 : decode cX4_addLine 11 = .ok (.iload_n 2, 1) := by decide +kernel
theorem dX4_addLine_12 : decode cX4_addLine 12 = .ok (.if_icmp .ne 13, 3) := by decide +kernel
theorem dX4_addLine_15 : decode cX4_addLine 15 = .ok (.new 55, 3) := by decide +kernel
theorem dX4_addLine_18 : decode cX4_addLine 18 = .ok (.dup, 1) := by decide +kernel
theorem dX4_addLine_19 : decode cX4_addLine 19 = .ok (.ldc 57, 2) := by decide +kernel
theorem dX4_addLine_21 : decode cX4_addLine 21 = .ok (.invokespecial 59, 3) := by decide +kernel
theorem dX4_addLine_24 : decode cX4_addLine 24 = .ok (.athrow, 1) := by decide +kernel
theorem dX4_addLine_25 : decode cX4_addLine 25 = .ok (.iload_n 3, 1) := by decide +kernel
theorem dX4_addLine_26 : decode cX4_addLine 26 = .ok (.iconst 1, 1) := by decide +kernel
theorem dX4_addLine_27 : decode cX4_addLine 27 = .ok (.if_icmp .lt 8, 3) := by decide +kernel
theorem dX4_addLine_30 : decode cX4_addLine 30 = .ok (.iload_n 3, 1) := by decide +kernel
theorem dX4_addLine_31 : decode cX4_addLine 31 = .ok (.iconst 2, 1) := by decide +kernel
theorem dX4_addLine_32 : decode cX4_addLine 32 = .ok (.if_icmp .le 13, 3) := by decide +kernel
theorem dX4_addLine_35 : decode cX4_addLine 35 = .ok (.new 55, 3) := by decide +kernel
theorem dX4_addLine_38 : decode cX4_addLine 38 = .ok (.dup, 1) := by decide +kernel
theorem dX4_addLine_39 : decode cX4_addLine 39 = .ok (.ldc 62, 2) := by decide +kernel
theorem dX4_addLine_41 : decode cX4_addLine 41 = .ok (.invokespecial 59, 3) := by decide +kernel
theorem dX4_addLine_44 : decode cX4_addLine 44 = .ok (.athrow, 1) := by decide +kernel
theorem dX4_addLine_45 : decode cX4_addLine 45 = .ok (.aload_n 0, 1) := by decide +kernel
theorem dX4_addLine_46 : decode cX4_addLine 46 = .ok (.getfield 23, 3) := by decide +kernel
theorem dX4_addLine_49 : decode cX4_addLine 49 = .ok (.invokevirtual 64, 3) := by decide +kernel
theorem dX4_addLine_52 : decode cX4_addLine 52 = .ok (.ifCond .eq 13, 3) := by decide +kernel
theorem dX4_addLine_55 : decode cX4_addLine 55 = .ok (.new 68, 3) := by decide +kernel
theorem dX4_addLine_58 : decode cX4_addLine 58 = .ok (.dup, 1) := by decide +kernel
theorem dX4_addLine_59 : decode cX4_addLine 59 = .ok (.ldc 70, 2) := by decide +kernel
theorem dX4_addLine_61 : decode cX4_addLine 61 = .ok (.invokespecial 72, 3) := by decide +kernel
theorem dX4_addLine_64 : decode cX4_addLine 64 = .ok (.athrow, 1) := by decide +kernel
theorem dX4_addLine_65 : decode cX4_addLine 65 = .ok (.aload_n 0, 1) := by decide +kernel
theorem dX4_addLine_66 : decode cX4_addLine 66 = .ok (.getfield 23, 3) := by decide +kernel
theorem dX4_addLine_69 : decode cX4_addLine 69 = .ok (.iload_n 1, 1) := by decide +kernel
theorem dX4_addLine_70 : decode cX4_addLine 70 = .ok (.iload_n 2, 1) := by decide +kernel
theorem dX4_addLine_71 : decode cX4_addLine 71 = .ok (.invokevirtual 73, 3) := by decide +kernel
theorem dX4_addLine_74 : decode cX4_addLine 74 = .ok (.ifCond .eq 13, 3) := by decide +kernel
theorem dX4_addLine_77 : decode cX4_addLine 77 = .ok (.new 68, 3) := by decide +kernel
theorem dX4_addLine_80 : decode cX4_addLine 80 = .ok (.dup, 1) := by decide +kernel
theorem dX4_addLine_81 : decode cX4_addLine 81 = .ok (.ldc 77, 2) := by decide +kernel
theorem dX4_addLine_83 : decode cX4_addLine 83 = .ok (.invokespecial 72, 3) := by decide +kernel
theorem dX4_addLine_86 : decode cX4_addLine 86 = .ok (.athrow, 1) := by decide +kernel
theorem dX4_addLine_87 : decode cX4_addLine 87 = .ok (.aload_n 0, 1) := by decide +kernel
theorem dX4_addLine_88 : decode cX4_addLine 88 = .ok (.getfield 23, 3) := by decide +kernel
theorem dX4_addLine_91 : decode cX4_addLine 91 = .ok (.iload_n 1, 1) := by decide +kernel
theorem dX4_addLine_92 : decode cX4_addLine 92 = .ok (.iload_n 2, 1) := by decide +kernel
theorem dX4_addLine_93 : decode cX4_addLine 93 = .ok (.iload_n 3, 1) := by decide +kernel
theorem dX4_addLine_94 : decode cX4_addLine 94 = .ok (.invokevirtual 79, 3) := by decide +kernel
theorem dX4_addLine_97 : decode cX4_addLine 97 = .ok (.ireturn, 1) := by decide +kernel
set_option maxRecDepth 20000 in
theorem ggX4_setBreaker_X1_hasLine : GoodIn wsX4_setBreaker wsX1_hasLine := goodIn_r _ [8, 9, 49, 50, 51, 52, 53, 54, 55, 56, 57] (by decide +kernel) (by decide +kernel)
set_option maxRecDepth 20000 in
theorem gX4_setBreaker_X1_hasLine : GoodIn wsX4_setBreaker (wsV RX4 83 RX1 yX1_hasLine wsX1_hasLine) := goodIn_app (goodIn_of _ (by decide +kernel)) ggX4_setBreaker_X1_hasLine
set_option maxRecDepth 20000 in
theorem ggX4_setBreaker_X1_switchTo : GoodIn wsX4_setBreaker wsX1_switchTo := goodIn_r _ [13, 14, 15, 16, 17, 7, 18, 19, 20, 21, 22, 23, 9, 24, 25, 26, 27, 28, 29, 30, 31, 32, 33, 34, 35, 36, 37, 38, 39, 40, 41, 42, 43, 44, 49, 50, 51, 52, 53, 54, 55, 56, 57] (by decide +kernel) (by decide +kernel)
set_option maxRecDepth 20000 in
theorem gX4_setBreaker_X1_switchTo : GoodIn wsX4_setBreaker (wsV RX4 92 RX1 yX1_switchTo wsX1_switchTo) := goodIn_app (goodIn_of _ (by decide +kernel)) ggX4_setBreaker_X1_switchTo
theorem dX4_setBreaker_0 : decode cX4_setBreaker 0 = .ok (.aload_n 0, 1) := by decide +kernel
theorem dX4_setBreaker_1 : decode cX4_setBreaker 1 = .ok (.getfield 23, 3) := by decide +kernel
theorem dX4_setBreaker_4 : decode cX4_setBreaker 4 = .ok (.iload_n 1, 1) := by decide +kernel
theorem dX4_setBreaker_5 : decode cX4_setBreaker 5 = .ok (.invokevirtual 83, 3) := by decide +kernel
theorem dX4_setBreaker_8 : decode cX4_setBreaker 8 = .ok (.ifCond .ne 13, 3) := by decide +kernel
theorem dX4_setBreaker_11 : decode cX4_setBreaker 11 = .ok (.new 87, 3) := by decide +kernel
theorem dX4_setBreaker_14 : decode cX4_setBreaker 14 = .ok (.dup, 1) := by decide +kernel
theorem dX4_setBreaker_15 : decode cX4_setBreaker 15 = .ok (.ldc 89, 2) := by decide +kernel
theorem dX4_setBreaker_17 : decode cX4_setBreaker 17 = .ok (.invokespecial 91, 3) := by decide +kernel
theorem dX4_setBreaker_20 : decode cX4_setBreaker 20 = .ok (.athrow, 1) := by decide +kernel
theorem dX4_setBreaker_21 : decode cX4_setBreaker 21 = .ok (.aload_n 0, 1) := by decide +kernel
theorem dX4_setBreaker_22 : decode cX4_setBreaker 22 = .ok (.getfield 23, 3) := by decide +kernel
theorem dX4_setBreaker_25 : decode cX4_setBreaker 25 = .ok (.iload_n 1, 1) := by decide +kernel
theorem dX4_setBreaker_26 : decode cX4_setBreaker 26 = .ok (.iload_n 2, 1) := by decide +kernel
theorem dX4_setBreaker_27 : decode cX4_setBreaker 27 = .ok (.invokevirtual 92, 3) := by decide +kernel
theorem dX4_setBreaker_30 : decode cX4_setBreaker 30 = .ok (.ireturn, 1) := by decide +kernel
theorem dX4_islands_0 : decode cX4_islands 0 = .ok (.iconst 0, 1) := by decide +kernel
theorem dX4_islands_1 : decode cX4_islands 1 = .ok (.istore_n 1, 1) := by decide +kernel
theorem dX4_islands_2 : decode cX4_islands 2 = .ok (.iconst 0, 1) := by decide +kernel
theorem dX4_islands_3 : decode cX4_islands 3 = .ok (.istore_n 2, 1) := by decide +kernel
theorem dX4_islands_4 : decode cX4_islands 4 = .ok (.iload_n 2, 1) := by decide +kernel
theorem dX4_islands_5 : decode cX4_islands 5 = .ok (.aload_n 0, 1) := by decide +kernel
theorem dX4_islands_6 : decode cX4_islands 6 = .ok (.getfield 23, 3) := by decide +kernel
theorem dX4_islands_9 : decode cX4_islands 9 = .ok (.getfield 96, 3) := by decide +kernel
theorem dX4_islands_12 : decode cX4_islands 12 = .ok (.if_icmp .ge 25, 3) := by decide +kernel
theorem dX4_islands_15 : decode cX4_islands 15 = .ok (.aload_n 0, 1) := by decide +kernel
theorem dX4_islands_16 : decode cX4_islands 16 = .ok (.getfield 23, 3) := by decide +kernel
theorem dX4_islands_19 : decode cX4_islands 19 = .ok (.getfield 100, 3) := by decide +kernel
theorem dX4_islands_22 : decode cX4_islands 22 = .ok (.iload_n 2, 1) := by decide +kernel
theorem dX4_islands_23 : decode cX4_islands 23 = .ok (.iaload, 1) := by decide +kernel
theorem dX4_islands_24 : decode cX4_islands 24 = .ok (.iload_n 2, 1) := by decide +kernel
theorem dX4_islands_25 : decode cX4_islands 25 = .ok (.if_icmp .ne 6, 3) := by decide +kernel
theorem dX4_islands_28 : decode cX4_islands 28 = .ok (.iinc 1 1, 3) := by decide +kernel
theorem dX4_islands_31 : decode cX4_islands 31 = .ok (.iinc 2 1, 3) := by decide +kernel
theorem dX4_islands_34 : decode cX4_islands 34 = .ok (.goto (-30), 3) := by decide +kernel
theorem dX4_islands_37 : decode cX4_islands 37 = .ok (.iload_n 1, 1) := by decide +kernel
theorem dX4_islands_38 : decode cX4_islands 38 = .ok (.ireturn, 1) := by decide +kernel
set_option maxRecDepth 20000 in
theorem ggX4_reference_X4_requireBus : GoodIn wsX4_reference wsX4_requireBus := goodIn_ca (goodIn_r _ [6, 7, 8, 1, 9, 10, 11, 12, 13, 14, 15, 16, 17, 18, 19, 20, 21, 22, 23, 24, 25, 26, 27] (by decide +kernel) (by decide +kernel)) (goodIn_sub (fun _ h => List.mem_cons_of_mem _ (List.mem_append_right _ h)) (by decide +kernel))
set_option maxRecDepth 20000 in
theorem gX4_reference_X4_requireBus : GoodIn wsX4_reference (wsV RX4 52 RX4 yX4_requireBus wsX4_requireBus) := goodIn_app (goodIn_of _ (by decide +kernel)) ggX4_reference_X4_requireBus
theorem dX4_reference_0 : decode cX4_reference 0 = .ok (.aload_n 0, 1) := by decide +kernel
theorem dX4_reference_1 : decode cX4_reference 1 = .ok (.iload_n 1, 1) := by decide +kernel
theorem dX4_reference_2 : decode cX4_reference 2 = .ok (.invokevirtual 52, 3) := by decide +kernel
theorem dX4_reference_5 : decode cX4_reference 5 = .ok (.aload_n 0, 1) := by decide +kernel
theorem dX4_reference_6 : decode cX4_reference 6 = .ok (.getfield 23, 3) := by decide +kernel
theorem dX4_reference_9 : decode cX4_reference 9 = .ok (.getfield 100, 3) := by decide +kernel
theorem dX4_reference_12 : decode cX4_reference 12 = .ok (.iload_n 1, 1) := by decide +kernel
theorem dX4_reference_13 : decode cX4_reference 13 = .ok (.iaload, 1) := by decide +kernel
theorem dX4_reference_14 : decode cX4_reference 14 = .ok (.ireturn, 1) := by decide +kernel
set_option maxRecDepth 20000 in
theorem ggX4_addMeter_X4_requireReading : GoodIn wsX4_addMeter wsX4_requireReading := goodIn_ca (goodIn_r _ [13, 1, 2] (by decide +kernel) (by decide +kernel)) (goodIn_sub (fun _ h => List.mem_cons_of_mem _ (List.mem_append_left _ (List.mem_append_left _ (List.mem_append_right _ h)))) (by decide +kernel))
set_option maxRecDepth 20000 in
theorem gX4_addMeter_X4_requireReading : GoodIn wsX4_addMeter (wsV RX4 106 RX4 yX4_requireReading wsX4_requireReading) := goodIn_app (goodIn_of _ (by decide +kernel)) ggX4_addMeter_X4_requireReading
set_option maxRecDepth 20000 in
theorem ggX4_addMeter_X1_hasLine : GoodIn wsX4_addMeter wsX1_hasLine := goodIn_r _ [18, 19, 44, 45, 46, 47, 48, 49, 50, 51, 52] (by decide +kernel) (by decide +kernel)
set_option maxRecDepth 20000 in
theorem gX4_addMeter_X1_hasLine : GoodIn wsX4_addMeter (wsV RX4 83 RX1 yX1_hasLine wsX1_hasLine) := goodIn_app (goodIn_of _ (by decide +kernel)) ggX4_addMeter_X1_hasLine
set_option maxRecDepth 20000 in
theorem ggX4_addMeter_X1_hasBus : GoodIn wsX4_addMeter wsX1_hasBus := goodIn_r _ [23, 24, 44, 45, 46, 47, 48, 49, 50, 51, 52] (by decide +kernel) (by decide +kernel)
set_option maxRecDepth 20000 in
theorem gX4_addMeter_X1_hasBus : GoodIn wsX4_addMeter (wsV RX4 111 RX1 yX1_hasBus wsX1_hasBus) := goodIn_app (goodIn_of _ (by decide +kernel)) ggX4_addMeter_X1_hasBus
set_option maxRecDepth 20000 in
theorem ggX4_addMeter_X2_isFull : GoodIn wsX4_addMeter wsX2_isFull := goodIn_r _ [29, 30, 53, 54, 55, 56, 57, 58, 59] (by decide +kernel) (by decide +kernel)
set_option maxRecDepth 20000 in
theorem gX4_addMeter_X2_isFull : GoodIn wsX4_addMeter (wsV RX4 116 RX2 yX2_isFull wsX2_isFull) := goodIn_app (goodIn_of _ (by decide +kernel)) ggX4_addMeter_X2_isFull
set_option maxRecDepth 20000 in
theorem ggX4_addMeter_X2_append : GoodIn wsX4_addMeter wsX2_append := goodIn_r _ [34, 30, 35, 36, 37, 38, 39, 53, 54, 55, 56, 57, 58, 59] (by decide +kernel) (by decide +kernel)
set_option maxRecDepth 20000 in
theorem gX4_addMeter_X2_append : GoodIn wsX4_addMeter (wsV RX4 119 RX2 yX2_append wsX2_append) := goodIn_app (goodIn_of _ (by decide +kernel)) ggX4_addMeter_X2_append
theorem dX4_addMeter_0 : decode cX4_addMeter 0 = .ok (.iload_n 1, 1) := by decide +kernel
theorem dX4_addMeter_1 : decode cX4_addMeter 1 = .ok (.ifCond .eq 18, 3) := by decide +kernel
theorem dX4_addMeter_4 : decode cX4_addMeter 4 = .ok (.iload_n 1, 1) := by decide +kernel
theorem dX4_addMeter_5 : decode cX4_addMeter 5 = .ok (.iconst 1, 1) := by decide +kernel
theorem dX4_addMeter_6 : decode cX4_addMeter 6 = .ok (.if_icmp .eq 13, 3) := by decide +kernel
theorem dX4_addMeter_9 : decode cX4_addMeter 9 = .ok (.new 55, 3) := by decide +kernel
theorem dX4_addMeter_12 : decode cX4_addMeter 12 = .ok (.dup, 1) := by decide +kernel
theorem dX4_addMeter_13 : decode cX4_addMeter 13 = .ok (.ldc 104, 2) := by decide +kernel
theorem dX4_addMeter_15 : decode cX4_addMeter 15 = .ok (.invokespecial 59, 3) := by decide +kernel
theorem dX4_addMeter_18 : decode cX4_addMeter 18 = .ok (.athrow, 1) := by decide +kernel
theorem dX4_addMeter_19 : decode cX4_addMeter 19 = .ok (.aload_n 0, 1) := by decide +kernel
theorem dX4_addMeter_20 : decode cX4_addMeter 20 = .ok (.iload_n 3, 1) := by decide +kernel
theorem dX4_addMeter_21 : decode cX4_addMeter 21 = .ok (.invokevirtual 106, 3) := by decide +kernel
theorem dX4_addMeter_24 : decode cX4_addMeter 24 = .ok (.iload 4, 2) := by decide +kernel
theorem dX4_addMeter_26 : decode cX4_addMeter 26 = .ok (.iconst 1, 1) := by decide +kernel
theorem dX4_addMeter_27 : decode cX4_addMeter 27 = .ok (.if_icmp .lt 9, 3) := by decide +kernel
theorem dX4_addMeter_30 : decode cX4_addMeter 30 = .ok (.iload 4, 2) := by decide +kernel
theorem dX4_addMeter_32 : decode cX4_addMeter 32 = .ok (.iconst 2, 1) := by decide +kernel
theorem dX4_addMeter_33 : decode cX4_addMeter 33 = .ok (.if_icmp .le 13, 3) := by decide +kernel
theorem dX4_addMeter_36 : decode cX4_addMeter 36 = .ok (.new 55, 3) := by decide +kernel
theorem dX4_addMeter_39 : decode cX4_addMeter 39 = .ok (.dup, 1) := by decide +kernel
theorem dX4_addMeter_40 : decode cX4_addMeter 40 = .ok (.ldc 109, 2) := by decide +kernel
theorem dX4_addMeter_42 : decode cX4_addMeter 42 = .ok (.invokespecial 59, 3) := by decide +kernel
theorem dX4_addMeter_45 : decode cX4_addMeter 45 = .ok (.athrow, 1) := by decide +kernel
theorem dX4_addMeter_46 : decode cX4_addMeter 46 = .ok (.iload_n 1, 1) := by decide +kernel
theorem dX4_addMeter_47 : decode cX4_addMeter 47 = .ok (.ifCond .ne 17, 3) := by decide +kernel
theorem dX4_addMeter_50 : decode cX4_addMeter 50 = .ok (.aload_n 0, 1) := by decide +kernel
theorem dX4_addMeter_51 : decode cX4_addMeter 51 = .ok (.getfield 23, 3) := by decide +kernel
theorem dX4_addMeter_54 : decode cX4_addMeter 54 = .ok (.iload_n 2, 1) := by decide +kernel
theorem dX4_addMeter_55 : decode cX4_addMeter 55 = .ok (.invokevirtual 83, 3) := by decide +kernel
theorem dX4_addMeter_58 : decode cX4_addMeter 58 = .ok (.ifCond .ne 27, 3) := by decide +kernel
theorem dX4_addMeter_61 : decode cX4_addMeter 61 = .ok (.goto 14, 3) := by decide +kernel
theorem dX4_addMeter_64 : decode cX4_addMeter 64 = .ok (.aload_n 0, 1) := by decide +kernel
theorem dX4_addMeter_65 : decode cX4_addMeter 65 = .ok (.getfield 23, 3) := by decide +kernel
theorem dX4_addMeter_68 : decode cX4_addMeter 68 = .ok (.iload_n 2, 1) := by decide +kernel
theorem dX4_addMeter_69 : decode cX4_addMeter 69 = .ok (.invokevirtual 111, 3) := by decide +kernel
theorem dX4_addMeter_72 : decode cX4_addMeter 72 = .ok (.ifCond .ne 13, 3) := by decide +kernel
theorem dX4_addMeter_75 : decode cX4_addMeter 75 = .ok (.new 87, 3) := by decide +kernel
theorem dX4_addMeter_78 : decode cX4_addMeter 78 = .ok (.dup, 1) := by decide +kernel
theorem dX4_addMeter_79 : decode cX4_addMeter 79 = .ok (.ldc 114, 2) := by decide +kernel
theorem dX4_addMeter_81 : decode cX4_addMeter 81 = .ok (.invokespecial 91, 3) := by decide +kernel
theorem dX4_addMeter_84 : decode cX4_addMeter 84 = .ok (.athrow, 1) := by decide +kernel
theorem dX4_addMeter_85 : decode cX4_addMeter 85 = .ok (.aload_n 0, 1) := by decide +kernel
theorem dX4_addMeter_86 : decode cX4_addMeter 86 = .ok (.getfield 32, 3) := by decide +kernel
theorem dX4_addMeter_89 : decode cX4_addMeter 89 = .ok (.invokevirtual 116, 3) := by decide +kernel
theorem dX4_addMeter_92 : decode cX4_addMeter 92 = .ok (.ifCond .eq 13, 3) := by decide +kernel
theorem dX4_addMeter_95 : decode cX4_addMeter 95 = .ok (.new 68, 3) := by decide +kernel
theorem dX4_addMeter_98 : decode cX4_addMeter 98 = .ok (.dup, 1) := by decide +kernel
theorem dX4_addMeter_99 : decode cX4_addMeter 99 = .ok (.ldc 117, 2) := by decide +kernel
theorem dX4_addMeter_101 : decode cX4_addMeter 101 = .ok (.invokespecial 72, 3) := by decide +kernel
theorem dX4_addMeter_104 : decode cX4_addMeter 104 = .ok (.athrow, 1) := by decide +kernel
theorem dX4_addMeter_105 : decode cX4_addMeter 105 = .ok (.aload_n 0, 1) := by decide +kernel
theorem dX4_addMeter_106 : decode cX4_addMeter 106 = .ok (.getfield 32, 3) := by decide +kernel
theorem dX4_addMeter_109 : decode cX4_addMeter 109 = .ok (.iload_n 1, 1) := by decide +kernel
theorem dX4_addMeter_110 : decode cX4_addMeter 110 = .ok (.iload_n 2, 1) := by decide +kernel
theorem dX4_addMeter_111 : decode cX4_addMeter 111 = .ok (.iload_n 3, 1) := by decide +kernel
theorem dX4_addMeter_112 : decode cX4_addMeter 112 = .ok (.iload 4, 2) := by decide +kernel
theorem dX4_addMeter_114 : decode cX4_addMeter 114 = .ok (.invokevirtual 119, 3) := by decide +kernel
theorem dX4_addMeter_117 : decode cX4_addMeter 117 = .ok (.ireturn, 1) := by decide +kernel
set_option maxRecDepth 20000 in
theorem ggX4_read_X4_requireMeter : GoodIn wsX4_read wsX4_requireMeter := goodIn_ca (goodIn_r _ [6, 7, 8, 1, 9, 10, 11, 12, 13, 14, 21, 22, 23, 24, 25, 26, 27, 28, 29, 30, 31] (by decide +kernel) (by decide +kernel)) (goodIn_sub (fun _ h => List.mem_cons_of_mem _ (List.mem_append_left _ (List.mem_append_right _ h))) (by decide +kernel))
set_option maxRecDepth 20000 in
theorem gX4_read_X4_requireMeter : GoodIn wsX4_read (wsV RX4 122 RX4 yX4_requireMeter wsX4_requireMeter) := goodIn_app (goodIn_of _ (by decide +kernel)) ggX4_read_X4_requireMeter
set_option maxRecDepth 20000 in
theorem ggX4_read_X4_requireReading : GoodIn wsX4_read wsX4_requireReading := goodIn_ca (goodIn_r _ [18, 19, 20] (by decide +kernel) (by decide +kernel)) (goodIn_sub (fun _ h => List.mem_cons_of_mem _ (List.mem_append_right _ h)) (by decide +kernel))
set_option maxRecDepth 20000 in
theorem gX4_read_X4_requireReading : GoodIn wsX4_read (wsV RX4 106 RX4 yX4_requireReading wsX4_requireReading) := goodIn_app (goodIn_of _ (by decide +kernel)) ggX4_read_X4_requireReading
theorem dX4_read_0 : decode cX4_read 0 = .ok (.aload_n 0, 1) := by decide +kernel
theorem dX4_read_1 : decode cX4_read 1 = .ok (.iload_n 1, 1) := by decide +kernel
theorem dX4_read_2 : decode cX4_read 2 = .ok (.invokevirtual 122, 3) := by decide +kernel
theorem dX4_read_5 : decode cX4_read 5 = .ok (.aload_n 0, 1) := by decide +kernel
theorem dX4_read_6 : decode cX4_read 6 = .ok (.iload_n 2, 1) := by decide +kernel
theorem dX4_read_7 : decode cX4_read 7 = .ok (.invokevirtual 106, 3) := by decide +kernel
theorem dX4_read_10 : decode cX4_read 10 = .ok (.aload_n 0, 1) := by decide +kernel
theorem dX4_read_11 : decode cX4_read 11 = .ok (.getfield 32, 3) := by decide +kernel
theorem dX4_read_14 : decode cX4_read 14 = .ok (.getfield 125, 3) := by decide +kernel
theorem dX4_read_17 : decode cX4_read 17 = .ok (.iload_n 1, 1) := by decide +kernel
theorem dX4_read_18 : decode cX4_read 18 = .ok (.iaload, 1) := by decide +kernel
theorem dX4_read_19 : decode cX4_read 19 = .ok (.istore_n 3, 1) := by decide +kernel
theorem dX4_read_20 : decode cX4_read 20 = .ok (.aload_n 0, 1) := by decide +kernel
theorem dX4_read_21 : decode cX4_read 21 = .ok (.getfield 32, 3) := by decide +kernel
theorem dX4_read_24 : decode cX4_read 24 = .ok (.getfield 125, 3) := by decide +kernel
theorem dX4_read_27 : decode cX4_read 27 = .ok (.iload_n 1, 1) := by decide +kernel
theorem dX4_read_28 : decode cX4_read 28 = .ok (.iload_n 2, 1) := by decide +kernel
theorem dX4_read_29 : decode cX4_read 29 = .ok (.iastore, 1) := by decide +kernel
theorem dX4_read_30 : decode cX4_read 30 = .ok (.iload_n 3, 1) := by decide +kernel
theorem dX4_read_31 : decode cX4_read 31 = .ok (.ireturn, 1) := by decide +kernel
set_option maxRecDepth 20000 in
theorem ggX4_use_X4_requireMeter : GoodIn wsX4_use wsX4_requireMeter := goodIn_ca (goodIn_r _ [6, 7, 8, 1, 9, 10, 11, 12, 13, 14, 15, 16, 17, 18, 19, 20, 21, 22, 23, 24, 25] (by decide +kernel) (by decide +kernel)) (goodIn_sub (fun _ h => List.mem_cons_of_mem _ (List.mem_append_right _ h)) (by decide +kernel))
set_option maxRecDepth 20000 in
theorem gX4_use_X4_requireMeter : GoodIn wsX4_use (wsV RX4 122 RX4 yX4_requireMeter wsX4_requireMeter) := goodIn_app (goodIn_of _ (by decide +kernel)) ggX4_use_X4_requireMeter
theorem dX4_use_0 : decode cX4_use 0 = .ok (.aload_n 0, 1) := by decide +kernel
theorem dX4_use_1 : decode cX4_use 1 = .ok (.iload_n 1, 1) := by decide +kernel
theorem dX4_use_2 : decode cX4_use 2 = .ok (.invokevirtual 122, 3) := by decide +kernel
theorem dX4_use_5 : decode cX4_use 5 = .ok (.aload_n 0, 1) := by decide +kernel
theorem dX4_use_6 : decode cX4_use 6 = .ok (.getfield 32, 3) := by decide +kernel
theorem dX4_use_9 : decode cX4_use 9 = .ok (.getfield 128, 3) := by decide +kernel
theorem dX4_use_12 : decode cX4_use 12 = .ok (.iload_n 1, 1) := by decide +kernel
theorem dX4_use_13 : decode cX4_use 13 = .ok (.baload, 1) := by decide +kernel
theorem dX4_use_14 : decode cX4_use 14 = .ok (.istore_n 3, 1) := by decide +kernel
theorem dX4_use_15 : decode cX4_use 15 = .ok (.aload_n 0, 1) := by decide +kernel
theorem dX4_use_16 : decode cX4_use 16 = .ok (.getfield 32, 3) := by decide +kernel
theorem dX4_use_19 : decode cX4_use 19 = .ok (.getfield 128, 3) := by decide +kernel
theorem dX4_use_22 : decode cX4_use 22 = .ok (.iload_n 1, 1) := by decide +kernel
theorem dX4_use_23 : decode cX4_use 23 = .ok (.iload_n 2, 1) := by decide +kernel
theorem dX4_use_24 : decode cX4_use 24 = .ok (.bastore, 1) := by decide +kernel
theorem dX4_use_25 : decode cX4_use 25 = .ok (.iload_n 3, 1) := by decide +kernel
theorem dX4_use_26 : decode cX4_use 26 = .ok (.ireturn, 1) := by decide +kernel
set_option maxRecDepth 20000 in
theorem ggX4_countsIn_X4_requireMeter : GoodIn wsX4_countsIn wsX4_requireMeter := goodIn_ca (goodIn_r _ [6, 7, 8, 1, 9, 10, 11, 12, 13, 14, 27, 28, 29, 30, 31, 32, 33, 34, 35, 36, 37] (by decide +kernel) (by decide +kernel)) (goodIn_sub (fun _ h => List.mem_cons_of_mem _ (List.mem_append_right _ h)) (by decide +kernel))
set_option maxRecDepth 20000 in
theorem gX4_countsIn_X4_requireMeter : GoodIn wsX4_countsIn (wsV RX4 122 RX4 yX4_requireMeter wsX4_requireMeter) := goodIn_app (goodIn_of _ (by decide +kernel)) ggX4_countsIn_X4_requireMeter
set_option maxRecDepth 20000 in
theorem ggX4_countsIn_X2_islandOf : GoodIn wsX4_countsIn wsX2_islandOf := goodIn_r _ [18, 19, 20, 21, 22, 12, 23, 24, 25, 26, 31, 32, 33, 34, 35, 36, 37, 38, 39, 40, 41, 42, 43, 44, 45, 46] (by decide +kernel) (by decide +kernel)
set_option maxRecDepth 20000 in
theorem gX4_countsIn_X2_islandOf : GoodIn wsX4_countsIn (wsV RX4 132 RX2 yX2_islandOf wsX2_islandOf) := goodIn_app (goodIn_of _ (by decide +kernel)) ggX4_countsIn_X2_islandOf
theorem dX4_countsIn_0 : decode cX4_countsIn 0 = .ok (.aload_n 0, 1) := by decide +kernel
theorem dX4_countsIn_1 : decode cX4_countsIn 1 = .ok (.iload_n 1, 1) := by decide +kernel
theorem dX4_countsIn_2 : decode cX4_countsIn 2 = .ok (.invokevirtual 122, 3) := by decide +kernel
theorem dX4_countsIn_5 : decode cX4_countsIn 5 = .ok (.aload_n 0, 1) := by decide +kernel
theorem dX4_countsIn_6 : decode cX4_countsIn 6 = .ok (.getfield 32, 3) := by decide +kernel
theorem dX4_countsIn_9 : decode cX4_countsIn 9 = .ok (.iload_n 1, 1) := by decide +kernel
theorem dX4_countsIn_10 : decode cX4_countsIn 10 = .ok (.invokevirtual 132, 3) := by decide +kernel
theorem dX4_countsIn_13 : decode cX4_countsIn 13 = .ok (.ireturn, 1) := by decide +kernel
set_option maxRecDepth 20000 in
theorem ggX4_rank_X4_requireBus : GoodIn wsX4_rank wsX4_requireBus := goodIn_ca (goodIn_r _ [7, 8, 9, 2, 10, 11, 12, 13, 14, 15, 52, 53, 54, 55, 56, 57, 58, 59, 60, 61, 62, 63, 64] (by decide +kernel) (by decide +kernel)) (goodIn_sub (fun _ h => List.mem_cons_of_mem _ (List.mem_append_right _ h)) (by decide +kernel))
set_option maxRecDepth 20000 in
theorem gX4_rank_X4_requireBus : GoodIn wsX4_rank (wsV RX4 52 RX4 yX4_requireBus wsX4_requireBus) := goodIn_app (goodIn_of _ (by decide +kernel)) ggX4_rank_X4_requireBus
set_option maxRecDepth 20000 in
theorem ggX4_rank_X3_rankWithout : GoodIn wsX4_rank wsX3_rankWithout := goodIn_r _ [20, 21, 22, 23, 19, 24, 25, 26, 27, 28, 29, 30, 31, 32, 33, 34, 35, 36, 37, 38, 39, 40, 41, 42, 43, 44, 45, 46, 47, 48, 49, 50, 51, 65, 66, 67, 68, 69, 70, 71, 72, 73, 74, 56, 57, 58, 59, 60, 61, 62, 63, 64] (by decide +kernel) (by decide +kernel)
set_option maxRecDepth 20000 in
theorem gX4_rank_X3_rankWithout : GoodIn wsX4_rank (wsV RX4 136 RX3 yX3_rankWithout wsX3_rankWithout) := goodIn_app (goodIn_of _ (by decide +kernel)) ggX4_rank_X3_rankWithout
theorem dX4_rank_0 : decode cX4_rank 0 = .ok (.aload_n 0, 1) := by decide +kernel
theorem dX4_rank_1 : decode cX4_rank 1 = .ok (.iload_n 1, 1) := by decide +kernel
theorem dX4_rank_2 : decode cX4_rank 2 = .ok (.invokevirtual 52, 3) := by decide +kernel
theorem dX4_rank_5 : decode cX4_rank 5 = .ok (.aload_n 0, 1) := by decide +kernel
theorem dX4_rank_6 : decode cX4_rank 6 = .ok (.getfield 41, 3) := by decide +kernel
theorem dX4_rank_9 : decode cX4_rank 9 = .ok (.iconst (-1), 1) := by decide +kernel
theorem dX4_rank_10 : decode cX4_rank 10 = .ok (.aload_n 0, 1) := by decide +kernel
theorem dX4_rank_11 : decode cX4_rank 11 = .ok (.getfield 23, 3) := by decide +kernel
theorem dX4_rank_14 : decode cX4_rank 14 = .ok (.getfield 100, 3) := by decide +kernel
theorem dX4_rank_17 : decode cX4_rank 17 = .ok (.iload_n 1, 1) := by decide +kernel
theorem dX4_rank_18 : decode cX4_rank 18 = .ok (.iaload, 1) := by decide +kernel
theorem dX4_rank_19 : decode cX4_rank 19 = .ok (.invokevirtual 136, 3) := by decide +kernel
theorem dX4_rank_22 : decode cX4_rank 22 = .ok (.ireturn, 1) := by decide +kernel
set_option maxRecDepth 20000 in
theorem ggX4_isObservable_X4_requireBus : GoodIn wsX4_isObservable wsX4_requireBus := goodIn_ca (goodIn_r _ [7, 8, 9, 2, 10, 11, 12, 13, 14, 15, 66, 67, 68, 69, 70, 71, 72, 73, 74, 75, 76, 77, 78] (by decide +kernel) (by decide +kernel)) (goodIn_sub (fun _ h => List.mem_cons_of_mem _ (List.mem_append_right _ h)) (by decide +kernel))
set_option maxRecDepth 20000 in
theorem gX4_isObservable_X4_requireBus : GoodIn wsX4_isObservable (wsV RX4 52 RX4 yX4_requireBus wsX4_requireBus) := goodIn_app (goodIn_of _ (by decide +kernel)) ggX4_isObservable_X4_requireBus
set_option maxRecDepth 20000 in
theorem ggX4_isObservable_X3_suffices : GoodIn wsX4_isObservable wsX3_suffices := goodIn_r _ [20, 21, 22, 23, 24, 19, 25, 26, 27, 28, 29, 30, 31, 32, 33, 34, 35, 36, 37, 38, 39, 40, 41, 42, 43, 44, 45, 46, 47, 48, 49, 50, 51, 52, 53, 54, 55, 56, 57, 58, 59, 13, 60, 61, 62, 63, 64, 65, 79, 80, 81, 82, 83, 84, 85, 86, 87, 88, 70, 71, 72, 73, 74, 75, 76, 77, 78] (by decide +kernel) (by decide +kernel)
set_option maxRecDepth 20000 in
theorem gX4_isObservable_X3_suffices : GoodIn wsX4_isObservable (wsV RX4 139 RX3 yX3_suffices wsX3_suffices) := goodIn_app (goodIn_of _ (by decide +kernel)) ggX4_isObservable_X3_suffices
theorem dX4_isObservable_0 : decode cX4_isObservable 0 = .ok (.aload_n 0, 1) := by decide +kernel
theorem dX4_isObservable_1 : decode cX4_isObservable 1 = .ok (.iload_n 1, 1) := by decide +kernel
theorem dX4_isObservable_2 : decode cX4_isObservable 2 = .ok (.invokevirtual 52, 3) := by decide +kernel
theorem dX4_isObservable_5 : decode cX4_isObservable 5 = .ok (.aload_n 0, 1) := by decide +kernel
theorem dX4_isObservable_6 : decode cX4_isObservable 6 = .ok (.getfield 41, 3) := by decide +kernel
theorem dX4_isObservable_9 : decode cX4_isObservable 9 = .ok (.aload_n 0, 1) := by decide +kernel
theorem dX4_isObservable_10 : decode cX4_isObservable 10 = .ok (.getfield 23, 3) := by decide +kernel
theorem dX4_isObservable_13 : decode cX4_isObservable 13 = .ok (.getfield 100, 3) := by decide +kernel
theorem dX4_isObservable_16 : decode cX4_isObservable 16 = .ok (.iload_n 1, 1) := by decide +kernel
theorem dX4_isObservable_17 : decode cX4_isObservable 17 = .ok (.iaload, 1) := by decide +kernel
theorem dX4_isObservable_18 : decode cX4_isObservable 18 = .ok (.invokevirtual 139, 3) := by decide +kernel
theorem dX4_isObservable_21 : decode cX4_isObservable 21 = .ok (.ireturn, 1) := by decide +kernel
set_option maxRecDepth 20000 in
theorem ggX4_isCritical_X4_requireMeter : GoodIn wsX4_isCritical wsX4_requireMeter := goodIn_ca (goodIn_r _ [6, 7, 8, 9, 10, 11, 12, 13, 14, 15, 66, 67, 68, 69, 70, 71, 72, 73, 74, 75, 76] (by decide +kernel) (by decide +kernel)) (goodIn_sub (fun _ h => List.mem_cons_of_mem _ (List.mem_append_right _ h)) (by decide +kernel))
set_option maxRecDepth 20000 in
theorem gX4_isCritical_X4_requireMeter : GoodIn wsX4_isCritical (wsV RX4 122 RX4 yX4_requireMeter wsX4_requireMeter) := goodIn_app (goodIn_of _ (by decide +kernel)) ggX4_isCritical_X4_requireMeter
set_option maxRecDepth 20000 in
theorem ggX4_isCritical_X3_needs : GoodIn wsX4_isCritical wsX3_needs := goodIn_r _ [20, 21, 22, 23, 24, 25, 13, 26, 27, 28, 29, 30, 31, 32, 33, 34, 35, 36, 37, 38, 39, 40, 41, 42, 43, 44, 45, 46, 47, 19, 48, 49, 50, 51, 52, 53, 54, 55, 56, 57, 58, 59, 60, 61, 62, 63, 64, 65, 77, 78, 79, 70, 71, 72, 73, 74, 75, 76, 80, 81, 82, 83, 84, 85, 86, 87, 88] (by decide +kernel) (by decide +kernel)
set_option maxRecDepth 20000 in
theorem gX4_isCritical_X3_needs : GoodIn wsX4_isCritical (wsV RX4 142 RX3 yX3_needs wsX3_needs) := goodIn_app (goodIn_of _ (by decide +kernel)) ggX4_isCritical_X3_needs
theorem dX4_isCritical_0 : decode cX4_isCritical 0 = .ok (.aload_n 0, 1) := by decide +kernel
theorem dX4_isCritical_1 : decode cX4_isCritical 1 = .ok (.iload_n 1, 1) := by decide +kernel
theorem dX4_isCritical_2 : decode cX4_isCritical 2 = .ok (.invokevirtual 122, 3) := by decide +kernel
theorem dX4_isCritical_5 : decode cX4_isCritical 5 = .ok (.aload_n 0, 1) := by decide +kernel
theorem dX4_isCritical_6 : decode cX4_isCritical 6 = .ok (.getfield 41, 3) := by decide +kernel
theorem dX4_isCritical_9 : decode cX4_isCritical 9 = .ok (.iload_n 1, 1) := by decide +kernel
theorem dX4_isCritical_10 : decode cX4_isCritical 10 = .ok (.invokevirtual 142, 3) := by decide +kernel
theorem dX4_isCritical_13 : decode cX4_isCritical 13 = .ok (.ireturn, 1) := by decide +kernel
set_option maxRecDepth 20000 in
theorem ggX4_angleNumerator_X4_estimateIslandOf : GoodIn wsX4_angleNumerator wsX4_estimateIslandOf := goodIn_ca (goodIn_ca (goodIn_r _ [6, 7, 1, 8, 9, 10, 5, 11, 12, 13, 14, 15, 16, 17, 18, 19, 20, 21, 22, 23, 24, 25, 26, 27, 28, 29, 30, 31, 32, 33, 34, 35, 36, 37, 38, 39, 40, 41, 42, 43, 44, 45, 46, 47, 48, 49, 50, 51, 52, 53, 54, 55, 56, 57, 58, 59, 60, 61, 62, 63, 64, 65, 66, 67, 68, 69, 70, 71, 72, 73, 74, 75, 76, 77, 78, 79, 80, 81, 82, 83, 84, 85, 86, 87, 88, 89, 90, 91, 92, 93, 94, 95, 96, 97, 98, 99, 100, 101, 102, 103, 104, 105, 106, 107, 108, 109, 110, 111, 112, 113, 114, 125, 126, 127, 128, 136, 137, 138, 139, 140, 141, 142, 143, 144, 145, 146, 147, 148, 149, 150, 151, 152, 153, 154, 129, 130, 131, 132, 133, 134, 135] (by decide +kernel) (by decide +kernel)) (goodIn_sub (fun _ h => List.mem_cons_of_mem _ (List.mem_append_left _ (List.mem_append_right _ h))) (by decide +kernel))) (goodIn_sub (fun _ h => List.mem_cons_of_mem _ (List.mem_append_right _ h)) (by decide +kernel))
set_option maxRecDepth 20000 in
theorem gX4_angleNumerator_X4_estimateIslandOf : GoodIn wsX4_angleNumerator (wsV RX4 145 RX4 yX4_estimateIslandOf wsX4_estimateIslandOf) := goodIn_app (goodIn_of _ (by decide +kernel)) ggX4_angleNumerator_X4_estimateIslandOf
set_option maxRecDepth 20000 in
theorem ggX4_angleNumerator_X4_commonDivisor : GoodIn wsX4_angleNumerator wsX4_commonDivisor := goodIn_r _ [117, 118, 119, 120, 121, 122, 123, 124] (by decide +kernel) (by decide +kernel)
set_option maxRecDepth 20000 in
theorem gX4_angleNumerator_X4_commonDivisor : GoodIn wsX4_angleNumerator (va_wsS RX4 156 yX4_commonDivisor wsX4_commonDivisor) := goodIn_app (goodIn_of _ (by decide +kernel)) ggX4_angleNumerator_X4_commonDivisor
theorem dX4_angleNumerator_0 : decode cX4_angleNumerator 0 = .ok (.aload_n 0, 1) := by decide +kernel
theorem dX4_angleNumerator_1 : decode cX4_angleNumerator 1 = .ok (.iload_n 1, 1) := by decide +kernel
theorem dX4_angleNumerator_2 : decode cX4_angleNumerator 2 = .ok (.invokevirtual 145, 3) := by decide +kernel
theorem dX4_angleNumerator_5 : decode cX4_angleNumerator 5 = .ok (.aload_n 0, 1) := by decide +kernel
theorem dX4_angleNumerator_6 : decode cX4_angleNumerator 6 = .ok (.getfield 48, 3) := by decide +kernel
theorem dX4_angleNumerator_9 : decode cX4_angleNumerator 9 = .ok (.getfield 148, 3) := by decide +kernel
theorem dX4_angleNumerator_12 : decode cX4_angleNumerator 12 = .ok (.iload_n 1, 1) := by decide +kernel
theorem dX4_angleNumerator_13 : decode cX4_angleNumerator 13 = .ok (.laload, 1) := by decide +kernel
theorem dX4_angleNumerator_14 : decode cX4_angleNumerator 14 = .ok (.lstore_n 2, 1) := by decide +kernel
theorem dX4_angleNumerator_15 : decode cX4_angleNumerator 15 = .ok (.lload_n 2, 1) := by decide +kernel
theorem dX4_angleNumerator_16 : decode cX4_angleNumerator 16 = .ok (.lload_n 2, 1) := by decide +kernel
theorem dX4_angleNumerator_17 : decode cX4_angleNumerator 17 = .ok (.aload_n 0, 1) := by decide +kernel
theorem dX4_angleNumerator_18 : decode cX4_angleNumerator 18 = .ok (.getfield 48, 3) := by decide +kernel
theorem dX4_angleNumerator_21 : decode cX4_angleNumerator 21 = .ok (.getfield 152, 3) := by decide +kernel
theorem dX4_angleNumerator_24 : decode cX4_angleNumerator 24 = .ok (.invokestatic 156, 3) := by decide +kernel
theorem dX4_angleNumerator_27 : decode cX4_angleNumerator 27 = .ok (.ldiv, 1) := by decide +kernel
theorem dX4_angleNumerator_28 : decode cX4_angleNumerator 28 = .ok (.lreturn, 1) := by decide +kernel
set_option maxRecDepth 20000 in
theorem ggX4_angleDenominator_X4_estimateIslandOf : GoodIn wsX4_angleDenominator wsX4_estimateIslandOf := goodIn_ca (goodIn_ca (goodIn_r _ [6, 7, 1, 8, 9, 10, 5, 11, 12, 13, 14, 15, 16, 17, 18, 19, 20, 21, 22, 23, 24, 25, 26, 27, 28, 29, 30, 31, 32, 33, 34, 35, 36, 37, 38, 39, 40, 41, 42, 43, 44, 45, 46, 47, 48, 49, 50, 51, 52, 53, 54, 55, 56, 57, 58, 59, 60, 61, 62, 63, 64, 65, 66, 67, 68, 69, 70, 71, 72, 73, 74, 75, 76, 77, 78, 79, 80, 81, 82, 83, 84, 85, 86, 87, 88, 89, 90, 91, 92, 93, 94, 95, 96, 97, 98, 99, 100, 101, 102, 103, 104, 105, 106, 107, 108, 109, 110, 111, 112, 113, 114, 125, 126, 127, 128, 136, 137, 138, 139, 140, 141, 142, 143, 144, 145, 146, 147, 148, 149, 150, 151, 152, 153, 154, 129, 130, 131, 132, 133, 134, 135] (by decide +kernel) (by decide +kernel)) (goodIn_sub (fun _ h => List.mem_cons_of_mem _ (List.mem_append_left _ (List.mem_append_right _ h))) (by decide +kernel))) (goodIn_sub (fun _ h => List.mem_cons_of_mem _ (List.mem_append_right _ h)) (by decide +kernel))
set_option maxRecDepth 20000 in
theorem gX4_angleDenominator_X4_estimateIslandOf : GoodIn wsX4_angleDenominator (wsV RX4 145 RX4 yX4_estimateIslandOf wsX4_estimateIslandOf) := goodIn_app (goodIn_of _ (by decide +kernel)) ggX4_angleDenominator_X4_estimateIslandOf
set_option maxRecDepth 20000 in
theorem ggX4_angleDenominator_X4_commonDivisor : GoodIn wsX4_angleDenominator wsX4_commonDivisor := goodIn_r _ [117, 118, 119, 120, 121, 122, 123, 124] (by decide +kernel) (by decide +kernel)
set_option maxRecDepth 20000 in
theorem gX4_angleDenominator_X4_commonDivisor : GoodIn wsX4_angleDenominator (va_wsS RX4 156 yX4_commonDivisor wsX4_commonDivisor) := goodIn_app (goodIn_of _ (by decide +kernel)) ggX4_angleDenominator_X4_commonDivisor
theorem dX4_angleDenominator_0 : decode cX4_angleDenominator 0 = .ok (.aload_n 0, 1) := by decide +kernel
theorem dX4_angleDenominator_1 : decode cX4_angleDenominator 1 = .ok (.iload_n 1, 1) := by decide +kernel
theorem dX4_angleDenominator_2 : decode cX4_angleDenominator 2 = .ok (.invokevirtual 145, 3) := by decide +kernel
theorem dX4_angleDenominator_5 : decode cX4_angleDenominator 5 = .ok (.aload_n 0, 1) := by decide +kernel
theorem dX4_angleDenominator_6 : decode cX4_angleDenominator 6 = .ok (.getfield 48, 3) := by decide +kernel
theorem dX4_angleDenominator_9 : decode cX4_angleDenominator 9 = .ok (.getfield 152, 3) := by decide +kernel
theorem dX4_angleDenominator_12 : decode cX4_angleDenominator 12 = .ok (.aload_n 0, 1) := by decide +kernel
theorem dX4_angleDenominator_13 : decode cX4_angleDenominator 13 = .ok (.getfield 48, 3) := by decide +kernel
theorem dX4_angleDenominator_16 : decode cX4_angleDenominator 16 = .ok (.getfield 148, 3) := by decide +kernel
theorem dX4_angleDenominator_19 : decode cX4_angleDenominator 19 = .ok (.iload_n 1, 1) := by decide +kernel
theorem dX4_angleDenominator_20 : decode cX4_angleDenominator 20 = .ok (.laload, 1) := by decide +kernel
theorem dX4_angleDenominator_21 : decode cX4_angleDenominator 21 = .ok (.aload_n 0, 1) := by decide +kernel
theorem dX4_angleDenominator_22 : decode cX4_angleDenominator 22 = .ok (.getfield 48, 3) := by decide +kernel
theorem dX4_angleDenominator_25 : decode cX4_angleDenominator 25 = .ok (.getfield 152, 3) := by decide +kernel
theorem dX4_angleDenominator_28 : decode cX4_angleDenominator 28 = .ok (.invokestatic 156, 3) := by decide +kernel
theorem dX4_angleDenominator_31 : decode cX4_angleDenominator 31 = .ok (.ldiv, 1) := by decide +kernel
theorem dX4_angleDenominator_32 : decode cX4_angleDenominator 32 = .ok (.lreturn, 1) := by decide +kernel
set_option maxRecDepth 20000 in
theorem ggX4_residualNumerator_X4_estimateAround : GoodIn wsX4_residualNumerator wsX4_estimateAround := goodIn_ca (goodIn_ca (goodIn_r _ [6, 7, 8, 9, 1, 10, 11, 12, 5, 13, 14, 15, 16, 17, 18, 19, 20, 21, 22, 23, 24, 25, 26, 27, 28, 29, 30, 31, 32, 33, 34, 35, 36, 37, 38, 39, 40, 41, 42, 43, 44, 45, 46, 47, 48, 49, 50, 51, 52, 53, 54, 55, 56, 57, 58, 59, 60, 61, 62, 63, 64, 65, 66, 67, 68, 69, 70, 71, 72, 73, 74, 75, 76, 77, 78, 79, 80, 81, 82, 83, 84, 85, 86, 87, 88, 89, 90, 91, 92, 93, 94, 95, 96, 97, 98, 99, 100, 101, 102, 103, 104, 105, 106, 107, 108, 109, 110, 111, 112, 113, 114, 115, 130, 131, 132, 133, 141, 142, 143, 144, 145, 146, 147, 148, 149, 150, 151, 152, 153, 154, 155, 156, 157, 158, 159, 134, 135, 136, 137, 138, 139, 140] (by decide +kernel) (by decide +kernel)) (goodIn_sub (fun _ h => List.mem_cons_of_mem _ (List.mem_append_left _ (List.mem_append_right _ h))) (by decide +kernel))) (goodIn_sub (fun _ h => List.mem_cons_of_mem _ (List.mem_append_right _ h)) (by decide +kernel))
set_option maxRecDepth 20000 in
theorem gX4_residualNumerator_X4_estimateAround : GoodIn wsX4_residualNumerator (wsV RX4 160 RX4 yX4_estimateAround wsX4_estimateAround) := goodIn_app (goodIn_of _ (by decide +kernel)) ggX4_residualNumerator_X4_estimateAround
set_option maxRecDepth 20000 in
theorem ggX4_residualNumerator_X0_residual : GoodIn wsX4_residualNumerator wsX0_residual := goodIn_r _ [119, 83, 84, 85, 99, 57, 58, 19, 59, 26, 27, 28, 134, 135, 136, 137, 138, 139, 140, 141, 142, 143, 144, 145, 146, 147, 148, 149, 150, 151, 152, 153, 154, 155, 156] (by decide +kernel) (by decide +kernel)
set_option maxRecDepth 20000 in
theorem gX4_residualNumerator_X0_residual : GoodIn wsX4_residualNumerator (wsV RX4 163 RX0 yX0_residual wsX0_residual) := goodIn_app (goodIn_of _ (by decide +kernel)) ggX4_residualNumerator_X0_residual
set_option maxRecDepth 20000 in
theorem ggX4_residualNumerator_X4_commonDivisor : GoodIn wsX4_residualNumerator wsX4_commonDivisor := goodIn_r _ [122, 123, 124, 125, 126, 127, 128, 129] (by decide +kernel) (by decide +kernel)
set_option maxRecDepth 20000 in
theorem gX4_residualNumerator_X4_commonDivisor : GoodIn wsX4_residualNumerator (va_wsS RX4 156 yX4_commonDivisor wsX4_commonDivisor) := goodIn_app (goodIn_of _ (by decide +kernel)) ggX4_residualNumerator_X4_commonDivisor
theorem dX4_residualNumerator_0 : decode cX4_residualNumerator 0 = .ok (.aload_n 0, 1) := by decide +kernel
theorem dX4_residualNumerator_1 : decode cX4_residualNumerator 1 = .ok (.iload_n 1, 1) := by decide +kernel
theorem dX4_residualNumerator_2 : decode cX4_residualNumerator 2 = .ok (.invokevirtual 160, 3) := by decide +kernel
theorem dX4_residualNumerator_5 : decode cX4_residualNumerator 5 = .ok (.aload_n 0, 1) := by decide +kernel
theorem dX4_residualNumerator_6 : decode cX4_residualNumerator 6 = .ok (.getfield 48, 3) := by decide +kernel
theorem dX4_residualNumerator_9 : decode cX4_residualNumerator 9 = .ok (.iload_n 1, 1) := by decide +kernel
theorem dX4_residualNumerator_10 : decode cX4_residualNumerator 10 = .ok (.invokevirtual 163, 3) := by decide +kernel
theorem dX4_residualNumerator_13 : decode cX4_residualNumerator 13 = .ok (.lstore_n 2, 1) := by decide +kernel
theorem dX4_residualNumerator_14 : decode cX4_residualNumerator 14 = .ok (.lload_n 2, 1) := by decide +kernel
theorem dX4_residualNumerator_15 : decode cX4_residualNumerator 15 = .ok (.lload_n 2, 1) := by decide +kernel
theorem dX4_residualNumerator_16 : decode cX4_residualNumerator 16 = .ok (.aload_n 0, 1) := by decide +kernel
theorem dX4_residualNumerator_17 : decode cX4_residualNumerator 17 = .ok (.getfield 48, 3) := by decide +kernel
theorem dX4_residualNumerator_20 : decode cX4_residualNumerator 20 = .ok (.getfield 152, 3) := by decide +kernel
theorem dX4_residualNumerator_23 : decode cX4_residualNumerator 23 = .ok (.invokestatic 156, 3) := by decide +kernel
theorem dX4_residualNumerator_26 : decode cX4_residualNumerator 26 = .ok (.ldiv, 1) := by decide +kernel
theorem dX4_residualNumerator_27 : decode cX4_residualNumerator 27 = .ok (.lreturn, 1) := by decide +kernel
set_option maxRecDepth 20000 in
theorem ggX4_residualDenominator_X4_estimateAround : GoodIn wsX4_residualDenominator wsX4_estimateAround := goodIn_ca (goodIn_ca (goodIn_r _ [6, 7, 8, 9, 1, 10, 11, 12, 5, 13, 14, 15, 16, 17, 18, 19, 20, 21, 22, 23, 24, 25, 26, 27, 28, 29, 30, 31, 32, 33, 34, 35, 36, 37, 38, 39, 40, 41, 42, 43, 44, 45, 46, 47, 48, 49, 50, 51, 52, 53, 54, 55, 56, 57, 58, 59, 60, 61, 62, 63, 64, 65, 66, 67, 68, 69, 70, 71, 72, 73, 74, 75, 76, 77, 78, 79, 80, 81, 82, 83, 84, 85, 86, 87, 88, 89, 90, 91, 92, 93, 94, 95, 96, 97, 98, 99, 100, 101, 102, 103, 104, 105, 106, 107, 108, 109, 110, 111, 112, 113, 114, 115, 130, 131, 132, 133, 141, 142, 143, 144, 145, 146, 147, 148, 149, 150, 151, 152, 153, 154, 155, 156, 157, 158, 159, 134, 135, 136, 137, 138, 139, 140] (by decide +kernel) (by decide +kernel)) (goodIn_sub (fun _ h => List.mem_cons_of_mem _ (List.mem_append_left _ (List.mem_append_right _ h))) (by decide +kernel))) (goodIn_sub (fun _ h => List.mem_cons_of_mem _ (List.mem_append_right _ h)) (by decide +kernel))
set_option maxRecDepth 20000 in
theorem gX4_residualDenominator_X4_estimateAround : GoodIn wsX4_residualDenominator (wsV RX4 160 RX4 yX4_estimateAround wsX4_estimateAround) := goodIn_app (goodIn_of _ (by decide +kernel)) ggX4_residualDenominator_X4_estimateAround
set_option maxRecDepth 20000 in
theorem ggX4_residualDenominator_X0_residual : GoodIn wsX4_residualDenominator wsX0_residual := goodIn_r _ [119, 83, 84, 85, 99, 57, 58, 19, 59, 26, 27, 28, 134, 135, 136, 137, 138, 139, 140, 141, 142, 143, 144, 145, 146, 147, 148, 149, 150, 151, 152, 153, 154, 155, 156] (by decide +kernel) (by decide +kernel)
set_option maxRecDepth 20000 in
theorem gX4_residualDenominator_X0_residual : GoodIn wsX4_residualDenominator (wsV RX4 163 RX0 yX0_residual wsX0_residual) := goodIn_app (goodIn_of _ (by decide +kernel)) ggX4_residualDenominator_X0_residual
set_option maxRecDepth 20000 in
theorem ggX4_residualDenominator_X4_commonDivisor : GoodIn wsX4_residualDenominator wsX4_commonDivisor := goodIn_r _ [122, 123, 124, 125, 126, 127, 128, 129] (by decide +kernel) (by decide +kernel)
set_option maxRecDepth 20000 in
theorem gX4_residualDenominator_X4_commonDivisor : GoodIn wsX4_residualDenominator (va_wsS RX4 156 yX4_commonDivisor wsX4_commonDivisor) := goodIn_app (goodIn_of _ (by decide +kernel)) ggX4_residualDenominator_X4_commonDivisor
theorem dX4_residualDenominator_0 : decode cX4_residualDenominator 0 = .ok (.aload_n 0, 1) := by decide +kernel
theorem dX4_residualDenominator_1 : decode cX4_residualDenominator 1 = .ok (.iload_n 1, 1) := by decide +kernel
theorem dX4_residualDenominator_2 : decode cX4_residualDenominator 2 = .ok (.invokevirtual 160, 3) := by decide +kernel
theorem dX4_residualDenominator_5 : decode cX4_residualDenominator 5 = .ok (.aload_n 0, 1) := by decide +kernel
theorem dX4_residualDenominator_6 : decode cX4_residualDenominator 6 = .ok (.getfield 48, 3) := by decide +kernel
theorem dX4_residualDenominator_9 : decode cX4_residualDenominator 9 = .ok (.getfield 152, 3) := by decide +kernel
theorem dX4_residualDenominator_12 : decode cX4_residualDenominator 12 = .ok (.aload_n 0, 1) := by decide +kernel
theorem dX4_residualDenominator_13 : decode cX4_residualDenominator 13 = .ok (.getfield 48, 3) := by decide +kernel
theorem dX4_residualDenominator_16 : decode cX4_residualDenominator 16 = .ok (.iload_n 1, 1) := by decide +kernel
theorem dX4_residualDenominator_17 : decode cX4_residualDenominator 17 = .ok (.invokevirtual 163, 3) := by decide +kernel
theorem dX4_residualDenominator_20 : decode cX4_residualDenominator 20 = .ok (.aload_n 0, 1) := by decide +kernel
theorem dX4_residualDenominator_21 : decode cX4_residualDenominator 21 = .ok (.getfield 48, 3) := by decide +kernel
theorem dX4_residualDenominator_24 : decode cX4_residualDenominator 24 = .ok (.getfield 152, 3) := by decide +kernel
theorem dX4_residualDenominator_27 : decode cX4_residualDenominator 27 = .ok (.invokestatic 156, 3) := by decide +kernel
theorem dX4_residualDenominator_30 : decode cX4_residualDenominator 30 = .ok (.ldiv, 1) := by decide +kernel
theorem dX4_residualDenominator_31 : decode cX4_residualDenominator 31 = .ok (.lreturn, 1) := by decide +kernel
set_option maxRecDepth 20000 in
theorem ggX4_worst_X4_estimateIslandOf : GoodIn wsX4_worst wsX4_estimateIslandOf := goodIn_ca (goodIn_ca (goodIn_r _ [7, 2, 1, 8, 9, 10, 6, 11, 12, 13, 14, 15, 16, 17, 18, 19, 20, 21, 22, 23, 24, 25, 26, 27, 28, 29, 30, 31, 32, 33, 34, 35, 36, 37, 38, 39, 40, 41, 42, 43, 44, 45, 46, 47, 48, 49, 50, 51, 52, 53, 54, 55, 56, 57, 58, 59, 60, 61, 62, 63, 64, 65, 66, 67, 68, 69, 70, 71, 72, 73, 74, 75, 76, 77, 78, 79, 80, 81, 82, 83, 84, 85, 86, 87, 88, 89, 90, 91, 92, 93, 94, 95, 96, 97, 98, 99, 100, 101, 102, 103, 104, 105, 106, 107, 108, 109, 110, 111, 112, 113, 114, 131, 132, 133, 134, 135, 136, 137, 138, 139, 140, 141, 142, 143, 144, 145, 146, 147, 148, 149, 150, 151, 152, 153, 154, 155, 156, 157, 158, 159, 160] (by decide +kernel) (by decide +kernel)) (goodIn_sub (fun _ h => List.mem_cons_of_mem _ (List.mem_append_left _ (List.mem_append_right _ h))) (by decide +kernel))) (goodIn_sub (fun _ h => List.mem_cons_of_mem _ (List.mem_append_right _ h)) (by decide +kernel))
set_option maxRecDepth 20000 in
theorem gX4_worst_X4_estimateIslandOf : GoodIn wsX4_worst (wsV RX4 145 RX4 yX4_estimateIslandOf wsX4_estimateIslandOf) := goodIn_app (goodIn_of _ (by decide +kernel)) ggX4_worst_X4_estimateIslandOf
set_option maxRecDepth 20000 in
theorem ggX4_worst_X0_worstMeter : GoodIn wsX4_worst wsX0_worstMeter := goodIn_r _ [118, 82, 93, 44, 45, 46, 47, 48, 49, 50, 51, 52, 53, 54, 55, 119, 120, 121, 80, 122, 123, 124, 125, 126, 127, 128, 129, 130, 83, 84, 98, 57, 58, 59, 154, 155, 156, 157, 158, 159, 160, 147, 148, 149, 150, 151, 152, 153, 135, 136, 137, 138, 139, 140, 141, 142, 143] (by decide +kernel) (by decide +kernel)
set_option maxRecDepth 20000 in
theorem gX4_worst_X0_worstMeter : GoodIn wsX4_worst (wsV RX4 167 RX0 yX0_worstMeter wsX0_worstMeter) := goodIn_app (goodIn_of _ (by decide +kernel)) ggX4_worst_X0_worstMeter
theorem dX4_worst_0 : decode cX4_worst 0 = .ok (.aload_n 0, 1) := by decide +kernel
theorem dX4_worst_1 : decode cX4_worst 1 = .ok (.iload_n 1, 1) := by decide +kernel
theorem dX4_worst_2 : decode cX4_worst 2 = .ok (.invokevirtual 145, 3) := by decide +kernel
theorem dX4_worst_5 : decode cX4_worst 5 = .ok (.aload_n 0, 1) := by decide +kernel
theorem dX4_worst_6 : decode cX4_worst 6 = .ok (.getfield 48, 3) := by decide +kernel
theorem dX4_worst_9 : decode cX4_worst 9 = .ok (.aload_n 0, 1) := by decide +kernel
theorem dX4_worst_10 : decode cX4_worst 10 = .ok (.getfield 23, 3) := by decide +kernel
theorem dX4_worst_13 : decode cX4_worst 13 = .ok (.getfield 100, 3) := by decide +kernel
theorem dX4_worst_16 : decode cX4_worst 16 = .ok (.iload_n 1, 1) := by decide +kernel
theorem dX4_worst_17 : decode cX4_worst 17 = .ok (.iaload, 1) := by decide +kernel
theorem dX4_worst_18 : decode cX4_worst 18 = .ok (.invokevirtual 167, 3) := by decide +kernel
theorem dX4_worst_21 : decode cX4_worst 21 = .ok (.ireturn, 1) := by decide +kernel
set_option maxRecDepth 20000 in
theorem ggX4_clean_X4_requireBus : GoodIn wsX4_clean wsX4_requireBus := goodIn_ca (goodIn_r _ [8, 9, 10, 3, 11, 12, 13, 14, 15, 16, 142, 143, 144, 145, 146, 147, 148, 149, 150, 151, 152, 153, 154] (by decide +kernel) (by decide +kernel)) (goodIn_sub (fun _ h => List.mem_cons_of_mem _ (List.mem_append_left _ (List.mem_append_right _ h))) (by decide +kernel))
set_option maxRecDepth 20000 in
theorem gX4_clean_X4_requireBus : GoodIn wsX4_clean (wsV RX4 52 RX4 yX4_requireBus wsX4_requireBus) := goodIn_app (goodIn_of _ (by decide +kernel)) ggX4_clean_X4_requireBus
set_option maxRecDepth 20000 in
theorem ggX4_clean_X4_requireObservable : GoodIn wsX4_clean wsX4_requireObservable := goodIn_ca (goodIn_r _ [20, 21, 22, 23, 24, 25, 26, 27, 28, 29, 30, 31, 32, 33, 34, 35, 36, 37, 38, 39, 40, 41, 42, 43, 44, 45, 46, 47, 48, 49, 50, 51, 52, 53, 54, 55, 56, 57, 58, 59, 60, 61, 62, 63, 64, 65, 66, 67, 14, 68, 69, 70, 71, 72, 73, 142, 143, 144, 145, 155, 156, 157, 158, 159, 160, 161, 162, 163, 164, 146, 147, 148, 149, 150, 151, 152, 153, 154] (by decide +kernel) (by decide +kernel)) (goodIn_sub (fun _ h => List.mem_cons_of_mem _ (List.mem_append_right _ h)) (by decide +kernel))
set_option maxRecDepth 20000 in
theorem gX4_clean_X4_requireObservable : GoodIn wsX4_clean (wsV RX4 172 RX4 yX4_requireObservable wsX4_requireObservable) := goodIn_app (goodIn_of _ (by decide +kernel)) ggX4_clean_X4_requireObservable
set_option maxRecDepth 20000 in
theorem ggX4_clean_X4_dropWorst : GoodIn wsX4_clean wsX4_dropWorst := goodIn_r _ [77, 78, 23, 79, 80, 81, 82, 83, 84, 85, 86, 87, 88, 89, 90, 91, 92, 93, 94, 95, 70, 71, 14, 72, 73, 96, 41, 42, 43, 44, 45, 46, 47, 48, 49, 50, 51, 52, 97, 98, 99, 100, 101, 54, 55, 56, 102, 103, 104, 105, 106, 107, 108, 109, 110, 111, 112, 113, 114, 115, 116, 117, 118, 119, 120, 121, 122, 123, 124, 125, 126, 127, 128, 129, 130, 131, 132, 133, 134, 135, 136, 137, 138, 139, 140, 27, 141, 38, 29, 40, 65, 66, 67, 68, 69, 30, 31, 32, 33, 34, 35, 36, 37, 39, 53, 57, 58, 59, 60, 61, 62, 63, 64, 142, 143, 144, 145, 158, 159, 160, 161, 162, 163, 164, 165, 166, 167, 168, 169, 170, 171, 146, 147, 148, 149, 150, 151, 152, 153, 154, 155, 156, 157] (by decide +kernel) (by decide +kernel)
set_option maxRecDepth 20000 in
theorem gX4_clean_X4_dropWorst : GoodIn wsX4_clean (wsV RX4 175 RX4 yX4_dropWorst wsX4_dropWorst) := goodIn_app (goodIn_of _ (by decide +kernel)) ggX4_clean_X4_dropWorst
theorem dX4_clean_0 : decode cX4_clean 0 = .ok (.aload_n 0, 1) := by decide +kernel
theorem dX4_clean_1 : decode cX4_clean 1 = .ok (.iload_n 1, 1) := by decide +kernel
theorem dX4_clean_2 : decode cX4_clean 2 = .ok (.invokevirtual 52, 3) := by decide +kernel
theorem dX4_clean_5 : decode cX4_clean 5 = .ok (.iload_n 2, 1) := by decide +kernel
theorem dX4_clean_6 : decode cX4_clean 6 = .ok (.ifCond .lt 10, 3) := by decide +kernel
theorem dX4_clean_9 : decode cX4_clean 9 = .ok (.iload_n 2, 1) := by decide +kernel
theorem dX4_clean_10 : decode cX4_clean 10 = .ok (.sipush 200, 3) := by decide +kernel
theorem dX4_clean_13 : decode cX4_clean 13 = .ok (.if_icmp .le 13, 3) := by decide +kernel
theorem dX4_clean_16 : decode cX4_clean 16 = .ok (.new 55, 3) := by decide +kernel
theorem dX4_clean_19 : decode cX4_clean 19 = .ok (.dup, 1) := by decide +kernel
theorem dX4_clean_20 : decode cX4_clean 20 = .ok (.ldc 170, 2) := by decide +kernel
theorem dX4_clean_22 : decode cX4_clean 22 = .ok (.invokespecial 59, 3) := by decide +kernel
theorem dX4_clean_25 : decode cX4_clean 25 = .ok (.athrow, 1) := by decide +kernel
theorem dX4_clean_26 : decode cX4_clean 26 = .ok (.aload_n 0, 1) := by decide +kernel
theorem dX4_clean_27 : decode cX4_clean 27 = .ok (.getfield 23, 3) := by decide +kernel
theorem dX4_clean_30 : decode cX4_clean 30 = .ok (.getfield 100, 3) := by decide +kernel
theorem dX4_clean_33 : decode cX4_clean 33 = .ok (.iload_n 1, 1) := by decide +kernel
theorem dX4_clean_34 : decode cX4_clean 34 = .ok (.iaload, 1) := by decide +kernel
theorem dX4_clean_35 : decode cX4_clean 35 = .ok (.istore_n 3, 1) := by decide +kernel
theorem dX4_clean_36 : decode cX4_clean 36 = .ok (.aload_n 0, 1) := by decide +kernel
theorem dX4_clean_37 : decode cX4_clean 37 = .ok (.iload_n 3, 1) := by decide +kernel
theorem dX4_clean_38 : decode cX4_clean 38 = .ok (.invokevirtual 172, 3) := by decide +kernel
theorem dX4_clean_41 : decode cX4_clean 41 = .ok (.iconst 0, 1) := by decide +kernel
theorem dX4_clean_42 : decode cX4_clean 42 = .ok (.istore 4, 2) := by decide +kernel
theorem dX4_clean_44 : decode cX4_clean 44 = .ok (.iload 4, 2) := by decide +kernel
theorem dX4_clean_46 : decode cX4_clean 46 = .ok (.bipush 10, 2) := by decide +kernel
theorem dX4_clean_48 : decode cX4_clean 48 = .ok (.if_icmp .ge 18, 3) := by decide +kernel
theorem dX4_clean_51 : decode cX4_clean 51 = .ok (.aload_n 0, 1) := by decide +kernel
theorem dX4_clean_52 : decode cX4_clean 52 = .ok (.iload_n 3, 1) := by decide +kernel
theorem dX4_clean_53 : decode cX4_clean 53 = .ok (.iload_n 2, 1) := by decide +kernel
theorem dX4_clean_54 : decode cX4_clean 54 = .ok (.invokevirtual 175, 3) := by decide +kernel
theorem dX4_clean_57 : decode cX4_clean 57 = .ok (.ifCond .eq 9, 3) := by decide +kernel
theorem dX4_clean_60 : decode cX4_clean 60 = .ok (.iinc 4 1, 3) := by decide +kernel
theorem dX4_clean_63 : decode cX4_clean 63 = .ok (.goto (-19), 3) := by decide +kernel
theorem dX4_clean_66 : decode cX4_clean 66 = .ok (.iload 4, 2) := by decide +kernel
theorem dX4_clean_68 : decode cX4_clean 68 = .ok (.ireturn, 1) := by decide +kernel
set_option maxRecDepth 20000 in
theorem ggX4_dropWorst_X0_solve : GoodIn wsX4_dropWorst wsX0_solve := goodIn_r _ [8, 9, 10, 11, 12, 13, 14, 7, 15, 16, 17, 18, 19, 20, 21, 22, 23, 24, 25, 26, 27, 28, 29, 30, 31, 32, 33, 34, 35, 36, 37, 38, 39, 40, 41, 42, 43, 44, 45, 46, 47, 48, 49, 50, 51, 52, 53, 54, 55, 56, 57, 58, 59, 60, 61, 124, 125, 126, 127, 128, 129, 130, 117, 118, 119, 120, 121, 122, 123, 131, 132, 133, 134, 135, 136, 137, 138, 139] (by decide +kernel) (by decide +kernel)
set_option maxRecDepth 20000 in
theorem gX4_dropWorst_X0_solve : GoodIn wsX4_dropWorst (wsV RX4 178 RX0 yX0_solve wsX0_solve) := goodIn_app (goodIn_of _ (by decide +kernel)) ggX4_dropWorst_X0_solve
set_option maxRecDepth 20000 in
theorem ggX4_dropWorst_X0_worstMeter : GoodIn wsX4_dropWorst wsX0_worstMeter := goodIn_r _ [65, 9, 25, 26, 27, 28, 29, 30, 31, 32, 33, 34, 35, 36, 37, 66, 67, 68, 7, 69, 70, 71, 72, 73, 74, 75, 76, 77, 10, 11, 42, 43, 44, 45, 124, 125, 126, 127, 128, 129, 130, 117, 118, 119, 120, 121, 122, 123, 131, 132, 133, 134, 135, 136, 137, 138, 139] (by decide +kernel) (by decide +kernel)
set_option maxRecDepth 20000 in
theorem gX4_dropWorst_X0_worstMeter : GoodIn wsX4_dropWorst (wsV RX4 167 RX0 yX0_worstMeter wsX0_worstMeter) := goodIn_app (goodIn_of _ (by decide +kernel)) ggX4_dropWorst_X0_worstMeter
set_option maxRecDepth 20000 in
theorem ggX4_dropWorst_X0_isAbove : GoodIn wsX4_dropWorst wsX0_isAbove := goodIn_r _ [81, 10, 66, 67, 68, 7, 69, 9, 70, 71, 72, 73, 74, 75, 76, 77, 11, 42, 43, 44, 28, 45, 35, 36, 37, 124, 125, 126, 127, 128, 129, 130, 117, 118, 119, 120, 121, 122, 123, 131, 132, 133, 134, 135, 136, 137, 138, 139] (by decide +kernel) (by decide +kernel)
set_option maxRecDepth 20000 in
theorem gX4_dropWorst_X0_isAbove : GoodIn wsX4_dropWorst (wsV RX4 181 RX0 yX0_isAbove wsX0_isAbove) := goodIn_app (goodIn_of _ (by decide +kernel)) ggX4_dropWorst_X0_isAbove
set_option maxRecDepth 20000 in
theorem ggX4_dropWorst_X3_needs : GoodIn wsX4_dropWorst wsX3_needs := goodIn_r _ [86, 87, 88, 89, 26, 27, 28, 29, 30, 31, 32, 33, 34, 35, 36, 37, 90, 91, 92, 22, 93, 94, 20, 21, 23, 24, 95, 96, 97, 85, 98, 99, 100, 101, 102, 103, 104, 43, 44, 45, 105, 106, 107, 108, 109, 110, 111, 112, 140, 141, 142, 117, 118, 119, 120, 121, 122, 123, 131, 132, 133, 134, 135, 136, 137, 138, 139] (by decide +kernel) (by decide +kernel)
set_option maxRecDepth 20000 in
theorem gX4_dropWorst_X3_needs : GoodIn wsX4_dropWorst (wsV RX4 142 RX3 yX3_needs wsX3_needs) := goodIn_app (goodIn_of _ (by decide +kernel)) ggX4_dropWorst_X3_needs
theorem dX4_dropWorst_0 : decode cX4_dropWorst 0 = .ok (.aload_n 0, 1) := by decide +kernel
theorem dX4_dropWorst_1 : decode cX4_dropWorst 1 = .ok (.getfield 48, 3) := by decide +kernel
theorem dX4_dropWorst_4 : decode cX4_dropWorst 4 = .ok (.iload_n 1, 1) := by decide +kernel
theorem dX4_dropWorst_5 : decode cX4_dropWorst 5 = .ok (.invokevirtual 178, 3) := by decide +kernel
theorem dX4_dropWorst_8 : decode cX4_dropWorst 8 = .ok (.aload_n 0, 1) := by decide +kernel
theorem dX4_dropWorst_9 : decode cX4_dropWorst 9 = .ok (.getfield 48, 3) := by decide +kernel
theorem dX4_dropWorst_12 : decode cX4_dropWorst 12 = .ok (.iload_n 1, 1) := by decide +kernel
theorem dX4_dropWorst_13 : decode cX4_dropWorst 13 = .ok (.invokevirtual 167, 3) := by decide +kernel
theorem dX4_dropWorst_16 : decode cX4_dropWorst 16 = .ok (.istore_n 3, 1) := by decide +kernel
theorem dX4_dropWorst_17 : decode cX4_dropWorst 17 = .ok (.iload_n 3, 1) := by decide +kernel
theorem dX4_dropWorst_18 : decode cX4_dropWorst 18 = .ok (.iconst (-1), 1) := by decide +kernel
theorem dX4_dropWorst_19 : decode cX4_dropWorst 19 = .ok (.if_icmp .eq 26, 3) := by decide +kernel
theorem dX4_dropWorst_22 : decode cX4_dropWorst 22 = .ok (.aload_n 0, 1) := by decide +kernel
theorem dX4_dropWorst_23 : decode cX4_dropWorst 23 = .ok (.getfield 48, 3) := by decide +kernel
theorem dX4_dropWorst_26 : decode cX4_dropWorst 26 = .ok (.iload_n 3, 1) := by decide +kernel
theorem dX4_dropWorst_27 : decode cX4_dropWorst 27 = .ok (.iload_n 2, 1) := by decide +kernel
theorem dX4_dropWorst_28 : decode cX4_dropWorst 28 = .ok (.invokevirtual 181, 3) := by decide +kernel
theorem dX4_dropWorst_31 : decode cX4_dropWorst 31 = .ok (.ifCond .eq 14, 3) := by decide +kernel
theorem dX4_dropWorst_34 : decode cX4_dropWorst 34 = .ok (.aload_n 0, 1) := by decide +kernel
theorem dX4_dropWorst_35 : decode cX4_dropWorst 35 = .ok (.getfield 41, 3) := by decide +kernel
theorem dX4_dropWorst_38 : decode cX4_dropWorst 38 = .ok (.iload_n 3, 1) := by decide +kernel
theorem dX4_dropWorst_39 : decode cX4_dropWorst 39 = .ok (.invokevirtual 142, 3) := by decide +kernel
theorem dX4_dropWorst_42 : decode cX4_dropWorst 42 = .ok (.ifCond .eq 5, 3) := by decide +kernel
theorem dX4_dropWorst_45 : decode cX4_dropWorst 45 = .ok (.iconst 0, 1) := by decide +kernel
theorem dX4_dropWorst_46 : decode cX4_dropWorst 46 = .ok (.ireturn, 1) := by decide +kernel
theorem dX4_dropWorst_47 : decode cX4_dropWorst 47 = .ok (.aload_n 0, 1) := by decide +kernel
theorem dX4_dropWorst_48 : decode cX4_dropWorst 48 = .ok (.getfield 32, 3) := by decide +kernel
theorem dX4_dropWorst_51 : decode cX4_dropWorst 51 = .ok (.getfield 128, 3) := by decide +kernel
theorem dX4_dropWorst_54 : decode cX4_dropWorst 54 = .ok (.iload_n 3, 1) := by decide +kernel
theorem dX4_dropWorst_55 : decode cX4_dropWorst 55 = .ok (.iconst 0, 1) := by decide +kernel
theorem dX4_dropWorst_56 : decode cX4_dropWorst 56 = .ok (.bastore, 1) := by decide +kernel
theorem dX4_dropWorst_57 : decode cX4_dropWorst 57 = .ok (.iconst 1, 1) := by decide +kernel
theorem dX4_dropWorst_58 : decode cX4_dropWorst 58 = .ok (.ireturn, 1) := by decide +kernel
set_option maxRecDepth 20000 in
theorem ggX4_estimateIslandOf_X4_requireBus : GoodIn wsX4_estimateIslandOf wsX4_requireBus := goodIn_ca (goodIn_r _ [7, 8, 9, 1, 10, 11, 12, 13, 14, 15, 111, 112, 113, 114, 115, 116, 117, 118, 119, 120, 121, 122, 123] (by decide +kernel) (by decide +kernel)) (goodIn_sub (fun _ h => List.mem_cons_of_mem _ (List.mem_append_left _ (List.mem_append_right _ h))) (by decide +kernel))
set_option maxRecDepth 20000 in
theorem gX4_estimateIslandOf_X4_requireBus : GoodIn wsX4_estimateIslandOf (wsV RX4 52 RX4 yX4_requireBus wsX4_requireBus) := goodIn_app (goodIn_of _ (by decide +kernel)) ggX4_estimateIslandOf_X4_requireBus
set_option maxRecDepth 20000 in
theorem ggX4_estimateIslandOf_X4_requireObservable : GoodIn wsX4_estimateIslandOf wsX4_requireObservable := goodIn_ca (goodIn_r _ [19, 20, 21, 22, 23, 24, 25, 26, 27, 28, 29, 30, 31, 32, 33, 34, 35, 36, 37, 38, 39, 40, 41, 42, 43, 44, 45, 46, 47, 48, 49, 50, 51, 52, 53, 54, 55, 56, 57, 58, 59, 60, 61, 62, 63, 64, 65, 66, 13, 67, 68, 69, 70, 71, 72, 111, 112, 113, 114, 124, 125, 126, 127, 128, 129, 130, 131, 132, 133, 115, 116, 117, 118, 119, 120, 121, 122, 123] (by decide +kernel) (by decide +kernel)) (goodIn_sub (fun _ h => List.mem_cons_of_mem _ (List.mem_append_right _ h)) (by decide +kernel))
set_option maxRecDepth 20000 in
theorem gX4_estimateIslandOf_X4_requireObservable : GoodIn wsX4_estimateIslandOf (wsV RX4 172 RX4 yX4_requireObservable wsX4_requireObservable) := goodIn_app (goodIn_of _ (by decide +kernel)) ggX4_estimateIslandOf_X4_requireObservable
set_option maxRecDepth 20000 in
theorem ggX4_estimateIslandOf_X0_solve : GoodIn wsX4_estimateIslandOf wsX0_solve := goodIn_r _ [77, 78, 79, 80, 81, 82, 83, 76, 84, 85, 86, 87, 88, 69, 70, 13, 71, 72, 89, 40, 41, 42, 43, 44, 45, 46, 47, 48, 49, 50, 51, 90, 91, 92, 93, 94, 53, 54, 55, 95, 96, 97, 98, 99, 100, 101, 102, 103, 104, 105, 106, 107, 108, 109, 110, 134, 135, 136, 137, 138, 139, 140, 127, 128, 129, 130, 131, 132, 133, 115, 116, 117, 118, 119, 120, 121, 122, 123] (by decide +kernel) (by decide +kernel)
set_option maxRecDepth 20000 in
theorem gX4_estimateIslandOf_X0_solve : GoodIn wsX4_estimateIslandOf (wsV RX4 178 RX0 yX0_solve wsX0_solve) := goodIn_app (goodIn_of _ (by decide +kernel)) ggX4_estimateIslandOf_X0_solve
theorem dX4_estimateIslandOf_0 : decode cX4_estimateIslandOf 0 = .ok (.aload_n 0, 1) := by decide +kernel
theorem dX4_estimateIslandOf_1 : decode cX4_estimateIslandOf 1 = .ok (.iload_n 1, 1) := by decide +kernel
theorem dX4_estimateIslandOf_2 : decode cX4_estimateIslandOf 2 = .ok (.invokevirtual 52, 3) := by decide +kernel
theorem dX4_estimateIslandOf_5 : decode cX4_estimateIslandOf 5 = .ok (.aload_n 0, 1) := by decide +kernel
theorem dX4_estimateIslandOf_6 : decode cX4_estimateIslandOf 6 = .ok (.aload_n 0, 1) := by decide +kernel
theorem dX4_estimateIslandOf_7 : decode cX4_estimateIslandOf 7 = .ok (.getfield 23, 3) := by decide +kernel
theorem dX4_estimateIslandOf_10 : decode cX4_estimateIslandOf 10 = .ok (.getfield 100, 3) := by decide +kernel
theorem dX4_estimateIslandOf_13 : decode cX4_estimateIslandOf 13 = .ok (.iload_n 1, 1) := by decide +kernel
theorem dX4_estimateIslandOf_14 : decode cX4_estimateIslandOf 14 = .ok (.iaload, 1) := by decide +kernel
theorem dX4_estimateIslandOf_15 : decode cX4_estimateIslandOf 15 = .ok (.invokevirtual 172, 3) := by decide +kernel
theorem dX4_estimateIslandOf_18 : decode cX4_estimateIslandOf 18 = .ok (.aload_n 0, 1) := by decide +kernel
theorem dX4_estimateIslandOf_19 : decode cX4_estimateIslandOf 19 = .ok (.getfield 48, 3) := by decide +kernel
theorem dX4_estimateIslandOf_22 : decode cX4_estimateIslandOf 22 = .ok (.aload_n 0, 1) := by decide +kernel
theorem dX4_estimateIslandOf_23 : decode cX4_estimateIslandOf 23 = .ok (.getfield 23, 3) := by decide +kernel
theorem dX4_estimateIslandOf_26 : decode cX4_estimateIslandOf 26 = .ok (.getfield 100, 3) := by decide +kernel
theorem dX4_estimateIslandOf_29 : decode cX4_estimateIslandOf 29 = .ok (.iload_n 1, 1) := by decide +kernel
theorem dX4_estimateIslandOf_30 : decode cX4_estimateIslandOf 30 = .ok (.iaload, 1) := by decide +kernel
theorem dX4_estimateIslandOf_31 : decode cX4_estimateIslandOf 31 = .ok (.invokevirtual 178, 3) := by decide +kernel
theorem dX4_estimateIslandOf_34 : decode cX4_estimateIslandOf 34 = .ok (.return_, 1) := by decide +kernel
set_option maxRecDepth 20000 in
theorem ggX4_estimateAround_X4_requireMeter : GoodIn wsX4_estimateAround wsX4_requireMeter := goodIn_ca (goodIn_r _ [9, 10, 11, 3, 12, 13, 14, 15, 16, 17, 112, 113, 114, 115, 116, 117, 118, 119, 120, 121, 122] (by decide +kernel) (by decide +kernel)) (goodIn_sub (fun _ h => List.mem_cons_of_mem _ (List.mem_append_right _ h)) (by decide +kernel))
set_option maxRecDepth 20000 in
theorem gX4_estimateAround_X4_requireMeter : GoodIn wsX4_estimateAround (wsV RX4 122 RX4 yX4_requireMeter wsX4_requireMeter) := goodIn_app (goodIn_of _ (by decide +kernel)) ggX4_estimateAround_X4_requireMeter
set_option maxRecDepth 20000 in
theorem ggX4_estimateAround_X2_islandIfUsed : GoodIn wsX4_estimateAround wsX2_islandIfUsed := goodIn_r _ [21, 22, 23, 24, 116, 117, 118, 119, 120, 121, 122, 123, 124, 125, 126, 127, 128, 129, 130, 131] (by decide +kernel) (by decide +kernel)
set_option maxRecDepth 20000 in
theorem gX4_estimateAround_X2_islandIfUsed : GoodIn wsX4_estimateAround (wsV RX4 184 RX2 yX2_islandIfUsed wsX2_islandIfUsed) := goodIn_app (goodIn_of _ (by decide +kernel)) ggX4_estimateAround_X2_islandIfUsed
set_option maxRecDepth 20000 in
theorem ggX4_estimateAround_X4_requireObservable : GoodIn wsX4_estimateAround wsX4_requireObservable := goodIn_ca (goodIn_r _ [28, 1, 2, 29, 30, 31, 32, 33, 34, 35, 36, 37, 38, 39, 40, 41, 42, 43, 44, 45, 46, 47, 48, 15, 49, 50, 51, 19, 20, 21, 22, 23, 24, 52, 53, 54, 55, 56, 57, 58, 59, 60, 61, 62, 63, 64, 65, 66, 67, 68, 69, 70, 71, 72, 73, 112, 113, 114, 115, 132, 133, 134, 116, 117, 118, 119, 120, 121, 122, 123, 124, 125, 126, 127, 128, 129, 130, 131] (by decide +kernel) (by decide +kernel)) (goodIn_sub (fun _ h => List.mem_cons_of_mem _ (List.mem_append_left _ (List.mem_append_right _ h))) (by decide +kernel))
set_option maxRecDepth 20000 in
theorem gX4_estimateAround_X4_requireObservable : GoodIn wsX4_estimateAround (wsV RX4 172 RX4 yX4_requireObservable wsX4_requireObservable) := goodIn_app (goodIn_of _ (by decide +kernel)) ggX4_estimateAround_X4_requireObservable
set_option maxRecDepth 20000 in
theorem ggX4_estimateAround_X0_solve : GoodIn wsX4_estimateAround wsX0_solve := goodIn_r _ [78, 79, 80, 81, 82, 83, 84, 77, 85, 86, 87, 88, 89, 70, 71, 67, 72, 73, 90, 47, 48, 15, 49, 50, 51, 19, 20, 21, 22, 23, 24, 91, 92, 93, 94, 95, 53, 54, 55, 96, 97, 98, 99, 100, 101, 102, 103, 104, 105, 106, 107, 108, 109, 110, 111, 135, 136, 137, 138, 139, 140, 141, 116, 117, 118, 119, 120, 121, 122, 123, 124, 125, 126, 127, 128, 129, 130, 131] (by decide +kernel) (by decide +kernel)
set_option maxRecDepth 20000 in
theorem gX4_estimateAround_X0_solve : GoodIn wsX4_estimateAround (wsV RX4 178 RX0 yX0_solve wsX0_solve) := goodIn_app (goodIn_of _ (by decide +kernel)) ggX4_estimateAround_X0_solve
theorem dX4_estimateAround_0 : decode cX4_estimateAround 0 = .ok (.aload_n 0, 1) := by decide +kernel
theorem dX4_estimateAround_1 : decode cX4_estimateAround 1 = .ok (.iload_n 1, 1) := by decide +kernel
theorem dX4_estimateAround_2 : decode cX4_estimateAround 2 = .ok (.invokevirtual 122, 3) := by decide +kernel
theorem dX4_estimateAround_5 : decode cX4_estimateAround 5 = .ok (.aload_n 0, 1) := by decide +kernel
theorem dX4_estimateAround_6 : decode cX4_estimateAround 6 = .ok (.getfield 32, 3) := by decide +kernel
theorem dX4_estimateAround_9 : decode cX4_estimateAround 9 = .ok (.iload_n 1, 1) := by decide +kernel
theorem dX4_estimateAround_10 : decode cX4_estimateAround 10 = .ok (.invokevirtual 184, 3) := by decide +kernel
theorem dX4_estimateAround_13 : decode cX4_estimateAround 13 = .ok (.istore_n 2, 1) := by decide +kernel
theorem dX4_estimateAround_14 : decode cX4_estimateAround 14 = .ok (.iload_n 2, 1) := by decide +kernel
theorem dX4_estimateAround_15 : decode cX4_estimateAround 15 = .ok (.iconst (-1), 1) := by decide +kernel
theorem dX4_estimateAround_16 : decode cX4_estimateAround 16 = .ok (.if_icmp .ne 13, 3) := by decide +kernel
theorem dX4_estimateAround_19 : decode cX4_estimateAround 19 = .ok (.new 68, 3) := by decide +kernel
theorem dX4_estimateAround_22 : decode cX4_estimateAround 22 = .ok (.dup, 1) := by decide +kernel
theorem dX4_estimateAround_23 : decode cX4_estimateAround 23 = .ok (.ldc 187, 2) := by decide +kernel
theorem dX4_estimateAround_25 : decode cX4_estimateAround 25 = .ok (.invokespecial 72, 3) := by decide +kernel
theorem dX4_estimateAround_28 : decode cX4_estimateAround 28 = .ok (.athrow, 1) := by decide +kernel
theorem dX4_estimateAround_29 : decode cX4_estimateAround 29 = .ok (.aload_n 0, 1) := by decide +kernel
theorem dX4_estimateAround_30 : decode cX4_estimateAround 30 = .ok (.iload_n 2, 1) := by decide +kernel
theorem dX4_estimateAround_31 : decode cX4_estimateAround 31 = .ok (.invokevirtual 172, 3) := by decide +kernel
theorem dX4_estimateAround_34 : decode cX4_estimateAround 34 = .ok (.aload_n 0, 1) := by decide +kernel
theorem dX4_estimateAround_35 : decode cX4_estimateAround 35 = .ok (.getfield 48, 3) := by decide +kernel
theorem dX4_estimateAround_38 : decode cX4_estimateAround 38 = .ok (.iload_n 2, 1) := by decide +kernel
theorem dX4_estimateAround_39 : decode cX4_estimateAround 39 = .ok (.invokevirtual 178, 3) := by decide +kernel
theorem dX4_estimateAround_42 : decode cX4_estimateAround 42 = .ok (.return_, 1) := by decide +kernel
set_option maxRecDepth 20000 in
theorem ggX4_requireBus_X1_hasBus : GoodIn wsX4_requireBus wsX1_hasBus := goodIn_r _ [8, 9, 14, 15, 16, 17, 18, 19, 20, 21, 22] (by decide +kernel) (by decide +kernel)
set_option maxRecDepth 20000 in
theorem gX4_requireBus_X1_hasBus : GoodIn wsX4_requireBus (wsV RX4 111 RX1 yX1_hasBus wsX1_hasBus) := goodIn_app (goodIn_of _ (by decide +kernel)) ggX4_requireBus_X1_hasBus
theorem dX4_requireBus_0 : decode cX4_requireBus 0 = .ok (.aload_n 0, 1) := by decide +kernel
theorem dX4_requireBus_1 : decode cX4_requireBus 1 = .ok (.getfield 23, 3) := by decide +kernel
theorem dX4_requireBus_4 : decode cX4_requireBus 4 = .ok (.iload_n 1, 1) := by decide +kernel
theorem dX4_requireBus_5 : decode cX4_requireBus 5 = .ok (.invokevirtual 111, 3) := by decide +kernel
theorem dX4_requireBus_8 : decode cX4_requireBus 8 = .ok (.ifCond .ne 13, 3) := by decide +kernel
theorem dX4_requireBus_11 : decode cX4_requireBus 11 = .ok (.new 87, 3) := by decide +kernel
theorem dX4_requireBus_14 : decode cX4_requireBus 14 = .ok (.dup, 1) := by decide +kernel
theorem dX4_requireBus_15 : decode cX4_requireBus 15 = .ok (.ldc 189, 2) := by decide +kernel
theorem dX4_requireBus_17 : decode cX4_requireBus 17 = .ok (.invokespecial 91, 3) := by decide +kernel
theorem dX4_requireBus_20 : decode cX4_requireBus 20 = .ok (.athrow, 1) := by decide +kernel
theorem dX4_requireBus_21 : decode cX4_requireBus 21 = .ok (.return_, 1) := by decide +kernel
set_option maxRecDepth 20000 in
theorem ggX4_requireMeter_X2_hasMeter : GoodIn wsX4_requireMeter wsX2_hasMeter := goodIn_r _ [8, 9, 14, 15, 16, 17, 18, 19, 20] (by decide +kernel) (by decide +kernel)
set_option maxRecDepth 20000 in
theorem gX4_requireMeter_X2_hasMeter : GoodIn wsX4_requireMeter (wsV RX4 191 RX2 yX2_hasMeter wsX2_hasMeter) := goodIn_app (goodIn_of _ (by decide +kernel)) ggX4_requireMeter_X2_hasMeter
theorem dX4_requireMeter_0 : decode cX4_requireMeter 0 = .ok (.aload_n 0, 1) := by decide +kernel
theorem dX4_requireMeter_1 : decode cX4_requireMeter 1 = .ok (.getfield 32, 3) := by decide +kernel
theorem dX4_requireMeter_4 : decode cX4_requireMeter 4 = .ok (.iload_n 1, 1) := by decide +kernel
theorem dX4_requireMeter_5 : decode cX4_requireMeter 5 = .ok (.invokevirtual 191, 3) := by decide +kernel
theorem dX4_requireMeter_8 : decode cX4_requireMeter 8 = .ok (.ifCond .ne 13, 3) := by decide +kernel
theorem dX4_requireMeter_11 : decode cX4_requireMeter 11 = .ok (.new 87, 3) := by decide +kernel
theorem dX4_requireMeter_14 : decode cX4_requireMeter 14 = .ok (.dup, 1) := by decide +kernel
theorem dX4_requireMeter_15 : decode cX4_requireMeter 15 = .ok (.ldc 194, 2) := by decide +kernel
theorem dX4_requireMeter_17 : decode cX4_requireMeter 17 = .ok (.invokespecial 91, 3) := by decide +kernel
theorem dX4_requireMeter_20 : decode cX4_requireMeter 20 = .ok (.athrow, 1) := by decide +kernel
theorem dX4_requireMeter_21 : decode cX4_requireMeter 21 = .ok (.return_, 1) := by decide +kernel
theorem dX4_requireReading_0 : decode cX4_requireReading 0 = .ok (.iload_n 1, 1) := by decide +kernel
theorem dX4_requireReading_1 : decode cX4_requireReading 1 = .ok (.bipush (-50), 2) := by decide +kernel
theorem dX4_requireReading_3 : decode cX4_requireReading 3 = .ok (.if_icmp .lt 9, 3) := by decide +kernel
theorem dX4_requireReading_6 : decode cX4_requireReading 6 = .ok (.iload_n 1, 1) := by decide +kernel
theorem dX4_requireReading_7 : decode cX4_requireReading 7 = .ok (.bipush 50, 2) := by decide +kernel
theorem dX4_requireReading_9 : decode cX4_requireReading 9 = .ok (.if_icmp .le 13, 3) := by decide +kernel
theorem dX4_requireReading_12 : decode cX4_requireReading 12 = .ok (.new 55, 3) := by decide +kernel
theorem dX4_requireReading_15 : decode cX4_requireReading 15 = .ok (.dup, 1) := by decide +kernel
theorem dX4_requireReading_16 : decode cX4_requireReading 16 = .ok (.ldc 196, 2) := by decide +kernel
theorem dX4_requireReading_18 : decode cX4_requireReading 18 = .ok (.invokespecial 59, 3) := by decide +kernel
theorem dX4_requireReading_21 : decode cX4_requireReading 21 = .ok (.athrow, 1) := by decide +kernel
theorem dX4_requireReading_22 : decode cX4_requireReading 22 = .ok (.return_, 1) := by decide +kernel
set_option maxRecDepth 20000 in
theorem ggX4_requireObservable_X3_suffices : GoodIn wsX4_requireObservable wsX3_suffices := goodIn_r _ [8, 9, 10, 11, 12, 7, 13, 14, 15, 16, 17, 18, 19, 20, 21, 22, 23, 24, 25, 26, 27, 28, 29, 30, 31, 32, 33, 34, 35, 36, 37, 38, 39, 40, 41, 42, 43, 44, 45, 46, 47, 48, 49, 50, 51, 52, 53, 54, 59, 60, 61, 62, 63, 64, 65, 66, 67, 68, 69, 70, 71, 72, 73, 74, 75, 76, 77] (by decide +kernel) (by decide +kernel)
set_option maxRecDepth 20000 in
theorem gX4_requireObservable_X3_suffices : GoodIn wsX4_requireObservable (wsV RX4 139 RX3 yX3_suffices wsX3_suffices) := goodIn_app (goodIn_of _ (by decide +kernel)) ggX4_requireObservable_X3_suffices
theorem dX4_requireObservable_0 : decode cX4_requireObservable 0 = .ok (.aload_n 0, 1) := by decide +kernel
theorem dX4_requireObservable_1 : decode cX4_requireObservable 1 = .ok (.getfield 41, 3) := by decide +kernel
theorem dX4_requireObservable_4 : decode cX4_requireObservable 4 = .ok (.iload_n 1, 1) := by decide +kernel
theorem dX4_requireObservable_5 : decode cX4_requireObservable 5 = .ok (.invokevirtual 139, 3) := by decide +kernel
theorem dX4_requireObservable_8 : decode cX4_requireObservable 8 = .ok (.ifCond .ne 13, 3) := by decide +kernel
theorem dX4_requireObservable_11 : decode cX4_requireObservable 11 = .ok (.new 68, 3) := by decide +kernel
theorem dX4_requireObservable_14 : decode cX4_requireObservable 14 = .ok (.dup, 1) := by decide +kernel
theorem dX4_requireObservable_15 : decode cX4_requireObservable 15 = .ok (.ldc 198, 2) := by decide +kernel
theorem dX4_requireObservable_17 : decode cX4_requireObservable 17 = .ok (.invokespecial 72, 3) := by decide +kernel
theorem dX4_requireObservable_20 : decode cX4_requireObservable 20 = .ok (.athrow, 1) := by decide +kernel
theorem dX4_requireObservable_21 : decode cX4_requireObservable 21 = .ok (.return_, 1) := by decide +kernel
theorem dX4_commonDivisor_0 : decode cX4_commonDivisor 0 = .ok (.lload_n 2, 1) := by decide +kernel
theorem dX4_commonDivisor_1 : decode cX4_commonDivisor 1 = .ok (.invokestatic 200, 3) := by decide +kernel
theorem dX4_commonDivisor_4 : decode cX4_commonDivisor 4 = .ok (.lstore 4, 2) := by decide +kernel
theorem dX4_commonDivisor_6 : decode cX4_commonDivisor 6 = .ok (.lload_n 0, 1) := by decide +kernel
theorem dX4_commonDivisor_7 : decode cX4_commonDivisor 7 = .ok (.invokestatic 200, 3) := by decide +kernel
theorem dX4_commonDivisor_10 : decode cX4_commonDivisor 10 = .ok (.lstore 6, 2) := by decide +kernel
theorem dX4_commonDivisor_12 : decode cX4_commonDivisor 12 = .ok (.iconst 0, 1) := by decide +kernel
theorem dX4_commonDivisor_13 : decode cX4_commonDivisor 13 = .ok (.istore 8, 2) := by decide +kernel
theorem dX4_commonDivisor_15 : decode cX4_commonDivisor 15 = .ok (.iload 8, 2) := by decide +kernel
theorem dX4_commonDivisor_17 : decode cX4_commonDivisor 17 = .ok (.sipush 1000, 3) := by decide +kernel
theorem dX4_commonDivisor_20 : decode cX4_commonDivisor 20 = .ok (.if_icmp .ge 31, 3) := by decide +kernel
theorem dX4_commonDivisor_23 : decode cX4_commonDivisor 23 = .ok (.lload 6, 2) := by decide +kernel
theorem dX4_commonDivisor_25 : decode cX4_commonDivisor 25 = .ok (.lconst 0, 1) := by decide +kernel
theorem dX4_commonDivisor_26 : decode cX4_commonDivisor 26 = .ok (.lcmp, 1) := by decide +kernel
theorem dX4_commonDivisor_27 : decode cX4_commonDivisor 27 = .ok (.ifCond .eq 24, 3) := by decide +kernel
theorem dX4_commonDivisor_30 : decode cX4_commonDivisor 30 = .ok (.lload 4, 2) := by decide +kernel
theorem dX4_commonDivisor_32 : decode cX4_commonDivisor 32 = .ok (.lload 6, 2) := by decide +kernel
theorem dX4_commonDivisor_34 : decode cX4_commonDivisor 34 = .ok (.lrem, 1) := by decide +kernel
theorem dX4_commonDivisor_35 : decode cX4_commonDivisor 35 = .ok (.lstore 9, 2) := by decide +kernel
theorem dX4_commonDivisor_37 : decode cX4_commonDivisor 37 = .ok (.lload 6, 2) := by decide +kernel
theorem dX4_commonDivisor_39 : decode cX4_commonDivisor 39 = .ok (.lstore 4, 2) := by decide +kernel
theorem dX4_commonDivisor_41 : decode cX4_commonDivisor 41 = .ok (.lload 9, 2) := by decide +kernel
theorem dX4_commonDivisor_43 : decode cX4_commonDivisor 43 = .ok (.lstore 6, 2) := by decide +kernel
theorem dX4_commonDivisor_45 : decode cX4_commonDivisor 45 = .ok (.iinc 8 1, 3) := by decide +kernel
theorem dX4_commonDivisor_48 : decode cX4_commonDivisor 48 = .ok (.goto (-33), 3) := by decide +kernel
theorem dX4_commonDivisor_51 : decode cX4_commonDivisor 51 = .ok (.lconst 1, 1) := by decide +kernel
theorem dX4_commonDivisor_52 : decode cX4_commonDivisor 52 = .ok (.lload 4, 2) := by decide +kernel
theorem dX4_commonDivisor_54 : decode cX4_commonDivisor 54 = .ok (.invokestatic 204, 3) := by decide +kernel
theorem dX4_commonDivisor_57 : decode cX4_commonDivisor 57 = .ok (.lreturn, 1) := by decide +kernel
theorem dJ6_bitCount_0f7a4_0 : decode cJ6_bitCount_0f7a4 0 = .ok (.iload_n 0, 1) := by decide +kernel
theorem dJ6_bitCount_0f7a4_1 : decode cJ6_bitCount_0f7a4 1 = .ok (.iload_n 0, 1) := by decide +kernel
theorem dJ6_bitCount_0f7a4_2 : decode cJ6_bitCount_0f7a4 2 = .ok (.iconst 1, 1) := by decide +kernel
theorem dJ6_bitCount_0f7a4_3 : decode cJ6_bitCount_0f7a4 3 = .ok (.iushr, 1) := by decide +kernel
theorem dJ6_bitCount_0f7a4_4 : decode cJ6_bitCount_0f7a4 4 = .ok (.ldc_w 265, 3) := by decide +kernel
theorem dJ6_bitCount_0f7a4_7 : decode cJ6_bitCount_0f7a4 7 = .ok (.iand, 1) := by decide +kernel
theorem dJ6_bitCount_0f7a4_8 : decode cJ6_bitCount_0f7a4 8 = .ok (.isub, 1) := by decide +kernel
theorem dJ6_bitCount_0f7a4_9 : decode cJ6_bitCount_0f7a4 9 = .ok (.istore_n 0, 1) := by decide +kernel
theorem dJ6_bitCount_0f7a4_10 : decode cJ6_bitCount_0f7a4 10 = .ok (.iload_n 0, 1) := by decide +kernel
theorem dJ6_bitCount_0f7a4_11 : decode cJ6_bitCount_0f7a4 11 = .ok (.ldc_w 266, 3) := by decide +kernel
theorem dJ6_bitCount_0f7a4_14 : decode cJ6_bitCount_0f7a4 14 = .ok (.iand, 1) := by decide +kernel
theorem dJ6_bitCount_0f7a4_15 : decode cJ6_bitCount_0f7a4 15 = .ok (.iload_n 0, 1) := by decide +kernel
theorem dJ6_bitCount_0f7a4_16 : decode cJ6_bitCount_0f7a4 16 = .ok (.iconst 2, 1) := by decide +kernel
theorem dJ6_bitCount_0f7a4_17 : decode cJ6_bitCount_0f7a4 17 = .ok (.iushr, 1) := by decide +kernel
theorem dJ6_bitCount_0f7a4_18 : decode cJ6_bitCount_0f7a4 18 = .ok (.ldc_w 266, 3) := by decide +kernel
theorem dJ6_bitCount_0f7a4_21 : decode cJ6_bitCount_0f7a4 21 = .ok (.iand, 1) := by decide +kernel
theorem dJ6_bitCount_0f7a4_22 : decode cJ6_bitCount_0f7a4 22 = .ok (.iadd, 1) := by decide +kernel
theorem dJ6_bitCount_0f7a4_23 : decode cJ6_bitCount_0f7a4 23 = .ok (.istore_n 0, 1) := by decide +kernel
theorem dJ6_bitCount_0f7a4_24 : decode cJ6_bitCount_0f7a4 24 = .ok (.iload_n 0, 1) := by decide +kernel
theorem dJ6_bitCount_0f7a4_25 : decode cJ6_bitCount_0f7a4 25 = .ok (.iload_n 0, 1) := by decide +kernel
theorem dJ6_bitCount_0f7a4_26 : decode cJ6_bitCount_0f7a4 26 = .ok (.iconst 4, 1) := by decide +kernel
theorem dJ6_bitCount_0f7a4_27 : decode cJ6_bitCount_0f7a4 27 = .ok (.iushr, 1) := by decide +kernel
theorem dJ6_bitCount_0f7a4_28 : decode cJ6_bitCount_0f7a4 28 = .ok (.iadd, 1) := by decide +kernel
theorem dJ6_bitCount_0f7a4_29 : decode cJ6_bitCount_0f7a4 29 = .ok (.ldc_w 267, 3) := by decide +kernel
theorem dJ6_bitCount_0f7a4_32 : decode cJ6_bitCount_0f7a4 32 = .ok (.iand, 1) := by decide +kernel
theorem dJ6_bitCount_0f7a4_33 : decode cJ6_bitCount_0f7a4 33 = .ok (.istore_n 0, 1) := by decide +kernel
theorem dJ6_bitCount_0f7a4_34 : decode cJ6_bitCount_0f7a4 34 = .ok (.iload_n 0, 1) := by decide +kernel
theorem dJ6_bitCount_0f7a4_35 : decode cJ6_bitCount_0f7a4 35 = .ok (.iload_n 0, 1) := by decide +kernel
theorem dJ6_bitCount_0f7a4_36 : decode cJ6_bitCount_0f7a4 36 = .ok (.bipush 8, 2) := by decide +kernel
theorem dJ6_bitCount_0f7a4_38 : decode cJ6_bitCount_0f7a4 38 = .ok (.iushr, 1) := by decide +kernel
theorem dJ6_bitCount_0f7a4_39 : decode cJ6_bitCount_0f7a4 39 = .ok (.iadd, 1) := by decide +kernel
theorem dJ6_bitCount_0f7a4_40 : decode cJ6_bitCount_0f7a4 40 = .ok (.istore_n 0, 1) := by decide +kernel
theorem dJ6_bitCount_0f7a4_41 : decode cJ6_bitCount_0f7a4 41 = .ok (.iload_n 0, 1) := by decide +kernel
theorem dJ6_bitCount_0f7a4_42 : decode cJ6_bitCount_0f7a4 42 = .ok (.iload_n 0, 1) := by decide +kernel
theorem dJ6_bitCount_0f7a4_43 : decode cJ6_bitCount_0f7a4 43 = .ok (.bipush 16, 2) := by decide +kernel
theorem dJ6_bitCount_0f7a4_45 : decode cJ6_bitCount_0f7a4 45 = .ok (.iushr, 1) := by decide +kernel
theorem dJ6_bitCount_0f7a4_46 : decode cJ6_bitCount_0f7a4 46 = .ok (.iadd, 1) := by decide +kernel
theorem dJ6_bitCount_0f7a4_47 : decode cJ6_bitCount_0f7a4 47 = .ok (.istore_n 0, 1) := by decide +kernel
theorem dJ6_bitCount_0f7a4_48 : decode cJ6_bitCount_0f7a4 48 = .ok (.iload_n 0, 1) := by decide +kernel
theorem dJ6_bitCount_0f7a4_49 : decode cJ6_bitCount_0f7a4 49 = .ok (.bipush 63, 2) := by decide +kernel
theorem dJ6_bitCount_0f7a4_51 : decode cJ6_bitCount_0f7a4 51 = .ok (.iand, 1) := by decide +kernel
theorem dJ6_bitCount_0f7a4_52 : decode cJ6_bitCount_0f7a4 52 = .ok (.ireturn, 1) := by decide +kernel
theorem dJ9_abs_067f4_0 : decode cJ9_abs_067f4 0 = .ok (.lload_n 0, 1) := by decide +kernel
theorem dJ9_abs_067f4_1 : decode cJ9_abs_067f4 1 = .ok (.lconst 0, 1) := by decide +kernel
theorem dJ9_abs_067f4_2 : decode cJ9_abs_067f4 2 = .ok (.lcmp, 1) := by decide +kernel
theorem dJ9_abs_067f4_3 : decode cJ9_abs_067f4 3 = .ok (.ifCond .ge 8, 3) := by decide +kernel
theorem dJ9_abs_067f4_6 : decode cJ9_abs_067f4 6 = .ok (.lload_n 0, 1) := by decide +kernel
theorem dJ9_abs_067f4_7 : decode cJ9_abs_067f4 7 = .ok (.lneg, 1) := by decide +kernel
theorem dJ9_abs_067f4_8 : decode cJ9_abs_067f4 8 = .ok (.goto 4, 3) := by decide +kernel
theorem dJ9_abs_067f4_11 : decode cJ9_abs_067f4 11 = .ok (.lload_n 0, 1) := by decide +kernel
theorem dJ9_abs_067f4_12 : decode cJ9_abs_067f4 12 = .ok (.lreturn, 1) := by decide +kernel
theorem dJ9_max_7cf53_0 : decode cJ9_max_7cf53 0 = .ok (.iload_n 0, 1) := by decide +kernel
theorem dJ9_max_7cf53_1 : decode cJ9_max_7cf53 1 = .ok (.iload_n 1, 1) := by decide +kernel
theorem dJ9_max_7cf53_2 : decode cJ9_max_7cf53 2 = .ok (.if_icmp .lt 7, 3) := by decide +kernel
theorem dJ9_max_7cf53_5 : decode cJ9_max_7cf53 5 = .ok (.iload_n 0, 1) := by decide +kernel
theorem dJ9_max_7cf53_6 : decode cJ9_max_7cf53 6 = .ok (.goto 4, 3) := by decide +kernel
theorem dJ9_max_7cf53_9 : decode cJ9_max_7cf53 9 = .ok (.iload_n 1, 1) := by decide +kernel
theorem dJ9_max_7cf53_10 : decode cJ9_max_7cf53 10 = .ok (.ireturn, 1) := by decide +kernel
theorem dJ9_max_f86c9_0 : decode cJ9_max_f86c9 0 = .ok (.lload_n 0, 1) := by decide +kernel
theorem dJ9_max_f86c9_1 : decode cJ9_max_f86c9 1 = .ok (.lload_n 2, 1) := by decide +kernel
theorem dJ9_max_f86c9_2 : decode cJ9_max_f86c9 2 = .ok (.lcmp, 1) := by decide +kernel
theorem dJ9_max_f86c9_3 : decode cJ9_max_f86c9 3 = .ok (.ifCond .lt 7, 3) := by decide +kernel
theorem dJ9_max_f86c9_6 : decode cJ9_max_f86c9 6 = .ok (.lload_n 0, 1) := by decide +kernel
theorem dJ9_max_f86c9_7 : decode cJ9_max_f86c9 7 = .ok (.goto 4, 3) := by decide +kernel
theorem dJ9_max_f86c9_10 : decode cJ9_max_f86c9 10 = .ok (.lload_n 2, 1) := by decide +kernel
theorem dJ9_max_f86c9_11 : decode cJ9_max_f86c9 11 = .ok (.lreturn, 1) := by decide +kernel
theorem dJ9_min_7cf53_0 : decode cJ9_min_7cf53 0 = .ok (.iload_n 0, 1) := by decide +kernel
theorem dJ9_min_7cf53_1 : decode cJ9_min_7cf53 1 = .ok (.iload_n 1, 1) := by decide +kernel
theorem dJ9_min_7cf53_2 : decode cJ9_min_7cf53 2 = .ok (.if_icmp .gt 7, 3) := by decide +kernel
theorem dJ9_min_7cf53_5 : decode cJ9_min_7cf53 5 = .ok (.iload_n 0, 1) := by decide +kernel
theorem dJ9_min_7cf53_6 : decode cJ9_min_7cf53 6 = .ok (.goto 4, 3) := by decide +kernel
theorem dJ9_min_7cf53_9 : decode cJ9_min_7cf53 9 = .ok (.iload_n 1, 1) := by decide +kernel
theorem dJ9_min_7cf53_10 : decode cJ9_min_7cf53 10 = .ok (.ireturn, 1) := by decide +kernel
