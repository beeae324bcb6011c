theorem wl_app {big a b : List Cond} (ha : ∀ w ∈ a, w ∈ big) (hb : ∀ w ∈ b, w ∈ big) : ∀ w ∈ a ++ b, w ∈ big := fun w h => (List.mem_append.mp h).elim (ha w) (hb w)
set_option maxRecDepth 20000 in
theorem wl_wsL_law0_r1 : ∀ w ∈ wsL_law0_r1, w ∈ lw_tbl := fun w h => (goodIn_p wsL_law0_r1 [214, 39, 42] (by decide +kernel) (by decide +kernel) w h).1
set_option maxRecDepth 20000 in
theorem wl_wsL_law0_r2 : ∀ w ∈ wsL_law0_r2, w ∈ lw_tbl := fun w h => (goodIn_p wsL_law0_r2 [47, 50, 53] (by decide +kernel) (by decide +kernel) w h).1
set_option maxRecDepth 20000 in
theorem wl_wsL_law0_r3 : ∀ w ∈ wsL_law0_r3, w ∈ lw_tbl := fun w h => (goodIn_p wsL_law0_r3 [60, 64, 68] (by decide +kernel) (by decide +kernel) w h).1
set_option maxRecDepth 20000 in
theorem wl_wsL_law0_r4 : ∀ w ∈ wsL_law0_r4, w ∈ lw_tbl := fun w h => (goodIn_p wsL_law0_r4 [73, 77, 119, 153] (by decide +kernel) (by decide +kernel) w h).1
set_option maxRecDepth 20000 in
theorem wl_wsL_law0_r5 : ∀ w ∈ wsL_law0_r5, w ∈ lw_tbl := fun w h => (goodIn_p wsL_law0_r5 [172, 621] (by decide +kernel) (by decide +kernel) w h).1
set_option maxRecDepth 20000 in
theorem wl_wsL_law0_r6 : ∀ w ∈ wsL_law0_r6, w ∈ lw_tbl := fun w h => (goodIn_p wsL_law0_r6 [229, 233, 237, 326] (by decide +kernel) (by decide +kernel) w h).1
set_option maxRecDepth 20000 in
theorem wl_wsL_law0_r7 : ∀ w ∈ wsL_law0_r7, w ∈ lw_tbl := fun w h => (goodIn_p wsL_law0_r7 [346, 351, 361, 365, 370] (by decide +kernel) (by decide +kernel) w h).1
set_option maxRecDepth 20000 in
theorem wl_wsL_law0_r8 : ∀ w ∈ wsL_law0_r8, w ∈ lw_tbl := fun w h => (goodIn_p wsL_law0_r8 [384, 389, 396, 401, 408] (by decide +kernel) (by decide +kernel) w h).1
set_option maxRecDepth 20000 in
theorem wl_wsL_law0_r9 : ∀ w ∈ wsL_law0_r9, w ∈ lw_tbl := fun w h => (goodIn_p wsL_law0_r9 [412, 416, 424, 609] (by decide +kernel) (by decide +kernel) w h).1
set_option maxRecDepth 20000 in
theorem wl_wsL_law0_r10 : ∀ w ∈ wsL_law0_r10, w ∈ lw_tbl := fun w h => (goodIn_p wsL_law0_r10 [513, 478, 450, 454, 435, 439] (by decide +kernel) (by decide +kernel) w h).1
set_option maxRecDepth 20000 in
theorem wl_wsL_law0_r11 : ∀ w ∈ wsL_law0_r11, w ∈ lw_tbl := fun w h => (goodIn_p wsL_law0_r11 [459, 463, 467, 483, 487, 614] (by decide +kernel) (by decide +kernel) w h).1
set_option maxRecDepth 20000 in
theorem wl_wsL_law0_r12 : ∀ w ∈ wsL_law0_r12, w ∈ lw_tbl := fun w h => (goodIn_p wsL_law0_r12 [518, 522, 528, 533, 536] (by decide +kernel) (by decide +kernel) w h).1
set_option maxRecDepth 20000 in
theorem wl_wsL_law0_r13 : ∀ w ∈ wsL_law0_r13, w ∈ lw_tbl := fun w h => (goodIn_p wsL_law0_r13 [543, 596, 600, 549, 578, 618] (by decide +kernel) (by decide +kernel) w h).1
set_option maxRecDepth 20000 in
theorem wl_wsL_law0_r14_0 : ∀ w ∈ ([Cond.instanceMethod yX3_needs, Cond.selects RX3 yX3_needs yX3_needs, Cond.code yX3_needs cX3_needs 4 (some .boolean), Cond.methodLink RL 153 yL_refuses, Cond.static yL_refuses] : List Cond), w ∈ lw_tbl := fun w h => (goodIn_p [Cond.instanceMethod yX3_needs, Cond.selects RX3 yX3_needs yX3_needs, Cond.code yX3_needs cX3_needs 4 (some .boolean), Cond.methodLink RL 153 yL_refuses, Cond.static yL_refuses] [498] (by decide +kernel) (by decide +kernel) w h).1
set_option maxRecDepth 20000 in
theorem wl_wsL_law0_r14_1 : ∀ w ∈ [Cond.code yL_refuses cL_refuses 8 (some .boolean)], w ∈ lw_tbl := fun w h => by rw [List.mem_singleton.mp h]; exact List.mem_of_getElem? (i := 219) rfl
set_option maxRecDepth 20000 in
theorem wl_wsL_law0_r14_2 : ∀ w ∈ ([Cond.constantLong RL 58 (-4000000000000000001), Cond.constantLong RL 60 (-4000000000000000003), Cond.methodLink RL 89 yL_reference, Cond.static yL_reference, Cond.codeWith yL_reference cL_reference 3 (some .int) [(0, 5, 6, 13)], Cond.methodLink RL 26 yX4_reference, Cond.instanceMethod yX4_reference, Cond.selects RX4 yX4_reference yX4_reference, Cond.code yX4_reference cX4_reference 2 (some .int), Cond.methodLink RL 103 yL_counts, Cond.static yL_counts, Cond.codeWith yL_counts cL_counts 3 (some .int) [(0, 5, 6, 13)], Cond.methodLink RL 41 yX4_countsIn, Cond.instanceMethod yX4_countsIn, Cond.selects RX4 yX4_countsIn yX4_countsIn, Cond.code yX4_countsIn cX4_countsIn 2 (some .int), Cond.methodLink RX4 132 yX2_islandOf, Cond.methodLink RL 106 yL_rank] : List Cond), w ∈ lw_tbl := fun w h => (goodIn_p [Cond.constantLong RL 58 (-4000000000000000001), Cond.constantLong RL 60 (-4000000000000000003), Cond.methodLink RL 89 yL_reference, Cond.static yL_reference, Cond.codeWith yL_reference cL_reference 3 (some .int) [(0, 5, 6, 13)], Cond.methodLink RL 26 yX4_reference, Cond.instanceMethod yX4_reference, Cond.selects RX4 yX4_reference yX4_reference, Cond.code yX4_reference cX4_reference 2 (some .int), Cond.methodLink RL 103 yL_counts, Cond.static yL_counts, Cond.codeWith yL_counts cL_counts 3 (some .int) [(0, 5, 6, 13)], Cond.methodLink RL 41 yX4_countsIn, Cond.instanceMethod yX4_countsIn, Cond.selects RX4 yX4_countsIn yX4_countsIn, Cond.code yX4_countsIn cX4_countsIn 2 (some .int), Cond.methodLink RX4 132 yX2_islandOf, Cond.methodLink RL 106 yL_rank] [377, 431] (by decide +kernel) (by decide +kernel) w h).1
theorem wl_wsL_law0_r14 : ∀ w ∈ wsL_law0_r14, w ∈ lw_tbl := (wl_app wl_wsL_law0_r14_0 (wl_app wl_wsL_law0_r14_1 wl_wsL_law0_r14_2))
set_option maxRecDepth 20000 in
theorem wl_wsL_law0_r15 : ∀ w ∈ wsL_law0_r15, w ∈ lw_tbl := fun w h => (goodIn_p wsL_law0_r15 [446, 474, 494] (by decide +kernel) (by decide +kernel) w h).1
set_option maxRecDepth 20000 in
theorem wl_wsL_law0_r16 : ∀ w ∈ wsL_law0_r16, w ∈ lw_tbl := fun w h => (goodIn_p wsL_law0_r16 [505, 509, 546, 552, 561] (by decide +kernel) (by decide +kernel) w h).1
set_option maxRecDepth 20000 in
theorem wl_wsL_law0_r17 : ∀ w ∈ wsL_law0_r17, w ∈ lw_tbl := fun w h => (goodIn_p wsL_law0_r17 [568, 572, 585] (by decide +kernel) (by decide +kernel) w h).1
set_option maxRecDepth 20000 in
theorem wl_wsL_law0_r18_0 : ∀ w ∈ ([Cond.code yX4_worst cX4_worst 2 (some .int), Cond.methodLink RL 157 yL_alike, Cond.static yL_alike] : List Cond), w ∈ lw_tbl := fun w h => (goodIn_p [Cond.code yX4_worst cX4_worst 2 (some .int), Cond.methodLink RL 157 yL_alike, Cond.static yL_alike] [592] (by decide +kernel) (by decide +kernel) w h).1
set_option maxRecDepth 20000 in
theorem wl_wsL_law0_r18_1 : ∀ w ∈ [Cond.code yL_alike cL_alike 8 (some .boolean)], w ∈ lw_tbl := fun w h => by rw [List.mem_singleton.mp h]; exact List.mem_of_getElem? (i := 624) rfl
set_option maxRecDepth 20000 in
theorem wl_wsL_law0_r18_2 : ∀ w ∈ ([Cond.methodLink RL 132 yX4_islands, Cond.instanceMethod yX4_islands, Cond.selects RX4 yX4_islands yX4_islands, Cond.code yX4_islands cX4_islands 3 (some .int), Cond.methodLink RL 161 yL_holds, Cond.static yL_holds] : List Cond), w ∈ lw_tbl := fun w h => (goodIn_p [Cond.methodLink RL 132 yX4_islands, Cond.instanceMethod yX4_islands, Cond.selects RX4 yX4_islands yX4_islands, Cond.code yX4_islands cX4_islands 3 (some .int), Cond.methodLink RL 161 yL_holds, Cond.static yL_holds] [628] (by decide +kernel) (by decide +kernel) w h).1
set_option maxRecDepth 20000 in
theorem wl_wsL_law0_r18_3 : ∀ w ∈ [Cond.code yL_holds cL_holds 10 (some .boolean)], w ∈ lw_tbl := fun w h => by rw [List.mem_singleton.mp h]; exact List.mem_of_getElem? (i := 638) rfl
set_option maxRecDepth 20000 in
theorem wl_wsL_law0_r18_4 : ∀ w ∈ ([Cond.methodLink RL 167 yL_vanishes, Cond.static yL_vanishes] : List Cond), w ∈ lw_tbl := fun w h => (goodIn_p [Cond.methodLink RL 167 yL_vanishes, Cond.static yL_vanishes] [] (by decide +kernel) (by decide +kernel) w h).1
set_option maxRecDepth 20000 in
theorem wl_wsL_law0_r18_5 : ∀ w ∈ [Cond.code yL_vanishes cL_vanishes 18 (some .boolean)], w ∈ lw_tbl := fun w h => by rw [List.mem_singleton.mp h]; exact List.mem_of_getElem? (i := 631) rfl
set_option maxRecDepth 20000 in
theorem wl_wsL_law0_r18_6 : ∀ w ∈ ([Cond.methodLink RL 138 yL_power, Cond.static yL_power, Cond.code yL_power cL_power 10 (some .long), Cond.constantLong RL 136 (2)] : List Cond), w ∈ lw_tbl := fun w h => (goodIn_p [Cond.methodLink RL 138 yL_power, Cond.static yL_power, Cond.code yL_power cL_power 10 (some .long), Cond.constantLong RL 136 (2)] [634] (by decide +kernel) (by decide +kernel) w h).1
theorem wl_wsL_law0_r18 : ∀ w ∈ wsL_law0_r18, w ∈ lw_tbl := (wl_app wl_wsL_law0_r18_0 (wl_app wl_wsL_law0_r18_1 (wl_app wl_wsL_law0_r18_2 (wl_app wl_wsL_law0_r18_3 (wl_app wl_wsL_law0_r18_4 (wl_app wl_wsL_law0_r18_5 wl_wsL_law0_r18_6))))))
theorem wl_wsX40 : ∀ w ∈ wsX40, w ∈ lw_tbl := by decide +kernel
theorem wl_wsX10 : ∀ w ∈ wsX10, w ∈ lw_tbl := by decide +kernel
theorem wl_wsX20 : ∀ w ∈ wsX20, w ∈ lw_tbl := by decide +kernel
theorem wl_wsX30 : ∀ w ∈ wsX30, w ∈ lw_tbl := by decide +kernel
theorem wl_wsX00 : ∀ w ∈ wsX00, w ∈ lw_tbl := by decide +kernel
theorem wsL_law_in0 : ∀ w ∈ wsL_law0, w ∈ lw_tbl := wl_app (wl_app (wl_app (wl_app (wl_app (wl_app (wl_app wl_wsL_law0_r1 (wl_app wl_wsL_law0_r2 (wl_app wl_wsL_law0_r3 (wl_app wl_wsL_law0_r4 (wl_app wl_wsL_law0_r5 (wl_app wl_wsL_law0_r6 (wl_app wl_wsL_law0_r7 (wl_app wl_wsL_law0_r8 (wl_app wl_wsL_law0_r9 (wl_app wl_wsL_law0_r10 (wl_app wl_wsL_law0_r11 (wl_app wl_wsL_law0_r12 (wl_app wl_wsL_law0_r13 (wl_app wl_wsL_law0_r14 (wl_app wl_wsL_law0_r15 (wl_app wl_wsL_law0_r16 (wl_app wl_wsL_law0_r17 wl_wsL_law0_r18))))))))))))))))) wl_wsX40) wl_wsX10) wl_wsX20) wl_wsX30) wl_wsX00) (fun _ h => nomatch h)
theorem wsL_law_x0 : ∀ w ∈ (vx_atS RX4 59 "java/lang/IllegalArgumentException" ["java/lang/RuntimeException", "java/lang/Exception"]).filter goodWord, w ∈ lw_tbl := by decide +kernel
theorem wsL_law_x1 : ∀ w ∈ (vx_atS RX4 72 "java/lang/IllegalStateException" ["java/lang/RuntimeException", "java/lang/Exception"]).filter goodWord, w ∈ lw_tbl := by decide +kernel
theorem wsL_law_x2 : ∀ w ∈ (vx_atS RX4 91 "java/lang/IndexOutOfBoundsException" ["java/lang/RuntimeException", "java/lang/Exception"]).filter goodWord, w ∈ lw_tbl := by decide +kernel
theorem wsL_law_in : ∀ w ∈ wsL_law, w ∈ lw_tbl := fun w h => (List.mem_append.mp h).elim (fun h => (List.mem_append.mp h).elim (fun h => (List.mem_append.mp h).elim (fun h => wsL_law_in0 w h) (fun h => wsL_law_x0 w h)) (fun h => wsL_law_x1 w h)) (fun h => wsL_law_x2 w h)
theorem inlX0 : ∀ w ∈ wsX00, w ∈ wsL_law := fun _ h => List.mem_append_left _ (List.mem_append_left _ (List.mem_append_left _ (List.mem_append_left _ (List.mem_append_right _ h))))
theorem inX0 : ∀ w ∈ wsX00, w ∈ lw_tbl := fun w h => wsL_law_in w (inlX0 w h)
theorem inlX1 : ∀ w ∈ wsX10, w ∈ wsL_law := fun _ h => List.mem_append_left _ (List.mem_append_left _ (List.mem_append_left _ (List.mem_append_left _ (List.mem_append_left _ (List.mem_append_left _ (List.mem_append_left _ (List.mem_append_right _ h)))))))
theorem inX1 : ∀ w ∈ wsX10, w ∈ lw_tbl := fun w h => wsL_law_in w (inlX1 w h)
theorem inlX2 : ∀ w ∈ wsX20, w ∈ wsL_law := fun _ h => List.mem_append_left _ (List.mem_append_left _ (List.mem_append_left _ (List.mem_append_left _ (List.mem_append_left _ (List.mem_append_left _ (List.mem_append_right _ h))))))
theorem inX2 : ∀ w ∈ wsX20, w ∈ lw_tbl := fun w h => wsL_law_in w (inlX2 w h)
theorem inlX3 : ∀ w ∈ wsX30, w ∈ wsL_law := fun _ h => List.mem_append_left _ (List.mem_append_left _ (List.mem_append_left _ (List.mem_append_left _ (List.mem_append_left _ (List.mem_append_right _ h)))))
theorem inX3 : ∀ w ∈ wsX30, w ∈ lw_tbl := fun w h => wsL_law_in w (inlX3 w h)
theorem inlX4 : ∀ w ∈ wsX40, w ∈ wsL_law := fun _ h => List.mem_append_left _ (List.mem_append_left _ (List.mem_append_left _ (List.mem_append_left _ (List.mem_append_left _ (List.mem_append_left _ (List.mem_append_left _ (List.mem_append_left _ (List.mem_append_right _ h))))))))
theorem inX4 : ∀ w ∈ wsX40, w ∈ lw_tbl := fun w h => wsL_law_in w (inlX4 w h)
theorem inX5 : ∀ w ∈ wsX50, w ∈ lw_tbl := by decide +kernel
theorem inJ6 : ∀ w ∈ wsJ60, w ∈ lw_tbl := by decide +kernel
theorem inJ9 : ∀ w ∈ wsJ90, w ∈ lw_tbl := by decide +kernel
theorem inJ0 : ∀ w ∈ wsJ00, w ∈ lw_tbl := by decide +kernel
theorem dX0_init_0 : decode cX0_init 0 = .ok (.aload_n 0, 1) := by decide +kernel
theorem dX0_init_1 : decode cX0_init 1 = .ok (.invokespecial 3, 3) := by decide +kernel
theorem dX0_init_4 : decode cX0_init 4 = .ok (.aload_n 0, 1) := by decide +kernel
theorem dX0_init_5 : decode cX0_init 5 = .ok (.iconst 5, 1) := by decide +kernel
theorem dX0_init_6 : decode cX0_init 6 = .ok (.iconst 5, 1) := by decide +kernel
theorem dX0_init_7 : decode cX0_init 7 = .ok (.multianewarray 9 2, 4) := by decide +kernel
theorem dX0_init_11 : decode cX0_init 11 = .ok (.putfield 11, 3) := by decide +kernel
theorem dX0_init_14 : decode cX0_init 14 = .ok (.aload_n 0, 1) := by decide +kernel
theorem dX0_init_15 : decode cX0_init 15 = .ok (.iconst 5, 1) := by decide +kernel
theorem dX0_init_16 : decode cX0_init 16 = .ok (.newarray .long, 2) := by decide +kernel
theorem dX0_init_18 : decode cX0_init 18 = .ok (.putfield 16, 3) := by decide +kernel
theorem dX0_init_21 : decode cX0_init 21 = .ok (.aload_n 0, 1) := by decide +kernel
theorem dX0_init_22 : decode cX0_init 22 = .ok (.bipush 32, 2) := by decide +kernel
theorem dX0_init_24 : decode cX0_init 24 = .ok (.newarray .long, 2) := by decide +kernel
theorem dX0_init_26 : decode cX0_init 26 = .ok (.putfield 20, 3) := by decide +kernel
theorem dX0_init_29 : decode cX0_init 29 = .ok (.aload_n 0, 1) := by decide +kernel
theorem dX0_init_30 : decode cX0_init 30 = .ok (.iconst 5, 1) := by decide +kernel
theorem dX0_init_31 : decode cX0_init 31 = .ok (.newarray .long, 2) := by decide +kernel
theorem dX0_init_33 : decode cX0_init 33 = .ok (.putfield 23, 3) := by decide +kernel
theorem dX0_init_36 : decode cX0_init 36 = .ok (.aload_n 0, 1) := by decide +kernel
theorem dX0_init_37 : decode cX0_init 37 = .ok (.lconst 1, 1) := by decide +kernel
theorem dX0_init_38 : decode cX0_init 38 = .ok (.putfield 26, 3) := by decide +kernel
theorem dX0_init_41 : decode cX0_init 41 = .ok (.aload_n 0, 1) := by decide +kernel
theorem dX0_init_42 : decode cX0_init 42 = .ok (.aload_n 1, 1) := by decide +kernel
theorem dX0_init_43 : decode cX0_init 43 = .ok (.putfield 30, 3) := by decide +kernel
theorem dX0_init_46 : decode cX0_init 46 = .ok (.aload_n 0, 1) := by decide +kernel
theorem dX0_init_47 : decode cX0_init 47 = .ok (.aload_n 2, 1) := by decide +kernel
theorem dX0_init_48 : decode cX0_init 48 = .ok (.putfield 34, 3) := by decide +kernel
theorem dX0_init_51 : decode cX0_init 51 = .ok (.return_, 1) := by decide +kernel
set_option maxRecDepth 20000 in
theorem ggX0_solve_X0_startEquations : GoodIn wsX0_solve wsX0_startEquations := goodIn_r _ [8, 9, 10, 11, 12, 13, 14, 15, 16, 17, 55, 56, 57, 58, 59, 60, 61, 69, 70, 71, 72, 73, 74, 75, 76, 77] (by decide +kernel) (by decide +kernel)
set_option maxRecDepth 20000 in
theorem gX0_solve_X0_startEquations : GoodIn wsX0_solve (wsV RX0 38 RX0 yX0_startEquations wsX0_startEquations) := goodIn_app (goodIn_of _ (by decide +kernel)) ggX0_solve_X0_startEquations
set_option maxRecDepth 20000 in
theorem ggX0_solve_X2_islandOf : GoodIn wsX0_solve wsX2_islandOf := goodIn_r _ [22, 23, 24, 25, 26, 21, 27, 28, 29, 30, 62, 63, 64, 65, 66, 67, 68, 69, 70, 71, 72, 73, 74, 75, 76, 77] (by decide +kernel) (by decide +kernel)
set_option maxRecDepth 20000 in
theorem gX0_solve_X2_islandOf : GoodIn wsX0_solve (wsV RX0 48 RX2 yX2_islandOf wsX2_islandOf) := goodIn_app (goodIn_of _ (by decide +kernel)) ggX0_solve_X2_islandOf
set_option maxRecDepth 20000 in
theorem ggX0_solve_X0_addToEquations : GoodIn wsX0_solve wsX0_addToEquations := goodIn_r _ [34, 1, 10, 11, 9, 12, 13, 14, 15, 16, 17, 35, 36, 37, 21, 38, 28, 29, 30, 55, 56, 57, 58, 59, 60, 61, 62, 63, 64, 65, 66, 67, 68, 69, 70, 71, 72, 73, 74, 75, 76, 77] (by decide +kernel) (by decide +kernel)
set_option maxRecDepth 20000 in
theorem gX0_solve_X0_addToEquations : GoodIn wsX0_solve (wsV RX0 52 RX0 yX0_addToEquations wsX0_addToEquations) := goodIn_app (goodIn_of _ (by decide +kernel)) ggX0_solve_X0_addToEquations
set_option maxRecDepth 20000 in
theorem ggX0_solve_X0_determinant : GoodIn wsX0_solve wsX0_determinant := goodIn_r _ [42, 43, 44, 45, 46, 47, 48, 49, 50, 51, 52, 53, 7, 54, 11, 9, 55, 56, 57, 58, 59, 60, 61] (by decide +kernel) (by decide +kernel)
set_option maxRecDepth 20000 in
theorem gX0_solve_X0_determinant : GoodIn wsX0_solve (wsV RX0 56 RX0 yX0_determinant wsX0_determinant) := goodIn_app (goodIn_of _ (by decide +kernel)) ggX0_solve_X0_determinant
theorem dX0_solve_0 : decode cX0_solve 0 = .ok (.aload_n 0, 1) := by decide +kernel
theorem dX0_solve_1 : decode cX0_solve 1 = .ok (.iload_n 1, 1) := by decide +kernel
theorem dX0_solve_2 : decode cX0_solve 2 = .ok (.invokevirtual 38, 3) := by decide +kernel
theorem dX0_solve_5 : decode cX0_solve 5 = .ok (.iconst 0, 1) := by decide +kernel
theorem dX0_solve_6 : decode cX0_solve 6 = .ok (.istore_n 2, 1) := by decide +kernel
theorem dX0_solve_7 : decode cX0_solve 7 = .ok (.iload_n 2, 1) := by decide +kernel
theorem dX0_solve_8 : decode cX0_solve 8 = .ok (.aload_n 0, 1) := by decide +kernel
theorem dX0_solve_9 : decode cX0_solve 9 = .ok (.getfield 34, 3) := by decide +kernel
theorem dX0_solve_12 : decode cX0_solve 12 = .ok (.getfield 42, 3) := by decide +kernel
theorem dX0_solve_15 : decode cX0_solve 15 = .ok (.if_icmp .ge 27, 3) := by decide +kernel
theorem dX0_solve_18 : decode cX0_solve 18 = .ok (.aload_n 0, 1) := by decide +kernel
theorem dX0_solve_19 : decode cX0_solve 19 = .ok (.getfield 34, 3) := by decide +kernel
theorem dX0_solve_22 : decode cX0_solve 22 = .ok (.iload_n 2, 1) := by decide +kernel
theorem dX0_solve_23 : decode cX0_solve 23 = .ok (.invokevirtual 48, 3) := by decide +kernel
theorem dX0_solve_26 : decode cX0_solve 26 = .ok (.iload_n 1, 1) := by decide +kernel
theorem dX0_solve_27 : decode cX0_solve 27 = .ok (.if_icmp .ne 9, 3) := by decide +kernel
theorem dX0_solve_30 : decode cX0_solve 30 = .ok (.aload_n 0, 1) := by decide +kernel
theorem dX0_solve_31 : decode cX0_solve 31 = .ok (.iload_n 2, 1) := by decide +kernel
theorem dX0_solve_32 : decode cX0_solve 32 = .ok (.iload_n 1, 1) := by decide +kernel
theorem dX0_solve_33 : decode cX0_solve 33 = .ok (.invokevirtual 52, 3) := by decide +kernel
theorem dX0_solve_36 : decode cX0_solve 36 = .ok (.iinc 2 1, 3) := by decide +kernel
theorem dX0_solve_39 : decode cX0_solve 39 = .ok (.goto (-32), 3) := by decide +kernel
theorem dX0_solve_42 : decode cX0_solve 42 = .ok (.aload_n 0, 1) := by decide +kernel
theorem dX0_solve_43 : decode cX0_solve 43 = .ok (.aload_n 0, 1) := by decide +kernel
theorem dX0_solve_44 : decode cX0_solve 44 = .ok (.iconst (-1), 1) := by decide +kernel
theorem dX0_solve_45 : decode cX0_solve 45 = .ok (.invokevirtual 56, 3) := by decide +kernel
theorem dX0_solve_48 : decode cX0_solve 48 = .ok (.putfield 26, 3) := by decide +kernel
theorem dX0_solve_51 : decode cX0_solve 51 = .ok (.iconst 0, 1) := by decide +kernel
theorem dX0_solve_52 : decode cX0_solve 52 = .ok (.istore_n 2, 1) := by decide +kernel
theorem dX0_solve_53 : decode cX0_solve 53 = .ok (.iload_n 2, 1) := by decide +kernel
theorem dX0_solve_54 : decode cX0_solve 54 = .ok (.iconst 5, 1) := by decide +kernel
theorem dX0_solve_55 : decode cX0_solve 55 = .ok (.if_icmp .ge 20, 3) := by decide +kernel
theorem dX0_solve_58 : decode cX0_solve 58 = .ok (.aload_n 0, 1) := by decide +kernel
theorem dX0_solve_59 : decode cX0_solve 59 = .ok (.getfield 23, 3) := by decide +kernel
theorem dX0_solve_62 : decode cX0_solve 62 = .ok (.iload_n 2, 1) := by decide +kernel
theorem dX0_solve_63 : decode cX0_solve 63 = .ok (.aload_n 0, 1) := by decide +kernel
theorem dX0_solve_64 : decode cX0_solve 64 = .ok (.iload_n 2, 1) := by decide +kernel
theorem dX0_solve_65 : decode cX0_solve 65 = .ok (.invokevirtual 56, 3) := by decide +kernel
theorem dX0_solve_68 : decode cX0_solve 68 = .ok (.lastore, 1) := by decide +kernel
theorem dX0_solve_69 : decode cX0_solve 69 = .ok (.iinc 2 1, 3) := by decide +kernel
theorem dX0_solve_72 : decode cX0_solve 72 = .ok (.goto (-19), 3) := by decide +kernel
theorem dX0_solve_75 : decode cX0_solve 75 = .ok (.return_, 1) := by decide +kernel
set_option maxRecDepth 20000 in
theorem ggX0_startEquations_X1_isUnknown : GoodIn wsX0_startEquations wsX1_isUnknown := goodIn_r _ [8, 9, 17, 18, 19, 20, 21, 22, 23, 24, 25] (by decide +kernel) (by decide +kernel)
set_option maxRecDepth 20000 in
theorem gX0_startEquations_X1_isUnknown : GoodIn wsX0_startEquations (wsV RX0 60 RX1 yX1_isUnknown wsX1_isUnknown) := goodIn_app (goodIn_of _ (by decide +kernel)) ggX0_startEquations_X1_isUnknown
theorem dX0_startEquations_0 : decode cX0_startEquations 0 = .ok (.iconst 0, 1) := by decide +kernel
theorem dX0_startEquations_1 : decode cX0_startEquations 1 = .ok (.istore_n 2, 1) := by decide +kernel
theorem dX0_startEquations_2 : decode cX0_startEquations 2 = .ok (.iload_n 2, 1) := by decide +kernel
theorem dX0_startEquations_3 : decode cX0_startEquations 3 = .ok (.iconst 5, 1) := by decide +kernel
theorem dX0_startEquations_4 : decode cX0_startEquations 4 = .ok (.if_icmp .ge 63, 3) := by decide +kernel
theorem dX0_startEquations_7 : decode cX0_startEquations 7 = .ok (.iconst 0, 1) := by decide +kernel
theorem dX0_startEquations_8 : decode cX0_startEquations 8 = .ok (.istore_n 3, 1) := by decide +kernel
theorem dX0_startEquations_9 : decode cX0_startEquations 9 = .ok (.iload_n 3, 1) := by decide +kernel
theorem dX0_startEquations_10 : decode cX0_startEquations 10 = .ok (.iconst 5, 1) := by decide +kernel
theorem dX0_startEquations_11 : decode cX0_startEquations 11 = .ok (.if_icmp .ge 18, 3) := by decide +kernel
theorem dX0_startEquations_14 : decode cX0_startEquations 14 = .ok (.aload_n 0, 1) := by decide +kernel
theorem dX0_startEquations_15 : decode cX0_startEquations 15 = .ok (.getfield 11, 3) := by decide +kernel
theorem dX0_startEquations_18 : decode cX0_startEquations 18 = .ok (.iload_n 2, 1) := by decide +kernel
theorem dX0_startEquations_19 : decode cX0_startEquations 19 = .ok (.aaload, 1) := by decide +kernel
theorem dX0_startEquations_20 : decode cX0_startEquations 20 = .ok (.iload_n 3, 1) := by decide +kernel
theorem dX0_startEquations_21 : decode cX0_startEquations 21 = .ok (.lconst 0, 1) := by decide +kernel
theorem dX0_startEquations_22 : decode cX0_startEquations 22 = .ok (.lastore, 1) := by decide +kernel
theorem dX0_startEquations_23 : decode cX0_startEquations 23 = .ok (.iinc 3 1, 3) := by decide +kernel
theorem dX0_startEquations_26 : decode cX0_startEquations 26 = .ok (.goto (-17), 3) := by decide +kernel
theorem dX0_startEquations_29 : decode cX0_startEquations 29 = .ok (.aload_n 0, 1) := by decide +kernel
theorem dX0_startEquations_30 : decode cX0_startEquations 30 = .ok (.getfield 11, 3) := by decide +kernel
theorem dX0_startEquations_33 : decode cX0_startEquations 33 = .ok (.iload_n 2, 1) := by decide +kernel
theorem dX0_startEquations_34 : decode cX0_startEquations 34 = .ok (.aaload, 1) := by decide +kernel
theorem dX0_startEquations_35 : decode cX0_startEquations 35 = .ok (.iload_n 2, 1) := by decide +kernel
theorem dX0_startEquations_36 : decode cX0_startEquations 36 = .ok (.aload_n 0, 1) := by decide +kernel
theorem dX0_startEquations_37 : decode cX0_startEquations 37 = .ok (.getfield 30, 3) := by decide +kernel
theorem dX0_startEquations_40 : decode cX0_startEquations 40 = .ok (.iload_n 2, 1) := by decide +kernel
theorem dX0_startEquations_41 : decode cX0_startEquations 41 = .ok (.iload_n 1, 1) := by decide +kernel
theorem dX0_startEquations_42 : decode cX0_startEquations 42 = .ok (.invokevirtual 60, 3) := by decide +kernel
theorem dX0_startEquations_45 : decode cX0_startEquations 45 = .ok (.ifCond .eq 7, 3) := by decide +kernel
theorem dX0_startEquations_48 : decode cX0_startEquations 48 = .ok (.lconst 0, 1) := by decide +kernel
theorem dX0_startEquations_49 : decode cX0_startEquations 49 = .ok (.goto 4, 3) := by decide +kernel
theorem dX0_startEquations_52 : decode cX0_startEquations 52 = .ok (.lconst 1, 1) := by decide +kernel
theorem dX0_startEquations_53 : decode cX0_startEquations 53 = .ok (.lastore, 1) := by decide +kernel
theorem dX0_startEquations_54 : decode cX0_startEquations 54 = .ok (.aload_n 0, 1) := by decide +kernel
theorem dX0_startEquations_55 : decode cX0_startEquations 55 = .ok (.getfield 16, 3) := by decide +kernel
theorem dX0_startEquations_58 : decode cX0_startEquations 58 = .ok (.iload_n 2, 1) := by decide +kernel
theorem dX0_startEquations_59 : decode cX0_startEquations 59 = .ok (.lconst 0, 1) := by decide +kernel
theorem dX0_startEquations_60 : decode cX0_startEquations 60 = .ok (.lastore, 1) := by decide +kernel
theorem dX0_startEquations_61 : decode cX0_startEquations 61 = .ok (.iinc 2 1, 3) := by decide +kernel
theorem dX0_startEquations_64 : decode cX0_startEquations 64 = .ok (.goto (-62), 3) := by decide +kernel
theorem dX0_startEquations_67 : decode cX0_startEquations 67 = .ok (.return_, 1) := by decide +kernel
set_option maxRecDepth 20000 in
theorem ggX0_addToEquations_X1_isUnknown : GoodIn wsX0_addToEquations wsX1_isUnknown := goodIn_r _ [9, 10, 33, 34, 35, 36, 37, 38, 39, 40, 41] (by decide +kernel) (by decide +kernel)
set_option maxRecDepth 20000 in
theorem gX0_addToEquations_X1_isUnknown : GoodIn wsX0_addToEquations (wsV RX0 60 RX1 yX1_isUnknown wsX1_isUnknown) := goodIn_app (goodIn_of _ (by decide +kernel)) ggX0_addToEquations_X1_isUnknown
set_option maxRecDepth 20000 in
theorem ggX0_addToEquations_X2_growth : GoodIn wsX0_addToEquations wsX2_growth := goodIn_r _ [15, 16, 17, 18, 26, 27, 28, 29, 30, 31, 32, 33, 34, 35, 36, 37, 38, 39, 40, 41] (by decide +kernel) (by decide +kernel)
set_option maxRecDepth 20000 in
theorem gX0_addToEquations_X2_growth : GoodIn wsX0_addToEquations (wsV RX0 70 RX2 yX2_growth wsX2_growth) := goodIn_app (goodIn_of _ (by decide +kernel)) ggX0_addToEquations_X2_growth
theorem dX0_addToEquations_0 : decode cX0_addToEquations 0 = .ok (.aload_n 0, 1) := by decide +kernel
theorem dX0_addToEquations_1 : decode cX0_addToEquations 1 = .ok (.getfield 34, 3) := by decide +kernel
theorem dX0_addToEquations_4 : decode cX0_addToEquations 4 = .ok (.getfield 66, 3) := by decide +kernel
theorem dX0_addToEquations_7 : decode cX0_addToEquations 7 = .ok (.iload_n 1, 1) := by decide +kernel
theorem dX0_addToEquations_8 : decode cX0_addToEquations 8 = .ok (.iaload, 1) := by decide +kernel
theorem dX0_addToEquations_9 : decode cX0_addToEquations 9 = .ok (.i2l, 1) := by decide +kernel
theorem dX0_addToEquations_10 : decode cX0_addToEquations 10 = .ok (.aload_n 0, 1) := by decide +kernel
theorem dX0_addToEquations_11 : decode cX0_addToEquations 11 = .ok (.getfield 34, 3) := by decide +kernel
theorem dX0_addToEquations_14 : decode cX0_addToEquations 14 = .ok (.getfield 66, 3) := by decide +kernel
theorem dX0_addToEquations_17 : decode cX0_addToEquations 17 = .ok (.iload_n 1, 1) := by decide +kernel
theorem dX0_addToEquations_18 : decode cX0_addToEquations 18 = .ok (.iaload, 1) := by decide +kernel
theorem dX0_addToEquations_19 : decode cX0_addToEquations 19 = .ok (.i2l, 1) := by decide +kernel
theorem dX0_addToEquations_20 : decode cX0_addToEquations 20 = .ok (.lmul, 1) := by decide +kernel
theorem dX0_addToEquations_21 : decode cX0_addToEquations 21 = .ok (.lstore_n 3, 1) := by decide +kernel
theorem dX0_addToEquations_22 : decode cX0_addToEquations 22 = .ok (.iconst 0, 1) := by decide +kernel
theorem dX0_addToEquations_23 : decode cX0_addToEquations 23 = .ok (.istore 5, 2) := by decide +kernel
theorem dX0_addToEquations_25 : decode cX0_addToEquations 25 = .ok (.iload 5, 2) := by decide +kernel
theorem dX0_addToEquations_27 : decode cX0_addToEquations 27 = .ok (.iconst 5, 1) := by decide +kernel
theorem dX0_addToEquations_28 : decode cX0_addToEquations 28 = .ok (.if_icmp .ge 115, 3) := by decide +kernel
theorem dX0_addToEquations_31 : decode cX0_addToEquations 31 = .ok (.aload_n 0, 1) := by decide +kernel
theorem dX0_addToEquations_32 : decode cX0_addToEquations 32 = .ok (.getfield 30, 3) := by decide +kernel
theorem dX0_addToEquations_35 : decode cX0_addToEquations 35 = .ok (.iload 5, 2) := by decide +kernel
theorem dX0_addToEquations_37 : decode cX0_addToEquations 37 = .ok (.iload_n 2, 1) := by decide +kernel
theorem dX0_addToEquations_38 : decode cX0_addToEquations 38 = .ok (.invokevirtual 60, 3) := by decide +kernel
theorem dX0_addToEquations_41 : decode cX0_addToEquations 41 = .ok (.ifCond .eq 96, 3) := by decide +kernel
theorem dX0_addToEquations_44 : decode cX0_addToEquations 44 = .ok (.lload_n 3, 1) := by decide +kernel
theorem dX0_addToEquations_45 : decode cX0_addToEquations 45 = .ok (.aload_n 0, 1) := by decide +kernel
theorem dX0_addToEquations_46 : decode cX0_addToEquations 46 = .ok (.getfield 34, 3) := by decide +kernel
theorem dX0_addToEquations_49 : decode cX0_addToEquations 49 = .ok (.iload_n 1, 1) := by decide +kernel
theorem dX0_addToEquations_50 : decode cX0_addToEquations 50 = .ok (.iload 5, 2) := by decide +kernel
theorem dX0_addToEquations_52 : decode cX0_addToEquations 52 = .ok (.invokevirtual 70, 3) := by decide +kernel
theorem dX0_addToEquations_55 : decode cX0_addToEquations 55 = .ok (.i2l, 1) := by decide +kernel
theorem dX0_addToEquations_56 : decode cX0_addToEquations 56 = .ok (.lmul, 1) := by decide +kernel
theorem dX0_addToEquations_57 : decode cX0_addToEquations 57 = .ok (.lstore 6, 2) := by decide +kernel
theorem dX0_addToEquations_59 : decode cX0_addToEquations 59 = .ok (.aload_n 0, 1) := by decide +kernel
theorem dX0_addToEquations_60 : decode cX0_addToEquations 60 = .ok (.getfield 16, 3) := by decide +kernel
theorem dX0_addToEquations_63 : decode cX0_addToEquations 63 = .ok (.iload 5, 2) := by decide +kernel
theorem dX0_addToEquations_65 : decode cX0_addToEquations 65 = .ok (.dup2, 1) := by decide +kernel
theorem dX0_addToEquations_66 : decode cX0_addToEquations 66 = .ok (.laload, 1) := by decide +kernel
theorem dX0_addToEquations_67 : decode cX0_addToEquations 67 = .ok (.lload 6, 2) := by decide +kernel
theorem dX0_addToEquations_69 : decode cX0_addToEquations 69 = .ok (.aload_n 0, 1) := by decide +kernel
theorem dX0_addToEquations_70 : decode cX0_addToEquations 70 = .ok (.getfield 34, 3) := by decide +kernel
theorem dX0_addToEquations_73 : decode cX0_addToEquations 73 = .ok (.getfield 74, 3) := by decide +kernel
theorem dX0_addToEquations_76 : decode cX0_addToEquations 76 = .ok (.iload_n 1, 1) := by decide +kernel
theorem dX0_addToEquations_77 : decode cX0_addToEquations 77 = .ok (.iaload, 1) := by decide +kernel
theorem dX0_addToEquations_78 : decode cX0_addToEquations 78 = .ok (.i2l, 1) := by decide +kernel
theorem dX0_addToEquations_79 : decode cX0_addToEquations 79 = .ok (.lmul, 1) := by decide +kernel
theorem dX0_addToEquations_80 : decode cX0_addToEquations 80 = .ok (.ladd, 1) := by decide +kernel
theorem dX0_addToEquations_81 : decode cX0_addToEquations 81 = .ok (.lastore, 1) := by decide +kernel
theorem dX0_addToEquations_82 : decode cX0_addToEquations 82 = .ok (.iconst 0, 1) := by decide +kernel
theorem dX0_addToEquations_83 : decode cX0_addToEquations 83 = .ok (.istore 8, 2) := by decide +kernel
theorem dX0_addToEquations_85 : decode cX0_addToEquations 85 = .ok (.iload 8, 2) := by decide +kernel
theorem dX0_addToEquations_87 : decode cX0_addToEquations 87 = .ok (.iconst 5, 1) := by decide +kernel
theorem dX0_addToEquations_88 : decode cX0_addToEquations 88 = .ok (.if_icmp .ge 49, 3) := by decide +kernel
theorem dX0_addToEquations_91 : decode cX0_addToEquations 91 = .ok (.aload_n 0, 1) := by decide +kernel
theorem dX0_addToEquations_92 : decode cX0_addToEquations 92 = .ok (.getfield 30, 3) := by decide +kernel
theorem dX0_addToEquations_95 : decode cX0_addToEquations 95 = .ok (.iload 8, 2) := by decide +kernel
theorem dX0_addToEquations_97 : decode cX0_addToEquations 97 = .ok (.iload_n 2, 1) := by decide +kernel
theorem dX0_addToEquations_98 : decode cX0_addToEquations 98 = .ok (.invokevirtual 60, 3) := by decide +kernel
theorem dX0_addToEquations_101 : decode cX0_addToEquations 101 = .ok (.ifCond .eq 30, 3) := by decide +kernel
theorem dX0_addToEquations_104 : decode cX0_addToEquations 104 = .ok (.aload_n 0, 1) := by decide +kernel
theorem dX0_addToEquations_105 : decode cX0_addToEquations 105 = .ok (.getfield 11, 3) := by decide +kernel
theorem dX0_addToEquations_108 : decode cX0_addToEquations 108 = .ok (.iload 5, 2) := by decide +kernel
theorem dX0_addToEquations_110 : decode cX0_addToEquations 110 = .ok (.aaload, 1) := by decide +kernel
theorem dX0_addToEquations_111 : decode cX0_addToEquations 111 = .ok (.iload 8, 2) := by decide +kernel
theorem dX0_addToEquations_113 : decode cX0_addToEquations 113 = .ok (.dup2, 1) := by decide +kernel
theorem dX0_addToEquations_114 : decode cX0_addToEquations 114 = .ok (.laload, 1) := by decide +kernel
theorem dX0_addToEquations_115 : decode cX0_addToEquations 115 = .ok (.lload 6, 2) := by decide +kernel
theorem dX0_addToEquations_117 : decode cX0_addToEquations 117 = .ok (.aload_n 0, 1) := by decide +kernel
theorem dX0_addToEquations_118 : decode cX0_addToEquations 118 = .ok (.getfield 34, 3) := by decide +kernel
theorem dX0_addToEquations_121 : decode cX0_addToEquations 121 = .ok (.iload_n 1, 1) := by decide +kernel
theorem dX0_addToEquations_122 : decode cX0_addToEquations 122 = .ok (.iload 8, 2) := by decide +kernel
theorem dX0_addToEquations_124 : decode cX0_addToEquations 124 = .ok (.invokevirtual 70, 3) := by decide +kernel
theorem dX0_addToEquations_127 : decode cX0_addToEquations 127 = .ok (.i2l, 1) := by decide +kernel
theorem dX0_addToEquations_128 : decode cX0_addToEquations 128 = .ok (.lmul, 1) := by decide +kernel
theorem dX0_addToEquations_129 : decode cX0_addToEquations 129 = .ok (.ladd, 1) := by decide +kernel
theorem dX0_addToEquations_130 : decode cX0_addToEquations 130 = .ok (.lastore, 1) := by decide +kernel
theorem dX0_addToEquations_131 : decode cX0_addToEquations 131 = .ok (.iinc 8 1, 3) := by decide +kernel
theorem dX0_addToEquations_134 : decode cX0_addToEquations 134 = .ok (.goto (-49), 3) := by decide +kernel
theorem dX0_addToEquations_137 : decode cX0_addToEquations 137 = .ok (.iinc 5 1, 3) := by decide +kernel
theorem dX0_addToEquations_140 : decode cX0_addToEquations 140 = .ok (.goto (-115), 3) := by decide +kernel
theorem dX0_addToEquations_143 : decode cX0_addToEquations 143 = .ok (.return_, 1) := by decide +kernel
set_option maxRecDepth 20000 in
theorem ggX0_determinant_J6_bitCount_0f7a4 : GoodIn wsX0_determinant wsJ6_bitCount_0f7a4 := goodIn_r _ [5, 6, 7, 8] (by decide +kernel) (by decide +kernel)
set_option maxRecDepth 20000 in
theorem gX0_determinant_J6_bitCount_0f7a4 : GoodIn wsX0_determinant (va_wsS RX0 77 yJ6_bitCount_0f7a4 wsJ6_bitCount_0f7a4) := goodIn_app (goodIn_of _ (by decide +kernel)) ggX0_determinant_J6_bitCount_0f7a4
set_option maxRecDepth 20000 in
theorem ggX0_determinant_X0_minor : GoodIn wsX0_determinant wsX0_minor := goodIn_r _ [13, 14, 15, 1, 16, 17, 18, 19, 20, 21, 22] (by decide +kernel) (by decide +kernel)
set_option maxRecDepth 20000 in
theorem gX0_determinant_X0_minor : GoodIn wsX0_determinant (wsV RX0 82 RX0 yX0_minor wsX0_minor) := goodIn_app (goodIn_of _ (by decide +kernel)) ggX0_determinant_X0_minor
theorem dX0_determinant_0 : decode cX0_determinant 0 = .ok (.aload_n 0, 1) := by decide +kernel
theorem dX0_determinant_1 : decode cX0_determinant 1 = .ok (.getfield 20, 3) := by decide +kernel
theorem dX0_determinant_4 : decode cX0_determinant 4 = .ok (.iconst 0, 1) := by decide +kernel
theorem dX0_determinant_5 : decode cX0_determinant 5 = .ok (.lconst 1, 1) := by decide +kernel
theorem dX0_determinant_6 : decode cX0_determinant 6 = .ok (.lastore, 1) := by decide +kernel
theorem dX0_determinant_7 : decode cX0_determinant 7 = .ok (.iconst 0, 1) := by decide +kernel
theorem dX0_determinant_8 : decode cX0_determinant 8 = .ok (.istore_n 2, 1) := by decide +kernel
theorem dX0_determinant_9 : decode cX0_determinant 9 = .ok (.iload_n 2, 1) := by decide +kernel
theorem dX0_determinant_10 : decode cX0_determinant 10 = .ok (.iconst 5, 1) := by decide +kernel
theorem dX0_determinant_11 : decode cX0_determinant 11 = .ok (.if_icmp .ge 46, 3) := by decide +kernel
theorem dX0_determinant_14 : decode cX0_determinant 14 = .ok (.iconst 0, 1) := by decide +kernel
theorem dX0_determinant_15 : decode cX0_determinant 15 = .ok (.istore_n 3, 1) := by decide +kernel
theorem dX0_determinant_16 : decode cX0_determinant 16 = .ok (.iload_n 3, 1) := by decide +kernel
theorem dX0_determinant_17 : decode cX0_determinant 17 = .ok (.bipush 32, 2) := by decide +kernel
theorem dX0_determinant_19 : decode cX0_determinant 19 = .ok (.if_icmp .ge 32, 3) := by decide +kernel
theorem dX0_determinant_22 : decode cX0_determinant 22 = .ok (.iload_n 3, 1) := by decide +kernel
theorem dX0_determinant_23 : decode cX0_determinant 23 = .ok (.invokestatic 77, 3) := by decide +kernel
theorem dX0_determinant_26 : decode cX0_determinant 26 = .ok (.iload_n 2, 1) := by decide +kernel
theorem dX0_determinant_27 : decode cX0_determinant 27 = .ok (.iconst 1, 1) := by decide +kernel
theorem dX0_determinant_28 : decode cX0_determinant 28 = .ok (.iadd, 1) := by decide +kernel
theorem dX0_determinant_29 : decode cX0_determinant 29 = .ok (.if_icmp .ne 16, 3) := by decide +kernel
theorem dX0_determinant_32 : decode cX0_determinant 32 = .ok (.aload_n 0, 1) := by decide +kernel
theorem dX0_determinant_33 : decode cX0_determinant 33 = .ok (.getfield 20, 3) := by decide +kernel
theorem dX0_determinant_36 : decode cX0_determinant 36 = .ok (.iload_n 3, 1) := by decide +kernel
theorem dX0_determinant_37 : decode cX0_determinant 37 = .ok (.aload_n 0, 1) := by decide +kernel
theorem dX0_determinant_38 : decode cX0_determinant 38 = .ok (.iload_n 2, 1) := by decide +kernel
theorem dX0_determinant_39 : decode cX0_determinant 39 = .ok (.iload_n 3, 1) := by decide +kernel
theorem dX0_determinant_40 : decode cX0_determinant 40 = .ok (.iload_n 1, 1) := by decide +kernel
theorem dX0_determinant_41 : decode cX0_determinant 41 = .ok (.invokevirtual 82, 3) := by decide +kernel
theorem dX0_determinant_44 : decode cX0_determinant 44 = .ok (.lastore, 1) := by decide +kernel
theorem dX0_determinant_45 : decode cX0_determinant 45 = .ok (.iinc 3 1, 3) := by decide +kernel
theorem dX0_determinant_48 : decode cX0_determinant 48 = .ok (.goto (-32), 3) := by decide +kernel
theorem dX0_determinant_51 : decode cX0_determinant 51 = .ok (.iinc 2 1, 3) := by decide +kernel
theorem dX0_determinant_54 : decode cX0_determinant 54 = .ok (.goto (-45), 3) := by decide +kernel
theorem dX0_determinant_57 : decode cX0_determinant 57 = .ok (.aload_n 0, 1) := by decide +kernel
theorem dX0_determinant_58 : decode cX0_determinant 58 = .ok (.getfield 20, 3) := by decide +kernel
theorem dX0_determinant_61 : decode cX0_determinant 61 = .ok (.bipush 31, 2) := by decide +kernel
theorem dX0_determinant_63 : decode cX0_determinant 63 = .ok (.laload, 1) := by decide +kernel
theorem dX0_determinant_64 : decode cX0_determinant 64 = .ok (.lreturn, 1) := by decide +kernel
theorem dX0_minor_0 : decode cX0_minor 0 = .ok (.lconst 0, 1) := by decide +kernel
theorem dX0_minor_1 : decode cX0_minor 1 = .ok (.lstore 4, 2) := by decide +kernel
theorem dX0_minor_3 : decode cX0_minor 3 = .ok (.iconst 1, 1) := by decide +kernel
theorem dX0_minor_4 : decode cX0_minor 4 = .ok (.istore 6, 2) := by decide +kernel
theorem dX0_minor_6 : decode cX0_minor 6 = .ok (.iconst 4, 1) := by decide +kernel
theorem dX0_minor_7 : decode cX0_minor 7 = .ok (.istore 7, 2) := by decide +kernel
theorem dX0_minor_9 : decode cX0_minor 9 = .ok (.iload 7, 2) := by decide +kernel
theorem dX0_minor_11 : decode cX0_minor 11 = .ok (.ifCond .lt 74, 3) := by decide +kernel
theorem dX0_minor_14 : decode cX0_minor 14 = .ok (.iconst 1, 1) := by decide +kernel
theorem dX0_minor_15 : decode cX0_minor 15 = .ok (.iload 7, 2) := by decide +kernel
theorem dX0_minor_17 : decode cX0_minor 17 = .ok (.ishl, 1) := by decide +kernel
theorem dX0_minor_18 : decode cX0_minor 18 = .ok (.istore 8, 2) := by decide +kernel
theorem dX0_minor_20 : decode cX0_minor 20 = .ok (.iload_n 2, 1) := by decide +kernel
theorem dX0_minor_21 : decode cX0_minor 21 = .ok (.iload 8, 2) := by decide +kernel
theorem dX0_minor_23 : decode cX0_minor 23 = .ok (.iand, 1) := by decide +kernel
theorem dX0_minor_24 : decode cX0_minor 24 = .ok (.ifCond .eq 55, 3) := by decide +kernel
theorem dX0_minor_27 : decode cX0_minor 27 = .ok (.iload 7, 2) := by decide +kernel
theorem dX0_minor_29 : decode cX0_minor 29 = .ok (.iload_n 3, 1) := by decide +kernel
theorem dX0_minor_30 : decode cX0_minor 30 = .ok (.if_icmp .ne 12, 3) := by decide +kernel
theorem dX0_minor_33 : decode cX0_minor 33 = .ok (.aload_n 0, 1) := by decide +kernel
theorem dX0_minor_34 : decode cX0_minor 34 = .ok (.getfield 16, 3) := by decide +kernel
theorem dX0_minor_37 : decode cX0_minor 37 = .ok (.iload_n 1, 1) := by decide +kernel
theorem dX0_minor_38 : decode cX0_minor 38 = .ok (.laload, 1) := by decide +kernel
theorem dX0_minor_39 : decode cX0_minor 39 = .ok (.goto 12, 3) := by decide +kernel
theorem dX0_minor_42 : decode cX0_minor 42 = .ok (.aload_n 0, 1) := by decide +kernel
theorem dX0_minor_43 : decode cX0_minor 43 = .ok (.getfield 11, 3) := by decide +kernel
theorem dX0_minor_46 : decode cX0_minor 46 = .ok (.iload_n 1, 1) := by decide +kernel
theorem dX0_minor_47 : decode cX0_minor 47 = .ok (.aaload, 1) := by decide +kernel
theorem dX0_minor_48 : decode cX0_minor 48 = .ok (.iload 7, 2) := by decide +kernel
theorem dX0_minor_50 : decode cX0_minor 50 = .ok (.laload, 1) := by decide +kernel
theorem dX0_minor_51 : decode cX0_minor 51 = .ok (.lstore 9, 2) := by decide +kernel
theorem dX0_minor_53 : decode cX0_minor 53 = .ok (.lload 4, 2) := by decide +kernel
theorem dX0_minor_55 : decode cX0_minor 55 = .ok (.iload 6, 2) := by decide +kernel
theorem dX0_minor_57 : decode cX0_minor 57 = .ok (.i2l, 1) := by decide +kernel
theorem dX0_minor_58 : decode cX0_minor 58 = .ok (.lload 9, 2) := by decide +kernel
theorem dX0_minor_60 : decode cX0_minor 60 = .ok (.lmul, 1) := by decide +kernel
theorem dX0_minor_61 : decode cX0_minor 61 = .ok (.aload_n 0, 1) := by decide +kernel
theorem dX0_minor_62 : decode cX0_minor 62 = .ok (.getfield 20, 3) := by decide +kernel
theorem dX0_minor_65 : decode cX0_minor 65 = .ok (.iload_n 2, 1) := by decide +kernel
theorem dX0_minor_66 : decode cX0_minor 66 = .ok (.iload 8, 2) := by decide +kernel
theorem dX0_minor_68 : decode cX0_minor 68 = .ok (.isub, 1) := by decide +kernel
theorem dX0_minor_69 : decode cX0_minor 69 = .ok (.laload, 1) := by decide +kernel
theorem dX0_minor_70 : decode cX0_minor 70 = .ok (.lmul, 1) := by decide +kernel
theorem dX0_minor_71 : decode cX0_minor 71 = .ok (.ladd, 1) := by decide +kernel
theorem dX0_minor_72 : decode cX0_minor 72 = .ok (.lstore 4, 2) := by decide +kernel
theorem dX0_minor_74 : decode cX0_minor 74 = .ok (.iload 6, 2) := by decide +kernel
theorem dX0_minor_76 : decode cX0_minor 76 = .ok (.ineg, 1) := by decide +kernel
theorem dX0_minor_77 : decode cX0_minor 77 = .ok (.istore 6, 2) := by decide +kernel
theorem dX0_minor_79 : decode cX0_minor 79 = .ok (.iinc 7 (-1), 3) := by decide +kernel
theorem dX0_minor_82 : decode cX0_minor 82 = .ok (.goto (-73), 3) := by decide +kernel
theorem dX0_minor_85 : decode cX0_minor 85 = .ok (.lload 4, 2) := by decide +kernel
theorem dX0_minor_87 : decode cX0_minor 87 = .ok (.lreturn, 1) := by decide +kernel
set_option maxRecDepth 20000 in
theorem ggX0_residual_X2_growth : GoodIn wsX0_residual wsX2_growth := goodIn_r _ [8, 9, 10, 11, 19, 20, 21, 22, 23, 24, 25, 26, 27, 28, 29, 30, 31, 32, 33, 34] (by decide +kernel) (by decide +kernel)
set_option maxRecDepth 20000 in
theorem gX0_residual_X2_growth : GoodIn wsX0_residual (wsV RX0 70 RX2 yX2_growth wsX2_growth) := goodIn_app (goodIn_of _ (by decide +kernel)) ggX0_residual_X2_growth
theorem dX0_residual_0 : decode cX0_residual 0 = .ok (.aload_n 0, 1) := by decide +kernel
theorem dX0_residual_1 : decode cX0_residual 1 = .ok (.getfield 34, 3) := by decide +kernel
theorem dX0_residual_4 : decode cX0_residual 4 = .ok (.getfield 74, 3) := by decide +kernel
theorem dX0_residual_7 : decode cX0_residual 7 = .ok (.iload_n 1, 1) := by decide +kernel
theorem dX0_residual_8 : decode cX0_residual 8 = .ok (.iaload, 1) := by decide +kernel
theorem dX0_residual_9 : decode cX0_residual 9 = .ok (.i2l, 1) := by decide +kernel
theorem dX0_residual_10 : decode cX0_residual 10 = .ok (.aload_n 0, 1) := by decide +kernel
theorem dX0_residual_11 : decode cX0_residual 11 = .ok (.getfield 26, 3) := by decide +kernel
theorem dX0_residual_14 : decode cX0_residual 14 = .ok (.lmul, 1) := by decide +kernel
theorem dX0_residual_15 : decode cX0_residual 15 = .ok (.lstore_n 2, 1) := by decide +kernel
theorem dX0_residual_16 : decode cX0_residual 16 = .ok (.iconst 0, 1) := by decide +kernel
theorem dX0_residual_17 : decode cX0_residual 17 = .ok (.istore 4, 2) := by decide +kernel
theorem dX0_residual_19 : decode cX0_residual 19 = .ok (.iload 4, 2) := by decide +kernel
theorem dX0_residual_21 : decode cX0_residual 21 = .ok (.iconst 5, 1) := by decide +kernel
theorem dX0_residual_22 : decode cX0_residual 22 = .ok (.if_icmp .ge 31, 3) := by decide +kernel
theorem dX0_residual_25 : decode cX0_residual 25 = .ok (.lload_n 2, 1) := by decide +kernel
theorem dX0_residual_26 : decode cX0_residual 26 = .ok (.aload_n 0, 1) := by decide +kernel
theorem dX0_residual_27 : decode cX0_residual 27 = .ok (.getfield 34, 3) := by decide +kernel
theorem dX0_residual_30 : decode cX0_residual 30 = .ok (.iload_n 1, 1) := by decide +kernel
theorem dX0_residual_31 : decode cX0_residual 31 = .ok (.iload 4, 2) := by decide +kernel
theorem dX0_residual_33 : decode cX0_residual 33 = .ok (.invokevirtual 70, 3) := by decide +kernel
theorem dX0_residual_36 : decode cX0_residual 36 = .ok (.i2l, 1) := by decide +kernel
theorem dX0_residual_37 : decode cX0_residual 37 = .ok (.aload_n 0, 1) := by decide +kernel
theorem dX0_residual_38 : decode cX0_residual 38 = .ok (.getfield 23, 3) := by decide +kernel
theorem dX0_residual_41 : decode cX0_residual 41 = .ok (.iload 4, 2) := by decide +kernel
theorem dX0_residual_43 : decode cX0_residual 43 = .ok (.laload, 1) := by decide +kernel
theorem dX0_residual_44 : decode cX0_residual 44 = .ok (.lmul, 1) := by decide +kernel
theorem dX0_residual_45 : decode cX0_residual 45 = .ok (.lsub, 1) := by decide +kernel
theorem dX0_residual_46 : decode cX0_residual 46 = .ok (.lstore_n 2, 1) := by decide +kernel
theorem dX0_residual_47 : decode cX0_residual 47 = .ok (.iinc 4 1, 3) := by decide +kernel
theorem dX0_residual_50 : decode cX0_residual 50 = .ok (.goto (-31), 3) := by decide +kernel
theorem dX0_residual_53 : decode cX0_residual 53 = .ok (.lload_n 2, 1) := by decide +kernel
theorem dX0_residual_54 : decode cX0_residual 54 = .ok (.lreturn, 1) := by decide +kernel
set_option maxRecDepth 20000 in
theorem ggX0_weightedSize_X0_residual : GoodIn wsX0_weightedSize wsX0_residual := goodIn_r _ [10, 1, 11, 12, 13, 14, 15, 16, 17, 18, 19, 20, 21, 22, 23, 24, 25, 26, 27, 28, 29, 30, 31, 32, 33, 34, 35, 36, 37, 38, 39, 40, 41, 42, 43] (by decide +kernel) (by decide +kernel)
set_option maxRecDepth 20000 in
theorem gX0_weightedSize_X0_residual : GoodIn wsX0_weightedSize (wsV RX0 86 RX0 yX0_residual wsX0_residual) := goodIn_app (goodIn_of _ (by decide +kernel)) ggX0_weightedSize_X0_residual
theorem dX0_weightedSize_0 : decode cX0_weightedSize 0 = .ok (.aload_n 0, 1) := by decide +kernel
theorem dX0_weightedSize_1 : decode cX0_weightedSize 1 = .ok (.getfield 34, 3) := by decide +kernel
theorem dX0_weightedSize_4 : decode cX0_weightedSize 4 = .ok (.getfield 66, 3) := by decide +kernel
theorem dX0_weightedSize_7 : decode cX0_weightedSize 7 = .ok (.iload_n 1, 1) := by decide +kernel
theorem dX0_weightedSize_8 : decode cX0_weightedSize 8 = .ok (.iaload, 1) := by decide +kernel
theorem dX0_weightedSize_9 : decode cX0_weightedSize 9 = .ok (.i2l, 1) := by decide +kernel
theorem dX0_weightedSize_10 : decode cX0_weightedSize 10 = .ok (.aload_n 0, 1) := by decide +kernel
theorem dX0_weightedSize_11 : decode cX0_weightedSize 11 = .ok (.iload_n 1, 1) := by decide +kernel
theorem dX0_weightedSize_12 : decode cX0_weightedSize 12 = .ok (.invokevirtual 86, 3) := by decide +kernel
theorem dX0_weightedSize_15 : decode cX0_weightedSize 15 = .ok (.invokestatic 89, 3) := by decide +kernel
theorem dX0_weightedSize_18 : decode cX0_weightedSize 18 = .ok (.lmul, 1) := by decide +kernel
theorem dX0_weightedSize_19 : decode cX0_weightedSize 19 = .ok (.lreturn, 1) := by decide +kernel
set_option maxRecDepth 20000 in
theorem ggX0_isAbove_X0_weightedSize : GoodIn wsX0_isAbove wsX0_weightedSize := goodIn_r _ [6, 7, 8, 9, 10, 11, 12, 13, 14, 5, 15, 1, 16, 17, 18, 19, 20, 21, 22, 23, 24, 25, 26, 27, 28, 29, 30, 31, 32, 33, 34, 35, 36, 37, 38, 39, 40, 41, 42, 43, 44, 45, 46, 47] (by decide +kernel) (by decide +kernel)
set_option maxRecDepth 20000 in
theorem gX0_isAbove_X0_weightedSize : GoodIn wsX0_isAbove (wsV RX0 95 RX0 yX0_weightedSize wsX0_weightedSize) := goodIn_app (goodIn_of _ (by decide +kernel)) ggX0_isAbove_X0_weightedSize
theorem dX0_isAbove_0 : decode cX0_isAbove 0 = .ok (.aload_n 0, 1) := by decide +kernel
theorem dX0_isAbove_1 : decode cX0_isAbove 1 = .ok (.iload_n 1, 1) := by decide +kernel
theorem dX0_isAbove_2 : decode cX0_isAbove 2 = .ok (.invokevirtual 95, 3) := by decide +kernel
theorem dX0_isAbove_5 : decode cX0_isAbove 5 = .ok (.iload_n 2, 1) := by decide +kernel
theorem dX0_isAbove_6 : decode cX0_isAbove 6 = .ok (.i2l, 1) := by decide +kernel
theorem dX0_isAbove_7 : decode cX0_isAbove 7 = .ok (.aload_n 0, 1) := by decide +kernel
theorem dX0_isAbove_8 : decode cX0_isAbove 8 = .ok (.getfield 26, 3) := by decide +kernel
theorem dX0_isAbove_11 : decode cX0_isAbove 11 = .ok (.lmul, 1) := by decide +kernel
theorem dX0_isAbove_12 : decode cX0_isAbove 12 = .ok (.lcmp, 1) := by decide +kernel
theorem dX0_isAbove_13 : decode cX0_isAbove 13 = .ok (.ifCond .le 7, 3) := by decide +kernel
theorem dX0_isAbove_16 : decode cX0_isAbove 16 = .ok (.iconst 1, 1) := by decide +kernel
theorem dX0_isAbove_17 : decode cX0_isAbove 17 = .ok (.goto 4, 3) := by decide +kernel
theorem dX0_isAbove_20 : decode cX0_isAbove 20 = .ok (.iconst 0, 1) := by decide +kernel
theorem dX0_isAbove_21 : decode cX0_isAbove 21 = .ok (.ireturn, 1) := by decide +kernel
set_option maxRecDepth 20000 in
theorem ggX0_worstMeter_X2_islandOf : GoodIn wsX0_worstMeter wsX2_islandOf := goodIn_r _ [6, 7, 8, 9, 10, 5, 11, 12, 13, 14, 41, 42, 43, 44, 45, 46, 47, 48, 49, 50, 51, 52, 53, 54, 55, 56] (by decide +kernel) (by decide +kernel)
set_option maxRecDepth 20000 in
theorem gX0_worstMeter_X2_islandOf : GoodIn wsX0_worstMeter (wsV RX0 48 RX2 yX2_islandOf wsX2_islandOf) := goodIn_app (goodIn_of _ (by decide +kernel)) ggX0_worstMeter_X2_islandOf
set_option maxRecDepth 20000 in
theorem ggX0_worstMeter_X0_weightedSize : GoodIn wsX0_worstMeter wsX0_weightedSize := goodIn_r _ [19, 1, 20, 21, 22, 23, 24, 25, 26, 18, 27, 28, 29, 30, 31, 32, 5, 33, 12, 13, 14, 34, 35, 36, 37, 38, 39, 40, 41, 42, 43, 44, 45, 46, 47, 48, 49, 50, 51, 52, 53, 54, 55, 56] (by decide +kernel) (by decide +kernel)
set_option maxRecDepth 20000 in
theorem gX0_worstMeter_X0_weightedSize : GoodIn wsX0_worstMeter (wsV RX0 95 RX0 yX0_weightedSize wsX0_weightedSize) := goodIn_app (goodIn_of _ (by decide +kernel)) ggX0_worstMeter_X0_weightedSize
theorem dX0_worstMeter_0 : decode cX0_worstMeter 0 = .ok (.iconst (-1), 1) := by decide +kernel
theorem dX0_worstMeter_1 : decode cX0_worstMeter 1 = .ok (.istore_n 2, 1) := by decide +kernel
theorem dX0_worstMeter_2 : decode cX0_worstMeter 2 = .ok (.lconst 0, 1) := by decide +kernel
theorem dX0_worstMeter_3 : decode cX0_worstMeter 3 = .ok (.lstore_n 3, 1) := by decide +kernel
theorem dX0_worstMeter_4 : decode cX0_worstMeter 4 = .ok (.iconst 0, 1) := by decide +kernel
theorem dX0_worstMeter_5 : decode cX0_worstMeter 5 = .ok (.istore 5, 2) := by decide +kernel
theorem dX0_worstMeter_7 : decode cX0_worstMeter 7 = .ok (.iload 5, 2) := by decide +kernel
theorem dX0_worstMeter_9 : decode cX0_worstMeter 9 = .ok (.aload_n 0, 1) := by decide +kernel
theorem dX0_worstMeter_10 : decode cX0_worstMeter 10 = .ok (.getfield 34, 3) := by decide +kernel
theorem dX0_worstMeter_13 : decode cX0_worstMeter 13 = .ok (.getfield 42, 3) := by decide +kernel
theorem dX0_worstMeter_16 : decode cX0_worstMeter 16 = .ok (.if_icmp .ge 43, 3) := by decide +kernel
theorem dX0_worstMeter_19 : decode cX0_worstMeter 19 = .ok (.aload_n 0, 1) := by decide +kernel
theorem dX0_worstMeter_20 : decode cX0_worstMeter 20 = .ok (.getfield 34, 3) := by decide +kernel
theorem dX0_worstMeter_23 : decode cX0_worstMeter 23 = .ok (.iload 5, 2) := by decide +kernel
theorem dX0_worstMeter_25 : decode cX0_worstMeter 25 = .ok (.invokevirtual 48, 3) := by decide +kernel
theorem dX0_worstMeter_28 : decode cX0_worstMeter 28 = .ok (.iload_n 1, 1) := by decide +kernel
theorem dX0_worstMeter_29 : decode cX0_worstMeter 29 = .ok (.if_icmp .ne 24, 3) := by decide +kernel
theorem dX0_worstMeter_32 : decode cX0_worstMeter 32 = .ok (.aload_n 0, 1) := by decide +kernel
theorem dX0_worstMeter_33 : decode cX0_worstMeter 33 = .ok (.iload 5, 2) := by decide +kernel
theorem dX0_worstMeter_35 : decode cX0_worstMeter 35 = .ok (.invokevirtual 95, 3) := by decide +kernel
theorem dX0_worstMeter_38 : decode cX0_worstMeter 38 = .ok (.lload_n 3, 1) := by decide +kernel
theorem dX0_worstMeter_39 : decode cX0_worstMeter 39 = .ok (.lcmp, 1) := by decide +kernel
theorem dX0_worstMeter_40 : decode cX0_worstMeter 40 = .ok (.ifCond .le 13, 3) := by decide +kernel
theorem dX0_worstMeter_43 : decode cX0_worstMeter 43 = .ok (.iload 5, 2) := by decide +kernel
theorem dX0_worstMeter_45 : decode cX0_worstMeter 45 = .ok (.istore_n 2, 1) := by decide +kernel
theorem dX0_worstMeter_46 : decode cX0_worstMeter 46 = .ok (.aload_n 0, 1) := by decide +kernel
theorem dX0_worstMeter_47 : decode cX0_worstMeter 47 = .ok (.iload 5, 2) := by decide +kernel
theorem dX0_worstMeter_49 : decode cX0_worstMeter 49 = .ok (.invokevirtual 95, 3) := by decide +kernel
theorem dX0_worstMeter_52 : decode cX0_worstMeter 52 = .ok (.lstore_n 3, 1) := by decide +kernel
theorem dX0_worstMeter_53 : decode cX0_worstMeter 53 = .ok (.iinc 5 1, 3) := by decide +kernel
theorem dX0_worstMeter_56 : decode cX0_worstMeter 56 = .ok (.goto (-49), 3) := by decide +kernel
theorem dX0_worstMeter_59 : decode cX0_worstMeter 59 = .ok (.iload_n 2, 1) := by decide +kernel
theorem dX0_worstMeter_60 : decode cX0_worstMeter 60 = .ok (.ireturn, 1) := by decide +kernel
set_option maxRecDepth 20000 in
theorem ggX1_init_X1_followLines : GoodIn wsX1_init wsX1_followLines := goodIn_r _ [20, 21, 22, 23, 19, 24, 11, 4, 10, 6, 7, 25, 26, 27, 28, 29, 30, 31, 32, 33, 34, 35, 36, 8, 13, 37, 38, 39, 40, 14, 41, 42, 43, 44, 45, 46, 47, 48, 49] (by decide +kernel) (by decide +kernel)
set_option maxRecDepth 20000 in
theorem gX1_init_X1_followLines : GoodIn wsX1_init (wsV RX1 43 RX1 yX1_followLines wsX1_followLines) := goodIn_app (goodIn_of _ (by decide +kernel)) ggX1_init_X1_followLines
theorem dX1_init_0 : decode cX1_init 0 = .ok (.aload_n 0, 1) := by decide +kernel
theorem dX1_init_1 : decode cX1_init 1 = .ok (.invokespecial 3, 3) := by decide +kernel
theorem dX1_init_4 : decode cX1_init 4 = .ok (.aload_n 0, 1) := by decide +kernel
theorem dX1_init_5 : decode cX1_init 5 = .ok (.iconst 0, 1) := by decide +kernel
theorem dX1_init_6 : decode cX1_init 6 = .ok (.putfield 9, 3) := by decide +kernel
theorem dX1_init_9 : decode cX1_init 9 = .ok (.aload_n 0, 1) := by decide +kernel
theorem dX1_init_10 : decode cX1_init 10 = .ok (.bipush 8, 2) := by decide +kernel
theorem dX1_init_12 : decode cX1_init 12 = .ok (.newarray .int, 2) := by decide +kernel
theorem dX1_init_14 : decode cX1_init 14 = .ok (.putfield 15, 3) := by decide +kernel
theorem dX1_init_17 : decode cX1_init 17 = .ok (.aload_n 0, 1) := by decide +kernel
theorem dX1_init_18 : decode cX1_init 18 = .ok (.bipush 8, 2) := by decide +kernel
theorem dX1_init_20 : decode cX1_init 20 = .ok (.newarray .int, 2) := by decide +kernel
theorem dX1_init_22 : decode cX1_init 22 = .ok (.putfield 19, 3) := by decide +kernel
theorem dX1_init_25 : decode cX1_init 25 = .ok (.aload_n 0, 1) := by decide +kernel
theorem dX1_init_26 : decode cX1_init 26 = .ok (.bipush 8, 2) := by decide +kernel
theorem dX1_init_28 : decode cX1_init 28 = .ok (.newarray .int, 2) := by decide +kernel
theorem dX1_init_30 : decode cX1_init 30 = .ok (.putfield 22, 3) := by decide +kernel
theorem dX1_init_33 : decode cX1_init 33 = .ok (.aload_n 0, 1) := by decide +kernel
theorem dX1_init_34 : decode cX1_init 34 = .ok (.bipush 8, 2) := by decide +kernel
theorem dX1_init_36 : decode cX1_init 36 = .ok (.newarray .boolean, 2) := by decide +kernel
theorem dX1_init_38 : decode cX1_init 38 = .ok (.putfield 25, 3) := by decide +kernel
theorem dX1_init_41 : decode cX1_init 41 = .ok (.aload_n 0, 1) := by decide +kernel
theorem dX1_init_42 : decode cX1_init 42 = .ok (.iconst 5, 1) := by decide +kernel
theorem dX1_init_43 : decode cX1_init 43 = .ok (.newarray .int, 2) := by decide +kernel
theorem dX1_init_45 : decode cX1_init 45 = .ok (.putfield 29, 3) := by decide +kernel
theorem dX1_init_48 : decode cX1_init 48 = .ok (.aload_n 0, 1) := by decide +kernel
theorem dX1_init_49 : decode cX1_init 49 = .ok (.bipush 8, 2) := by decide +kernel
theorem dX1_init_51 : decode cX1_init 51 = .ok (.iconst 5, 1) := by decide +kernel
theorem dX1_init_52 : decode cX1_init 52 = .ok (.multianewarray 32 2, 4) := by decide +kernel
theorem dX1_init_56 : decode cX1_init 56 = .ok (.putfield 34, 3) := by decide +kernel
theorem dX1_init_59 : decode cX1_init 59 = .ok (.aload_n 0, 1) := by decide +kernel
theorem dX1_init_60 : decode cX1_init 60 = .ok (.iconst 5, 1) := by decide +kernel
theorem dX1_init_61 : decode cX1_init 61 = .ok (.iconst 5, 1) := by decide +kernel
theorem dX1_init_62 : decode cX1_init 62 = .ok (.multianewarray 32 2, 4) := by decide +kernel
theorem dX1_init_66 : decode cX1_init 66 = .ok (.putfield 37, 3) := by decide +kernel
theorem dX1_init_69 : decode cX1_init 69 = .ok (.aload_n 0, 1) := by decide +kernel
theorem dX1_init_70 : decode cX1_init 70 = .ok (.iload_n 1, 1) := by decide +kernel
theorem dX1_init_71 : decode cX1_init 71 = .ok (.putfield 40, 3) := by decide +kernel
theorem dX1_init_74 : decode cX1_init 74 = .ok (.aload_n 0, 1) := by decide +kernel
theorem dX1_init_75 : decode cX1_init 75 = .ok (.invokevirtual 43, 3) := by decide +kernel
theorem dX1_init_78 : decode cX1_init 78 = .ok (.return_, 1) := by decide +kernel
theorem dX1_hasBus_0 : decode cX1_hasBus 0 = .ok (.iload_n 1, 1) := by decide +kernel
theorem dX1_hasBus_1 : decode cX1_hasBus 1 = .ok (.ifCond .lt 15, 3) := by decide +kernel
theorem dX1_hasBus_4 : decode cX1_hasBus 4 = .ok (.iload_n 1, 1) := by decide +kernel
theorem dX1_hasBus_5 : decode cX1_hasBus 5 = .ok (.aload_n 0, 1) := by decide +kernel
theorem dX1_hasBus_6 : decode cX1_hasBus 6 = .ok (.getfield 40, 3) := by decide +kernel
theorem dX1_hasBus_9 : decode cX1_hasBus 9 = .ok (.if_icmp .ge 7, 3) := by decide +kernel
theorem dX1_hasBus_12 : decode cX1_hasBus 12 = .ok (.iconst 1, 1) := by decide +kernel
theorem dX1_hasBus_13 : decode cX1_hasBus 13 = .ok (.goto 4, 3) := by decide +kernel
theorem dX1_hasBus_16 : decode cX1_hasBus 16 = .ok (.iconst 0, 1) := by decide +kernel
theorem dX1_hasBus_17 : decode cX1_hasBus 17 = .ok (.ireturn, 1) := by decide +kernel
theorem dX1_hasLine_0 : decode cX1_hasLine 0 = .ok (.iload_n 1, 1) := by decide +kernel
theorem dX1_hasLine_1 : decode cX1_hasLine 1 = .ok (.ifCond .lt 15, 3) := by decide +kernel
theorem dX1_hasLine_4 : decode cX1_hasLine 4 = .ok (.iload_n 1, 1) := by decide +kernel
theorem dX1_hasLine_5 : decode cX1_hasLine 5 = .ok (.aload_n 0, 1) := by decide +kernel
theorem dX1_hasLine_6 : decode cX1_hasLine 6 = .ok (.getfield 9, 3) := by decide +kernel
theorem dX1_hasLine_9 : decode cX1_hasLine 9 = .ok (.if_icmp .ge 7, 3) := by decide +kernel
theorem dX1_hasLine_12 : decode cX1_hasLine 12 = .ok (.iconst 1, 1) := by decide +kernel
theorem dX1_hasLine_13 : decode cX1_hasLine 13 = .ok (.goto 4, 3) := by decide +kernel
theorem dX1_hasLine_16 : decode cX1_hasLine 16 = .ok (.iconst 0, 1) := by decide +kernel
theorem dX1_hasLine_17 : decode cX1_hasLine 17 = .ok (.ireturn, 1) := by decide +kernel
theorem dX1_isFull_0 : decode cX1_isFull 0 = .ok (.aload_n 0, 1) := by decide +kernel
theorem dX1_isFull_1 : decode cX1_isFull 1 = .ok (.getfield 9, 3) := by decide +kernel
theorem dX1_isFull_4 : decode cX1_isFull 4 = .ok (.bipush 8, 2) := by decide +kernel
theorem dX1_isFull_6 : decode cX1_isFull 6 = .ok (.if_icmp .lt 7, 3) := by decide +kernel
theorem dX1_isFull_9 : decode cX1_isFull 9 = .ok (.iconst 1, 1) := by decide +kernel
theorem dX1_isFull_10 : decode cX1_isFull 10 = .ok (.goto 4, 3) := by decide +kernel
theorem dX1_isFull_13 : decode cX1_isFull 13 = .ok (.iconst 0, 1) := by decide +kernel
theorem dX1_isFull_14 : decode cX1_isFull 14 = .ok (.ireturn, 1) := by decide +kernel
theorem dX1_hasLineBetween_0 : decode cX1_hasLineBetween 0 = .ok (.iconst 0, 1) := by decide +kernel
theorem dX1_hasLineBetween_1 : decode cX1_hasLineBetween 1 = .ok (.istore_n 3, 1) := by decide +kernel
theorem dX1_hasLineBetween_2 : decode cX1_hasLineBetween 2 = .ok (.iload_n 3, 1) := by decide +kernel
theorem dX1_hasLineBetween_3 : decode cX1_hasLineBetween 3 = .ok (.aload_n 0, 1) := by decide +kernel
theorem dX1_hasLineBetween_4 : decode cX1_hasLineBetween 4 = .ok (.getfield 9, 3) := by decide +kernel
theorem dX1_hasLineBetween_7 : decode cX1_hasLineBetween 7 = .ok (.if_icmp .ge 51, 3) := by decide +kernel
theorem dX1_hasLineBetween_10 : decode cX1_hasLineBetween 10 = .ok (.aload_n 0, 1) := by decide +kernel
theorem dX1_hasLineBetween_11 : decode cX1_hasLineBetween 11 = .ok (.getfield 15, 3) := by decide +kernel
theorem dX1_hasLineBetween_14 : decode cX1_hasLineBetween 14 = .ok (.iload_n 3, 1) := by decide +kernel
theorem dX1_hasLineBetween_15 : decode cX1_hasLineBetween 15 = .ok (.iaload, 1) := by decide +kernel
theorem dX1_hasLineBetween_16 : decode cX1_hasLineBetween 16 = .ok (.iload_n 1, 1) := by decide +kernel
theorem dX1_hasLineBetween_17 : decode cX1_hasLineBetween 17 = .ok (.if_icmp .ne 13, 3) := by decide +kernel
theorem dX1_hasLineBetween_20 : decode cX1_hasLineBetween 20 = .ok (.aload_n 0, 1) := by decide +kernel
theorem dX1_hasLineBetween_21 : decode cX1_hasLineBetween 21 = .ok (.getfield 19, 3) := by decide +kernel
theorem dX1_hasLineBetween_24 : decode cX1_hasLineBetween 24 = .ok (.iload_n 3, 1) := by decide +kernel
theorem dX1_hasLineBetween_25 : decode cX1_hasLineBetween 25 = .ok (.iaload, 1) := by decide +kernel
theorem dX1_hasLineBetween_26 : decode cX1_hasLineBetween 26 = .ok (.iload_n 2, 1) := by decide +kernel
theorem dX1_hasLineBetween_27 : decode cX1_hasLineBetween 27 = .ok (.if_icmp .eq 23, 3) := by decide +kernel
theorem dX1_hasLineBetween_30 : decode cX1_hasLineBetween 30 = .ok (.aload_n 0, 1) := by decide +kernel
theorem dX1_hasLineBetween_31 : decode cX1_hasLineBetween 31 = .ok (.getfield 15, 3) := by decide +kernel
theorem dX1_hasLineBetween_34 : decode cX1_hasLineBetween 34 = .ok (.iload_n 3, 1) := by decide +kernel
theorem dX1_hasLineBetween_35 : decode cX1_hasLineBetween 35 = .ok (.iaload, 1) := by decide +kernel
theorem dX1_hasLineBetween_36 : decode cX1_hasLineBetween 36 = .ok (.iload_n 2, 1) := by decide +kernel
theorem dX1_hasLineBetween_37 : decode cX1_hasLineBetween 37 = .ok (.if_icmp .ne 15, 3) := by decide +kernel
theorem dX1_hasLineBetween_40 : decode cX1_hasLineBetween 40 = .ok (.aload_n 0, 1) := by decide +kernel
theorem dX1_hasLineBetween_41 : decode cX1_hasLineBetween 41 = .ok (.getfield 19, 3) := by decide +kernel
theorem dX1_hasLineBetween_44 : decode cX1_hasLineBetween 44 = .ok (.iload_n 3, 1) := by decide +kernel
theorem dX1_hasLineBetween_45 : decode cX1_hasLineBetween 45 = .ok (.iaload, 1) := by decide +kernel
theorem dX1_hasLineBetween_46 : decode cX1_hasLineBetween 46 = .ok (.iload_n 1, 1) := by decide +kernel
theorem dX1_hasLineBetween_47 : decode cX1_hasLineBetween 47 = .ok (.if_icmp .ne 5, 3) := by decide +kernel
theorem dX1_hasLineBetween_50 : decode cX1_hasLineBetween 50 = .ok (.iconst 1, 1) := by decide +kernel
theorem dX1_hasLineBetween_51 : decode cX1_hasLineBetween 51 = .ok (.ireturn, 1) := by decide +kernel
theorem dX1_hasLineBetween_52 : decode cX1_hasLineBetween 52 = .ok (.iinc 3 1, 3) := by decide +kernel
theorem dX1_hasLineBetween_55 : decode cX1_hasLineBetween 55 = .ok (.goto (-53), 3) := by decide +kernel
theorem dX1_hasLineBetween_58 : decode cX1_hasLineBetween 58 = .ok (.iconst 0, 1) := by decide +kernel
theorem dX1_hasLineBetween_59 : decode cX1_hasLineBetween 59 = .ok (.ireturn, 1) := by decide +kernel
set_option maxRecDepth 20000 in
theorem ggX1_append_X1_followLines : GoodIn wsX1_append wsX1_followLines := goodIn_r _ [10, 11, 12, 13, 9, 14, 15, 1, 5, 2, 3, 16, 17, 18, 19, 20, 21, 22, 23, 24, 25, 26, 27, 4, 28, 29, 30, 31, 32, 33, 34, 35, 36, 37, 38, 39, 40, 41, 42] (by decide +kernel) (by decide +kernel)
set_option maxRecDepth 20000 in
theorem gX1_append_X1_followLines : GoodIn wsX1_append (wsV RX1 43 RX1 yX1_followLines wsX1_followLines) := goodIn_app (goodIn_of _ (by decide +kernel)) ggX1_append_X1_followLines
theorem dX1_append_0 : decode cX1_append 0 = .ok (.aload_n 0, 1) := by decide +kernel
theorem dX1_append_1 : decode cX1_append 1 = .ok (.getfield 9, 3) := by decide +kernel
theorem dX1_append_4 : decode cX1_append 4 = .ok (.istore 4, 2) := by decide +kernel
theorem dX1_append_6 : decode cX1_append 6 = .ok (.aload_n 0, 1) := by decide +kernel
theorem dX1_append_7 : decode cX1_append 7 = .ok (.getfield 15, 3) := by decide +kernel
theorem dX1_append_10 : decode cX1_append 10 = .ok (.iload 4, 2) := by decide +kernel
theorem dX1_append_12 : decode cX1_append 12 = .ok (.iload_n 1, 1) := by decide +kernel
theorem dX1_append_13 : decode cX1_append 13 = .ok (.iastore, 1) := by decide +kernel
theorem dX1_append_14 : decode cX1_append 14 = .ok (.aload_n 0, 1) := by decide +kernel
theorem dX1_append_15 : decode cX1_append 15 = .ok (.getfield 19, 3) := by decide +kernel
theorem dX1_append_18 : decode cX1_append 18 = .ok (.iload 4, 2) := by decide +kernel
theorem dX1_append_20 : decode cX1_append 20 = .ok (.iload_n 2, 1) := by decide +kernel
theorem dX1_append_21 : decode cX1_append 21 = .ok (.iastore, 1) := by decide +kernel
theorem dX1_append_22 : decode cX1_append 22 = .ok (.aload_n 0, 1) := by decide +kernel
theorem dX1_append_23 : decode cX1_append 23 = .ok (.getfield 22, 3) := by decide +kernel
theorem dX1_append_26 : decode cX1_append 26 = .ok (.iload 4, 2) := by decide +kernel
theorem dX1_append_28 : decode cX1_append 28 = .ok (.iload_n 3, 1) := by decide +kernel
theorem dX1_append_29 : decode cX1_append 29 = .ok (.iastore, 1) := by decide +kernel
theorem dX1_append_30 : decode cX1_append 30 = .ok (.aload_n 0, 1) := by decide +kernel
theorem dX1_append_31 : decode cX1_append 31 = .ok (.getfield 25, 3) := by decide +kernel
theorem dX1_append_34 : decode cX1_append 34 = .ok (.iload 4, 2) := by decide +kernel
theorem dX1_append_36 : decode cX1_append 36 = .ok (.iconst 1, 1) := by decide +kernel
theorem dX1_append_37 : decode cX1_append 37 = .ok (.bastore, 1) := by decide +kernel
theorem dX1_append_38 : decode cX1_append 38 = .ok (.aload_n 0, 1) := by decide +kernel
theorem dX1_append_39 : decode cX1_append 39 = .ok (.dup, 1) := by decide +kernel
theorem dX1_append_40 : decode cX1_append 40 = .ok (.getfield 9, 3) := by decide +kernel
theorem dX1_append_43 : decode cX1_append 43 = .ok (.iconst 1, 1) := by decide +kernel
theorem dX1_append_44 : decode cX1_append 44 = .ok (.iadd, 1) := by decide +kernel
theorem dX1_append_45 : decode cX1_append 45 = .ok (.putfield 9, 3) := by decide +kernel
theorem dX1_append_48 : decode cX1_append 48 = .ok (.aload_n 0, 1) := by decide +kernel
theorem dX1_append_49 : decode cX1_append 49 = .ok (.invokevirtual 43, 3) := by decide +kernel
theorem dX1_append_52 : decode cX1_append 52 = .ok (.iload 4, 2) := by decide +kernel
theorem dX1_append_54 : decode cX1_append 54 = .ok (.ireturn, 1) := by decide +kernel
set_option maxRecDepth 20000 in
theorem ggX1_switchTo_X1_followLines : GoodIn wsX1_switchTo wsX1_followLines := goodIn_r _ [6, 7, 8, 9, 5, 10, 11, 12, 1, 13, 14, 15, 16, 17, 18, 19, 20, 21, 22, 23, 24, 25, 26, 27, 28, 29, 30, 31, 32, 33, 34, 35, 36, 37, 38, 39, 40, 41, 42] (by decide +kernel) (by decide +kernel)
set_option maxRecDepth 20000 in
theorem gX1_switchTo_X1_followLines : GoodIn wsX1_switchTo (wsV RX1 43 RX1 yX1_followLines wsX1_followLines) := goodIn_app (goodIn_of _ (by decide +kernel)) ggX1_switchTo_X1_followLines
theorem dX1_switchTo_0 : decode cX1_switchTo 0 = .ok (.aload_n 0, 1) := by decide +kernel
theorem dX1_switchTo_1 : decode cX1_switchTo 1 = .ok (.getfield 25, 3) := by decide +kernel
theorem dX1_switchTo_4 : decode cX1_switchTo 4 = .ok (.iload_n 1, 1) := by decide +kernel
theorem dX1_switchTo_5 : decode cX1_switchTo 5 = .ok (.baload, 1) := by decide +kernel
theorem dX1_switchTo_6 : decode cX1_switchTo 6 = .ok (.istore_n 3, 1) := by decide +kernel
theorem dX1_switchTo_7 : decode cX1_switchTo 7 = .ok (.aload_n 0, 1) := by decide +kernel
theorem dX1_switchTo_8 : decode cX1_switchTo 8 = .ok (.getfield 25, 3) := by decide +kernel
theorem dX1_switchTo_11 : decode cX1_switchTo 11 = .ok (.iload_n 1, 1) := by decide +kernel
theorem dX1_switchTo_12 : decode cX1_switchTo 12 = .ok (.iload_n 2, 1) := by decide +kernel
theorem dX1_switchTo_13 : decode cX1_switchTo 13 = .ok (.bastore, 1) := by decide +kernel
theorem dX1_switchTo_14 : decode cX1_switchTo 14 = .ok (.aload_n 0, 1) := by decide +kernel
theorem dX1_switchTo_15 : decode cX1_switchTo 15 = .ok (.invokevirtual 43, 3) := by decide +kernel
theorem dX1_switchTo_18 : decode cX1_switchTo 18 = .ok (.iload_n 3, 1) := by decide +kernel
theorem dX1_switchTo_19 : decode cX1_switchTo 19 = .ok (.ireturn, 1) := by decide +kernel
set_option maxRecDepth 20000 in
theorem ggX1_followLines_X1_findReferences : GoodIn wsX1_followLines wsX1_findReferences := goodIn_r _ [5, 6, 7, 8, 9, 10, 11, 12, 13, 4, 14, 15, 16, 17, 18, 30, 31, 32, 33, 34, 35, 36, 37, 38] (by decide +kernel) (by decide +kernel)
set_option maxRecDepth 20000 in
theorem gX1_followLines_X1_findReferences : GoodIn wsX1_followLines (wsV RX1 46 RX1 yX1_findReferences wsX1_findReferences) := goodIn_app (goodIn_of _ (by decide +kernel)) ggX1_followLines_X1_findReferences
set_option maxRecDepth 20000 in
theorem ggX1_followLines_X1_findFlowGrowths : GoodIn wsX1_followLines wsX1_findFlowGrowths := goodIn_r _ [22, 7, 8, 23, 24, 9, 10, 30, 31, 32, 33, 34, 35, 36, 37, 38] (by decide +kernel) (by decide +kernel)
set_option maxRecDepth 20000 in
theorem gX1_followLines_X1_findFlowGrowths : GoodIn wsX1_followLines (wsV RX1 49 RX1 yX1_findFlowGrowths wsX1_findFlowGrowths) := goodIn_app (goodIn_of _ (by decide +kernel)) ggX1_followLines_X1_findFlowGrowths
set_option maxRecDepth 20000 in
theorem ggX1_followLines_X1_findInjectionGrowths : GoodIn wsX1_followLines wsX1_findInjectionGrowths := goodIn_r _ [28, 29, 7, 9, 24, 10, 30, 31, 32, 33, 34, 35, 36, 37, 38] (by decide +kernel) (by decide +kernel)
set_option maxRecDepth 20000 in
theorem gX1_followLines_X1_findInjectionGrowths : GoodIn wsX1_followLines (wsV RX1 52 RX1 yX1_findInjectionGrowths wsX1_findInjectionGrowths) := goodIn_app (goodIn_of _ (by decide +kernel)) ggX1_followLines_X1_findInjectionGrowths
theorem dX1_followLines_0 : decode cX1_followLines 0 = .ok (.aload_n 0, 1) := by decide +kernel
theorem dX1_followLines_1 : decode cX1_followLines 1 = .ok (.invokevirtual 46, 3) := by decide +kernel
theorem dX1_followLines_4 : decode cX1_followLines 4 = .ok (.aload_n 0, 1) := by decide +kernel
theorem dX1_followLines_5 : decode cX1_followLines 5 = .ok (.invokevirtual 49, 3) := by decide +kernel
theorem dX1_followLines_8 : decode cX1_followLines 8 = .ok (.aload_n 0, 1) := by decide +kernel
theorem dX1_followLines_9 : decode cX1_followLines 9 = .ok (.invokevirtual 52, 3) := by decide +kernel
theorem dX1_followLines_12 : decode cX1_followLines 12 = .ok (.return_, 1) := by decide +kernel
set_option maxRecDepth 20000 in
theorem ggX1_findReferences_X1_shareReference : GoodIn wsX1_findReferences wsX1_shareReference := goodIn_r _ [10, 1, 11, 12, 13, 14, 15, 16, 17, 18, 19, 20, 21, 22, 23] (by decide +kernel) (by decide +kernel)
set_option maxRecDepth 20000 in
theorem gX1_findReferences_X1_shareReference : GoodIn wsX1_findReferences (wsV RX1 55 RX1 yX1_shareReference wsX1_shareReference) := goodIn_app (goodIn_of _ (by decide +kernel)) ggX1_findReferences_X1_shareReference
theorem dX1_findReferences_0 : decode cX1_findReferences 0 = .ok (.iconst 0, 1) := by decide +kernel
theorem dX1_findReferences_1 : decode cX1_findReferences 1 = .ok (.istore_n 1, 1) := by decide +kernel
theorem dX1_findReferences_2 : decode cX1_findReferences 2 = .ok (.iload_n 1, 1) := by decide +kernel
theorem dX1_findReferences_3 : decode cX1_findReferences 3 = .ok (.iconst 5, 1) := by decide +kernel
theorem dX1_findReferences_4 : decode cX1_findReferences 4 = .ok (.if_icmp .ge 16, 3) := by decide +kernel
theorem dX1_findReferences_7 : decode cX1_findReferences 7 = .ok (.aload_n 0, 1) := by decide +kernel
theorem dX1_findReferences_8 : decode cX1_findReferences 8 = .ok (.getfield 29, 3) := by decide +kernel
theorem dX1_findReferences_11 : decode cX1_findReferences 11 = .ok (.iload_n 1, 1) := by decide +kernel
theorem dX1_findReferences_12 : decode cX1_findReferences 12 = .ok (.iload_n 1, 1) := by decide +kernel
theorem dX1_findReferences_13 : decode cX1_findReferences 13 = .ok (.iastore, 1) := by decide +kernel
theorem dX1_findReferences_14 : decode cX1_findReferences 14 = .ok (.iinc 1 1, 3) := by decide +kernel
theorem dX1_findReferences_17 : decode cX1_findReferences 17 = .ok (.goto (-15), 3) := by decide +kernel
theorem dX1_findReferences_20 : decode cX1_findReferences 20 = .ok (.iconst 1, 1) := by decide +kernel
theorem dX1_findReferences_21 : decode cX1_findReferences 21 = .ok (.istore_n 1, 1) := by decide +kernel
theorem dX1_findReferences_22 : decode cX1_findReferences 22 = .ok (.iload_n 1, 1) := by decide +kernel
theorem dX1_findReferences_23 : decode cX1_findReferences 23 = .ok (.iconst 5, 1) := by decide +kernel
theorem dX1_findReferences_24 : decode cX1_findReferences 24 = .ok (.if_icmp .ge 50, 3) := by decide +kernel
theorem dX1_findReferences_27 : decode cX1_findReferences 27 = .ok (.iconst 0, 1) := by decide +kernel
theorem dX1_findReferences_28 : decode cX1_findReferences 28 = .ok (.istore_n 2, 1) := by decide +kernel
theorem dX1_findReferences_29 : decode cX1_findReferences 29 = .ok (.iload_n 2, 1) := by decide +kernel
theorem dX1_findReferences_30 : decode cX1_findReferences 30 = .ok (.aload_n 0, 1) := by decide +kernel
theorem dX1_findReferences_31 : decode cX1_findReferences 31 = .ok (.getfield 9, 3) := by decide +kernel
theorem dX1_findReferences_34 : decode cX1_findReferences 34 = .ok (.if_icmp .ge 34, 3) := by decide +kernel
theorem dX1_findReferences_37 : decode cX1_findReferences 37 = .ok (.aload_n 0, 1) := by decide +kernel
theorem dX1_findReferences_38 : decode cX1_findReferences 38 = .ok (.getfield 25, 3) := by decide +kernel
theorem dX1_findReferences_41 : decode cX1_findReferences 41 = .ok (.iload_n 2, 1) := by decide +kernel
theorem dX1_findReferences_42 : decode cX1_findReferences 42 = .ok (.baload, 1) := by decide +kernel
theorem dX1_findReferences_43 : decode cX1_findReferences 43 = .ok (.ifCond .eq 19, 3) := by decide +kernel
theorem dX1_findReferences_46 : decode cX1_findReferences 46 = .ok (.aload_n 0, 1) := by decide +kernel
theorem dX1_findReferences_47 : decode cX1_findReferences 47 = .ok (.aload_n 0, 1) := by decide +kernel
theorem dX1_findReferences_48 : decode cX1_findReferences 48 = .ok (.getfield 15, 3) := by decide +kernel
theorem dX1_findReferences_51 : decode cX1_findReferences 51 = .ok (.iload_n 2, 1) := by decide +kernel
theorem dX1_findReferences_52 : decode cX1_findReferences 52 = .ok (.iaload, 1) := by decide +kernel
theorem dX1_findReferences_53 : decode cX1_findReferences 53 = .ok (.aload_n 0, 1) := by decide +kernel
theorem dX1_findReferences_54 : decode cX1_findReferences 54 = .ok (.getfield 19, 3) := by decide +kernel
theorem dX1_findReferences_57 : decode cX1_findReferences 57 = .ok (.iload_n 2, 1) := by decide +kernel
theorem dX1_findReferences_58 : decode cX1_findReferences 58 = .ok (.iaload, 1) := by decide +kernel
theorem dX1_findReferences_59 : decode cX1_findReferences 59 = .ok (.invokevirtual 55, 3) := by decide +kernel
theorem dX1_findReferences_62 : decode cX1_findReferences 62 = .ok (.iinc 2 1, 3) := by decide +kernel
theorem dX1_findReferences_65 : decode cX1_findReferences 65 = .ok (.goto (-36), 3) := by decide +kernel
theorem dX1_findReferences_68 : decode cX1_findReferences 68 = .ok (.iinc 1 1, 3) := by decide +kernel
theorem dX1_findReferences_71 : decode cX1_findReferences 71 = .ok (.goto (-49), 3) := by decide +kernel
theorem dX1_findReferences_74 : decode cX1_findReferences 74 = .ok (.return_, 1) := by decide +kernel
theorem dX1_shareReference_0 : decode cX1_shareReference 0 = .ok (.aload_n 0, 1) := by decide +kernel
theorem dX1_shareReference_1 : decode cX1_shareReference 1 = .ok (.getfield 29, 3) := by decide +kernel
theorem dX1_shareReference_4 : decode cX1_shareReference 4 = .ok (.iload_n 1, 1) := by decide +kernel
theorem dX1_shareReference_5 : decode cX1_shareReference 5 = .ok (.iaload, 1) := by decide +kernel
theorem dX1_shareReference_6 : decode cX1_shareReference 6 = .ok (.aload_n 0, 1) := by decide +kernel
theorem dX1_shareReference_7 : decode cX1_shareReference 7 = .ok (.getfield 29, 3) := by decide +kernel
theorem dX1_shareReference_10 : decode cX1_shareReference 10 = .ok (.iload_n 2, 1) := by decide +kernel
theorem dX1_shareReference_11 : decode cX1_shareReference 11 = .ok (.iaload, 1) := by decide +kernel
theorem dX1_shareReference_12 : decode cX1_shareReference 12 = .ok (.invokestatic 59, 3) := by decide +kernel
theorem dX1_shareReference_15 : decode cX1_shareReference 15 = .ok (.istore_n 3, 1) := by decide +kernel
theorem dX1_shareReference_16 : decode cX1_shareReference 16 = .ok (.aload_n 0, 1) := by decide +kernel
theorem dX1_shareReference_17 : decode cX1_shareReference 17 = .ok (.getfield 29, 3) := by decide +kernel
theorem dX1_shareReference_20 : decode cX1_shareReference 20 = .ok (.iload_n 1, 1) := by decide +kernel
theorem dX1_shareReference_21 : decode cX1_shareReference 21 = .ok (.iload_n 3, 1) := by decide +kernel
theorem dX1_shareReference_22 : decode cX1_shareReference 22 = .ok (.iastore, 1) := by decide +kernel
theorem dX1_shareReference_23 : decode cX1_shareReference 23 = .ok (.aload_n 0, 1) := by decide +kernel
theorem dX1_shareReference_24 : decode cX1_shareReference 24 = .ok (.getfield 29, 3) := by decide +kernel
theorem dX1_shareReference_27 : decode cX1_shareReference 27 = .ok (.iload_n 2, 1) := by decide +kernel
theorem dX1_shareReference_28 : decode cX1_shareReference 28 = .ok (.iload_n 3, 1) := by decide +kernel
theorem dX1_shareReference_29 : decode cX1_shareReference 29 = .ok (.iastore, 1) := by decide +kernel
theorem dX1_shareReference_30 : decode cX1_shareReference 30 = .ok (.return_, 1) := by decide +kernel
theorem dX1_findFlowGrowths_0 : decode cX1_findFlowGrowths 0 = .ok (.iconst 0, 1) := by decide +kernel
theorem dX1_findFlowGrowths_1 : decode cX1_findFlowGrowths 1 = .ok (.istore_n 1, 1) := by decide +kernel
theorem dX1_findFlowGrowths_2 : decode cX1_findFlowGrowths 2 = .ok (.iload_n 1, 1) := by decide +kernel
theorem dX1_findFlowGrowths_3 : decode cX1_findFlowGrowths 3 = .ok (.aload_n 0, 1) := by decide +kernel
theorem dX1_findFlowGrowths_4 : decode cX1_findFlowGrowths 4 = .ok (.getfield 9, 3) := by decide +kernel
theorem dX1_findFlowGrowths_7 : decode cX1_findFlowGrowths 7 = .ok (.if_icmp .ge 58, 3) := by decide +kernel
theorem dX1_findFlowGrowths_10 : decode cX1_findFlowGrowths 10 = .ok (.aload_n 0, 1) := by decide +kernel
theorem dX1_findFlowGrowths_11 : decode cX1_findFlowGrowths 11 = .ok (.getfield 25, 3) := by decide +kernel
theorem dX1_findFlowGrowths_14 : decode cX1_findFlowGrowths 14 = .ok (.iload_n 1, 1) := by decide +kernel
theorem dX1_findFlowGrowths_15 : decode cX1_findFlowGrowths 15 = .ok (.baload, 1) := by decide +kernel
theorem dX1_findFlowGrowths_16 : decode cX1_findFlowGrowths 16 = .ok (.ifCond .eq 12, 3) := by decide +kernel
theorem dX1_findFlowGrowths_19 : decode cX1_findFlowGrowths 19 = .ok (.aload_n 0, 1) := by decide +kernel
theorem dX1_findFlowGrowths_20 : decode cX1_findFlowGrowths 20 = .ok (.getfield 22, 3) := by decide +kernel
theorem dX1_findFlowGrowths_23 : decode cX1_findFlowGrowths 23 = .ok (.iload_n 1, 1) := by decide +kernel
theorem dX1_findFlowGrowths_24 : decode cX1_findFlowGrowths 24 = .ok (.iaload, 1) := by decide +kernel
theorem dX1_findFlowGrowths_25 : decode cX1_findFlowGrowths 25 = .ok (.goto 4, 3) := by decide +kernel
theorem dX1_findFlowGrowths_28 : decode cX1_findFlowGrowths 28 = .ok (.iconst 0, 1) := by decide +kernel
theorem dX1_findFlowGrowths_29 : decode cX1_findFlowGrowths 29 = .ok (.istore_n 2, 1) := by decide +kernel
theorem dX1_findFlowGrowths_30 : decode cX1_findFlowGrowths 30 = .ok (.aload_n 0, 1) := by decide +kernel
theorem dX1_findFlowGrowths_31 : decode cX1_findFlowGrowths 31 = .ok (.getfield 34, 3) := by decide +kernel
theorem dX1_findFlowGrowths_34 : decode cX1_findFlowGrowths 34 = .ok (.iload_n 1, 1) := by decide +kernel
theorem dX1_findFlowGrowths_35 : decode cX1_findFlowGrowths 35 = .ok (.aaload, 1) := by decide +kernel
theorem dX1_findFlowGrowths_36 : decode cX1_findFlowGrowths 36 = .ok (.aload_n 0, 1) := by decide +kernel
theorem dX1_findFlowGrowths_37 : decode cX1_findFlowGrowths 37 = .ok (.getfield 15, 3) := by decide +kernel
theorem dX1_findFlowGrowths_40 : decode cX1_findFlowGrowths 40 = .ok (.iload_n 1, 1) := by decide +kernel
theorem dX1_findFlowGrowths_41 : decode cX1_findFlowGrowths 41 = .ok (.iaload, 1) := by decide +kernel
theorem dX1_findFlowGrowths_42 : decode cX1_findFlowGrowths 42 = .ok (.iload_n 2, 1) := by decide +kernel
theorem dX1_findFlowGrowths_43 : decode cX1_findFlowGrowths 43 = .ok (.iastore, 1) := by decide +kernel
theorem dX1_findFlowGrowths_44 : decode cX1_findFlowGrowths 44 = .ok (.aload_n 0, 1) := by decide +kernel
theorem dX1_findFlowGrowths_45 : decode cX1_findFlowGrowths 45 = .ok (.getfield 34, 3) := by decide +kernel
theorem dX1_findFlowGrowths_48 : decode cX1_findFlowGrowths 48 = .ok (.iload_n 1, 1) := by decide +kernel
theorem dX1_findFlowGrowths_49 : decode cX1_findFlowGrowths 49 = .ok (.aaload, 1) := by decide +kernel
theorem dX1_findFlowGrowths_50 : decode cX1_findFlowGrowths 50 = .ok (.aload_n 0, 1) := by decide +kernel
theorem dX1_findFlowGrowths_51 : decode cX1_findFlowGrowths 51 = .ok (.getfield 19, 3) := by decide +kernel
theorem dX1_findFlowGrowths_54 : decode cX1_findFlowGrowths 54 = .ok (.iload_n 1, 1) := by decide +kernel
theorem dX1_findFlowGrowths_55 : decode cX1_findFlowGrowths 55 = .ok (.iaload, 1) := by decide +kernel
theorem dX1_findFlowGrowths_56 : decode cX1_findFlowGrowths 56 = .ok (.iload_n 2, 1) := by decide +kernel
theorem dX1_findFlowGrowths_57 : decode cX1_findFlowGrowths 57 = .ok (.ineg, 1) := by decide +kernel
theorem dX1_findFlowGrowths_58 : decode cX1_findFlowGrowths 58 = .ok (.iastore, 1) := by decide +kernel
theorem dX1_findFlowGrowths_59 : decode cX1_findFlowGrowths 59 = .ok (.iinc 1 1, 3) := by decide +kernel
theorem dX1_findFlowGrowths_62 : decode cX1_findFlowGrowths 62 = .ok (.goto (-60), 3) := by decide +kernel
theorem dX1_findFlowGrowths_65 : decode cX1_findFlowGrowths 65 = .ok (.return_, 1) := by decide +kernel
theorem dX1_findInjectionGrowths_0 : decode cX1_findInjectionGrowths 0 = .ok (.iconst 0, 1) := by decide +kernel
theorem dX1_findInjectionGrowths_1 : decode cX1_findInjectionGrowths 1 = .ok (.istore_n 1, 1) := by decide +kernel
theorem dX1_findInjectionGrowths_2 : decode cX1_findInjectionGrowths 2 = .ok (.iload_n 1, 1) := by decide +kernel
theorem dX1_findInjectionGrowths_3 : decode cX1_findInjectionGrowths 3 = .ok (.iconst 5, 1) := by decide +kernel
theorem dX1_findInjectionGrowths_4 : decode cX1_findInjectionGrowths 4 = .ok (.if_icmp .ge 95, 3) := by decide +kernel
theorem dX1_findInjectionGrowths_7 : decode cX1_findInjectionGrowths 7 = .ok (.iconst 0, 1) := by decide +kernel
theorem dX1_findInjectionGrowths_8 : decode cX1_findInjectionGrowths 8 = .ok (.istore_n 2, 1) := by decide +kernel
theorem dX1_findInjectionGrowths_9 : decode cX1_findInjectionGrowths 9 = .ok (.iload_n 2, 1) := by decide +kernel
theorem dX1_findInjectionGrowths_10 : decode cX1_findInjectionGrowths 10 = .ok (.iconst 5, 1) := by decide +kernel
theorem dX1_findInjectionGrowths_11 : decode cX1_findInjectionGrowths 11 = .ok (.if_icmp .ge 18, 3) := by decide +kernel
theorem dX1_findInjectionGrowths_14 : decode cX1_findInjectionGrowths 14 = .ok (.aload_n 0, 1) := by decide +kernel
theorem dX1_findInjectionGrowths_15 : decode cX1_findInjectionGrowths 15 = .ok (.getfield 37, 3) := by decide +kernel
theorem dX1_findInjectionGrowths_18 : decode cX1_findInjectionGrowths 18 = .ok (.iload_n 2, 1) := by decide +kernel
theorem dX1_findInjectionGrowths_19 : decode cX1_findInjectionGrowths 19 = .ok (.aaload, 1) := by decide +kernel
theorem dX1_findInjectionGrowths_20 : decode cX1_findInjectionGrowths 20 = .ok (.iload_n 1, 1) := by decide +kernel
theorem dX1_findInjectionGrowths_21 : decode cX1_findInjectionGrowths 21 = .ok (.iconst 0, 1) := by decide +kernel
theorem dX1_findInjectionGrowths_22 : decode cX1_findInjectionGrowths 22 = .ok (.iastore, 1) := by decide +kernel
theorem dX1_findInjectionGrowths_23 : decode cX1_findInjectionGrowths 23 = .ok (.iinc 2 1, 3) := by decide +kernel
theorem dX1_findInjectionGrowths_26 : decode cX1_findInjectionGrowths 26 = .ok (.goto (-17), 3) := by decide +kernel
theorem dX1_findInjectionGrowths_29 : decode cX1_findInjectionGrowths 29 = .ok (.iconst 0, 1) := by decide +kernel
theorem dX1_findInjectionGrowths_30 : decode cX1_findInjectionGrowths 30 = .ok (.istore_n 2, 1) := by decide +kernel
theorem dX1_findInjectionGrowths_31 : decode cX1_findInjectionGrowths 31 = .ok (.iload_n 2, 1) := by decide +kernel
theorem dX1_findInjectionGrowths_32 : decode cX1_findInjectionGrowths 32 = .ok (.aload_n 0, 1) := by decide +kernel
theorem dX1_findInjectionGrowths_33 : decode cX1_findInjectionGrowths 33 = .ok (.getfield 9, 3) := by decide +kernel
theorem dX1_findInjectionGrowths_36 : decode cX1_findInjectionGrowths 36 = .ok (.if_icmp .ge 57, 3) := by decide +kernel
theorem dX1_findInjectionGrowths_39 : decode cX1_findInjectionGrowths 39 = .ok (.aload_n 0, 1) := by decide +kernel
theorem dX1_findInjectionGrowths_40 : decode cX1_findInjectionGrowths 40 = .ok (.getfield 37, 3) := by decide +kernel
theorem dX1_findInjectionGrowths_43 : decode cX1_findInjectionGrowths 43 = .ok (.aload_n 0, 1) := by decide +kernel
theorem dX1_findInjectionGrowths_44 : decode cX1_findInjectionGrowths 44 = .ok (.getfield 15, 3) := by decide +kernel
theorem dX1_findInjectionGrowths_47 : decode cX1_findInjectionGrowths 47 = .ok (.iload_n 2, 1) := by decide +kernel
theorem dX1_findInjectionGrowths_48 : decode cX1_findInjectionGrowths 48 = .ok (.iaload, 1) := by decide +kernel
theorem dX1_findInjectionGrowths_49 : decode cX1_findInjectionGrowths 49 = .ok (.aaload, 1) := by decide +kernel
theorem dX1_findInjectionGrowths_50 : decode cX1_findInjectionGrowths 50 = .ok (.iload_n 1, 1) := by decide +kernel
theorem dX1_findInjectionGrowths_51 : decode cX1_findInjectionGrowths 51 = .ok (.dup2, 1) := by decide +kernel
theorem dX1_findInjectionGrowths_52 : decode cX1_findInjectionGrowths 52 = .ok (.iaload, 1) := by decide +kernel
theorem dX1_findInjectionGrowths_53 : decode cX1_findInjectionGrowths 53 = .ok (.aload_n 0, 1) := by decide +kernel
theorem dX1_findInjectionGrowths_54 : decode cX1_findInjectionGrowths 54 = .ok (.getfield 34, 3) := by decide +kernel
theorem dX1_findInjectionGrowths_57 : decode cX1_findInjectionGrowths 57 = .ok (.iload_n 2, 1) := by decide +kernel
theorem dX1_findInjectionGrowths_58 : decode cX1_findInjectionGrowths 58 = .ok (.aaload, 1) := by decide +kernel
theorem dX1_findInjectionGrowths_59 : decode cX1_findInjectionGrowths 59 = .ok (.iload_n 1, 1) := by decide +kernel
theorem dX1_findInjectionGrowths_60 : decode cX1_findInjectionGrowths 60 = .ok (.iaload, 1) := by decide +kernel
theorem dX1_findInjectionGrowths_61 : decode cX1_findInjectionGrowths 61 = .ok (.iadd, 1) := by decide +kernel
theorem dX1_findInjectionGrowths_62 : decode cX1_findInjectionGrowths 62 = .ok (.iastore, 1) := by decide +kernel
theorem dX1_findInjectionGrowths_63 : decode cX1_findInjectionGrowths 63 = .ok (.aload_n 0, 1) := by decide +kernel
theorem dX1_findInjectionGrowths_64 : decode cX1_findInjectionGrowths 64 = .ok (.getfield 37, 3) := by decide +kernel
theorem dX1_findInjectionGrowths_67 : decode cX1_findInjectionGrowths 67 = .ok (.aload_n 0, 1) := by decide +kernel
theorem dX1_findInjectionGrowths_68 : decode cX1_findInjectionGrowths 68 = .ok (.getfield 19, 3) := by decide +kernel
theorem dX1_findInjectionGrowths_71 : decode cX1_findInjectionGrowths 71 = .ok (.iload_n 2, 1) := by decide +kernel
theorem dX1_findInjectionGrowths_72 : decode cX1_findInjectionGrowths 72 = .ok (.iaload, 1) := by decide +kernel
theorem dX1_findInjectionGrowths_73 : decode cX1_findInjectionGrowths 73 = .ok (.aaload, 1) := by decide +kernel
theorem dX1_findInjectionGrowths_74 : decode cX1_findInjectionGrowths 74 = .ok (.iload_n 1, 1) := by decide +kernel
theorem dX1_findInjectionGrowths_75 : decode cX1_findInjectionGrowths 75 = .ok (.dup2, 1) := by decide +kernel
theorem dX1_findInjectionGrowths_76 : decode cX1_findInjectionGrowths 76 = .ok (.iaload, 1) := by decide +kernel
theorem dX1_findInjectionGrowths_77 : decode cX1_findInjectionGrowths 77 = .ok (.aload_n 0, 1) := by decide +kernel
theorem dX1_findInjectionGrowths_78 : decode cX1_findInjectionGrowths 78 = .ok (.getfield 34, 3) := by decide +kernel
theorem dX1_findInjectionGrowths_81 : decode cX1_findInjectionGrowths 81 = .ok (.iload_n 2, 1) := by decide +kernel
theorem dX1_findInjectionGrowths_82 : decode cX1_findInjectionGrowths 82 = .ok (.aaload, 1) := by decide +kernel
theorem dX1_findInjectionGrowths_83 : decode cX1_findInjectionGrowths 83 = .ok (.iload_n 1, 1) := by decide +kernel
theorem dX1_findInjectionGrowths_84 : decode cX1_findInjectionGrowths 84 = .ok (.iaload, 1) := by decide +kernel
theorem dX1_findInjectionGrowths_85 : decode cX1_findInjectionGrowths 85 = .ok (.isub, 1) := by decide +kernel
theorem dX1_findInjectionGrowths_86 : decode cX1_findInjectionGrowths 86 = .ok (.iastore, 1) := by decide +kernel
theorem dX1_findInjectionGrowths_87 : decode cX1_findInjectionGrowths 87 = .ok (.iinc 2 1, 3) := by decide +kernel
theorem dX1_findInjectionGrowths_90 : decode cX1_findInjectionGrowths 90 = .ok (.goto (-59), 3) := by decide +kernel
theorem dX1_findInjectionGrowths_93 : decode cX1_findInjectionGrowths 93 = .ok (.iinc 1 1, 3) := by decide +kernel
theorem dX1_findInjectionGrowths_96 : decode cX1_findInjectionGrowths 96 = .ok (.goto (-94), 3) := by decide +kernel
theorem dX1_findInjectionGrowths_99 : decode cX1_findInjectionGrowths 99 = .ok (.return_, 1) := by decide +kernel
theorem dX1_isUnknown_0 : decode cX1_isUnknown 0 = .ok (.aload_n 0, 1) := by decide +kernel
theorem dX1_isUnknown_1 : decode cX1_isUnknown 1 = .ok (.getfield 29, 3) := by decide +kernel
theorem dX1_isUnknown_4 : decode cX1_isUnknown 4 = .ok (.iload_n 1, 1) := by decide +kernel
theorem dX1_isUnknown_5 : decode cX1_isUnknown 5 = .ok (.iaload, 1) := by decide +kernel
theorem dX1_isUnknown_6 : decode cX1_isUnknown 6 = .ok (.iload_n 2, 1) := by decide +kernel
theorem dX1_isUnknown_7 : decode cX1_isUnknown 7 = .ok (.if_icmp .ne 12, 3) := by decide +kernel
theorem dX1_isUnknown_10 : decode cX1_isUnknown 10 = .ok (.iload_n 1, 1) := by decide +kernel
theorem dX1_isUnknown_11 : decode cX1_isUnknown 11 = .ok (.iload_n 2, 1) := by decide +kernel
theorem dX1_isUnknown_12 : decode cX1_isUnknown 12 = .ok (.if_icmp .eq 7, 3) := by decide +kernel
theorem dX1_isUnknown_15 : decode cX1_isUnknown 15 = .ok (.iconst 1, 1) := by decide +kernel
theorem dX1_isUnknown_16 : decode cX1_isUnknown 16 = .ok (.goto 4, 3) := by decide +kernel
theorem dX1_isUnknown_19 : decode cX1_isUnknown 19 = .ok (.iconst 0, 1) := by decide +kernel
theorem dX1_isUnknown_20 : decode cX1_isUnknown 20 = .ok (.ireturn, 1) := by decide +kernel
set_option maxRecDepth 20000 in
theorem ggX1_countUnknown_X1_isUnknown : GoodIn wsX1_countUnknown wsX1_isUnknown := goodIn_r _ [5, 6, 7, 8, 9, 10, 11, 12, 13, 14, 15] (by decide +kernel) (by decide +kernel)
set_option maxRecDepth 20000 in
theorem gX1_countUnknown_X1_isUnknown : GoodIn wsX1_countUnknown (wsV RX1 65 RX1 yX1_isUnknown wsX1_isUnknown) := goodIn_app (goodIn_of _ (by decide +kernel)) ggX1_countUnknown_X1_isUnknown
theorem dX1_countUnknown_0 : decode cX1_countUnknown 0 = .ok (.iconst 0, 1) := by decide +kernel
theorem dX1_countUnknown_1 : decode cX1_countUnknown 1 = .ok (.istore_n 2, 1) := by decide +kernel
theorem dX1_countUnknown_2 : decode cX1_countUnknown 2 = .ok (.iconst 0, 1) := by decide +kernel
theorem dX1_countUnknown_3 : decode cX1_countUnknown 3 = .ok (.istore_n 3, 1) := by decide +kernel
theorem dX1_countUnknown_4 : decode cX1_countUnknown 4 = .ok (.iload_n 3, 1) := by decide +kernel
theorem dX1_countUnknown_5 : decode cX1_countUnknown 5 = .ok (.iconst 5, 1) := by decide +kernel
theorem dX1_countUnknown_6 : decode cX1_countUnknown 6 = .ok (.if_icmp .ge 21, 3) := by decide +kernel
theorem dX1_countUnknown_9 : decode cX1_countUnknown 9 = .ok (.aload_n 0, 1) := by decide +kernel
theorem dX1_countUnknown_10 : decode cX1_countUnknown 10 = .ok (.iload_n 3, 1) := by decide +kernel
theorem dX1_countUnknown_11 : decode cX1_countUnknown 11 = .ok (.iload_n 1, 1) := by decide +kernel
theorem dX1_countUnknown_12 : decode cX1_countUnknown 12 = .ok (.invokevirtual 65, 3) := by decide +kernel
theorem dX1_countUnknown_15 : decode cX1_countUnknown 15 = .ok (.ifCond .eq 6, 3) := by decide +kernel
theorem dX1_countUnknown_18 : decode cX1_countUnknown 18 = .ok (.iinc 2 1, 3) := by decide +kernel
theorem dX1_countUnknown_21 : decode cX1_countUnknown 21 = .ok (.iinc 3 1, 3) := by decide +kernel
theorem dX1_countUnknown_24 : decode cX1_countUnknown 24 = .ok (.goto (-20), 3) := by decide +kernel
theorem dX1_countUnknown_27 : decode cX1_countUnknown 27 = .ok (.iload_n 2, 1) := by decide +kernel
theorem dX1_countUnknown_28 : decode cX1_countUnknown 28 = .ok (.ireturn, 1) := by decide +kernel
theorem dX2_init_0 : decode cX2_init 0 = .ok (.aload_n 0, 1) := by decide +kernel
theorem dX2_init_1 : decode cX2_init 1 = .ok (.invokespecial 3, 3) := by decide +kernel
theorem dX2_init_4 : decode cX2_init 4 = .ok (.aload_n 0, 1) := by decide +kernel
theorem dX2_init_5 : decode cX2_init 5 = .ok (.iconst 0, 1) := by decide +kernel
theorem dX2_init_6 : decode cX2_init 6 = .ok (.putfield 9, 3) := by decide +kernel
theorem dX2_init_9 : decode cX2_init 9 = .ok (.aload_n 0, 1) := by decide +kernel
theorem dX2_init_10 : decode cX2_init 10 = .ok (.bipush 10, 2) := by decide +kernel
theorem dX2_init_12 : decode cX2_init 12 = .ok (.newarray .int, 2) := by decide +kernel
theorem dX2_init_14 : decode cX2_init 14 = .ok (.putfield 15, 3) := by decide +kernel
theorem dX2_init_17 : decode cX2_init 17 = .ok (.aload_n 0, 1) := by decide +kernel
theorem dX2_init_18 : decode cX2_init 18 = .ok (.bipush 10, 2) := by decide +kernel
theorem dX2_init_20 : decode cX2_init 20 = .ok (.newarray .int, 2) := by decide +kernel
theorem dX2_init_22 : decode cX2_init 22 = .ok (.putfield 19, 3) := by decide +kernel
theorem dX2_init_25 : decode cX2_init 25 = .ok (.aload_n 0, 1) := by decide +kernel
theorem dX2_init_26 : decode cX2_init 26 = .ok (.bipush 10, 2) := by decide +kernel
theorem dX2_init_28 : decode cX2_init 28 = .ok (.newarray .int, 2) := by decide +kernel
theorem dX2_init_30 : decode cX2_init 30 = .ok (.putfield 22, 3) := by decide +kernel
theorem dX2_init_33 : decode cX2_init 33 = .ok (.aload_n 0, 1) := by decide +kernel
theorem dX2_init_34 : decode cX2_init 34 = .ok (.bipush 10, 2) := by decide +kernel
theorem dX2_init_36 : decode cX2_init 36 = .ok (.newarray .int, 2) := by decide +kernel
theorem dX2_init_38 : decode cX2_init 38 = .ok (.putfield 25, 3) := by decide +kernel
theorem dX2_init_41 : decode cX2_init 41 = .ok (.aload_n 0, 1) := by decide +kernel
theorem dX2_init_42 : decode cX2_init 42 = .ok (.bipush 10, 2) := by decide +kernel
theorem dX2_init_44 : decode cX2_init 44 = .ok (.newarray .boolean, 2) := by decide +kernel
theorem dX2_init_46 : decode cX2_init 46 = .ok (.putfield 28, 3) := by decide +kernel
theorem dX2_init_49 : decode cX2_init 49 = .ok (.aload_n 0, 1) := by decide +kernel
theorem dX2_init_50 : decode cX2_init 50 = .ok (.aload_n 1, 1) := by decide +kernel
theorem dX2_init_51 : decode cX2_init 51 = .ok (.putfield 32, 3) := by decide +kernel
theorem dX2_init_54 : decode cX2_init 54 = .ok (.return_, 1) := by decide +kernel
theorem dX2_hasMeter_0 : decode cX2_hasMeter 0 = .ok (.iload_n 1, 1) := by decide +kernel
theorem dX2_hasMeter_1 : decode cX2_hasMeter 1 = .ok (.ifCond .lt 15, 3) := by decide +kernel
theorem dX2_hasMeter_4 : decode cX2_hasMeter 4 = .ok (.iload_n 1, 1) := by decide +kernel
theorem dX2_hasMeter_5 : decode cX2_hasMeter 5 = .ok (.aload_n 0, 1) := by decide +kernel
theorem dX2_hasMeter_6 : decode cX2_hasMeter 6 = .ok (.getfield 9, 3) := by decide +kernel
theorem dX2_hasMeter_9 : decode cX2_hasMeter 9 = .ok (.if_icmp .ge 7, 3) := by decide +kernel
theorem dX2_hasMeter_12 : decode cX2_hasMeter 12 = .ok (.iconst 1, 1) := by decide +kernel
theorem dX2_hasMeter_13 : decode cX2_hasMeter 13 = .ok (.goto 4, 3) := by decide +kernel
theorem dX2_hasMeter_16 : decode cX2_hasMeter 16 = .ok (.iconst 0, 1) := by decide +kernel
theorem dX2_hasMeter_17 : decode cX2_hasMeter 17 = .ok (.ireturn, 1) := by decide +kernel
theorem dX2_isFull_0 : decode cX2_isFull 0 = .ok (.aload_n 0, 1) := by decide +kernel
theorem dX2_isFull_1 : decode cX2_isFull 1 = .ok (.getfield 9, 3) := by decide +kernel
theorem dX2_isFull_4 : decode cX2_isFull 4 = .ok (.bipush 10, 2) := by decide +kernel
theorem dX2_isFull_6 : decode cX2_isFull 6 = .ok (.if_icmp .lt 7, 3) := by decide +kernel
theorem dX2_isFull_9 : decode cX2_isFull 9 = .ok (.iconst 1, 1) := by decide +kernel
theorem dX2_isFull_10 : decode cX2_isFull 10 = .ok (.goto 4, 3) := by decide +kernel
theorem dX2_isFull_13 : decode cX2_isFull 13 = .ok (.iconst 0, 1) := by decide +kernel
theorem dX2_isFull_14 : decode cX2_isFull 14 = .ok (.ireturn, 1) := by decide +kernel
theorem dX2_append_0 : decode cX2_append 0 = .ok (.aload_n 0, 1) := by decide +kernel
theorem dX2_append_1 : decode cX2_append 1 = .ok (.getfield 9, 3) := by decide +kernel
theorem dX2_append_4 : decode cX2_append 4 = .ok (.istore 5, 2) := by decide +kernel
theorem dX2_append_6 : decode cX2_append 6 = .ok (.aload_n 0, 1) := by decide +kernel
theorem dX2_append_7 : decode cX2_append 7 = .ok (.getfield 15, 3) := by decide +kernel
theorem dX2_append_10 : decode cX2_append 10 = .ok (.iload 5, 2) := by decide +kernel
theorem dX2_append_12 : decode cX2_append 12 = .ok (.iload_n 1, 1) := by decide +kernel
theorem dX2_append_13 : decode cX2_append 13 = .ok (.iastore, 1) := by decide +kernel
theorem dX2_append_14 : decode cX2_append 14 = .ok (.aload_n 0, 1) := by decide +kernel
theorem dX2_append_15 : decode cX2_append 15 = .ok (.getfield 19, 3) := by decide +kernel
theorem dX2_append_18 : decode cX2_append 18 = .ok (.iload 5, 2) := by decide +kernel
theorem dX2_append_20 : decode cX2_append 20 = .ok (.iload_n 2, 1) := by decide +kernel
theorem dX2_append_21 : decode cX2_append 21 = .ok (.iastore, 1) := by decide +kernel
theorem dX2_append_22 : decode cX2_append 22 = .ok (.aload_n 0, 1) := by decide +kernel
theorem dX2_append_23 : decode cX2_append 23 = .ok (.getfield 22, 3) := by decide +kernel
theorem dX2_append_26 : decode cX2_append 26 = .ok (.iload 5, 2) := by decide +kernel
theorem dX2_append_28 : decode cX2_append 28 = .ok (.iload_n 3, 1) := by decide +kernel
theorem dX2_append_29 : decode cX2_append 29 = .ok (.iastore, 1) := by decide +kernel
theorem dX2_append_30 : decode cX2_append 30 = .ok (.aload_n 0, 1) := by decide +kernel
theorem dX2_append_31 : decode cX2_append 31 = .ok (.getfield 25, 3) := by decide +kernel
theorem dX2_append_34 : decode cX2_append 34 = .ok (.iload 5, 2) := by decide +kernel
theorem dX2_append_36 : decode cX2_append 36 = .ok (.iload 4, 2) := by decide +kernel
theorem dX2_append_38 : decode cX2_append 38 = .ok (.iastore, 1) := by decide +kernel
theorem dX2_append_39 : decode cX2_append 39 = .ok (.aload_n 0, 1) := by decide +kernel
theorem dX2_append_40 : decode cX2_append 40 = .ok (.getfield 28, 3) := by decide +kernel
theorem dX2_append_43 : decode cX2_append 43 = .ok (.iload 5, 2) := by decide +kernel
theorem dX2_append_45 : decode cX2_append 45 = .ok (.iconst 1, 1) := by decide +kernel
theorem dX2_append_46 : decode cX2_append 46 = .ok (.bastore, 1) := by decide +kernel
theorem dX2_append_47 : decode cX2_append 47 = .ok (.aload_n 0, 1) := by decide +kernel
theorem dX2_append_48 : decode cX2_append 48 = .ok (.dup, 1) := by decide +kernel
theorem dX2_append_49 : decode cX2_append 49 = .ok (.getfield 9, 3) := by decide +kernel
theorem dX2_append_52 : decode cX2_append 52 = .ok (.iconst 1, 1) := by decide +kernel
theorem dX2_append_53 : decode cX2_append 53 = .ok (.iadd, 1) := by decide +kernel
theorem dX2_append_54 : decode cX2_append 54 = .ok (.putfield 9, 3) := by decide +kernel
theorem dX2_append_57 : decode cX2_append 57 = .ok (.iload 5, 2) := by decide +kernel
theorem dX2_append_59 : decode cX2_append 59 = .ok (.ireturn, 1) := by decide +kernel
set_option maxRecDepth 20000 in
theorem ggX2_islandOf_X2_islandIfUsed : GoodIn wsX2_islandOf wsX2_islandIfUsed := goodIn_r _ [6, 7, 8, 9, 10, 11, 12, 13, 14, 15, 16, 17, 18, 19, 20, 21, 22, 23, 24, 25] (by decide +kernel) (by decide +kernel)
set_option maxRecDepth 20000 in
theorem gX2_islandOf_X2_islandIfUsed : GoodIn wsX2_islandOf (wsV RX2 36 RX2 yX2_islandIfUsed wsX2_islandIfUsed) := goodIn_app (goodIn_of _ (by decide +kernel)) ggX2_islandOf_X2_islandIfUsed
theorem dX2_islandOf_0 : decode cX2_islandOf 0 = .ok (.aload_n 0, 1) := by decide +kernel
theorem dX2_islandOf_1 : decode cX2_islandOf 1 = .ok (.getfield 28, 3) := by decide +kernel
theorem dX2_islandOf_4 : decode cX2_islandOf 4 = .ok (.iload_n 1, 1) := by decide +kernel
theorem dX2_islandOf_5 : decode cX2_islandOf 5 = .ok (.baload, 1) := by decide +kernel
theorem dX2_islandOf_6 : decode cX2_islandOf 6 = .ok (.ifCond .eq 11, 3) := by decide +kernel
theorem dX2_islandOf_9 : decode cX2_islandOf 9 = .ok (.aload_n 0, 1) := by decide +kernel
theorem dX2_islandOf_10 : decode cX2_islandOf 10 = .ok (.iload_n 1, 1) := by decide +kernel
theorem dX2_islandOf_11 : decode cX2_islandOf 11 = .ok (.invokevirtual 36, 3) := by decide +kernel
theorem dX2_islandOf_14 : decode cX2_islandOf 14 = .ok (.goto 4, 3) := by decide +kernel
theorem dX2_islandOf_17 : decode cX2_islandOf 17 = .ok (.iconst (-1), 1) := by decide +kernel
theorem dX2_islandOf_18 : decode cX2_islandOf 18 = .ok (.ireturn, 1) := by decide +kernel
theorem dX2_islandIfUsed_0 : decode cX2_islandIfUsed 0 = .ok (.aload_n 0, 1) := by decide +kernel
theorem dX2_islandIfUsed_1 : decode cX2_islandIfUsed 1 = .ok (.getfield 19, 3) := by decide +kernel
theorem dX2_islandIfUsed_4 : decode cX2_islandIfUsed 4 = .ok (.iload_n 1, 1) := by decide +kernel
theorem dX2_islandIfUsed_5 : decode cX2_islandIfUsed 5 = .ok (.iaload, 1) := by decide +kernel
theorem dX2_islandIfUsed_6 : decode cX2_islandIfUsed 6 = .ok (.istore_n 2, 1) := by decide +kernel
theorem dX2_islandIfUsed_7 : decode cX2_islandIfUsed 7 = .ok (.aload_n 0, 1) := by decide +kernel
theorem dX2_islandIfUsed_8 : decode cX2_islandIfUsed 8 = .ok (.getfield 15, 3) := by decide +kernel
theorem dX2_islandIfUsed_11 : decode cX2_islandIfUsed 11 = .ok (.iload_n 1, 1) := by decide +kernel
theorem dX2_islandIfUsed_12 : decode cX2_islandIfUsed 12 = .ok (.iaload, 1) := by decide +kernel
theorem dX2_islandIfUsed_13 : decode cX2_islandIfUsed 13 = .ok (.iconst 1, 1) := by decide +kernel
theorem dX2_islandIfUsed_14 : decode cX2_islandIfUsed 14 = .ok (.if_icmp .ne 13, 3) := by decide +kernel
theorem dX2_islandIfUsed_17 : decode cX2_islandIfUsed 17 = .ok (.aload_n 0, 1) := by decide +kernel
theorem dX2_islandIfUsed_18 : decode cX2_islandIfUsed 18 = .ok (.getfield 32, 3) := by decide +kernel
theorem dX2_islandIfUsed_21 : decode cX2_islandIfUsed 21 = .ok (.getfield 40, 3) := by decide +kernel
theorem dX2_islandIfUsed_24 : decode cX2_islandIfUsed 24 = .ok (.iload_n 2, 1) := by decide +kernel
theorem dX2_islandIfUsed_25 : decode cX2_islandIfUsed 25 = .ok (.iaload, 1) := by decide +kernel
theorem dX2_islandIfUsed_26 : decode cX2_islandIfUsed 26 = .ok (.ireturn, 1) := by decide +kernel
theorem dX2_islandIfUsed_27 : decode cX2_islandIfUsed 27 = .ok (.aload_n 0, 1) := by decide +kernel
theorem dX2_islandIfUsed_28 : decode cX2_islandIfUsed 28 = .ok (.getfield 32, 3) := by decide +kernel
theorem dX2_islandIfUsed_31 : decode cX2_islandIfUsed 31 = .ok (.getfield 45, 3) := by decide +kernel
theorem dX2_islandIfUsed_34 : decode cX2_islandIfUsed 34 = .ok (.iload_n 2, 1) := by decide +kernel
theorem dX2_islandIfUsed_35 : decode cX2_islandIfUsed 35 = .ok (.baload, 1) := by decide +kernel
theorem dX2_islandIfUsed_36 : decode cX2_islandIfUsed 36 = .ok (.ifCond .eq 23, 3) := by decide +kernel
theorem dX2_islandIfUsed_39 : decode cX2_islandIfUsed 39 = .ok (.aload_n 0, 1) := by decide +kernel
theorem dX2_islandIfUsed_40 : decode cX2_islandIfUsed 40 = .ok (.getfield 32, 3) := by decide +kernel
theorem dX2_islandIfUsed_43 : decode cX2_islandIfUsed 43 = .ok (.getfield 40, 3) := by decide +kernel
theorem dX2_islandIfUsed_46 : decode cX2_islandIfUsed 46 = .ok (.aload_n 0, 1) := by decide +kernel
theorem dX2_islandIfUsed_47 : decode cX2_islandIfUsed 47 = .ok (.getfield 32, 3) := by decide +kernel
theorem dX2_islandIfUsed_50 : decode cX2_islandIfUsed 50 = .ok (.getfield 48, 3) := by decide +kernel
theorem dX2_islandIfUsed_53 : decode cX2_islandIfUsed 53 = .ok (.iload_n 2, 1) := by decide +kernel
theorem dX2_islandIfUsed_54 : decode cX2_islandIfUsed 54 = .ok (.iaload, 1) := by decide +kernel
theorem dX2_islandIfUsed_55 : decode cX2_islandIfUsed 55 = .ok (.iaload, 1) := by decide +kernel
theorem dX2_islandIfUsed_56 : decode cX2_islandIfUsed 56 = .ok (.goto 4, 3) := by decide +kernel
theorem dX2_islandIfUsed_59 : decode cX2_islandIfUsed 59 = .ok (.iconst (-1), 1) := by decide +kernel
theorem dX2_islandIfUsed_60 : decode cX2_islandIfUsed 60 = .ok (.ireturn, 1) := by decide +kernel
theorem dX2_growth_0 : decode cX2_growth 0 = .ok (.aload_n 0, 1) := by decide +kernel
theorem dX2_growth_1 : decode cX2_growth 1 = .ok (.getfield 19, 3) := by decide +kernel
theorem dX2_growth_4 : decode cX2_growth 4 = .ok (.iload_n 1, 1) := by decide +kernel
theorem dX2_growth_5 : decode cX2_growth 5 = .ok (.iaload, 1) := by decide +kernel
theorem dX2_growth_6 : decode cX2_growth 6 = .ok (.istore_n 3, 1) := by decide +kernel
theorem dX2_growth_7 : decode cX2_growth 7 = .ok (.aload_n 0, 1) := by decide +kernel
theorem dX2_growth_8 : decode cX2_growth 8 = .ok (.getfield 15, 3) := by decide +kernel
theorem dX2_growth_11 : decode cX2_growth 11 = .ok (.iload_n 1, 1) := by decide +kernel
theorem dX2_growth_12 : decode cX2_growth 12 = .ok (.iaload, 1) := by decide +kernel
theorem dX2_growth_13 : decode cX2_growth 13 = .ok (.iconst 1, 1) := by decide +kernel
theorem dX2_growth_14 : decode cX2_growth 14 = .ok (.if_icmp .ne 17, 3) := by decide +kernel
theorem dX2_growth_17 : decode cX2_growth 17 = .ok (.aload_n 0, 1) := by decide +kernel
theorem dX2_growth_18 : decode cX2_growth 18 = .ok (.getfield 32, 3) := by decide +kernel
theorem dX2_growth_21 : decode cX2_growth 21 = .ok (.getfield 51, 3) := by decide +kernel
theorem dX2_growth_24 : decode cX2_growth 24 = .ok (.iload_n 3, 1) := by decide +kernel
theorem dX2_growth_25 : decode cX2_growth 25 = .ok (.aaload, 1) := by decide +kernel
theorem dX2_growth_26 : decode cX2_growth 26 = .ok (.iload_n 2, 1) := by decide +kernel
theorem dX2_growth_27 : decode cX2_growth 27 = .ok (.iaload, 1) := by decide +kernel
theorem dX2_growth_28 : decode cX2_growth 28 = .ok (.goto 14, 3) := by decide +kernel
theorem dX2_growth_31 : decode cX2_growth 31 = .ok (.aload_n 0, 1) := by decide +kernel
theorem dX2_growth_32 : decode cX2_growth 32 = .ok (.getfield 32, 3) := by decide +kernel
theorem dX2_growth_35 : decode cX2_growth 35 = .ok (.getfield 55, 3) := by decide +kernel
theorem dX2_growth_38 : decode cX2_growth 38 = .ok (.iload_n 3, 1) := by decide +kernel
theorem dX2_growth_39 : decode cX2_growth 39 = .ok (.aaload, 1) := by decide +kernel
theorem dX2_growth_40 : decode cX2_growth 40 = .ok (.iload_n 2, 1) := by decide +kernel
theorem dX2_growth_41 : decode cX2_growth 41 = .ok (.iaload, 1) := by decide +kernel
theorem dX2_growth_42 : decode cX2_growth 42 = .ok (.ireturn, 1) := by decide +kernel
theorem dX3_init_0 : decode cX3_init 0 = .ok (.aload_n 0, 1) := by decide +kernel
theorem dX3_init_1 : decode cX3_init 1 = .ok (.invokespecial 3, 3) := by decide +kernel
theorem dX3_init_4 : decode cX3_init 4 = .ok (.aload_n 0, 1) := by decide +kernel
theorem dX3_init_5 : decode cX3_init 5 = .ok (.bipush 10, 2) := by decide +kernel
theorem dX3_init_7 : decode cX3_init 7 = .ok (.iconst 5, 1) := by decide +kernel
theorem dX3_init_8 : decode cX3_init 8 = .ok (.multianewarray 9 2, 4) := by decide +kernel
theorem dX3_init_12 : decode cX3_init 12 = .ok (.putfield 11, 3) := by decide +kernel
theorem dX3_init_15 : decode cX3_init 15 = .ok (.aload_n 0, 1) := by decide +kernel
theorem dX3_init_16 : decode cX3_init 16 = .ok (.aload_n 1, 1) := by decide +kernel
theorem dX3_init_17 : decode cX3_init 17 = .ok (.putfield 16, 3) := by decide +kernel
theorem dX3_init_20 : decode cX3_init 20 = .ok (.aload_n 0, 1) := by decide +kernel
theorem dX3_init_21 : decode cX3_init 21 = .ok (.aload_n 2, 1) := by decide +kernel
theorem dX3_init_22 : decode cX3_init 22 = .ok (.putfield 20, 3) := by decide +kernel
theorem dX3_init_25 : decode cX3_init 25 = .ok (.return_, 1) := by decide +kernel
set_option maxRecDepth 20000 in
theorem ggX3_suffices_X3_rankWithout : GoodIn wsX3_suffices wsX3_rankWithout := goodIn_r _ [6, 7, 8, 9, 5, 10, 11, 12, 13, 14, 15, 16, 17, 18, 19, 20, 21, 22, 23, 24, 25, 26, 27, 28, 29, 30, 31, 32, 33, 34, 35, 36, 37, 48, 49, 50, 51, 52, 53, 54, 55, 56, 57, 58, 59, 60, 61, 62, 63, 64, 65, 66] (by decide +kernel) (by decide +kernel)
set_option maxRecDepth 20000 in
theorem gX3_suffices_X3_rankWithout : GoodIn wsX3_suffices (wsV RX3 24 RX3 yX3_rankWithout wsX3_rankWithout) := goodIn_app (goodIn_of _ (by decide +kernel)) ggX3_suffices_X3_rankWithout
set_option maxRecDepth 20000 in
theorem ggX3_suffices_X1_countUnknown : GoodIn wsX3_suffices wsX1_countUnknown := goodIn_r _ [42, 43, 44, 45, 41, 46, 47, 58, 59, 60, 61, 62, 63, 64, 65, 66] (by decide +kernel) (by decide +kernel)
set_option maxRecDepth 20000 in
theorem gX3_suffices_X1_countUnknown : GoodIn wsX3_suffices (wsV RX3 28 RX1 yX1_countUnknown wsX1_countUnknown) := goodIn_app (goodIn_of _ (by decide +kernel)) ggX3_suffices_X1_countUnknown
theorem dX3_suffices_0 : decode cX3_suffices 0 = .ok (.aload_n 0, 1) := by decide +kernel
theorem dX3_suffices_1 : decode cX3_suffices 1 = .ok (.iconst (-1), 1) := by decide +kernel
theorem dX3_suffices_2 : decode cX3_suffices 2 = .ok (.iload_n 1, 1) := by decide +kernel
theorem dX3_suffices_3 : decode cX3_suffices 3 = .ok (.invokevirtual 24, 3) := by decide +kernel
theorem dX3_suffices_6 : decode cX3_suffices 6 = .ok (.aload_n 0, 1) := by decide +kernel
theorem dX3_suffices_7 : decode cX3_suffices 7 = .ok (.getfield 16, 3) := by decide +kernel
theorem dX3_suffices_10 : decode cX3_suffices 10 = .ok (.iload_n 1, 1) := by decide +kernel
theorem dX3_suffices_11 : decode cX3_suffices 11 = .ok (.invokevirtual 28, 3) := by decide +kernel
theorem dX3_suffices_14 : decode cX3_suffices 14 = .ok (.if_icmp .ne 7, 3) := by decide +kernel
theorem dX3_suffices_17 : decode cX3_suffices 17 = .ok (.iconst 1, 1) := by decide +kernel
theorem dX3_suffices_18 : decode cX3_suffices 18 = .ok (.goto 4, 3) := by decide +kernel
theorem dX3_suffices_21 : decode cX3_suffices 21 = .ok (.iconst 0, 1) := by decide +kernel
theorem dX3_suffices_22 : decode cX3_suffices 22 = .ok (.ireturn, 1) := by decide +kernel
set_option maxRecDepth 20000 in
theorem ggX3_needs_X2_islandOf : GoodIn wsX3_needs wsX2_islandOf := goodIn_r _ [7, 8, 9, 10, 11, 6, 12, 13, 14, 15, 51, 52, 53, 54, 55, 56, 57, 58, 59, 60, 61, 62, 63, 64, 65, 66] (by decide +kernel) (by decide +kernel)
set_option maxRecDepth 20000 in
theorem gX3_needs_X2_islandOf : GoodIn wsX3_needs (wsV RX3 34 RX2 yX2_islandOf wsX2_islandOf) := goodIn_app (goodIn_of _ (by decide +kernel)) ggX3_needs_X2_islandOf
set_option maxRecDepth 20000 in
theorem ggX3_needs_X1_countUnknown : GoodIn wsX3_needs wsX1_countUnknown := goodIn_r _ [20, 21, 22, 23, 19, 24, 25, 58, 59, 60, 61, 62, 63, 64, 65, 66] (by decide +kernel) (by decide +kernel)
set_option maxRecDepth 20000 in
theorem gX3_needs_X1_countUnknown : GoodIn wsX3_needs (wsV RX3 28 RX1 yX1_countUnknown wsX1_countUnknown) := goodIn_app (goodIn_of _ (by decide +kernel)) ggX3_needs_X1_countUnknown
set_option maxRecDepth 20000 in
theorem ggX3_needs_X3_rankWithout : GoodIn wsX3_needs wsX3_rankWithout := goodIn_r _ [30, 31, 32, 33, 29, 34, 1, 35, 3, 4, 5, 6, 7, 8, 9, 10, 11, 12, 13, 14, 15, 36, 37, 38, 39, 40, 41, 42, 43, 44, 45, 46, 47, 48, 49, 50, 51, 52, 53, 54, 55, 56, 57, 58, 59, 60, 61, 62, 63, 64, 65, 66] (by decide +kernel) (by decide +kernel)
set_option maxRecDepth 20000 in
theorem gX3_needs_X3_rankWithout : GoodIn wsX3_needs (wsV RX3 24 RX3 yX3_rankWithout wsX3_rankWithout) := goodIn_app (goodIn_of _ (by decide +kernel)) ggX3_needs_X3_rankWithout
theorem dX3_needs_0 : decode cX3_needs 0 = .ok (.aload_n 0, 1) := by decide +kernel
theorem dX3_needs_1 : decode cX3_needs 1 = .ok (.getfield 20, 3) := by decide +kernel
theorem dX3_needs_4 : decode cX3_needs 4 = .ok (.iload_n 1, 1) := by decide +kernel
theorem dX3_needs_5 : decode cX3_needs 5 = .ok (.invokevirtual 34, 3) := by decide +kernel
theorem dX3_needs_8 : decode cX3_needs 8 = .ok (.istore_n 2, 1) := by decide +kernel
theorem dX3_needs_9 : decode cX3_needs 9 = .ok (.iload_n 2, 1) := by decide +kernel
theorem dX3_needs_10 : decode cX3_needs 10 = .ok (.iconst (-1), 1) := by decide +kernel
theorem dX3_needs_11 : decode cX3_needs 11 = .ok (.if_icmp .ne 5, 3) := by decide +kernel
theorem dX3_needs_14 : decode cX3_needs 14 = .ok (.iconst 0, 1) := by decide +kernel
theorem dX3_needs_15 : decode cX3_needs 15 = .ok (.ireturn, 1) := by decide +kernel
theorem dX3_needs_16 : decode cX3_needs 16 = .ok (.aload_n 0, 1) := by decide +kernel
theorem dX3_needs_17 : decode cX3_needs 17 = .ok (.getfield 16, 3) := by decide +kernel
theorem dX3_needs_20 : decode cX3_needs 20 = .ok (.iload_n 2, 1) := by decide +kernel
theorem dX3_needs_21 : decode cX3_needs 21 = .ok (.invokevirtual 28, 3) := by decide +kernel
theorem dX3_needs_24 : decode cX3_needs 24 = .ok (.istore_n 3, 1) := by decide +kernel
theorem dX3_needs_25 : decode cX3_needs 25 = .ok (.aload_n 0, 1) := by decide +kernel
theorem dX3_needs_26 : decode cX3_needs 26 = .ok (.iconst (-1), 1) := by decide +kernel
theorem dX3_needs_27 : decode cX3_needs 27 = .ok (.iload_n 2, 1) := by decide +kernel
theorem dX3_needs_28 : decode cX3_needs 28 = .ok (.invokevirtual 24, 3) := by decide +kernel
theorem dX3_needs_31 : decode cX3_needs 31 = .ok (.iload_n 3, 1) := by decide +kernel
theorem dX3_needs_32 : decode cX3_needs 32 = .ok (.if_icmp .ne 17, 3) := by decide +kernel
theorem dX3_needs_35 : decode cX3_needs 35 = .ok (.aload_n 0, 1) := by decide +kernel
theorem dX3_needs_36 : decode cX3_needs 36 = .ok (.iload_n 1, 1) := by decide +kernel
theorem dX3_needs_37 : decode cX3_needs 37 = .ok (.iload_n 2, 1) := by decide +kernel
theorem dX3_needs_38 : decode cX3_needs 38 = .ok (.invokevirtual 24, 3) := by decide +kernel
theorem dX3_needs_41 : decode cX3_needs 41 = .ok (.iload_n 3, 1) := by decide +kernel
theorem dX3_needs_42 : decode cX3_needs 42 = .ok (.if_icmp .ge 7, 3) := by decide +kernel
theorem dX3_needs_45 : decode cX3_needs 45 = .ok (.iconst 1, 1) := by decide +kernel
theorem dX3_needs_46 : decode cX3_needs 46 = .ok (.goto 4, 3) := by decide +kernel
theorem dX3_needs_49 : decode cX3_needs 49 = .ok (.iconst 0, 1) := by decide +kernel
theorem dX3_needs_50 : decode cX3_needs 50 = .ok (.ireturn, 1) := by decide +kernel
set_option maxRecDepth 20000 in
theorem ggX3_rankWithout_X3_fillRows : GoodIn wsX3_rankWithout wsX3_fillRows := goodIn_r _ [5, 6, 7, 8, 9, 10, 11, 12, 13, 14, 15, 16, 17, 18, 19, 20, 21, 22, 23, 24, 33, 34, 35, 36, 37, 38, 39, 40, 41, 42, 43, 44, 45, 46, 47, 48, 49, 50, 51] (by decide +kernel) (by decide +kernel)
set_option maxRecDepth 20000 in
theorem gX3_rankWithout_X3_fillRows : GoodIn wsX3_rankWithout (wsV RX3 39 RX3 yX3_fillRows wsX3_fillRows) := goodIn_app (goodIn_of _ (by decide +kernel)) ggX3_rankWithout_X3_fillRows
set_option maxRecDepth 20000 in
theorem ggX3_rankWithout_X3_raisePivot : GoodIn wsX3_rankWithout wsX3_raisePivot := goodIn_r _ [28, 7, 33, 34, 35] (by decide +kernel) (by decide +kernel)
set_option maxRecDepth 20000 in
theorem gX3_rankWithout_X3_raisePivot : GoodIn wsX3_rankWithout (wsV RX3 43 RX3 yX3_raisePivot wsX3_raisePivot) := goodIn_app (goodIn_of _ (by decide +kernel)) ggX3_rankWithout_X3_raisePivot
set_option maxRecDepth 20000 in
theorem ggX3_rankWithout_X3_clearBelow : GoodIn wsX3_rankWithout wsX3_clearBelow := goodIn_r _ [32, 7, 33, 34, 35] (by decide +kernel) (by decide +kernel)
set_option maxRecDepth 20000 in
theorem gX3_rankWithout_X3_clearBelow : GoodIn wsX3_rankWithout (wsV RX3 47 RX3 yX3_clearBelow wsX3_clearBelow) := goodIn_app (goodIn_of _ (by decide +kernel)) ggX3_rankWithout_X3_clearBelow
theorem dX3_rankWithout_0 : decode cX3_rankWithout 0 = .ok (.aload_n 0, 1) := by decide +kernel
theorem dX3_rankWithout_1 : decode cX3_rankWithout 1 = .ok (.iload_n 1, 1) := by decide +kernel
theorem dX3_rankWithout_2 : decode cX3_rankWithout 2 = .ok (.iload_n 2, 1) := by decide +kernel
theorem dX3_rankWithout_3 : decode cX3_rankWithout 3 = .ok (.invokevirtual 39, 3) := by decide +kernel
theorem dX3_rankWithout_6 : decode cX3_rankWithout 6 = .ok (.iconst 0, 1) := by decide +kernel
theorem dX3_rankWithout_7 : decode cX3_rankWithout 7 = .ok (.istore_n 3, 1) := by decide +kernel
theorem dX3_rankWithout_8 : decode cX3_rankWithout 8 = .ok (.iconst 0, 1) := by decide +kernel
theorem dX3_rankWithout_9 : decode cX3_rankWithout 9 = .ok (.istore 4, 2) := by decide +kernel
theorem dX3_rankWithout_11 : decode cX3_rankWithout 11 = .ok (.iload 4, 2) := by decide +kernel
theorem dX3_rankWithout_13 : decode cX3_rankWithout 13 = .ok (.iconst 5, 1) := by decide +kernel
theorem dX3_rankWithout_14 : decode cX3_rankWithout 14 = .ok (.if_icmp .ge 29, 3) := by decide +kernel
theorem dX3_rankWithout_17 : decode cX3_rankWithout 17 = .ok (.aload_n 0, 1) := by decide +kernel
theorem dX3_rankWithout_18 : decode cX3_rankWithout 18 = .ok (.iload_n 3, 1) := by decide +kernel
theorem dX3_rankWithout_19 : decode cX3_rankWithout 19 = .ok (.iload 4, 2) := by decide +kernel
theorem dX3_rankWithout_21 : decode cX3_rankWithout 21 = .ok (.invokevirtual 43, 3) := by decide +kernel
theorem dX3_rankWithout_24 : decode cX3_rankWithout 24 = .ok (.ifCond .eq 13, 3) := by decide +kernel
theorem dX3_rankWithout_27 : decode cX3_rankWithout 27 = .ok (.aload_n 0, 1) := by decide +kernel
theorem dX3_rankWithout_28 : decode cX3_rankWithout 28 = .ok (.iload_n 3, 1) := by decide +kernel
theorem dX3_rankWithout_29 : decode cX3_rankWithout 29 = .ok (.iload 4, 2) := by decide +kernel
theorem dX3_rankWithout_31 : decode cX3_rankWithout 31 = .ok (.invokevirtual 47, 3) := by decide +kernel
theorem dX3_rankWithout_34 : decode cX3_rankWithout 34 = .ok (.iinc 3 1, 3) := by decide +kernel
theorem dX3_rankWithout_37 : decode cX3_rankWithout 37 = .ok (.iinc 4 1, 3) := by decide +kernel
theorem dX3_rankWithout_40 : decode cX3_rankWithout 40 = .ok (.goto (-29), 3) := by decide +kernel
theorem dX3_rankWithout_43 : decode cX3_rankWithout 43 = .ok (.iload_n 3, 1) := by decide +kernel
theorem dX3_rankWithout_44 : decode cX3_rankWithout 44 = .ok (.ireturn, 1) := by decide +kernel
set_option maxRecDepth 20000 in
theorem ggX3_fillRows_X2_islandOf : GoodIn wsX3_fillRows wsX2_islandOf := goodIn_r _ [7, 8, 9, 10, 11, 6, 12, 13, 14, 15, 23, 24, 25, 26, 27, 28, 29, 30, 31, 32, 33, 34, 35, 36, 37, 38] (by decide +kernel) (by decide +kernel)
set_option maxRecDepth 20000 in
theorem gX3_fillRows_X2_islandOf : GoodIn wsX3_fillRows (wsV RX3 34 RX2 yX2_islandOf wsX2_islandOf) := goodIn_app (goodIn_of _ (by decide +kernel)) ggX3_fillRows_X2_islandOf
set_option maxRecDepth 20000 in
theorem ggX3_fillRows_X2_growth : GoodIn wsX3_fillRows wsX2_growth := goodIn_r _ [19, 13, 14, 15, 23, 24, 25, 26, 27, 28, 29, 30, 31, 32, 33, 34, 35, 36, 37, 38] (by decide +kernel) (by decide +kernel)
set_option maxRecDepth 20000 in
theorem gX3_fillRows_X2_growth : GoodIn wsX3_fillRows (wsV RX3 54 RX2 yX2_growth wsX2_growth) := goodIn_app (goodIn_of _ (by decide +kernel)) ggX3_fillRows_X2_growth
theorem dX3_fillRows_0 : decode cX3_fillRows 0 = .ok (.iconst 0, 1) := by decide +kernel
theorem dX3_fillRows_1 : decode cX3_fillRows 1 = .ok (.istore_n 3, 1) := by decide +kernel
theorem dX3_fillRows_2 : decode cX3_fillRows 2 = .ok (.iload_n 3, 1) := by decide +kernel
theorem dX3_fillRows_3 : decode cX3_fillRows 3 = .ok (.bipush 10, 2) := by decide +kernel
theorem dX3_fillRows_5 : decode cX3_fillRows 5 = .ok (.if_icmp .ge 94, 3) := by decide +kernel
theorem dX3_fillRows_8 : decode cX3_fillRows 8 = .ok (.iload_n 3, 1) := by decide +kernel
theorem dX3_fillRows_9 : decode cX3_fillRows 9 = .ok (.aload_n 0, 1) := by decide +kernel
theorem dX3_fillRows_10 : decode cX3_fillRows 10 = .ok (.getfield 20, 3) := by decide +kernel
theorem dX3_fillRows_13 : decode cX3_fillRows 13 = .ok (.getfield 50, 3) := by decide +kernel
theorem dX3_fillRows_16 : decode cX3_fillRows 16 = .ok (.if_icmp .ge 24, 3) := by decide +kernel
theorem dX3_fillRows_19 : decode cX3_fillRows 19 = .ok (.iload_n 3, 1) := by decide +kernel
