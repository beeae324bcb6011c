/-! LAW: what the start gives -/
theorem tb_n0 : Cond.fieldLinkNest "GridEstimator" 96 "GridEstimator$Grid" "buses" "I" "GridEstimator" ∈ tables_1 := List.mem_of_getElem? (i := 58) (by decide +kernel)
theorem tb_n1 : Cond.fieldLinkNest "GridEstimator" 100 "GridEstimator$Grid" "references" "[I" "GridEstimator" ∈ tables_1 := List.mem_of_getElem? (i := 67) (by decide +kernel)
theorem tb_n2 : Cond.fieldLinkNest "GridEstimator" 125 "GridEstimator$Meters" "readings" "[I" "GridEstimator" ∈ tables_1 := List.mem_of_getElem? (i := 108) (by decide +kernel)
theorem tb_n3 : Cond.fieldLinkNest "GridEstimator" 128 "GridEstimator$Meters" "isUsed" "[Z" "GridEstimator" ∈ tables_1 := List.mem_of_getElem? (i := 112) (by decide +kernel)
theorem tb_n4 : Cond.fieldLinkNest "GridEstimator" 148 "GridEstimator$Estimate" "angles" "[J" "GridEstimator" ∈ tables_1 := List.mem_of_getElem? (i := 160) (by decide +kernel)
theorem tb_n5 : Cond.fieldLinkNest "GridEstimator" 152 "GridEstimator$Estimate" "denominator" "J" "GridEstimator" ∈ tables_1 := List.mem_of_getElem? (i := 162) (by decide +kernel)
theorem tb_n6 : Cond.fieldLinkNest "GridEstimator$Estimate" 42 "GridEstimator$Meters" "count" "I" "GridEstimator" ∈ tables_1 := List.mem_of_getElem? (i := 102) (by decide +kernel)
theorem tb_n7 : Cond.fieldLinkNest "GridEstimator$Estimate" 66 "GridEstimator$Meters" "accuracies" "[I" "GridEstimator" ∈ tables_1 := List.mem_of_getElem? (i := 110) (by decide +kernel)
theorem tb_n8 : Cond.fieldLinkNest "GridEstimator$Estimate" 74 "GridEstimator$Meters" "readings" "[I" "GridEstimator" ∈ tables_1 := List.mem_of_getElem? (i := 107) (by decide +kernel)
theorem tb_n9 : Cond.fieldLinkNest "GridEstimator$Meters" 40 "GridEstimator$Grid" "references" "[I" "GridEstimator" ∈ tables_1 := List.mem_of_getElem? (i := 68) (by decide +kernel)
theorem tb_n10 : Cond.fieldLinkNest "GridEstimator$Meters" 45 "GridEstimator$Grid" "isClosed" "[Z" "GridEstimator" ∈ tables_1 := List.mem_of_getElem? (i := 65) (by decide +kernel)
theorem tb_n11 : Cond.fieldLinkNest "GridEstimator$Meters" 48 "GridEstimator$Grid" "firsts" "[I" "GridEstimator" ∈ tables_1 := List.mem_of_getElem? (i := 61) (by decide +kernel)
theorem tb_n12 : Cond.fieldLinkNest "GridEstimator$Meters" 51 "GridEstimator$Grid" "injectionGrowths" "[[I" "GridEstimator" ∈ tables_1 := List.mem_of_getElem? (i := 72) (by decide +kernel)
theorem tb_n13 : Cond.fieldLinkNest "GridEstimator$Meters" 55 "GridEstimator$Grid" "flowGrowths" "[[I" "GridEstimator" ∈ tables_1 := List.mem_of_getElem? (i := 70) (by decide +kernel)
theorem tb_n14 : Cond.fieldLinkNest "GridEstimator$Observation" 50 "GridEstimator$Meters" "count" "I" "GridEstimator" ∈ tables_1 := List.mem_of_getElem? (i := 103) (by decide +kernel)
theorem tb_s0 : Cond.stringRef "GridEstimator" 57 "a line joins two buses" ∈ tables_1 := List.mem_of_getElem? (i := 294) (by decide +kernel)
theorem nb_s0 : Cond.exactly (.string "GridEstimator" 57) "java/lang/String" ∈ flatC (Jvm.Cond.and given_1 narrow_1) := by decide +kernel
theorem tb_s1 : Cond.stringRef "GridEstimator" 62 "the strength is out of range" ∈ tables_1 := List.mem_of_getElem? (i := 301) (by decide +kernel)
theorem nb_s1 : Cond.exactly (.string "GridEstimator" 62) "java/lang/String" ∈ flatC (Jvm.Cond.and given_1 narrow_1) := by decide +kernel
theorem tb_s2 : Cond.stringRef "GridEstimator" 70 "there are as many lines as there may be" ∈ tables_1 := List.mem_of_getElem? (i := 315) (by decide +kernel)
theorem nb_s2 : Cond.exactly (.string "GridEstimator" 70) "java/lang/String" ∈ flatC (Jvm.Cond.and given_1 narrow_1) := by decide +kernel
theorem tb_s3 : Cond.stringRef "GridEstimator" 77 "a line joins these buses" ∈ tables_1 := List.mem_of_getElem? (i := 326) (by decide +kernel)
theorem nb_s3 : Cond.exactly (.string "GridEstimator" 77) "java/lang/String" ∈ flatC (Jvm.Cond.and given_1 narrow_1) := by decide +kernel
theorem tb_s4 : Cond.stringRef "GridEstimator" 89 "there is no such line" ∈ tables_1 := List.mem_of_getElem? (i := 345) (by decide +kernel)
theorem nb_s4 : Cond.exactly (.string "GridEstimator" 89) "java/lang/String" ∈ flatC (Jvm.Cond.and given_1 narrow_1) := by decide +kernel
theorem tb_s5 : Cond.stringRef "GridEstimator" 104 "there is no such kind of meter" ∈ tables_1 := List.mem_of_getElem? (i := 364) (by decide +kernel)
theorem nb_s5 : Cond.exactly (.string "GridEstimator" 104) "java/lang/String" ∈ flatC (Jvm.Cond.and given_1 narrow_1) := by decide +kernel
theorem tb_s6 : Cond.stringRef "GridEstimator" 109 "the accuracy is out of range" ∈ tables_1 := List.mem_of_getElem? (i := 370) (by decide +kernel)
theorem nb_s6 : Cond.exactly (.string "GridEstimator" 109) "java/lang/String" ∈ flatC (Jvm.Cond.and given_1 narrow_1) := by decide +kernel
theorem tb_s7 : Cond.stringRef "GridEstimator" 114 "there is no such line or bus" ∈ tables_1 := List.mem_of_getElem? (i := 371) (by decide +kernel)
theorem nb_s7 : Cond.exactly (.string "GridEstimator" 114) "java/lang/String" ∈ flatC (Jvm.Cond.and given_1 narrow_1) := by decide +kernel
theorem tb_s8 : Cond.stringRef "GridEstimator" 117 "there are as many meters as there may be" ∈ tables_1 := List.mem_of_getElem? (i := 376) (by decide +kernel)
theorem nb_s8 : Cond.exactly (.string "GridEstimator" 117) "java/lang/String" ∈ flatC (Jvm.Cond.and given_1 narrow_1) := by decide +kernel
theorem tb_s9 : Cond.stringRef "GridEstimator" 170 "the limit is out of range" ∈ tables_1 := List.mem_of_getElem? (i := 589) (by decide +kernel)
theorem nb_s9 : Cond.exactly (.string "GridEstimator" 170) "java/lang/String" ∈ flatC (Jvm.Cond.and given_1 narrow_1) := by decide +kernel
theorem tb_s10 : Cond.stringRef "GridEstimator" 187 "the meter would count nowhere" ∈ tables_1 := List.mem_of_getElem? (i := 553) (by decide +kernel)
theorem nb_s10 : Cond.exactly (.string "GridEstimator" 187) "java/lang/String" ∈ flatC (Jvm.Cond.and given_1 narrow_1) := by decide +kernel
theorem tb_s11 : Cond.stringRef "GridEstimator" 189 "there is no such bus" ∈ tables_1 := List.mem_of_getElem? (i := 258) (by decide +kernel)
theorem nb_s11 : Cond.exactly (.string "GridEstimator" 189) "java/lang/String" ∈ flatC (Jvm.Cond.and given_1 narrow_1) := by decide +kernel
theorem tb_s12 : Cond.stringRef "GridEstimator" 194 "there is no such meter" ∈ tables_1 := List.mem_of_getElem? (i := 396) (by decide +kernel)
theorem nb_s12 : Cond.exactly (.string "GridEstimator" 194) "java/lang/String" ∈ flatC (Jvm.Cond.and given_1 narrow_1) := by decide +kernel
theorem tb_s13 : Cond.stringRef "GridEstimator" 196 "the reading is out of range" ∈ tables_1 := List.mem_of_getElem? (i := 369) (by decide +kernel)
theorem nb_s13 : Cond.exactly (.string "GridEstimator" 196) "java/lang/String" ∈ flatC (Jvm.Cond.and given_1 narrow_1) := by decide +kernel
theorem tb_s14 : Cond.stringRef "GridEstimator" 198 "the island is not observable" ∈ tables_1 := List.mem_of_getElem? (i := 493) (by decide +kernel)
theorem nb_s14 : Cond.exactly (.string "GridEstimator" 198) "java/lang/String" ∈ flatC (Jvm.Cond.and given_1 narrow_1) := by decide +kernel
theorem nb_c0 : Cond.not (.castable "java/lang/IllegalArgumentException" "java/lang/IllegalStateException") ∈ flatC (Jvm.Cond.and given_1 narrow_1) := by decide +kernel
theorem nb_c1 : Cond.not (.castable "java/lang/IllegalArgumentException" "java/lang/IndexOutOfBoundsException") ∈ flatC (Jvm.Cond.and given_1 narrow_1) := by decide +kernel
theorem nb_c2 : Cond.not (.castable "java/lang/IllegalStateException" "java/lang/IllegalArgumentException") ∈ flatC (Jvm.Cond.and given_1 narrow_1) := by decide +kernel
theorem nb_c3 : Cond.not (.castable "java/lang/IllegalStateException" "java/lang/IndexOutOfBoundsException") ∈ flatC (Jvm.Cond.and given_1 narrow_1) := by decide +kernel
theorem nb_c4 : Cond.not (.castable "java/lang/IndexOutOfBoundsException" "java/lang/IllegalArgumentException") ∈ flatC (Jvm.Cond.and given_1 narrow_1) := by decide +kernel
theorem nb_c5 : Cond.not (.castable "java/lang/IndexOutOfBoundsException" "java/lang/IllegalStateException") ∈ flatC (Jvm.Cond.and given_1 narrow_1) := by decide +kernel
theorem tb_c0 : Cond.castable "java/lang/IllegalArgumentException" "java/lang/IllegalArgumentException" ∈ tables_1 := List.mem_of_getElem? (i := 287) (by decide +kernel)
theorem tb_c1 : Cond.castable "java/lang/IllegalStateException" "java/lang/IllegalStateException" ∈ tables_1 := List.mem_of_getElem? (i := 308) (by decide +kernel)
theorem tb_c2 : Cond.castable "java/lang/IndexOutOfBoundsException" "java/lang/IndexOutOfBoundsException" ∈ tables_1 := List.mem_of_getElem? (i := 219) (by decide +kernel)
theorem tb_d0 : Cond.declares (Bundle.initS "java/lang/RuntimeException") ∈ tables_1 := List.mem_of_getElem? (i := 221) (by decide +kernel)
theorem tb_d1 : Cond.declares (Bundle.initS "java/lang/Exception") ∈ tables_1 := List.mem_of_getElem? (i := 223) (by decide +kernel)
theorem tb_d2 : Cond.declares (Bundle.initS Bundle.tN) ∈ tables_1 := List.mem_of_getElem? (i := 225) (by decide +kernel)
theorem tb_a0 : Cond.arrayOver (.array .int) ∈ tables_1 := List.mem_of_getElem? (i := 35) (by decide +kernel)
theorem tb_a1 : Cond.arrayOver (.array .long) ∈ tables_1 := List.mem_of_getElem? (i := 135) (by decide +kernel)
theorem tb_l0 : Cond.laysStatic Bundle.tN "UNASSIGNED_STACK" Bundle.steD ∈ tables_1 := List.mem_of_getElem? (i := 244) (by decide +kernel)
theorem tb_l1 : Cond.laysStatic Bundle.tN "SUPPRESSED_SENTINEL" Bundle.listD ∈ tables_1 := List.mem_of_getElem? (i := 246) (by decide +kernel)
theorem tb_i : Cond.initialized Bundle.tN ∈ tables_1 := List.mem_of_getElem? (i := 7) (by decide +kernel)
theorem tb_tint : Cond.arrayClass .int ∈ tables_1 := List.mem_of_getElem? (i := 92) (by decide +kernel)
theorem tb_tlong : Cond.arrayClass .long ∈ tables_1 := List.mem_of_getElem? (i := 146) (by decide +kernel)
theorem tb_tboolean : Cond.arrayClass .boolean ∈ tables_1 := List.mem_of_getElem? (i := 93) (by decide +kernel)
theorem nb_r0 : Cond.isRef (.static Bundle.tN "UNASSIGNED_STACK" Bundle.steD) ∈ flatC (Jvm.Cond.and given_1 narrow_1) := by decide +kernel
theorem nb_r1 : Cond.isRef (.static Bundle.tN "SUPPRESSED_SENTINEL" Bundle.listD) ∈ flatC (Jvm.Cond.and given_1 narrow_1) := by decide +kernel
theorem tb_in {w : Cond} (h : w ∈ tables_1) : w ∈ lw_tbl := List.mem_append_right _ h
theorem law_E {s : State} {b : Nat} (hts : ∀ w ∈ lw_tbl, w.before #[Value.ref b] s = true) (hgv : (Jvm.Cond.and given_1 narrow_1).before #[Value.ref b] s = true) : ek_E s := by
  have hs := flat_of_before _ hgv
  have ht : ∀ w ∈ tables_1, w.before #[Value.ref b] s = true := fun w hw => hts w (tb_in hw)
  have st : ∀ (k : Nat) (tx : String), Cond.stringRef "GridEstimator" k tx ∈ tables_1 → Cond.exactly (.string "GridEstimator" k) "java/lang/String" ∈ flatC (Jvm.Cond.and given_1 narrow_1) → ∃ a, vk_R "GridEstimator" k tx a s := by
    intro k tx h1 h2
    obtain ⟨a, c, cA, kA, q1, q2, q3, q4, q5, q6, -⟩ := Cond.exactly_spec (args := #[Value.ref b]) (first := s) (o := none) (s := s) (idx := []) (t := .string "GridEstimator" k) (cls := "java/lang/String") (hs _ h2)
    exact ⟨a, vk_R.of (ht _ h1) q1⟩
  refine ⟨⟨fun q hq => ?_, fun q hq => ?_, fun q hq => ?_, va_AOA.of (ht _ tb_a1), fun q hq => ?_, fun q hq => ?_⟩, va_AOA.of (ht _ tb_a0)⟩
  · simp only [en_nestL, List.mem_cons, List.not_mem_nil, or_false] at hq
    rcases hq with rfl | rfl | rfl | rfl | rfl | rfl | rfl | rfl | rfl | rfl | rfl | rfl | rfl | rfl | rfl
    · exact va_Nw.of rfl (ht _ tb_n0)
    · exact va_Nw.of rfl (ht _ tb_n1)
    · exact va_Nw.of rfl (ht _ tb_n2)
    · exact va_Nw.of rfl (ht _ tb_n3)
    · exact va_Nw.of rfl (ht _ tb_n4)
    · exact va_Nw.of rfl (ht _ tb_n5)
    · exact va_Nw.of rfl (ht _ tb_n6)
    · exact va_Nw.of rfl (ht _ tb_n7)
    · exact va_Nw.of rfl (ht _ tb_n8)
    · exact va_Nw.of rfl (ht _ tb_n9)
    · exact va_Nw.of rfl (ht _ tb_n10)
    · exact va_Nw.of rfl (ht _ tb_n11)
    · exact va_Nw.of rfl (ht _ tb_n12)
    · exact va_Nw.of rfl (ht _ tb_n13)
    · exact va_Nw.of rfl (ht _ tb_n14)
  · simp only [en_strL, List.mem_cons, List.not_mem_nil, or_false] at hq
    rcases hq with rfl | rfl | rfl | rfl | rfl | rfl | rfl | rfl | rfl | rfl | rfl | rfl | rfl | rfl | rfl
    · exact st _ _ tb_s0 nb_s0
    · exact st _ _ tb_s1 nb_s1
    · exact st _ _ tb_s2 nb_s2
    · exact st _ _ tb_s3 nb_s3
    · exact st _ _ tb_s4 nb_s4
    · exact st _ _ tb_s5 nb_s5
    · exact st _ _ tb_s6 nb_s6
    · exact st _ _ tb_s7 nb_s7
    · exact st _ _ tb_s8 nb_s8
    · exact st _ _ tb_s9 nb_s9
    · exact st _ _ tb_s10 nb_s10
    · exact st _ _ tb_s11 nb_s11
    · exact st _ _ tb_s12 nb_s12
    · exact st _ _ tb_s13 nb_s13
    · exact st _ _ tb_s14 nb_s14
  · simp only [en_ncL, List.mem_cons, List.not_mem_nil, or_false] at hq
    rcases hq with rfl | rfl | rfl | rfl | rfl | rfl
    · exact va_Nc.of (hs _ nb_c0)
    · exact va_Nc.of (hs _ nb_c1)
    · exact va_Nc.of (hs _ nb_c2)
    · exact va_Nc.of (hs _ nb_c3)
    · exact va_Nc.of (hs _ nb_c4)
    · exact va_Nc.of (hs _ nb_c5)
  · simp only [en_caL, List.mem_cons, List.not_mem_nil, or_false] at hq
    rcases hq with rfl | rfl | rfl
    · exact va_Nw.of rfl (ht _ tb_c0)
    · exact va_Nw.of rfl (ht _ tb_c1)
    · exact va_Nw.of rfl (ht _ tb_c2)
  · simp only [en_deL, List.mem_cons, List.not_mem_nil, or_false] at hq
    rcases hq with rfl | rfl | rfl
    · exact va_Nw.of rfl (ht _ tb_d0)
    · exact va_Nw.of rfl (ht _ tb_d1)
    · exact va_Nw.of rfl (ht _ tb_d2)
theorem law_X {s : State} {b : Nat} (hts : ∀ w ∈ lw_tbl, w.before #[Value.ref b] s = true) (hgv : (Jvm.Cond.and given_1 narrow_1).before #[Value.ref b] s = true) : en_X (fun q => s.heap.size ≤ q) s s.heap := by
  have hs := flat_of_before _ hgv
  have ht : ∀ w ∈ tables_1, w.before #[Value.ref b] s = true := fun w hw => hts w (tb_in hw)
  exact ⟨vx_Zqof (ht _ tb_l0) (ht _ tb_i) (hs _ nb_r0) (fun a h1 h2 => by omega), vx_Zqof (ht _ tb_l1) (ht _ tb_i) (hs _ nb_r1) (fun a h1 h2 => by omega)⟩
