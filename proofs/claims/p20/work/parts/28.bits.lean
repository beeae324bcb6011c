/-! Integer.bitCount, of a set of five -/
abbrev rm_J6_bitCount_0f7a4 : Room := { frames := 1, cells := 0, slots := 0, locals := 0 }
theorem my_J6_bitCount_0f7a4 : en_MY yJ6_bitCount_0f7a4 RJ6 cJ6_bitCount_0f7a4 1 (some .int) wsJ6_bitCount_0f7a4 1 := ⟨⟨_, rfl⟩, rfl, by decide, by decide, by decide +kernel, by decide +kernel⟩
set_option maxRecDepth 100000 in
set_option maxHeartbeats 4000000 in
theorem k_J6_bitCount_0f7a4 {l : Launch} {w : en_W} {m : en_M} (hw : en_Wok w) {s : Int} (h0 : 0 ≤ s) (h1 : s < 32) : en_Met l w yJ6_bitCount_0f7a4 wsJ6_bitCount_0f7a4 rm_J6_bitCount_0f7a4 [en_I s] m (fun r m' => r = some (en_I (gm_pc s)) ∧ m' = m) := by
  refine en_met my_J6_bitCount_0f7a4 hw (Nat.le_of_ble_eq_true rfl) ?_
  intro κ hl9 hw9 h hf
  subst hw9
  subst hl9
  refine en_iload_n (i := 0) h dJ6_bitCount_0f7a4_0 rfl rfl ?_
  refine en_iload_n (i := 0) h dJ6_bitCount_0f7a4_1 rfl rfl ?_
  refine en_iconst h dJ6_bitCount_0f7a4_2 ?_
  refine en_iushr h dJ6_bitCount_0f7a4_3 _ (Int32.ofInt_toInt _).symm ?_
  refine en_ldc_w (v := 1431655765) h dJ6_bitCount_0f7a4_4 (by decide +kernel) ?_
  refine en_iand h dJ6_bitCount_0f7a4_7 _ (Int32.ofInt_toInt _).symm ?_
  refine en_isub h dJ6_bitCount_0f7a4_8 ?_
  refine en_istore_n (i := 0) h dJ6_bitCount_0f7a4_9 rfl (by decide) ?_
  refine en_iload_n (i := 0) h dJ6_bitCount_0f7a4_10 rfl rfl ?_
  refine en_ldc_w (v := 858993459) h dJ6_bitCount_0f7a4_11 (by decide +kernel) ?_
  refine en_iand h dJ6_bitCount_0f7a4_14 _ (Int32.ofInt_toInt _).symm ?_
  refine en_iload_n (i := 0) h dJ6_bitCount_0f7a4_15 rfl rfl ?_
  refine en_iconst h dJ6_bitCount_0f7a4_16 ?_
  refine en_iushr h dJ6_bitCount_0f7a4_17 _ (Int32.ofInt_toInt _).symm ?_
  refine en_ldc_w (v := 858993459) h dJ6_bitCount_0f7a4_18 (by decide +kernel) ?_
  refine en_iand h dJ6_bitCount_0f7a4_21 _ (Int32.ofInt_toInt _).symm ?_
  refine en_iadd h dJ6_bitCount_0f7a4_22 ?_
  refine en_istore_n (i := 0) h dJ6_bitCount_0f7a4_23 rfl (by decide) ?_
  refine en_iload_n (i := 0) h dJ6_bitCount_0f7a4_24 rfl rfl ?_
  refine en_iload_n (i := 0) h dJ6_bitCount_0f7a4_25 rfl rfl ?_
  refine en_iconst h dJ6_bitCount_0f7a4_26 ?_
  refine en_iushr h dJ6_bitCount_0f7a4_27 _ (Int32.ofInt_toInt _).symm ?_
  refine en_iadd h dJ6_bitCount_0f7a4_28 ?_
  refine en_ldc_w (v := 252645135) h dJ6_bitCount_0f7a4_29 (by decide +kernel) ?_
  refine en_iand h dJ6_bitCount_0f7a4_32 _ (Int32.ofInt_toInt _).symm ?_
  refine en_istore_n (i := 0) h dJ6_bitCount_0f7a4_33 rfl (by decide) ?_
  refine en_iload_n (i := 0) h dJ6_bitCount_0f7a4_34 rfl rfl ?_
  refine en_iload_n (i := 0) h dJ6_bitCount_0f7a4_35 rfl rfl ?_
  refine en_bipush h dJ6_bitCount_0f7a4_36 (by decide) ?_
  refine en_iushr h dJ6_bitCount_0f7a4_38 _ (Int32.ofInt_toInt _).symm ?_
  refine en_iadd h dJ6_bitCount_0f7a4_39 ?_
  refine en_istore_n (i := 0) h dJ6_bitCount_0f7a4_40 rfl (by decide) ?_
  refine en_iload_n (i := 0) h dJ6_bitCount_0f7a4_41 rfl rfl ?_
  refine en_iload_n (i := 0) h dJ6_bitCount_0f7a4_42 rfl rfl ?_
  refine en_bipush h dJ6_bitCount_0f7a4_43 (by decide) ?_
  refine en_iushr h dJ6_bitCount_0f7a4_45 _ (Int32.ofInt_toInt _).symm ?_
  refine en_iadd h dJ6_bitCount_0f7a4_46 ?_
  refine en_istore_n (i := 0) h dJ6_bitCount_0f7a4_47 rfl (by decide) ?_
  refine en_iload_n (i := 0) h dJ6_bitCount_0f7a4_48 rfl rfl ?_
  refine en_bipush h dJ6_bitCount_0f7a4_49 (by decide) ?_
  refine en_iand h dJ6_bitCount_0f7a4_51 _ (Int32.ofInt_toInt _).symm ?_
  refine en_iret h hf dJ6_bitCount_0f7a4_52 ⟨by decide, by decide⟩ ⟨congrArg (fun z => some (en_I z)) ?_, rfl⟩
  clear h hf
  revert h0 h1
  intro h0 h1
  have hs : s = 0 ∨ s = 1 ∨ s = 2 ∨ s = 3 ∨ s = 4 ∨ s = 5 ∨ s = 6 ∨ s = 7 ∨ s = 8 ∨ s = 9 ∨ s = 10 ∨ s = 11 ∨ s = 12 ∨ s = 13 ∨ s = 14 ∨ s = 15 ∨ s = 16 ∨ s = 17 ∨ s = 18 ∨ s = 19 ∨ s = 20 ∨ s = 21 ∨ s = 22 ∨ s = 23 ∨ s = 24 ∨ s = 25 ∨ s = 26 ∨ s = 27 ∨ s = 28 ∨ s = 29 ∨ s = 30 ∨ s = 31 := by omega
  rcases hs with rfl | rfl | rfl | rfl | rfl | rfl | rfl | rfl | rfl | rfl | rfl | rfl | rfl | rfl | rfl | rfl | rfl | rfl | rfl | rfl | rfl | rfl | rfl | rfl | rfl | rfl | rfl | rfl | rfl | rfl | rfl | rfl <;> decide +kernel
