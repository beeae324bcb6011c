/-! MODEL 1: refusals, lines, meters -/
theorem fp_5_0 : en_FP 5 0 .int := ⟨_, _, _, rfl, ⟨tyX5, tyX5_ok⟩, nmX5, by decide +kernel, by decide +kernel⟩
theorem fp_5_2 : en_FP 5 2 .int := ⟨_, _, _, rfl, ⟨tyX5, tyX5_ok⟩, nmX5, by decide +kernel, by decide +kernel⟩
theorem fp_5_7 : en_FP 5 7 .int := ⟨_, _, _, rfl, ⟨tyX5, tyX5_ok⟩, nmX5, by decide +kernel, by decide +kernel⟩
theorem fp_5_15 : en_FP 5 15 .int := ⟨_, _, _, rfl, ⟨tyX5, tyX5_ok⟩, nmX5, by decide +kernel, by decide +kernel⟩
theorem fp_5_21 : en_FP 5 21 .long := ⟨_, _, _, rfl, ⟨tyX5, tyX5_ok⟩, nmX5, by decide +kernel, by decide +kernel⟩
theorem fp_5_22 : en_FP 5 22 .long := ⟨_, _, _, rfl, ⟨tyX5, tyX5_ok⟩, nmX5, by decide +kernel, by decide +kernel⟩
theorem fp_5_23 : en_FP 5 23 .long := ⟨_, _, _, rfl, ⟨tyX5, tyX5_ok⟩, nmX5, by decide +kernel, by decide +kernel⟩
abbrev rm_X5_thrown : Room := { frames := 1, cells := 0, slots := 0, locals := 0 }
theorem my_X5_thrown : en_MY yX5_thrown RX5 cX5_thrown 1 (some .int) wsX5_thrown 0 := ⟨⟨_, rfl⟩, rfl, by decide, by decide, by decide +kernel, by decide +kernel⟩
set_option maxRecDepth 20000 in
theorem fl_X5_thrown_64 : en_FL wsX5_thrown RX5 64 5 0 := ⟨_, _, _, rfl, by decide, by decide +kernel, Or.inl (by decide +kernel)⟩
set_option maxRecDepth 100000 in
set_option maxHeartbeats 4000000 in
theorem k_X5_thrown {l : Launch} {w : en_W} {m : en_M} (hw : en_Wok w) (hp : en_Has w 0 68) : en_Met l w yX5_thrown wsX5_thrown rm_X5_thrown [en_R 51] m (fun r m' => r = some (en_I (m 51 0)) ∧ m' = m) := by
  refine en_met my_X5_thrown hw (Nat.le_of_ble_eq_true rfl) ?_
  intro κ hl9 hw9 h hf
  subst hw9
  subst hl9
  have hI : ∀ k, 0 ≤ k → k < 68 → en_in κ k := hp
  refine en_aload_n (i := 0) h dX5_thrown_0 rfl rfl ?_
  refine en_getI (i := 0) h dX5_thrown_1 fl_X5_thrown_64 (hI _ (by omega) (by omega)) rfl rfl rfl rfl ?_
  exact en_iret h hf dX5_thrown_4 ⟨by decide, by decide⟩ ⟨rfl, rfl⟩
abbrev rm_X5_refused : Room := { frames := 1, cells := 0, slots := 0, locals := 0 }
theorem my_X5_refused : en_MY yX5_refused RX5 cX5_refused 2 (some .boolean) wsX5_refused 1 := ⟨⟨_, rfl⟩, rfl, by decide, by decide, by decide +kernel, by decide +kernel⟩
set_option maxRecDepth 20000 in
theorem fl_X5_refused_64 : en_FL wsX5_refused RX5 64 5 0 := ⟨_, _, _, rfl, by decide, by decide +kernel, Or.inl (by decide +kernel)⟩
set_option maxRecDepth 100000 in
set_option maxHeartbeats 4000000 in
theorem k_X5_refused {l : Launch} {w : en_W} {m : en_M} (hw : en_Wok w) (hp : en_Has w 0 68) {c : Int} (hc : en_i32 c) : en_Met l w yX5_refused wsX5_refused rm_X5_refused [en_R 51, en_I c] m (fun r m' => r = some (en_I (if c = 0 then 0 else 1)) ∧ m' = en_set m 51 0 c) := by
  refine en_met my_X5_refused hw (Nat.le_of_ble_eq_true rfl) ?_
  intro κ hl9 hw9 h hf
  subst hw9
  subst hl9
  have hI : ∀ k, 0 ≤ k → k < 68 → en_in κ k := hp
  refine en_aload_n (i := 0) h dX5_refused_0 rfl rfl ?_
  refine en_iload_n (i := 1) h dX5_refused_1 rfl rfl ?_
  refine en_putI (i := 0) h dX5_refused_2 fl_X5_refused_64 fp_5_0 (hI _ (by omega) (by omega)) rfl rfl rfl ?_
  refine en_iload_n (i := 1) h dX5_refused_5 rfl rfl ?_
  refine en_if_eq (tgt := 13) h dX5_refused_6 (by decide) (by omega) (fun c_6 => ?_) (fun c_6 => ?_)
  · refine en_iconst h dX5_refused_13 ?_
    exact en_zret h hf dX5_refused_14 ⟨by decide, by decide⟩ (by omega) ⟨by congr 2; split <;> omega, rfl⟩
  · refine en_iconst h dX5_refused_9 ?_
    refine en_goto (tgt := 14) h dX5_refused_10 (by decide) ?_
    exact en_zret h hf dX5_refused_14 ⟨by decide, by decide⟩ (by omega) ⟨by congr 2; split <;> omega, rfl⟩
abbrev rm_X5_fine : Room := { frames := 1, cells := 0, slots := 0, locals := 0 }
theorem my_X5_fine : en_MY yX5_fine RX5 cX5_fine 2 (some .int) wsX5_fine 1 := ⟨⟨_, rfl⟩, rfl, by decide, by decide, by decide +kernel, by decide +kernel⟩
set_option maxRecDepth 20000 in
theorem fl_X5_fine_64 : en_FL wsX5_fine RX5 64 5 0 := ⟨_, _, _, rfl, by decide, by decide +kernel, Or.inl (by decide +kernel)⟩
set_option maxRecDepth 100000 in
set_option maxHeartbeats 4000000 in
theorem k_X5_fine {l : Launch} {w : en_W} {m : en_M} (hw : en_Wok w) (hp : en_Has w 0 68) {c : Int} : en_Met l w yX5_fine wsX5_fine rm_X5_fine [en_R 51, en_I c] m (fun r m' => r = some (en_I c) ∧ m' = en_set m 51 0 0) := by
  refine en_met my_X5_fine hw (Nat.le_of_ble_eq_true rfl) ?_
  intro κ hl9 hw9 h hf
  subst hw9
  subst hl9
  have hI : ∀ k, 0 ≤ k → k < 68 → en_in κ k := hp
  refine en_aload_n (i := 0) h dX5_fine_0 rfl rfl ?_
  refine en_iconst h dX5_fine_1 ?_
  refine en_putI (i := 0) h dX5_fine_2 fl_X5_fine_64 fp_5_0 (hI _ (by omega) (by omega)) rfl rfl rfl ?_
  refine en_iload_n (i := 1) h dX5_fine_5 rfl rfl ?_
  exact en_iret h hf dX5_fine_6 ⟨by decide, by decide⟩ ⟨rfl, rfl⟩
abbrev rm_X5_in : Room := { frames := 1, cells := 0, slots := 0, locals := 0 }
theorem my_X5_in : en_MY yX5_in RX5 cX5_in 3 (some .boolean) wsX5_in 3 := ⟨⟨_, rfl⟩, rfl, by decide, by decide, by decide +kernel, by decide +kernel⟩
set_option maxRecDepth 100000 in
set_option maxHeartbeats 4000000 in
theorem k_X5_in {l : Launch} {w : en_W} {m : en_M} (hw : en_Wok w) {v lo hi : Int} (r0 : en_i32 v) (r1 : en_i32 lo) (r2 : en_i32 hi) : en_Met l w yX5_in wsX5_in rm_X5_in [en_I v, en_I lo, en_I hi] m (fun r m' => r = some (en_I (if lo ≤ v ∧ v ≤ hi then 1 else 0)) ∧ m' = m) := by
  refine en_met my_X5_in hw (Nat.le_of_ble_eq_true rfl) ?_
  intro κ hl9 hw9 h hf
  refine en_iload_n (i := 0) h dX5_in_0 rfl rfl ?_
  refine en_iload_n (i := 1) h dX5_in_1 rfl rfl ?_
  refine en_icmp_lt (tgt := 14) h dX5_in_2 (by decide) (by omega) (by omega) (fun c_2 => ?_) (fun c_2 => ?_)
  · refine en_iconst h dX5_in_14 ?_
    exact en_zret h hf dX5_in_15 ⟨by decide, by decide⟩ (by omega) ⟨by congr 2; split <;> omega, rfl⟩
  · refine en_iload_n (i := 0) h dX5_in_5 rfl rfl ?_
    refine en_iload_n (i := 2) h dX5_in_6 rfl rfl ?_
    refine en_icmp_gt (tgt := 14) h dX5_in_7 (by decide) (by omega) (by omega) (fun c_7 => ?_) (fun c_7 => ?_)
    · refine en_iconst h dX5_in_14 ?_
      exact en_zret h hf dX5_in_15 ⟨by decide, by decide⟩ (by omega) ⟨by congr 2; split <;> omega, rfl⟩
    · refine en_iconst h dX5_in_10 ?_
      refine en_goto (tgt := 15) h dX5_in_11 (by decide) ?_
      exact en_zret h hf dX5_in_15 ⟨by decide, by decide⟩ (by omega) ⟨by congr 2; split <;> omega, rfl⟩
abbrev rm_X5_isBus : Room := { frames := 2, cells := 0, slots := 0, locals := 22 }
theorem my_X5_isBus : en_MY yX5_isBus RX5 cX5_isBus 2 (some .boolean) wsX5_isBus 1 := ⟨⟨_, rfl⟩, rfl, by decide, by decide, by decide +kernel, by decide +kernel⟩
set_option maxRecDepth 20000 in
theorem fl_X5_isBus_60 : en_FL wsX5_isBus RX5 60 5 1 := ⟨_, _, _, rfl, by decide, by decide +kernel, Or.inl (by decide +kernel)⟩
set_option maxRecDepth 100000 in
set_option maxHeartbeats 4000000 in
theorem k_X5_isBus {l : Launch} {w : en_W} {m : en_M} (hw : en_Wok w) (hp : en_Has w 0 68) {b : Int} (r0 : en_i32 b) (r1 : 0 ≤ m 51 1 ∧ m 51 1 ≤ 10) : en_Met l w yX5_isBus wsX5_isBus rm_X5_isBus [en_R 51, en_I b] m (fun r m' => r = some (en_I (if 0 ≤ b ∧ b < m 51 1 then 1 else 0)) ∧ m' = m) := by
  refine en_met my_X5_isBus hw (Nat.le_of_ble_eq_true rfl) ?_
  intro κ hl9 hw9 h hf
  subst hw9
  subst hl9
  have hI : ∀ k, 0 ≤ k → k < 68 → en_in κ k := hp
  refine en_iload_n (i := 1) h dX5_isBus_0 rfl rfl ?_
  refine en_iconst h dX5_isBus_1 ?_
  refine en_aload_n (i := 0) h dX5_isBus_2 rfl rfl ?_
  refine en_getI (i := 1) h dX5_isBus_3 fl_X5_isBus_60 (hI _ (by omega) (by omega)) rfl rfl rfl rfl ?_
  refine en_iconst h dX5_isBus_6 ?_
  refine en_isub h dX5_isBus_7 ?_
  refine en_callS h (k_X5_in hw r0 (by decide) (by omega)) my_X5_in gX5_isBus_X5_in rfl rfl ⟨by decide, by decide⟩ ⟨by decide, by decide⟩ (Nat.le_of_ble_eq_true rfl) dX5_isBus_8 (fun r m' hp => ?_)
  obtain ⟨rfl, e1⟩ := hp
  exact en_zret h hf dX5_isBus_11 ⟨by decide, by decide⟩ (by split <;> omega) ⟨by congr 2; (repeat' split) <;> omega, e1⟩
abbrev rm_X5_isLine : Room := { frames := 2, cells := 0, slots := 0, locals := 22 }
theorem my_X5_isLine : en_MY yX5_isLine RX5 cX5_isLine 2 (some .boolean) wsX5_isLine 1 := ⟨⟨_, rfl⟩, rfl, by decide, by decide, by decide +kernel, by decide +kernel⟩
set_option maxRecDepth 20000 in
theorem fl_X5_isLine_71 : en_FL wsX5_isLine RX5 71 5 2 := ⟨_, _, _, rfl, by decide, by decide +kernel, Or.inl (by decide +kernel)⟩
set_option maxRecDepth 100000 in
set_option maxHeartbeats 4000000 in
theorem k_X5_isLine {l : Launch} {w : en_W} {m : en_M} (hw : en_Wok w) (hp : en_Has w 0 68) {b : Int} (r0 : en_i32 b) (r1 : 0 ≤ m 51 2 ∧ m 51 2 ≤ 10) : en_Met l w yX5_isLine wsX5_isLine rm_X5_isLine [en_R 51, en_I b] m (fun r m' => r = some (en_I (if 0 ≤ b ∧ b < m 51 2 then 1 else 0)) ∧ m' = m) := by
  refine en_met my_X5_isLine hw (Nat.le_of_ble_eq_true rfl) ?_
  intro κ hl9 hw9 h hf
  subst hw9
  subst hl9
  have hI : ∀ k, 0 ≤ k → k < 68 → en_in κ k := hp
  refine en_iload_n (i := 1) h dX5_isLine_0 rfl rfl ?_
  refine en_iconst h dX5_isLine_1 ?_
  refine en_aload_n (i := 0) h dX5_isLine_2 rfl rfl ?_
  refine en_getI (i := 2) h dX5_isLine_3 fl_X5_isLine_71 (hI _ (by omega) (by omega)) rfl rfl rfl rfl ?_
  refine en_iconst h dX5_isLine_6 ?_
  refine en_isub h dX5_isLine_7 ?_
  refine en_callS h (k_X5_in hw r0 (by decide) (by omega)) my_X5_in gX5_isLine_X5_in rfl rfl ⟨by decide, by decide⟩ ⟨by decide, by decide⟩ (Nat.le_of_ble_eq_true rfl) dX5_isLine_8 (fun r m' hp => ?_)
  obtain ⟨rfl, e1⟩ := hp
  exact en_zret h hf dX5_isLine_11 ⟨by decide, by decide⟩ (by split <;> omega) ⟨by congr 2; (repeat' split) <;> omega, e1⟩
abbrev rm_X5_isMeter : Room := { frames := 2, cells := 0, slots := 0, locals := 22 }
theorem my_X5_isMeter : en_MY yX5_isMeter RX5 cX5_isMeter 2 (some .boolean) wsX5_isMeter 1 := ⟨⟨_, rfl⟩, rfl, by decide, by decide, by decide +kernel, by decide +kernel⟩
set_option maxRecDepth 20000 in
theorem fl_X5_isMeter_74 : en_FL wsX5_isMeter RX5 74 5 7 := ⟨_, _, _, rfl, by decide, by decide +kernel, Or.inl (by decide +kernel)⟩
set_option maxRecDepth 100000 in
set_option maxHeartbeats 4000000 in
theorem k_X5_isMeter {l : Launch} {w : en_W} {m : en_M} (hw : en_Wok w) (hp : en_Has w 0 68) {b : Int} (r0 : en_i32 b) (r1 : 0 ≤ m 51 7 ∧ m 51 7 ≤ 10) : en_Met l w yX5_isMeter wsX5_isMeter rm_X5_isMeter [en_R 51, en_I b] m (fun r m' => r = some (en_I (if 0 ≤ b ∧ b < m 51 7 then 1 else 0)) ∧ m' = m) := by
  refine en_met my_X5_isMeter hw (Nat.le_of_ble_eq_true rfl) ?_
  intro κ hl9 hw9 h hf
  subst hw9
  subst hl9
  have hI : ∀ k, 0 ≤ k → k < 68 → en_in κ k := hp
  refine en_iload_n (i := 1) h dX5_isMeter_0 rfl rfl ?_
  refine en_iconst h dX5_isMeter_1 ?_
  refine en_aload_n (i := 0) h dX5_isMeter_2 rfl rfl ?_
  refine en_getI (i := 7) h dX5_isMeter_3 fl_X5_isMeter_74 (hI _ (by omega) (by omega)) rfl rfl rfl rfl ?_
  refine en_iconst h dX5_isMeter_6 ?_
  refine en_isub h dX5_isMeter_7 ?_
  refine en_callS h (k_X5_in hw r0 (by decide) (by omega)) my_X5_in gX5_isMeter_X5_in rfl rfl ⟨by decide, by decide⟩ ⟨by decide, by decide⟩ (Nat.le_of_ble_eq_true rfl) dX5_isMeter_8 (fun r m' hp => ?_)
  obtain ⟨rfl, e1⟩ := hp
  exact en_zret h hf dX5_isMeter_11 ⟨by decide, by decide⟩ (by split <;> omega) ⟨by congr 2; (repeat' split) <;> omega, e1⟩
abbrev rm_X5_addLine : Room := { frames := 3, cells := 0, slots := 0, locals := 43 }
theorem my_X5_addLine : en_MY yX5_addLine RX5 cX5_addLine 7 (some .int) wsX5_addLine 3 := ⟨⟨_, rfl⟩, rfl, by decide, by decide, by decide +kernel, by decide +kernel⟩
set_option maxRecDepth 20000 in
theorem fl_X5_addLine_7 : en_FL wsX5_addLine RX5 7 5 3 := ⟨_, _, _, rfl, by decide, by decide +kernel, Or.inl (by decide +kernel)⟩
set_option maxRecDepth 20000 in
theorem fl_X5_addLine_13 : en_FL wsX5_addLine RX5 13 5 4 := ⟨_, _, _, rfl, by decide, by decide +kernel, Or.inl (by decide +kernel)⟩
set_option maxRecDepth 20000 in
theorem fl_X5_addLine_16 : en_FL wsX5_addLine RX5 16 5 5 := ⟨_, _, _, rfl, by decide, by decide +kernel, Or.inl (by decide +kernel)⟩
set_option maxRecDepth 20000 in
theorem fl_X5_addLine_19 : en_FL wsX5_addLine RX5 19 5 6 := ⟨_, _, _, rfl, by decide, by decide +kernel, Or.inl (by decide +kernel)⟩
set_option maxRecDepth 20000 in
theorem fl_X5_addLine_71 : en_FL wsX5_addLine RX5 71 5 2 := ⟨_, _, _, rfl, by decide, by decide +kernel, Or.inl (by decide +kernel)⟩
abbrev mo_al (m : en_M) (f s g : Int) : Int := if ¬ ((0 ≤ f ∧ f < m 51 1) ∧ (0 ≤ s ∧ s < m 51 1)) then 1 else if f = s ∨ ¬ (1 ≤ g ∧ g ≤ 2) then 2 else if gs_hb (m 52) (m 53) f s (m 51 2).toNat = true ∨ m 51 2 = 8 then 3 else 0
def mo_ap (m : en_M) (f s g : Int) : en_M := en_set (en_set (en_set (en_set (en_set (en_set m 51 0 0) 52 (m 51 2) f) 53 (m 51 2) s) 54 (m 51 2) g) 55 (m 51 2) 1) 51 2 (m 51 2 + 1)
set_option maxRecDepth 100000 in
set_option maxHeartbeats 4000000 in
theorem lp_X5_addLine_T {κ : en_C} {m : en_M} {f s g ar : Int} {th : Bool} (hW : en_Wok (en_w κ)) (hP : en_Has (en_w κ) 0 68) (h : en_Ok κ RX5 cX5_addLine 7 wsX5_addLine rm_X5_addLine) (hf : en_fin κ rm_X5_addLine (some .int) (fun r m' => (mo_al m f s g ≠ 0 ∧ r = some (en_I 0) ∧ m' = en_set m 51 0 (mo_al m f s g)) ∨ (mo_al m f s g = 0 ∧ r = some (en_I (m 51 2)) ∧ m' = mo_ap m f s g))) (hn : 0 ≤ m 51 2 ∧ m 51 2 ≤ 8) (rf : en_i32 f) (rs : en_i32 s) (rg : en_i32 g) (har : ar = if (0 ≤ f ∧ f < m 51 1) ∧ (0 ≤ s ∧ s < m 51 1) then 1 else 0) (hth : gs_hb (m 52) (m 53) f s (m 51 2).toNat = th) {o : Option en_V} : en_G κ 100 [some (en_R 51), some (en_I f), some (en_I s), some (en_I g), some (en_I ar), some (en_I (if th = true then 1 else 0)), o] [] m 0 0 := by
  have hI : ∀ k, 0 ≤ k → k < 68 → en_in κ k := hP
  have fin : ∀ c : Int, c = mo_al m f s g → en_i32 c → en_G κ 147 [some (en_R 51), some (en_I f), some (en_I s), some (en_I g), some (en_I ar), some (en_I (if th = true then 1 else 0)), o] [en_I c, en_R 51] m 0 0 := by
    intro c hc rc
    refine en_callV h (k_X5_refused hW hI rc) my_X5_refused gX5_addLine_X5_refused (hI _ (by omega) (by omega)) rfl rfl rfl rfl ⟨by decide, by decide⟩ ⟨by decide, by decide⟩ (Nat.le_of_ble_eq_true rfl) dX5_addLine_147 (fun r M1 hp => ?_)
    obtain ⟨rfl, e1⟩ := hp
    subst e1
    refine en_if_eq (tgt := 155) h dX5_addLine_150 (by decide) (by split <;> omega) (fun c_150 => ?_) (fun c_150 => ?_)
    · have c0 : c = 0 := by apply Decidable.byContradiction; intro z; rw [if_neg z] at c_150; omega
      subst c0
      have n8 : m 51 2 < 8 := by
        have q := hc.symm
        unfold mo_al at q
        split at q
        · omega
        · split at q
          · omega
          · split at q
            · omega
            · omega
      refine en_aload_n (i := 0) h dX5_addLine_155 rfl rfl ?_
      refine en_getR h dX5_addLine_156 fl_X5_addLine_7 (hI _ (by omega) (by omega)) rfl rfl ?_
      refine en_aload_n (i := 0) h dX5_addLine_159 rfl rfl ?_
      refine en_getI (i := 2) h dX5_addLine_160 fl_X5_addLine_71 (hI _ (by omega) (by omega)) rfl rfl rfl (v9 := m 51 2) (by simp [en_set]) ?_
      refine en_iload_n (i := 1) h dX5_addLine_163 rfl rfl ?_
      refine en_iastore h dX5_addLine_164 (hI _ (by omega) (by omega)) rfl (by omega) ?_
      refine en_aload_n (i := 0) h dX5_addLine_165 rfl rfl ?_
      refine en_getR h dX5_addLine_166 fl_X5_addLine_13 (hI _ (by omega) (by omega)) rfl rfl ?_
      refine en_aload_n (i := 0) h dX5_addLine_169 rfl rfl ?_
      refine en_getI (i := 2) h dX5_addLine_170 fl_X5_addLine_71 (hI _ (by omega) (by omega)) rfl rfl rfl (v9 := m 51 2) (by simp [en_set]) ?_
      refine en_iload_n (i := 2) h dX5_addLine_173 rfl rfl ?_
      refine en_iastore h dX5_addLine_174 (hI _ (by omega) (by omega)) rfl (by omega) ?_
      refine en_aload_n (i := 0) h dX5_addLine_175 rfl rfl ?_
      refine en_getR h dX5_addLine_176 fl_X5_addLine_16 (hI _ (by omega) (by omega)) rfl rfl ?_
      refine en_aload_n (i := 0) h dX5_addLine_179 rfl rfl ?_
      refine en_getI (i := 2) h dX5_addLine_180 fl_X5_addLine_71 (hI _ (by omega) (by omega)) rfl rfl rfl (v9 := m 51 2) (by simp [en_set]) ?_
      refine en_iload_n (i := 3) h dX5_addLine_183 rfl rfl ?_
      refine en_iastore h dX5_addLine_184 (hI _ (by omega) (by omega)) rfl (by omega) ?_
      refine en_aload_n (i := 0) h dX5_addLine_185 rfl rfl ?_
      refine en_getR h dX5_addLine_186 fl_X5_addLine_19 (hI _ (by omega) (by omega)) rfl rfl ?_
      refine en_aload_n (i := 0) h dX5_addLine_189 rfl rfl ?_
      refine en_getI (i := 2) h dX5_addLine_190 fl_X5_addLine_71 (hI _ (by omega) (by omega)) rfl rfl rfl (v9 := m 51 2) (by simp [en_set]) ?_
      refine en_iconst h dX5_addLine_193 ?_
      refine en_zastore h dX5_addLine_194 (hI _ (by omega) (by omega)) rfl (by omega) (by omega) ?_
      refine en_aload_n (i := 0) h dX5_addLine_195 rfl rfl ?_
      refine en_dupa h dX5_addLine_196 ?_
      refine en_getI (i := 2) h dX5_addLine_197 fl_X5_addLine_71 (hI _ (by omega) (by omega)) rfl rfl rfl (v9 := m 51 2) (by simp [en_set]) ?_
      refine en_iconst h dX5_addLine_200 ?_
      refine en_iadd h dX5_addLine_201 ?_
      refine en_putI (i := 2) h dX5_addLine_202 fl_X5_addLine_71 fp_5_2 (hI _ (by omega) (by omega)) rfl rfl rfl ?_
      refine en_aload_n (i := 0) h dX5_addLine_205 rfl rfl ?_
      refine en_getI (i := 2) h dX5_addLine_206 fl_X5_addLine_71 (hI _ (by omega) (by omega)) rfl rfl rfl (v9 := m 51 2 + 1) (by simp [en_set]) ?_
      refine en_iconst h dX5_addLine_209 ?_
      refine en_isub h dX5_addLine_210 ?_
      exact en_iret h hf dX5_addLine_211 ⟨by decide, by decide⟩ (Or.inr ⟨hc.symm, by congr 2; omega, rfl⟩)
    · have c0 : c ≠ 0 := fun z => by rw [if_pos z] at c_150; omega
      refine en_iconst h dX5_addLine_153 ?_
      exact en_iret h hf dX5_addLine_154 ⟨by decide, by decide⟩ (Or.inl ⟨by rw [← hc]; exact c0, rfl, by rw [hc]⟩)
  refine en_aload_n (i := 0) h dX5_addLine_100 rfl rfl ?_
  refine en_iload (i := 4) h dX5_addLine_101 rfl ?_
  refine en_if_ne (tgt := 110) h dX5_addLine_103 (by decide) (by rw [har]; split <;> omega) (fun c_103 => ?_) (fun c_103 => ?_)
  · have c9 : ¬ ((0 ≤ f ∧ f < m 51 1) ∧ (0 ≤ s ∧ s < m 51 1)) → False := fun z => by rw [har, if_neg z] at c_103; omega
    have c9 : (0 ≤ f ∧ f < m 51 1) ∧ (0 ≤ s ∧ s < m 51 1) := Decidable.byContradiction c9
    have two : (f = s ∨ ¬ (1 ≤ g ∧ g ≤ 2)) → (2 : Int) = mo_al m f s g := fun z => by unfold mo_al; rw [if_neg (fun q => q c9), if_pos z]
    refine en_iload_n (i := 1) h dX5_addLine_110 rfl rfl ?_
    refine en_iload_n (i := 2) h dX5_addLine_111 rfl rfl ?_
    refine en_icmp_eq (tgt := 124) h dX5_addLine_112 (by decide) (by omega) (by omega) (fun c_112 => ?_) (fun c_112 => ?_)
    · refine en_iconst h dX5_addLine_124 ?_
      refine en_goto (tgt := 147) h dX5_addLine_125 (by decide) ?_
      exact fin 2 (two (Or.inl c_112)) (by decide)
    · refine en_iload_n (i := 3) h dX5_addLine_115 rfl rfl ?_
      refine en_iconst h dX5_addLine_116 ?_
      refine en_iconst h dX5_addLine_117 ?_
      refine en_callS h (k_X5_in hW rg (by decide) (by decide)) my_X5_in gX5_addLine_X5_in rfl rfl ⟨by decide, by decide⟩ ⟨by decide, by decide⟩ (Nat.le_of_ble_eq_true rfl) dX5_addLine_118 (fun r M1 hp => ?_)
      obtain ⟨rfl, e1⟩ := hp
      subst e1
      refine en_if_ne (tgt := 128) h dX5_addLine_121 (by decide) (by split <;> omega) (fun c_121 => ?_) (fun c_121 => ?_)
      · have c8 : 1 ≤ g ∧ g ≤ 2 := by apply Decidable.byContradiction; intro z; rw [if_neg z] at c_121; omega
        have thr : (th = true ∨ M1 51 2 = 8) → (3 : Int) = mo_al M1 f s g := fun z => by unfold mo_al; rw [if_neg (fun q => q c9), if_neg (by omega), if_pos (by rw [hth]; exact z)]
        refine en_iload (i := 5) h dX5_addLine_128 rfl ?_
        refine en_if_ne (tgt := 142) h dX5_addLine_130 (by decide) (by split <;> omega) (fun c_130 => ?_) (fun c_130 => ?_)
        · have c7 : th = true := by cases th <;> simp at c_130 ⊢
          refine en_iconst h dX5_addLine_142 ?_
          refine en_goto (tgt := 147) h dX5_addLine_143 (by decide) ?_
          exact fin 3 (thr (Or.inl c7)) (by decide)
        · have c7 : ¬ th = true := fun z => by rw [if_pos z] at c_130; omega
          refine en_aload_n (i := 0) h dX5_addLine_133 rfl rfl ?_
          refine en_getI (i := 2) h dX5_addLine_134 fl_X5_addLine_71 (hI _ (by omega) (by omega)) rfl rfl rfl rfl ?_
          refine en_bipush h dX5_addLine_137 (by decide) ?_
          refine en_icmp_ne (tgt := 146) h dX5_addLine_139 (by decide) (by omega) (by omega) (fun c_139 => ?_) (fun c_139 => ?_)
          · refine en_iconst h dX5_addLine_146 ?_
            exact fin 0 (by unfold mo_al; rw [if_neg (fun q => q c9), if_neg (by omega), if_neg (by rw [hth]; exact fun z => z.elim c7 c_139)]) (by decide)
          · refine en_iconst h dX5_addLine_142 ?_
            refine en_goto (tgt := 147) h dX5_addLine_143 (by decide) ?_
            exact fin 3 (thr (Or.inr c_139)) (by decide)
      · have c8 : ¬ (1 ≤ g ∧ g ≤ 2) := fun z => by rw [if_pos z] at c_121; omega
        refine en_iconst h dX5_addLine_124 ?_
        refine en_goto (tgt := 147) h dX5_addLine_125 (by decide) ?_
        exact fin 2 (two (Or.inr c8)) (by decide)
  · have c9 : ¬ ((0 ≤ f ∧ f < m 51 1) ∧ (0 ≤ s ∧ s < m 51 1)) := fun z => by rw [har, if_pos z] at c_103; omega
    refine en_iconst h dX5_addLine_106 ?_
    refine en_goto (tgt := 147) h dX5_addLine_107 (by decide) ?_
    exact fin 1 (by unfold mo_al; rw [if_pos c9]) (by decide)
