/-! GRID: the methods of class Grid over the places 0 to 20 -/
theorem fp_1_1 : en_FP 1 1 .int := ⟨_, _, _, rfl, ⟨tyX1, tyX1_ok⟩, nmX1, by decide +kernel, by decide +kernel⟩
abbrev rm_X1_hasBus : Room := { frames := 1, cells := 0, slots := 0, locals := 0 }
theorem my_X1_hasBus : en_MY yX1_hasBus RX1 cX1_hasBus 2 (some .boolean) wsX1_hasBus 1 := ⟨⟨_, rfl⟩, rfl, by decide, by decide, by decide +kernel, by decide +kernel⟩
set_option maxRecDepth 20000 in
theorem fl_X1_hasBus_40 : en_FL wsX1_hasBus RX1 40 1 0 := ⟨_, _, _, rfl, by decide, by decide +kernel, Or.inl (by decide +kernel)⟩
set_option maxRecDepth 100000 in
set_option maxHeartbeats 4000000 in
theorem k_X1_hasBus {l : Launch} {w : en_W} {m : en_M} (hw : en_Wok w) (hp : en_Has w 0 21) {b : Int} (r0 : en_i32 b) (r1 : en_i32 (m 0 0)) : en_Met l w yX1_hasBus wsX1_hasBus rm_X1_hasBus [en_R 0, en_I b] m (fun r m' => r = some (en_I (if 0 ≤ b ∧ b < m 0 0 then 1 else 0)) ∧ m' = m) := by
  refine en_met my_X1_hasBus hw (Nat.le_of_ble_eq_true rfl) ?_
  intro κ hl9 hw9 h hf
  subst hw9
  subst hl9
  have hI : ∀ k, 0 ≤ k → k < 21 → en_in κ k := hp
  refine en_iload_n (i := 1) h dX1_hasBus_0 rfl rfl ?_
  refine en_if_lt (tgt := 16) h dX1_hasBus_1 (by decide) (by omega) (fun c_1 => ?_) (fun c_1 => ?_)
  · refine en_iconst h dX1_hasBus_16 ?_
    exact en_zret h hf dX1_hasBus_17 ⟨by decide, by decide⟩ (by omega) ⟨by congr 2; split <;> omega, rfl⟩
  · refine en_iload_n (i := 1) h dX1_hasBus_4 rfl rfl ?_
    refine en_aload_n (i := 0) h dX1_hasBus_5 rfl rfl ?_
    refine en_getI (i := 0) h dX1_hasBus_6 fl_X1_hasBus_40 (hI _ (by omega) (by omega)) rfl rfl rfl rfl ?_
    refine en_icmp_ge (tgt := 16) h dX1_hasBus_9 (by decide) (by omega) (by omega) (fun c_9 => ?_) (fun c_9 => ?_)
    · refine en_iconst h dX1_hasBus_16 ?_
      exact en_zret h hf dX1_hasBus_17 ⟨by decide, by decide⟩ (by omega) ⟨by congr 2; split <;> omega, rfl⟩
    · refine en_iconst h dX1_hasBus_12 ?_
      refine en_goto (tgt := 17) h dX1_hasBus_13 (by decide) ?_
      exact en_zret h hf dX1_hasBus_17 ⟨by decide, by decide⟩ (by omega) ⟨by congr 2; split <;> omega, rfl⟩
abbrev rm_X1_hasLine : Room := { frames := 1, cells := 0, slots := 0, locals := 0 }
theorem my_X1_hasLine : en_MY yX1_hasLine RX1 cX1_hasLine 2 (some .boolean) wsX1_hasLine 1 := ⟨⟨_, rfl⟩, rfl, by decide, by decide, by decide +kernel, by decide +kernel⟩
set_option maxRecDepth 20000 in
theorem fl_X1_hasLine_9 : en_FL wsX1_hasLine RX1 9 1 1 := ⟨_, _, _, rfl, by decide, by decide +kernel, Or.inl (by decide +kernel)⟩
set_option maxRecDepth 100000 in
set_option maxHeartbeats 4000000 in
theorem k_X1_hasLine {l : Launch} {w : en_W} {m : en_M} (hw : en_Wok w) (hp : en_Has w 0 21) {b : Int} (r0 : en_i32 b) (r1 : en_i32 (m 0 1)) : en_Met l w yX1_hasLine wsX1_hasLine rm_X1_hasLine [en_R 0, en_I b] m (fun r m' => r = some (en_I (if 0 ≤ b ∧ b < m 0 1 then 1 else 0)) ∧ m' = m) := by
  refine en_met my_X1_hasLine hw (Nat.le_of_ble_eq_true rfl) ?_
  intro κ hl9 hw9 h hf
  subst hw9
  subst hl9
  have hI : ∀ k, 0 ≤ k → k < 21 → en_in κ k := hp
  refine en_iload_n (i := 1) h dX1_hasLine_0 rfl rfl ?_
  refine en_if_lt (tgt := 16) h dX1_hasLine_1 (by decide) (by omega) (fun c_1 => ?_) (fun c_1 => ?_)
  · refine en_iconst h dX1_hasLine_16 ?_
    exact en_zret h hf dX1_hasLine_17 ⟨by decide, by decide⟩ (by omega) ⟨by congr 2; split <;> omega, rfl⟩
  · refine en_iload_n (i := 1) h dX1_hasLine_4 rfl rfl ?_
    refine en_aload_n (i := 0) h dX1_hasLine_5 rfl rfl ?_
    refine en_getI (i := 1) h dX1_hasLine_6 fl_X1_hasLine_9 (hI _ (by omega) (by omega)) rfl rfl rfl rfl ?_
    refine en_icmp_ge (tgt := 16) h dX1_hasLine_9 (by decide) (by omega) (by omega) (fun c_9 => ?_) (fun c_9 => ?_)
    · refine en_iconst h dX1_hasLine_16 ?_
      exact en_zret h hf dX1_hasLine_17 ⟨by decide, by decide⟩ (by omega) ⟨by congr 2; split <;> omega, rfl⟩
    · refine en_iconst h dX1_hasLine_12 ?_
      refine en_goto (tgt := 17) h dX1_hasLine_13 (by decide) ?_
      exact en_zret h hf dX1_hasLine_17 ⟨by decide, by decide⟩ (by omega) ⟨by congr 2; split <;> omega, rfl⟩
abbrev rm_X1_isFull : Room := { frames := 1, cells := 0, slots := 0, locals := 0 }
theorem my_X1_isFull : en_MY yX1_isFull RX1 cX1_isFull 1 (some .boolean) wsX1_isFull 0 := ⟨⟨_, rfl⟩, rfl, by decide, by decide, by decide +kernel, by decide +kernel⟩
set_option maxRecDepth 20000 in
theorem fl_X1_isFull_9 : en_FL wsX1_isFull RX1 9 1 1 := ⟨_, _, _, rfl, by decide, by decide +kernel, Or.inl (by decide +kernel)⟩
set_option maxRecDepth 100000 in
set_option maxHeartbeats 4000000 in
theorem k_X1_isFull {l : Launch} {w : en_W} {m : en_M} (hw : en_Wok w) (hp : en_Has w 0 21) (r1 : en_i32 (m 0 1)) : en_Met l w yX1_isFull wsX1_isFull rm_X1_isFull [en_R 0] m (fun r m' => r = some (en_I (if m 0 1 < 8 then 0 else 1)) ∧ m' = m) := by
  refine en_met my_X1_isFull hw (Nat.le_of_ble_eq_true rfl) ?_
  intro κ hl9 hw9 h hf
  subst hw9
  subst hl9
  have hI : ∀ k, 0 ≤ k → k < 21 → en_in κ k := hp
  refine en_aload_n (i := 0) h dX1_isFull_0 rfl rfl ?_
  refine en_getI (i := 1) h dX1_isFull_1 fl_X1_isFull_9 (hI _ (by omega) (by omega)) rfl rfl rfl rfl ?_
  refine en_bipush h dX1_isFull_4 (by decide) ?_
  refine en_icmp_lt (tgt := 13) h dX1_isFull_6 (by decide) (by omega) (by omega) (fun c_6 => ?_) (fun c_6 => ?_)
  · refine en_iconst h dX1_isFull_13 ?_
    exact en_zret h hf dX1_isFull_14 ⟨by decide, by decide⟩ (by omega) ⟨by congr 2; split <;> omega, rfl⟩
  · refine en_iconst h dX1_isFull_9 ?_
    refine en_goto (tgt := 14) h dX1_isFull_10 (by decide) ?_
    exact en_zret h hf dX1_isFull_14 ⟨by decide, by decide⟩ (by omega) ⟨by congr 2; split <;> omega, rfl⟩
abbrev rm_X1_isUnknown : Room := { frames := 1, cells := 0, slots := 0, locals := 0 }
theorem my_X1_isUnknown : en_MY yX1_isUnknown RX1 cX1_isUnknown 3 (some .boolean) wsX1_isUnknown 2 := ⟨⟨_, rfl⟩, rfl, by decide, by decide, by decide +kernel, by decide +kernel⟩
set_option maxRecDepth 20000 in
theorem fl_X1_isUnknown_29 : en_FL wsX1_isUnknown RX1 29 1 6 := ⟨_, _, _, rfl, by decide, by decide +kernel, Or.inl (by decide +kernel)⟩
set_option maxRecDepth 100000 in
set_option maxHeartbeats 4000000 in
theorem k_X1_isUnknown {l : Launch} {w : en_W} {m : en_M} (hw : en_Wok w) (hp : en_Has w 0 21) {b q : Int} (h0 : 0 ≤ b) (h1 : b < 5) (r0 : en_i32 (m 5 b)) (r1 : en_i32 q) : en_Met l w yX1_isUnknown wsX1_isUnknown rm_X1_isUnknown [en_R 0, en_I b, en_I q] m (fun r m' => r = some (en_I (if m 5 b = q ∧ b ≠ q then 1 else 0)) ∧ m' = m) := by
  refine en_met my_X1_isUnknown hw (Nat.le_of_ble_eq_true rfl) ?_
  intro κ hl9 hw9 h hf
  subst hw9
  subst hl9
  have hI : ∀ k, 0 ≤ k → k < 21 → en_in κ k := hp
  refine en_aload_n (i := 0) h dX1_isUnknown_0 rfl rfl ?_
  refine en_getR h dX1_isUnknown_1 fl_X1_isUnknown_29 (hI _ (by omega) (by omega)) rfl rfl ?_
  refine en_iload_n (i := 1) h dX1_isUnknown_4 rfl rfl ?_
  refine en_iaload h dX1_isUnknown_5 (hI _ (by omega) (by omega)) rfl (by omega) rfl ?_
  refine en_iload_n (i := 2) h dX1_isUnknown_6 rfl rfl ?_
  refine en_icmp_ne (tgt := 19) h dX1_isUnknown_7 (by decide) (by omega) (by omega) (fun c_7 => ?_) (fun c_7 => ?_)
  · refine en_iconst h dX1_isUnknown_19 ?_
    exact en_zret h hf dX1_isUnknown_20 ⟨by decide, by decide⟩ (by omega) ⟨by congr 2; split <;> omega, rfl⟩
  · refine en_iload_n (i := 1) h dX1_isUnknown_10 rfl rfl ?_
    refine en_iload_n (i := 2) h dX1_isUnknown_11 rfl rfl ?_
    refine en_icmp_eq (tgt := 19) h dX1_isUnknown_12 (by decide) (by omega) (by omega) (fun c_12 => ?_) (fun c_12 => ?_)
    · refine en_iconst h dX1_isUnknown_19 ?_
      exact en_zret h hf dX1_isUnknown_20 ⟨by decide, by decide⟩ (by omega) ⟨by congr 2; split <;> omega, rfl⟩
    · refine en_iconst h dX1_isUnknown_15 ?_
      refine en_goto (tgt := 20) h dX1_isUnknown_16 (by decide) ?_
      exact en_zret h hf dX1_isUnknown_20 ⟨by decide, by decide⟩ (by omega) ⟨by congr 2; split <;> omega, rfl⟩
/-- how many of the first n buses are unknown in an island -/
def gs_cu (R : Int → Int) (q : Int) : Nat → Int
  | 0 => 0
  | n + 1 => gs_cu R q n + (if R (n : Int) = q ∧ (n : Int) ≠ q then 1 else 0)
theorem gs_cu_rng (R : Int → Int) (q : Int) : ∀ n : Nat, 0 ≤ gs_cu R q n ∧ gs_cu R q n ≤ n
  | 0 => by simp [gs_cu]
  | n + 1 => by
    have h := gs_cu_rng R q n
    simp only [gs_cu]
    split <;> omega
abbrev rm_X1_countUnknown : Room := { frames := 2, cells := 0, slots := 0, locals := 22 }
theorem my_X1_countUnknown : en_MY yX1_countUnknown RX1 cX1_countUnknown 4 (some .int) wsX1_countUnknown 1 := ⟨⟨_, rfl⟩, rfl, by decide, by decide, by decide +kernel, by decide +kernel⟩
set_option maxRecDepth 100000 in
set_option maxHeartbeats 4000000 in
theorem lp_X1_countUnknown {κ : en_C} {m : en_M} {q : Int} (hW : en_Wok (en_w κ)) (hP : en_Has (en_w κ) 0 21) (h : en_Ok κ RX1 cX1_countUnknown 4 wsX1_countUnknown rm_X1_countUnknown) (hf : en_fin κ rm_X1_countUnknown (some .int) (fun r m' => r = some (en_I (gs_cu (m 5) q 5)) ∧ m' = m)) (hr : ∀ b, 0 ≤ b → b < 5 → en_i32 (m 5 b)) (hq : en_i32 q) : ∀ (f i : Nat), f + i = 5 → ∀ c : Int, c = gs_cu (m 5) q i → en_G κ 4 [some (en_R 0), some (en_I q), some (en_I c), some (en_I (i : Int))] [] m 0 0 := by
  have hI : ∀ k, 0 ≤ k → k < 21 → en_in κ k := hP
  intro f
  induction f with
  | zero =>
    intro i hi c hc
    refine en_iload_n (i := 3) h dX1_countUnknown_4 rfl rfl ?_
    refine en_iconst h dX1_countUnknown_5 ?_
    refine en_icmp_ge (tgt := 27) h dX1_countUnknown_6 (by decide) (by omega) (by omega) (fun c_6 => ?_) (fun c_6 => ?_)
    · refine en_iload_n (i := 2) h dX1_countUnknown_27 rfl rfl ?_
      exact en_iret h hf dX1_countUnknown_28 ⟨by decide, by decide⟩ ⟨by rw [hc, show i = 5 by omega], rfl⟩
    · exact absurd c_6 (by omega)
  | succ f ih =>
    intro i hi c hc
    refine en_iload_n (i := 3) h dX1_countUnknown_4 rfl rfl ?_
    refine en_iconst h dX1_countUnknown_5 ?_
    refine en_icmp_ge (tgt := 27) h dX1_countUnknown_6 (by decide) (by omega) (by omega) (fun c_6 => ?_) (fun c_6 => ?_)
    · exact absurd c_6 (by omega)
    · refine en_aload_n (i := 0) h dX1_countUnknown_9 rfl rfl ?_
      refine en_iload_n (i := 3) h dX1_countUnknown_10 rfl rfl ?_
      refine en_iload_n (i := 1) h dX1_countUnknown_11 rfl rfl ?_
      refine en_callV h (k_X1_isUnknown hW hP (by omega) (by omega) (hr _ (by omega) (by omega)) hq) my_X1_isUnknown gX1_countUnknown_X1_isUnknown (hI _ (by omega) (by omega)) rfl rfl rfl rfl ⟨by decide, by decide⟩ ⟨by decide, by decide⟩ (Nat.le_of_ble_eq_true rfl) dX1_countUnknown_12 (fun r m' hp => ?_)
      obtain ⟨rfl, rfl⟩ := hp
      refine en_if_eq (tgt := 21) h dX1_countUnknown_15 (by decide) (by split <;> decide) (fun c_15 => ?_) (fun c_15 => ?_)
      · refine en_iinc h dX1_countUnknown_21 rfl (by decide) ?_
        refine en_goto (tgt := 4) h dX1_countUnknown_24 (by decide) ?_
        exact ih (i + 1) (by omega) _ (by simp only [gs_cu]; rw [hc]; split at c_15 <;> first | omega | (rename_i z; rw [if_neg z]; omega))
      · refine en_iinc h dX1_countUnknown_18 rfl (by decide) ?_
        refine en_iinc h dX1_countUnknown_21 rfl (by decide) ?_
        refine en_goto (tgt := 4) h dX1_countUnknown_24 (by decide) ?_
        exact ih (i + 1) (by omega) _ (by simp only [gs_cu]; rw [hc]; split at c_15 <;> first | omega | (rename_i z; rw [if_pos z]))
set_option maxRecDepth 100000 in
set_option maxHeartbeats 4000000 in
theorem k_X1_countUnknown {l : Launch} {w : en_W} {m : en_M} (hw : en_Wok w) (hp : en_Has w 0 21) {q : Int} (hr : ∀ b, 0 ≤ b → b < 5 → en_i32 (m 5 b)) (hq : en_i32 q) : en_Met l w yX1_countUnknown wsX1_countUnknown rm_X1_countUnknown [en_R 0, en_I q] m (fun r m' => r = some (en_I (gs_cu (m 5) q 5)) ∧ m' = m) := by
  refine en_met my_X1_countUnknown hw (Nat.le_of_ble_eq_true rfl) ?_
  intro κ hl9 hw9 h hf
  subst hw9
  subst hl9
  have hI : ∀ k, 0 ≤ k → k < 21 → en_in κ k := hp
  refine en_iconst h dX1_countUnknown_0 ?_
  refine en_istore_n (i := 2) h dX1_countUnknown_1 rfl (by decide) ?_
  refine en_iconst h dX1_countUnknown_2 ?_
  refine en_istore_n (i := 3) h dX1_countUnknown_3 rfl (by decide) ?_
  exact lp_X1_countUnknown hw hp h hf hr hq 5 0 rfl 0 rfl
