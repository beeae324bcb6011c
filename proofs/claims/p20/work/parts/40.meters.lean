/-! METERS: the methods of class Meters over the places 0 to 26 -/
theorem fp_2_1 : en_FP 2 1 .int := ⟨_, _, _, rfl, ⟨tyX2, tyX2_ok⟩, nmX2, by decide +kernel, by decide +kernel⟩
/-- the island in which meter i would count if it were used; in which it counts; how it grows with an angle -/
def xm_iu (m : en_M) (i : Int) : Int := if m 22 i = 1 then m 5 (m 23 i) else if m 4 (m 23 i) = 0 then -1 else m 5 (m 1 (m 23 i))
def xm_io (m : en_M) (i : Int) : Int := if m 26 i = 0 then -1 else xm_iu m i
def xm_gr (m : en_M) (i b : Int) : Int := if m 22 i = 1 then m (16 + m 23 i) b else m (8 + m 23 i) b
/-- a meter's place is there -/
def xv_m (m : en_M) (i : Int) : Prop := (m 22 i = 1 ∧ 0 ≤ m 23 i ∧ m 23 i < 5) ∨ (m 22 i = 0 ∧ 0 ≤ m 23 i ∧ m 23 i < 8 ∧ 0 ≤ m 1 (m 23 i) ∧ m 1 (m 23 i) < 5 ∧ (m 4 (m 23 i) = 0 ∨ m 4 (m 23 i) = 1))
/-- the places below 27 are the same -/
def en_ag (M m : en_M) : Prop := ∀ k, k < 27 → M k = m k
theorem xv_m_ag {M m : en_M} (h : en_ag M m) {i : Int} (hv : xv_m m i) : xv_m M i := by
  unfold xv_m at hv ⊢
  rw [h 22 (by decide), h 23 (by decide), h 1 (by decide), h 4 (by decide)]
  exact hv
theorem xm_iu_ag {M m : en_M} (h : en_ag M m) (i : Int) : xm_iu M i = xm_iu m i := by
  unfold xm_iu
  rw [h 22 (by decide), h 23 (by decide), h 1 (by decide), h 4 (by decide), h 5 (by decide)]
theorem xm_io_ag {M m : en_M} (h : en_ag M m) (i : Int) : xm_io M i = xm_io m i := by
  unfold xm_io
  rw [h 26 (by decide), xm_iu_ag h]
theorem xm_gr_ag {M m : en_M} (h : en_ag M m) {i : Int} (hv : xv_m m i) (b : Int) : xm_gr M i b = xm_gr m i b := by
  unfold xm_gr
  rw [h 22 (by decide), h 23 (by decide)]
  rcases hv with ⟨h1, h2, h3⟩ | ⟨h1, h2, h3, -⟩
  · rw [if_pos h1, if_pos h1, h _ (by omega)]
  · rw [if_neg (by omega), if_neg (by omega), h _ (by omega)]
abbrev rm_X2_hasMeter : Room := { frames := 1, cells := 0, slots := 0, locals := 0 }
theorem my_X2_hasMeter : en_MY yX2_hasMeter RX2 cX2_hasMeter 2 (some .boolean) wsX2_hasMeter 1 := ⟨⟨_, rfl⟩, rfl, by decide, by decide, by decide +kernel, by decide +kernel⟩
set_option maxRecDepth 20000 in
theorem fl_X2_hasMeter_9 : en_FL wsX2_hasMeter RX2 9 2 1 := ⟨_, _, _, rfl, by decide, by decide +kernel, Or.inl (by decide +kernel)⟩
set_option maxRecDepth 100000 in
set_option maxHeartbeats 4000000 in
theorem k_X2_hasMeter {l : Launch} {w : en_W} {m : en_M} (hw : en_Wok w) (hp : en_Has w 0 27) {b : Int} (r0 : en_i32 b) (r1 : en_i32 (m 21 1)) : en_Met l w yX2_hasMeter wsX2_hasMeter rm_X2_hasMeter [en_R 21, en_I b] m (fun r m' => r = some (en_I (if 0 ≤ b ∧ b < m 21 1 then 1 else 0)) ∧ m' = m) := by
  refine en_met my_X2_hasMeter hw (Nat.le_of_ble_eq_true rfl) ?_
  intro κ hl9 hw9 h hf
  subst hw9
  subst hl9
  have hI : ∀ k, 0 ≤ k → k < 27 → en_in κ k := hp
  refine en_iload_n (i := 1) h dX2_hasMeter_0 rfl rfl ?_
  refine en_if_lt (tgt := 16) h dX2_hasMeter_1 (by decide) (by omega) (fun c_1 => ?_) (fun c_1 => ?_)
  · refine en_iconst h dX2_hasMeter_16 ?_
    exact en_zret h hf dX2_hasMeter_17 ⟨by decide, by decide⟩ (by omega) ⟨by congr 2; split <;> omega, rfl⟩
  · refine en_iload_n (i := 1) h dX2_hasMeter_4 rfl rfl ?_
    refine en_aload_n (i := 0) h dX2_hasMeter_5 rfl rfl ?_
    refine en_getI (i := 1) h dX2_hasMeter_6 fl_X2_hasMeter_9 (hI _ (by omega) (by omega)) rfl rfl rfl rfl ?_
    refine en_icmp_ge (tgt := 16) h dX2_hasMeter_9 (by decide) (by omega) (by omega) (fun c_9 => ?_) (fun c_9 => ?_)
    · refine en_iconst h dX2_hasMeter_16 ?_
      exact en_zret h hf dX2_hasMeter_17 ⟨by decide, by decide⟩ (by omega) ⟨by congr 2; split <;> omega, rfl⟩
    · refine en_iconst h dX2_hasMeter_12 ?_
      refine en_goto (tgt := 17) h dX2_hasMeter_13 (by decide) ?_
      exact en_zret h hf dX2_hasMeter_17 ⟨by decide, by decide⟩ (by omega) ⟨by congr 2; split <;> omega, rfl⟩
abbrev rm_X2_isFull : Room := { frames := 1, cells := 0, slots := 0, locals := 0 }
theorem my_X2_isFull : en_MY yX2_isFull RX2 cX2_isFull 1 (some .boolean) wsX2_isFull 0 := ⟨⟨_, rfl⟩, rfl, by decide, by decide, by decide +kernel, by decide +kernel⟩
set_option maxRecDepth 20000 in
theorem fl_X2_isFull_9 : en_FL wsX2_isFull RX2 9 2 1 := ⟨_, _, _, rfl, by decide, by decide +kernel, Or.inl (by decide +kernel)⟩
set_option maxRecDepth 100000 in
set_option maxHeartbeats 4000000 in
theorem k_X2_isFull {l : Launch} {w : en_W} {m : en_M} (hw : en_Wok w) (hp : en_Has w 0 27) (r1 : en_i32 (m 21 1)) : en_Met l w yX2_isFull wsX2_isFull rm_X2_isFull [en_R 21] m (fun r m' => r = some (en_I (if m 21 1 < 10 then 0 else 1)) ∧ m' = m) := by
  refine en_met my_X2_isFull hw (Nat.le_of_ble_eq_true rfl) ?_
  intro κ hl9 hw9 h hf
  subst hw9
  subst hl9
  have hI : ∀ k, 0 ≤ k → k < 27 → en_in κ k := hp
  refine en_aload_n (i := 0) h dX2_isFull_0 rfl rfl ?_
  refine en_getI (i := 1) h dX2_isFull_1 fl_X2_isFull_9 (hI _ (by omega) (by omega)) rfl rfl rfl rfl ?_
  refine en_bipush h dX2_isFull_4 (by decide) ?_
  refine en_icmp_lt (tgt := 13) h dX2_isFull_6 (by decide) (by omega) (by omega) (fun c_6 => ?_) (fun c_6 => ?_)
  · refine en_iconst h dX2_isFull_13 ?_
    exact en_zret h hf dX2_isFull_14 ⟨by decide, by decide⟩ (by omega) ⟨by congr 2; split <;> omega, rfl⟩
  · refine en_iconst h dX2_isFull_9 ?_
    refine en_goto (tgt := 14) h dX2_isFull_10 (by decide) ?_
    exact en_zret h hf dX2_isFull_14 ⟨by decide, by decide⟩ (by omega) ⟨by congr 2; split <;> omega, rfl⟩
abbrev rm_X2_append : Room := { frames := 1, cells := 0, slots := 0, locals := 0 }
theorem my_X2_append : en_MY yX2_append RX2 cX2_append 6 (some .int) wsX2_append 4 := ⟨⟨_, rfl⟩, rfl, by decide, by decide, by decide +kernel, by decide +kernel⟩
set_option maxRecDepth 20000 in
theorem fl_X2_append_9 : en_FL wsX2_append RX2 9 2 1 := ⟨_, _, _, rfl, by decide, by decide +kernel, Or.inl (by decide +kernel)⟩
set_option maxRecDepth 20000 in
theorem fl_X2_append_15 : en_FL wsX2_append RX2 15 2 2 := ⟨_, _, _, rfl, by decide, by decide +kernel, Or.inl (by decide +kernel)⟩
set_option maxRecDepth 20000 in
theorem fl_X2_append_19 : en_FL wsX2_append RX2 19 2 3 := ⟨_, _, _, rfl, by decide, by decide +kernel, Or.inl (by decide +kernel)⟩
set_option maxRecDepth 20000 in
theorem fl_X2_append_22 : en_FL wsX2_append RX2 22 2 4 := ⟨_, _, _, rfl, by decide, by decide +kernel, Or.inl (by decide +kernel)⟩
set_option maxRecDepth 20000 in
theorem fl_X2_append_25 : en_FL wsX2_append RX2 25 2 5 := ⟨_, _, _, rfl, by decide, by decide +kernel, Or.inl (by decide +kernel)⟩
set_option maxRecDepth 20000 in
theorem fl_X2_append_28 : en_FL wsX2_append RX2 28 2 6 := ⟨_, _, _, rfl, by decide, by decide +kernel, Or.inl (by decide +kernel)⟩
/-- a meter more, used -/
def xm_am (m : en_M) (k p r a : Int) : en_M := en_set (en_set (en_set (en_set (en_set (en_set m 22 (m 21 1) k) 23 (m 21 1) p) 24 (m 21 1) r) 25 (m 21 1) a) 26 (m 21 1) 1) 21 1 (m 21 1 + 1)
set_option maxRecDepth 100000 in
set_option maxHeartbeats 4000000 in
theorem k_X2_append {l : Launch} {w : en_W} {m : en_M} (hw : en_Wok w) (hp : en_Has w 0 27) {k p r a : Int} (hn : 0 ≤ m 21 1 ∧ m 21 1 < 10) : en_Met l w yX2_append wsX2_append rm_X2_append [en_R 21, en_I k, en_I p, en_I r, en_I a] m (fun r' m' => r' = some (en_I (m 21 1)) ∧ m' = xm_am m k p r a) := by
  refine en_met my_X2_append hw (Nat.le_of_ble_eq_true rfl) ?_
  intro κ hl9 hw9 h hf
  subst hw9
  subst hl9
  have hI : ∀ k, 0 ≤ k → k < 27 → en_in κ k := hp
  refine en_aload_n (i := 0) h dX2_append_0 rfl rfl ?_
  refine en_getI (i := 1) h dX2_append_1 fl_X2_append_9 (hI _ (by omega) (by omega)) rfl rfl rfl rfl ?_
  refine en_istore (i := 5) h dX2_append_4 (by decide) ?_
  refine en_aload_n (i := 0) h dX2_append_6 rfl rfl ?_
  refine en_getR h dX2_append_7 fl_X2_append_15 (hI _ (by omega) (by omega)) rfl rfl ?_
  refine en_iload (i := 5) h dX2_append_10 rfl ?_
  refine en_iload_n (i := 1) h dX2_append_12 rfl rfl ?_
  refine en_iastore h dX2_append_13 (hI _ (by omega) (by omega)) rfl (by omega) ?_
  refine en_aload_n (i := 0) h dX2_append_14 rfl rfl ?_
  refine en_getR h dX2_append_15 fl_X2_append_19 (hI _ (by omega) (by omega)) rfl rfl ?_
  refine en_iload (i := 5) h dX2_append_18 rfl ?_
  refine en_iload_n (i := 2) h dX2_append_20 rfl rfl ?_
  refine en_iastore h dX2_append_21 (hI _ (by omega) (by omega)) rfl (by omega) ?_
  refine en_aload_n (i := 0) h dX2_append_22 rfl rfl ?_
  refine en_getR h dX2_append_23 fl_X2_append_22 (hI _ (by omega) (by omega)) rfl rfl ?_
  refine en_iload (i := 5) h dX2_append_26 rfl ?_
  refine en_iload_n (i := 3) h dX2_append_28 rfl rfl ?_
  refine en_iastore h dX2_append_29 (hI _ (by omega) (by omega)) rfl (by omega) ?_
  refine en_aload_n (i := 0) h dX2_append_30 rfl rfl ?_
  refine en_getR h dX2_append_31 fl_X2_append_25 (hI _ (by omega) (by omega)) rfl rfl ?_
  refine en_iload (i := 5) h dX2_append_34 rfl ?_
  refine en_iload (i := 4) h dX2_append_36 rfl ?_
  refine en_iastore h dX2_append_38 (hI _ (by omega) (by omega)) rfl (by omega) ?_
  refine en_aload_n (i := 0) h dX2_append_39 rfl rfl ?_
  refine en_getR h dX2_append_40 fl_X2_append_28 (hI _ (by omega) (by omega)) rfl rfl ?_
  refine en_iload (i := 5) h dX2_append_43 rfl ?_
  refine en_iconst h dX2_append_45 ?_
  refine en_zastore h dX2_append_46 (hI _ (by omega) (by omega)) rfl (by omega) (by omega) ?_
  refine en_aload_n (i := 0) h dX2_append_47 rfl rfl ?_
  refine en_dupa h dX2_append_48 ?_
  refine en_getI (i := 1) h dX2_append_49 fl_X2_append_9 (hI _ (by omega) (by omega)) rfl rfl rfl (v9 := m 21 1) (by rw [en_set_ne (by decide), en_set_ne (by decide), en_set_ne (by decide), en_set_ne (by decide), en_set_ne (by decide)]) ?_
  refine en_iconst h dX2_append_52 ?_
  refine en_iadd h dX2_append_53 ?_
  refine en_putI (i := 1) h dX2_append_54 fl_X2_append_9 fp_2_1 (hI _ (by omega) (by omega)) rfl rfl rfl ?_
  refine en_iload (i := 5) h dX2_append_57 rfl ?_
  exact en_iret h hf dX2_append_59 ⟨by decide, by decide⟩ ⟨rfl, rfl⟩
abbrev rm_X2_islandIfUsed : Room := { frames := 1, cells := 0, slots := 0, locals := 0 }
theorem my_X2_islandIfUsed : en_MY yX2_islandIfUsed RX2 cX2_islandIfUsed 3 (some .int) wsX2_islandIfUsed 1 := ⟨⟨_, rfl⟩, rfl, by decide, by decide, by decide +kernel, by decide +kernel⟩
set_option maxRecDepth 20000 in
theorem fl_X2_islandIfUsed_15 : en_FL wsX2_islandIfUsed RX2 15 2 2 := ⟨_, _, _, rfl, by decide, by decide +kernel, Or.inl (by decide +kernel)⟩
set_option maxRecDepth 20000 in
theorem fl_X2_islandIfUsed_19 : en_FL wsX2_islandIfUsed RX2 19 2 3 := ⟨_, _, _, rfl, by decide, by decide +kernel, Or.inl (by decide +kernel)⟩
set_option maxRecDepth 20000 in
theorem fl_X2_islandIfUsed_32 : en_FL wsX2_islandIfUsed RX2 32 2 0 := ⟨_, _, _, rfl, by decide, by decide +kernel, Or.inl (by decide +kernel)⟩
set_option maxRecDepth 20000 in
theorem fl_X2_islandIfUsed_40 : en_FL wsX2_islandIfUsed RX2 40 1 6 := ⟨_, _, _, rfl, by decide, by decide +kernel, Or.inr (by decide +kernel)⟩
set_option maxRecDepth 20000 in
theorem fl_X2_islandIfUsed_45 : en_FL wsX2_islandIfUsed RX2 45 1 5 := ⟨_, _, _, rfl, by decide, by decide +kernel, Or.inr (by decide +kernel)⟩
set_option maxRecDepth 20000 in
theorem fl_X2_islandIfUsed_48 : en_FL wsX2_islandIfUsed RX2 48 1 2 := ⟨_, _, _, rfl, by decide, by decide +kernel, Or.inr (by decide +kernel)⟩
set_option maxRecDepth 100000 in
set_option maxHeartbeats 4000000 in
theorem k_X2_islandIfUsed {l : Launch} {w : en_W} {m : en_M} (hw : en_Wok w) (hp : en_Has w 0 27) {i : Int} (h0 : 0 ≤ i ∧ i < 10) (hv : xv_m m i) : en_Met l w yX2_islandIfUsed wsX2_islandIfUsed rm_X2_islandIfUsed [en_R 21, en_I i] m (fun r m' => r = some (en_I (xm_iu m i)) ∧ m' = m) := by
  refine en_met my_X2_islandIfUsed hw (Nat.le_of_ble_eq_true rfl) ?_
  intro κ hl9 hw9 h hf
  subst hw9
  subst hl9
  have hI : ∀ k, 0 ≤ k → k < 27 → en_in κ k := hp
  rcases hv with ⟨v1, v2, v3⟩ | ⟨v1, v2, v3, v4, v5, v6⟩
  · refine en_aload_n (i := 0) h dX2_islandIfUsed_0 rfl rfl ?_
    refine en_getR h dX2_islandIfUsed_1 fl_X2_islandIfUsed_19 (hI _ (by omega) (by omega)) rfl rfl ?_
    refine en_iload_n (i := 1) h dX2_islandIfUsed_4 rfl rfl ?_
    refine en_iaload h dX2_islandIfUsed_5 (hI _ (by omega) (by omega)) rfl (by omega) rfl ?_
    refine en_istore_n (i := 2) h dX2_islandIfUsed_6 rfl (by decide) ?_
    refine en_aload_n (i := 0) h dX2_islandIfUsed_7 rfl rfl ?_
    refine en_getR h dX2_islandIfUsed_8 fl_X2_islandIfUsed_15 (hI _ (by omega) (by omega)) rfl rfl ?_
    refine en_iload_n (i := 1) h dX2_islandIfUsed_11 rfl rfl ?_
    refine en_iaload h dX2_islandIfUsed_12 (hI _ (by omega) (by omega)) rfl (by omega) rfl ?_
    refine en_iconst h dX2_islandIfUsed_13 ?_
    refine en_icmp_ne (tgt := 27) h dX2_islandIfUsed_14 (by decide) (by omega) (by omega) (fun c_14 => ?_) (fun c_14 => ?_)
    · exact absurd v1 c_14
    · refine en_aload_n (i := 0) h dX2_islandIfUsed_17 rfl rfl ?_
      refine en_getR h dX2_islandIfUsed_18 fl_X2_islandIfUsed_32 (hI _ (by omega) (by omega)) rfl rfl ?_
      refine en_getR h dX2_islandIfUsed_21 fl_X2_islandIfUsed_40 (hI _ (by omega) (by omega)) rfl rfl ?_
      refine en_iload_n (i := 2) h dX2_islandIfUsed_24 rfl rfl ?_
      refine en_iaload h dX2_islandIfUsed_25 (hI _ (by omega) (by omega)) rfl (by omega) rfl ?_
      exact en_iret h hf dX2_islandIfUsed_26 ⟨by decide, by decide⟩ ⟨by unfold xm_iu; rw [if_pos v1], rfl⟩
  · refine en_aload_n (i := 0) h dX2_islandIfUsed_0 rfl rfl ?_
    refine en_getR h dX2_islandIfUsed_1 fl_X2_islandIfUsed_19 (hI _ (by omega) (by omega)) rfl rfl ?_
    refine en_iload_n (i := 1) h dX2_islandIfUsed_4 rfl rfl ?_
    refine en_iaload h dX2_islandIfUsed_5 (hI _ (by omega) (by omega)) rfl (by omega) rfl ?_
    refine en_istore_n (i := 2) h dX2_islandIfUsed_6 rfl (by decide) ?_
    refine en_aload_n (i := 0) h dX2_islandIfUsed_7 rfl rfl ?_
    refine en_getR h dX2_islandIfUsed_8 fl_X2_islandIfUsed_15 (hI _ (by omega) (by omega)) rfl rfl ?_
    refine en_iload_n (i := 1) h dX2_islandIfUsed_11 rfl rfl ?_
    refine en_iaload h dX2_islandIfUsed_12 (hI _ (by omega) (by omega)) rfl (by omega) rfl ?_
    refine en_iconst h dX2_islandIfUsed_13 ?_
    refine en_icmp_ne (tgt := 27) h dX2_islandIfUsed_14 (by decide) (by omega) (by omega) (fun c_14 => ?_) (fun c_14 => ?_)
    · refine en_aload_n (i := 0) h dX2_islandIfUsed_27 rfl rfl ?_
      refine en_getR h dX2_islandIfUsed_28 fl_X2_islandIfUsed_32 (hI _ (by omega) (by omega)) rfl rfl ?_
      refine en_getR h dX2_islandIfUsed_31 fl_X2_islandIfUsed_45 (hI _ (by omega) (by omega)) rfl rfl ?_
      refine en_iload_n (i := 2) h dX2_islandIfUsed_34 rfl rfl ?_
      refine en_zaload h dX2_islandIfUsed_35 (hI _ (by omega) (by omega)) rfl (by omega) rfl ?_
      refine en_if_eq (tgt := 59) h dX2_islandIfUsed_36 (by decide) (by omega) (fun c_36 => ?_) (fun c_36 => ?_)
      · refine en_iconst h dX2_islandIfUsed_59 ?_
        exact en_iret h hf dX2_islandIfUsed_60 ⟨by decide, by decide⟩ ⟨by unfold xm_iu; rw [if_neg c_14, if_pos c_36], rfl⟩
      · refine en_aload_n (i := 0) h dX2_islandIfUsed_39 rfl rfl ?_
        refine en_getR h dX2_islandIfUsed_40 fl_X2_islandIfUsed_32 (hI _ (by omega) (by omega)) rfl rfl ?_
        refine en_getR h dX2_islandIfUsed_43 fl_X2_islandIfUsed_40 (hI _ (by omega) (by omega)) rfl rfl ?_
        refine en_aload_n (i := 0) h dX2_islandIfUsed_46 rfl rfl ?_
        refine en_getR h dX2_islandIfUsed_47 fl_X2_islandIfUsed_32 (hI _ (by omega) (by omega)) rfl rfl ?_
        refine en_getR h dX2_islandIfUsed_50 fl_X2_islandIfUsed_48 (hI _ (by omega) (by omega)) rfl rfl ?_
        refine en_iload_n (i := 2) h dX2_islandIfUsed_53 rfl rfl ?_
        refine en_iaload h dX2_islandIfUsed_54 (hI _ (by omega) (by omega)) rfl (by omega) rfl ?_
        refine en_iaload h dX2_islandIfUsed_55 (hI _ (by omega) (by omega)) rfl (by omega) rfl ?_
        refine en_goto (tgt := 60) h dX2_islandIfUsed_56 (by decide) ?_
        exact en_iret h hf dX2_islandIfUsed_60 ⟨by decide, by decide⟩ ⟨by unfold xm_iu; rw [if_neg c_14, if_neg c_36], rfl⟩
    · exact absurd c_14 (by omega)
abbrev rm_X2_islandOf : Room := { frames := 2, cells := 0, slots := 0, locals := 22 }
theorem my_X2_islandOf : en_MY yX2_islandOf RX2 cX2_islandOf 2 (some .int) wsX2_islandOf 1 := ⟨⟨_, rfl⟩, rfl, by decide, by decide, by decide +kernel, by decide +kernel⟩
set_option maxRecDepth 20000 in
theorem fl_X2_islandOf_28 : en_FL wsX2_islandOf RX2 28 2 6 := ⟨_, _, _, rfl, by decide, by decide +kernel, Or.inl (by decide +kernel)⟩
set_option maxRecDepth 100000 in
set_option maxHeartbeats 4000000 in
theorem k_X2_islandOf {l : Launch} {w : en_W} {m : en_M} (hw : en_Wok w) (hp : en_Has w 0 27) {i : Int} (h0 : 0 ≤ i ∧ i < 10) (hv : xv_m m i) (hu : m 26 i = 0 ∨ m 26 i = 1) : en_Met l w yX2_islandOf wsX2_islandOf rm_X2_islandOf [en_R 21, en_I i] m (fun r m' => r = some (en_I (xm_io m i)) ∧ m' = m) := by
  refine en_met my_X2_islandOf hw (Nat.le_of_ble_eq_true rfl) ?_
  intro κ hl9 hw9 h hf
  subst hw9
  subst hl9
  have hI : ∀ k, 0 ≤ k → k < 27 → en_in κ k := hp
  refine en_aload_n (i := 0) h dX2_islandOf_0 rfl rfl ?_
  refine en_getR h dX2_islandOf_1 fl_X2_islandOf_28 (hI _ (by omega) (by omega)) rfl rfl ?_
  refine en_iload_n (i := 1) h dX2_islandOf_4 rfl rfl ?_
  refine en_zaload h dX2_islandOf_5 (hI _ (by omega) (by omega)) rfl (by omega) rfl ?_
  refine en_if_eq (tgt := 17) h dX2_islandOf_6 (by decide) (by omega) (fun c_6 => ?_) (fun c_6 => ?_)
  · refine en_iconst h dX2_islandOf_17 ?_
    exact en_iret h hf dX2_islandOf_18 ⟨by decide, by decide⟩ ⟨by unfold xm_io; rw [if_pos c_6], rfl⟩
  · refine en_aload_n (i := 0) h dX2_islandOf_9 rfl rfl ?_
    refine en_iload_n (i := 1) h dX2_islandOf_10 rfl rfl ?_
    refine en_callV h (k_X2_islandIfUsed hw hI h0 hv) my_X2_islandIfUsed gX2_islandOf_X2_islandIfUsed (hI _ (by omega) (by omega)) rfl rfl rfl rfl ⟨by decide, by decide⟩ ⟨by decide, by decide⟩ (Nat.le_of_ble_eq_true rfl) dX2_islandOf_11 (fun r m' hp => ?_)
    obtain ⟨rfl, rfl⟩ := hp
    refine en_goto (tgt := 18) h dX2_islandOf_14 (by decide) ?_
    exact en_iret h hf dX2_islandOf_18 ⟨by decide, by decide⟩ ⟨by unfold xm_io; rw [if_neg c_6], rfl⟩
abbrev rm_X2_growth : Room := { frames := 1, cells := 0, slots := 0, locals := 0 }
theorem my_X2_growth : en_MY yX2_growth RX2 cX2_growth 4 (some .int) wsX2_growth 2 := ⟨⟨_, rfl⟩, rfl, by decide, by decide, by decide +kernel, by decide +kernel⟩
set_option maxRecDepth 20000 in
theorem fl_X2_growth_15 : en_FL wsX2_growth RX2 15 2 2 := ⟨_, _, _, rfl, by decide, by decide +kernel, Or.inl (by decide +kernel)⟩
set_option maxRecDepth 20000 in
theorem fl_X2_growth_19 : en_FL wsX2_growth RX2 19 2 3 := ⟨_, _, _, rfl, by decide, by decide +kernel, Or.inl (by decide +kernel)⟩
set_option maxRecDepth 20000 in
theorem fl_X2_growth_32 : en_FL wsX2_growth RX2 32 2 0 := ⟨_, _, _, rfl, by decide, by decide +kernel, Or.inl (by decide +kernel)⟩
set_option maxRecDepth 20000 in
theorem fl_X2_growth_51 : en_FL wsX2_growth RX2 51 1 8 := ⟨_, _, _, rfl, by decide, by decide +kernel, Or.inr (by decide +kernel)⟩
set_option maxRecDepth 20000 in
theorem fl_X2_growth_55 : en_FL wsX2_growth RX2 55 1 7 := ⟨_, _, _, rfl, by decide, by decide +kernel, Or.inr (by decide +kernel)⟩
set_option maxRecDepth 100000 in
set_option maxHeartbeats 4000000 in
theorem k_X2_growth {l : Launch} {w : en_W} {m : en_M} (hw : en_Wok w) (hp : en_Has w 0 27) {i b : Int} (h0 : 0 ≤ i ∧ i < 10) (hb : 0 ≤ b ∧ b < 5) (hv : xv_m m i) : en_Met l w yX2_growth wsX2_growth rm_X2_growth [en_R 21, en_I i, en_I b] m (fun r m' => r = some (en_I (xm_gr m i b)) ∧ m' = m) := by
  refine en_met my_X2_growth hw (Nat.le_of_ble_eq_true rfl) ?_
  intro κ hl9 hw9 h hf
  subst hw9
  subst hl9
  have hI : ∀ k, 0 ≤ k → k < 27 → en_in κ k := hp
  rcases hv with ⟨v1, v2, v3⟩ | ⟨v1, v2, v3, v4, v5, v6⟩
  · refine en_aload_n (i := 0) h dX2_growth_0 rfl rfl ?_
    refine en_getR h dX2_growth_1 fl_X2_growth_19 (hI _ (by omega) (by omega)) rfl rfl ?_
    refine en_iload_n (i := 1) h dX2_growth_4 rfl rfl ?_
    refine en_iaload h dX2_growth_5 (hI _ (by omega) (by omega)) rfl (by omega) rfl ?_
    refine en_istore_n (i := 3) h dX2_growth_6 rfl (by decide) ?_
    refine en_aload_n (i := 0) h dX2_growth_7 rfl rfl ?_
    refine en_getR h dX2_growth_8 fl_X2_growth_15 (hI _ (by omega) (by omega)) rfl rfl ?_
    refine en_iload_n (i := 1) h dX2_growth_11 rfl rfl ?_
    refine en_iaload h dX2_growth_12 (hI _ (by omega) (by omega)) rfl (by omega) rfl ?_
    refine en_iconst h dX2_growth_13 ?_
    refine en_icmp_ne (tgt := 31) h dX2_growth_14 (by decide) (by omega) (by omega) (fun c_14 => ?_) (fun c_14 => ?_)
    · exact absurd v1 c_14
    · refine en_aload_n (i := 0) h dX2_growth_17 rfl rfl ?_
      refine en_getR h dX2_growth_18 fl_X2_growth_32 (hI _ (by omega) (by omega)) rfl rfl ?_
      refine en_getR h dX2_growth_21 fl_X2_growth_51 (hI _ (by omega) (by omega)) rfl rfl ?_
      refine en_iload_n (i := 3) h dX2_growth_24 rfl rfl ?_
      refine en_aaloadS3 h dX2_growth_25 (hI _ (by omega) (by omega)) rfl (by decide) (by omega) ?_
      refine en_iload_n (i := 2) h dX2_growth_26 rfl rfl ?_
      refine en_iaload h dX2_growth_27 (hI _ (by omega) (by omega)) (ly_row16 (by omega) (by omega)) (by omega) rfl ?_
      refine en_goto (tgt := 42) h dX2_growth_28 (by decide) ?_
      exact en_iret h hf dX2_growth_42 ⟨by decide, by decide⟩ ⟨by unfold xm_gr; rw [if_pos v1], rfl⟩
  · refine en_aload_n (i := 0) h dX2_growth_0 rfl rfl ?_
    refine en_getR h dX2_growth_1 fl_X2_growth_19 (hI _ (by omega) (by omega)) rfl rfl ?_
    refine en_iload_n (i := 1) h dX2_growth_4 rfl rfl ?_
    refine en_iaload h dX2_growth_5 (hI _ (by omega) (by omega)) rfl (by omega) rfl ?_
    refine en_istore_n (i := 3) h dX2_growth_6 rfl (by decide) ?_
    refine en_aload_n (i := 0) h dX2_growth_7 rfl rfl ?_
    refine en_getR h dX2_growth_8 fl_X2_growth_15 (hI _ (by omega) (by omega)) rfl rfl ?_
    refine en_iload_n (i := 1) h dX2_growth_11 rfl rfl ?_
    refine en_iaload h dX2_growth_12 (hI _ (by omega) (by omega)) rfl (by omega) rfl ?_
    refine en_iconst h dX2_growth_13 ?_
    refine en_icmp_ne (tgt := 31) h dX2_growth_14 (by decide) (by omega) (by omega) (fun c_14 => ?_) (fun c_14 => ?_)
    · refine en_aload_n (i := 0) h dX2_growth_31 rfl rfl ?_
      refine en_getR h dX2_growth_32 fl_X2_growth_32 (hI _ (by omega) (by omega)) rfl rfl ?_
      refine en_getR h dX2_growth_35 fl_X2_growth_55 (hI _ (by omega) (by omega)) rfl rfl ?_
      refine en_iload_n (i := 3) h dX2_growth_38 rfl rfl ?_
      refine en_aaloadS3 h dX2_growth_39 (hI _ (by omega) (by omega)) rfl (by decide) (by omega) ?_
      refine en_iload_n (i := 2) h dX2_growth_40 rfl rfl ?_
      refine en_iaload h dX2_growth_41 (hI _ (by omega) (by omega)) (ly_row8 (by omega) (by omega)) (by omega) rfl ?_
      exact en_iret h hf dX2_growth_42 ⟨by decide, by decide⟩ ⟨by unfold xm_gr; rw [if_neg c_14], rfl⟩
    · exact absurd c_14 (by omega)
