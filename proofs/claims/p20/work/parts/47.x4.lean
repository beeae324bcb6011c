/-! CLASS 1: refusals -/
abbrev eIA : String := "java/lang/IllegalArgumentException"
abbrev eIS : String := "java/lang/IllegalStateException"
abbrev eIO : String := "java/lang/IndexOutOfBoundsException"
/-- what the class keeps -/
def xc_ln (m : en_M) : Prop := (2 ≤ m 0 0 ∧ m 0 0 ≤ 5) ∧ (0 ≤ m 0 1 ∧ m 0 1 ≤ 8) ∧ (∀ j, 0 ≤ j → j < m 0 1 → 0 ≤ m 1 j ∧ m 1 j < 5 ∧ 0 ≤ m 2 j ∧ m 2 j < 5 ∧ (m 4 j = 0 ∨ m 4 j = 1)) ∧ (∀ j b, 0 ≤ j → j < m 0 1 → 0 ≤ b → b < 5 → b ≠ m 1 j → b ≠ m 2 j → m (8 + j) b = 0) ∧ ∀ j b, m 0 1 ≤ j → j < 8 → 0 ≤ b → b < 5 → m (8 + j) b = 0
def xc (m : en_M) : Prop := xc_ln m ∧ xr_ok m ∧ xv_all m ∧ xv_rd m
/-- the same but for the scratch -/
def en_sc (M m : en_M) : Prop := ∀ k, (k < 28 ∨ 49 ≤ k) → M k = m k
theorem en_sc_of {M m : en_M} (h : en_of M m) : en_sc M m := fun k hk => h k (by omega)
theorem en_sc_oe {M m : en_M} (h : en_oe M m) : en_sc M m := fun k hk => h k (by omega)
theorem en_sc_tr {M m m0 : en_M} (h : en_sc M m) (h2 : en_sc m m0) : en_sc M m0 := fun k hk => (h k hk).trans (h2 k hk)
theorem en_sc_rf (m : en_M) : en_sc m m := fun _ _ => rfl
theorem en_sc_ag {M m : en_M} (h : en_sc M m) : en_ag M m := fun k hk => h k (by omega)
theorem xr_ok_oe {M m : en_M} (h : en_oe M m) (ho : xr_ok m) : xr_ok M := by
  unfold xr_ok
  rw [h 28 (by omega)]
  exact ho
/-- island q is observable -/
def xm_ob (m : en_M) (q : Int) : Prop := xm_rk m (-1) q = gs_cu (m 5) q 5
theorem xm_ob_ag {M m : en_M} (h : en_ag M m) (hv : xv_all m) {q : Int} : xm_ob M q ↔ xm_ob m q := by
  unfold xm_ob
  rw [xm_rk_ag h hv, h 5 (by decide)]
abbrev rm_X4_requireBus : Room := { frames := 6, cells := 1, slots := 6, locals := 90 }
theorem my_X4_requireBus : en_MY yX4_requireBus RX4 cX4_requireBus 2 none wsX4_requireBus 1 := ⟨⟨_, rfl⟩, rfl, by decide, by decide, by decide +kernel, by decide +kernel⟩
set_option maxRecDepth 20000 in
theorem fl_X4_requireBus_23 : en_FL wsX4_requireBus RX4 23 4 0 := ⟨_, _, _, rfl, by decide, by decide +kernel, Or.inl (by decide +kernel)⟩
set_option maxRecDepth 20000 in
theorem th_X4_requireBus_87 : en_TH wsX4_requireBus "GridEstimator" 87 91 "java/lang/IndexOutOfBoundsException" := ⟨by decide +kernel, by decide +kernel, by decide +kernel, by decide +kernel, by decide +kernel, by decide +kernel⟩
set_option maxRecDepth 100000 in
set_option maxHeartbeats 4000000 in
theorem k_X4_requireBus {l : Launch} {w : en_W} {m : en_M} (hw : en_Wok w) (hp : en_Has w 0 50) (hl : l.stackTraces = false) {b : Int} (r0 : en_i32 b) (r1 : en_i32 (m 0 0)) : en_MetX l w yX4_requireBus wsX4_requireBus rm_X4_requireBus [en_R 49, en_I b] m (fun r m' => r = none ∧ m' = m ∧ 0 ≤ b ∧ b < m 0 0) (fun E m' => E = eIO ∧ m' = m ∧ ¬ (0 ≤ b ∧ b < m 0 0)) := by
  refine en_metX my_X4_requireBus hw hl (Nat.le_of_ble_eq_true rfl) ?_
  intro κ hl9 hw9 h hfx hx9
  have hf := hfx.fin
  subst hw9
  subst hl9
  have hI : ∀ k, 0 ≤ k → k < 50 → en_in κ k := hp
  refine en_aload_n (i := 0) h dX4_requireBus_0 rfl rfl ?_
  refine en_getR h dX4_requireBus_1 fl_X4_requireBus_23 (hI _ (by omega) (by omega)) rfl rfl ?_
  refine en_iload_n (i := 1) h dX4_requireBus_4 rfl rfl ?_
  refine en_callV h (k_X1_hasBus hw (fun k k0 k1 => hI k k0 (by omega)) r0 r1) my_X1_hasBus gX4_requireBus_X1_hasBus (hI _ (by omega) (by omega)) rfl rfl rfl rfl ⟨by decide, by decide⟩ ⟨by decide, by decide⟩ (Nat.le_of_ble_eq_true rfl) dX4_requireBus_5 (fun r m' hp => ?_)
  obtain ⟨rfl, rfl⟩ := hp
  refine en_if_ne (tgt := 21) h dX4_requireBus_8 (by decide) (by split <;> omega) (fun c_8 => ?_) (fun c_8 => ?_)
  · have c9 : 0 ≤ b ∧ b < m' 0 0 := by apply Decidable.byContradiction; intro z; rw [if_neg z] at c_8; omega
    exact en_vret h hf dX4_requireBus_21 ⟨by decide, by decide⟩ ⟨rfl, rfl, c9⟩
  · have c9 : ¬ (0 ≤ b ∧ b < m' 0 0) := fun z => by rw [if_pos z] at c_8; omega
    exact en_throw (cls := "java/lang/IndexOutOfBoundsException") (text := "there is no such bus") (ik := 87) (is := 189) (ic := 91) h hfx hx9 th_X4_requireBus_87 (by decide) (by decide) dX4_requireBus_11 dX4_requireBus_14 dX4_requireBus_15 dX4_requireBus_17 dX4_requireBus_20 ⟨by decide, by decide⟩ ⟨by decide, by decide⟩ ⟨rfl, rfl, c9⟩
abbrev rm_X4_requireMeter : Room := { frames := 6, cells := 1, slots := 6, locals := 90 }
theorem my_X4_requireMeter : en_MY yX4_requireMeter RX4 cX4_requireMeter 2 none wsX4_requireMeter 1 := ⟨⟨_, rfl⟩, rfl, by decide, by decide, by decide +kernel, by decide +kernel⟩
set_option maxRecDepth 20000 in
theorem fl_X4_requireMeter_32 : en_FL wsX4_requireMeter RX4 32 4 1 := ⟨_, _, _, rfl, by decide, by decide +kernel, Or.inl (by decide +kernel)⟩
set_option maxRecDepth 20000 in
theorem th_X4_requireMeter_87 : en_TH wsX4_requireMeter "GridEstimator" 87 91 "java/lang/IndexOutOfBoundsException" := ⟨by decide +kernel, by decide +kernel, by decide +kernel, by decide +kernel, by decide +kernel, by decide +kernel⟩
set_option maxRecDepth 100000 in
set_option maxHeartbeats 4000000 in
theorem k_X4_requireMeter {l : Launch} {w : en_W} {m : en_M} (hw : en_Wok w) (hp : en_Has w 0 50) (hl : l.stackTraces = false) {b : Int} (r0 : en_i32 b) (r1 : en_i32 (m 21 1)) : en_MetX l w yX4_requireMeter wsX4_requireMeter rm_X4_requireMeter [en_R 49, en_I b] m (fun r m' => r = none ∧ m' = m ∧ 0 ≤ b ∧ b < m 21 1) (fun E m' => E = eIO ∧ m' = m ∧ ¬ (0 ≤ b ∧ b < m 21 1)) := by
  refine en_metX my_X4_requireMeter hw hl (Nat.le_of_ble_eq_true rfl) ?_
  intro κ hl9 hw9 h hfx hx9
  have hf := hfx.fin
  subst hw9
  subst hl9
  have hI : ∀ k, 0 ≤ k → k < 50 → en_in κ k := hp
  refine en_aload_n (i := 0) h dX4_requireMeter_0 rfl rfl ?_
  refine en_getR h dX4_requireMeter_1 fl_X4_requireMeter_32 (hI _ (by omega) (by omega)) rfl rfl ?_
  refine en_iload_n (i := 1) h dX4_requireMeter_4 rfl rfl ?_
  refine en_callV h (k_X2_hasMeter hw (fun k k0 k1 => hI k k0 (by omega)) r0 r1) my_X2_hasMeter gX4_requireMeter_X2_hasMeter (hI _ (by omega) (by omega)) rfl rfl rfl rfl ⟨by decide, by decide⟩ ⟨by decide, by decide⟩ (Nat.le_of_ble_eq_true rfl) dX4_requireMeter_5 (fun r m' hp => ?_)
  obtain ⟨rfl, rfl⟩ := hp
  refine en_if_ne (tgt := 21) h dX4_requireMeter_8 (by decide) (by split <;> omega) (fun c_8 => ?_) (fun c_8 => ?_)
  · have c9 : 0 ≤ b ∧ b < m' 21 1 := by apply Decidable.byContradiction; intro z; rw [if_neg z] at c_8; omega
    exact en_vret h hf dX4_requireMeter_21 ⟨by decide, by decide⟩ ⟨rfl, rfl, c9⟩
  · have c9 : ¬ (0 ≤ b ∧ b < m' 21 1) := fun z => by rw [if_pos z] at c_8; omega
    exact en_throw (cls := "java/lang/IndexOutOfBoundsException") (text := "there is no such meter") (ik := 87) (is := 194) (ic := 91) h hfx hx9 th_X4_requireMeter_87 (by decide) (by decide) dX4_requireMeter_11 dX4_requireMeter_14 dX4_requireMeter_15 dX4_requireMeter_17 dX4_requireMeter_20 ⟨by decide, by decide⟩ ⟨by decide, by decide⟩ ⟨rfl, rfl, c9⟩
abbrev rm_X4_requireReading : Room := { frames := 6, cells := 1, slots := 6, locals := 90 }
theorem my_X4_requireReading : en_MY yX4_requireReading RX4 cX4_requireReading 2 none wsX4_requireReading 1 := ⟨⟨_, rfl⟩, rfl, by decide, by decide, by decide +kernel, by decide +kernel⟩
set_option maxRecDepth 20000 in
theorem th_X4_requireReading_55 : en_TH wsX4_requireReading "GridEstimator" 55 59 "java/lang/IllegalArgumentException" := ⟨by decide +kernel, by decide +kernel, by decide +kernel, by decide +kernel, by decide +kernel, by decide +kernel⟩
set_option maxRecDepth 100000 in
set_option maxHeartbeats 4000000 in
theorem k_X4_requireReading {l : Launch} {w : en_W} {m : en_M} (hw : en_Wok w) (hp : en_Has w 0 50) (hl : l.stackTraces = false) {b : Int} (r0 : en_i32 b) : en_MetX l w yX4_requireReading wsX4_requireReading rm_X4_requireReading [en_R 49, en_I b] m (fun r m' => r = none ∧ m' = m ∧ -50 ≤ b ∧ b ≤ 50) (fun E m' => E = eIA ∧ m' = m ∧ ¬ (-50 ≤ b ∧ b ≤ 50)) := by
  refine en_metX my_X4_requireReading hw hl (Nat.le_of_ble_eq_true rfl) ?_
  intro κ hl9 hw9 h hfx hx9
  have hf := hfx.fin
  subst hw9
  subst hl9
  have hI : ∀ k, 0 ≤ k → k < 50 → en_in κ k := hp
  refine en_iload_n (i := 1) h dX4_requireReading_0 rfl rfl ?_
  refine en_bipush h dX4_requireReading_1 (by decide) ?_
  refine en_icmp_lt (tgt := 12) h dX4_requireReading_3 (by decide) (by omega) (by omega) (fun c_3 => ?_) (fun c_3 => ?_)
  · exact en_throw (cls := "java/lang/IllegalArgumentException") (text := "the reading is out of range") (ik := 55) (is := 196) (ic := 59) h hfx hx9 th_X4_requireReading_55 (by decide) (by decide) dX4_requireReading_12 dX4_requireReading_15 dX4_requireReading_16 dX4_requireReading_18 dX4_requireReading_21 ⟨by decide, by decide⟩ ⟨by decide, by decide⟩ ⟨rfl, rfl, by omega⟩
  · refine en_iload_n (i := 1) h dX4_requireReading_6 rfl rfl ?_
    refine en_bipush h dX4_requireReading_7 (by decide) ?_
    refine en_icmp_le (tgt := 22) h dX4_requireReading_9 (by decide) (by omega) (by omega) (fun c_9 => ?_) (fun c_9 => ?_)
    · exact en_vret h hf dX4_requireReading_22 ⟨by decide, by decide⟩ ⟨rfl, rfl, by omega, by omega⟩
    · exact en_throw (cls := "java/lang/IllegalArgumentException") (text := "the reading is out of range") (ik := 55) (is := 196) (ic := 59) h hfx hx9 th_X4_requireReading_55 (by decide) (by decide) dX4_requireReading_12 dX4_requireReading_15 dX4_requireReading_16 dX4_requireReading_18 dX4_requireReading_21 ⟨by decide, by decide⟩ ⟨by decide, by decide⟩ ⟨rfl, rfl, by omega⟩
abbrev rm_X4_requireObservable : Room := { frames := 6, cells := 1, slots := 6, locals := 113 }
theorem my_X4_requireObservable : en_MY yX4_requireObservable RX4 cX4_requireObservable 2 none wsX4_requireObservable 1 := ⟨⟨_, rfl⟩, rfl, by decide, by decide, by decide +kernel, by decide +kernel⟩
set_option maxRecDepth 20000 in
theorem fl_X4_requireObservable_41 : en_FL wsX4_requireObservable RX4 41 4 2 := ⟨_, _, _, rfl, by decide, by decide +kernel, Or.inl (by decide +kernel)⟩
set_option maxRecDepth 20000 in
theorem th_X4_requireObservable_68 : en_TH wsX4_requireObservable "GridEstimator" 68 72 "java/lang/IllegalStateException" := ⟨by decide +kernel, by decide +kernel, by decide +kernel, by decide +kernel, by decide +kernel, by decide +kernel⟩
set_option maxRecDepth 100000 in
set_option maxHeartbeats 4000000 in
theorem k_X4_requireObservable {l : Launch} {w : en_W} {m : en_M} (hw : en_Wok w) (hp : en_Has w 0 50) (hl : l.stackTraces = false) {q : Int} (ho : xr_ok m) (hq : en_i32 q) (hv : xv_all m) : en_MetX l w yX4_requireObservable wsX4_requireObservable rm_X4_requireObservable [en_R 49, en_I q] m (fun r m' => r = none ∧ en_sc m' m ∧ xr_ok m' ∧ xm_ob m q) (fun E m' => E = eIS ∧ en_sc m' m ∧ xr_ok m' ∧ ¬ xm_ob m q) := by
  refine en_metX my_X4_requireObservable hw hl (Nat.le_of_ble_eq_true rfl) ?_
  intro κ hl9 hw9 h hfx hx9
  have hf := hfx.fin
  subst hw9
  subst hl9
  have hI : ∀ k, 0 ≤ k → k < 50 → en_in κ k := hp
  refine en_aload_n (i := 0) h dX4_requireObservable_0 rfl rfl ?_
  refine en_getR h dX4_requireObservable_1 fl_X4_requireObservable_41 (hI _ (by omega) (by omega)) rfl rfl ?_
  refine en_iload_n (i := 1) h dX4_requireObservable_4 rfl rfl ?_
  refine en_callV h (k_X3_suffices hw (fun k k0 k1 => hI k k0 (by omega)) ho hq hv) my_X3_suffices gX4_requireObservable_X3_suffices (hI _ (by omega) (by omega)) rfl rfl rfl rfl ⟨by decide, by decide⟩ ⟨by decide, by decide⟩ (Nat.le_of_ble_eq_true rfl) dX4_requireObservable_5 (fun r m' hp => ?_)
  obtain ⟨rfl, q1, q2⟩ := hp
  refine en_if_ne (tgt := 21) h dX4_requireObservable_8 (by decide) (by split <;> omega) (fun c_8 => ?_) (fun c_8 => ?_)
  · have c9 : xm_rk m (-1) q = gs_cu (m 5) q 5 := by apply Classical.byContradiction; intro z; rw [if_neg z] at c_8; omega
    exact en_vret h hf dX4_requireObservable_21 ⟨by decide, by decide⟩ ⟨rfl, en_sc_of q1, q2, c9⟩
  · have c9 : ¬ xm_rk m (-1) q = gs_cu (m 5) q 5 := fun z => by rw [if_pos z] at c_8; omega
    exact en_throw (cls := "java/lang/IllegalStateException") (text := "the island is not observable") (ik := 68) (is := 198) (ic := 72) h hfx hx9 th_X4_requireObservable_68 (by decide) (by decide) dX4_requireObservable_11 dX4_requireObservable_14 dX4_requireObservable_15 dX4_requireObservable_17 dX4_requireObservable_20 ⟨by decide, by decide⟩ ⟨by decide, by decide⟩ ⟨rfl, en_sc_of q1, q2, c9⟩
