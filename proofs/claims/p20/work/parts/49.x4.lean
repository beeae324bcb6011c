/-! CLASS 3: the estimate of an island -/
theorem xm_es_mv {M m M0 : en_M} {q : Int} (h : xm_es M M0 q) (h0 : en_sc M0 m) (hv : xv_all m) : xm_es M m q := ⟨en_sc_tr h.1 h0, h.2.1, by rw [h.2.2.1, gl_D_ag (en_sc_ag h0) hv], fun c c0 c1 => by rw [h.2.2.2 c c0 c1, gl_D_ag (en_sc_ag h0) hv]⟩
theorem xv_rd_sc {M m : en_M} (h : en_sc M m) (hd : xv_rd m) : xv_rd M := xv_rd_ag (en_sc_ag h) hd
abbrev rm_X4_estimateIslandOf : Room := { frames := 7, cells := 2, slots := 12, locals := 134 }
theorem my_X4_estimateIslandOf : en_MY yX4_estimateIslandOf RX4 cX4_estimateIslandOf 2 none wsX4_estimateIslandOf 1 := ⟨⟨_, rfl⟩, rfl, by decide, by decide, by decide +kernel, by decide +kernel⟩
set_option maxRecDepth 20000 in
theorem fl_X4_estimateIslandOf_23 : en_FL wsX4_estimateIslandOf RX4 23 4 0 := ⟨_, _, _, rfl, by decide, by decide +kernel, Or.inl (by decide +kernel)⟩
set_option maxRecDepth 20000 in
theorem fl_X4_estimateIslandOf_48 : en_FL wsX4_estimateIslandOf RX4 48 4 3 := ⟨_, _, _, rfl, by decide, by decide +kernel, Or.inl (by decide +kernel)⟩
set_option maxRecDepth 20000 in
theorem fl_X4_estimateIslandOf_100 : en_FL wsX4_estimateIslandOf RX4 100 1 6 := ⟨_, _, _, rfl, by decide, by decide +kernel, Or.inr (by decide +kernel)⟩
set_option maxRecDepth 100000 in
set_option maxHeartbeats 4000000 in
theorem k_X4_estimateIslandOf {l : Launch} {w : en_W} {m : en_M} (hw : en_Wok w) (hp : en_Has w 0 50) (hl : l.stackTraces = false) {b : Int} (hc : xc m) (r0 : en_i32 b) : en_MetX l w yX4_estimateIslandOf wsX4_estimateIslandOf rm_X4_estimateIslandOf [en_R 49, en_I b] m (fun r m' => r = none ∧ xm_es m' m (m 5 b) ∧ (0 ≤ b ∧ b < m 0 0) ∧ xm_ob m (m 5 b)) (fun E m' => en_sc m' m ∧ xr_ok m' ∧ ((E = eIO ∧ ¬ (0 ≤ b ∧ b < m 0 0)) ∨ (E = eIS ∧ (0 ≤ b ∧ b < m 0 0) ∧ ¬ xm_ob m (m 5 b)))) := by
  refine en_metX my_X4_estimateIslandOf hw hl (Nat.le_of_ble_eq_true rfl) ?_
  intro κ hl9 hw9 h hfx hx9
  have hf := hfx.fin
  subst hw9
  subst hl9
  have hI : ∀ k, 0 ≤ k → k < 50 → en_in κ k := hp
  obtain ⟨⟨n0, n1, -⟩, ho, hv, hd⟩ := hc
  refine en_aload_n (i := 0) h dX4_estimateIslandOf_0 rfl rfl ?_
  refine en_iload_n (i := 1) h dX4_estimateIslandOf_1 rfl rfl ?_
  refine en_callVX h hfx hx9 (k_X4_requireBus hw hI hl r0 (by omega)) my_X4_requireBus gX4_estimateIslandOf_X4_requireBus (hI _ (by omega) (by omega)) rfl rfl rfl rfl ⟨by decide, by decide⟩ ⟨by decide, by decide⟩ (Nat.le_of_ble_eq_true rfl) dX4_estimateIslandOf_2 (fun E M hx => ⟨by rw [hx.2.1]; exact en_sc_rf m, by rw [hx.2.1]; exact ho, Or.inl ⟨hx.1, hx.2.2⟩⟩) (fun r M1 hp => ?_)
  obtain ⟨rfl, e1, b0, b1⟩ := hp
  subst e1
  have hb : en_i32 (M1 5 b) := hv.2.2 b b0 (by omega)
  refine en_aload_n (i := 0) h dX4_estimateIslandOf_5 rfl rfl ?_
  refine en_aload_n (i := 0) h dX4_estimateIslandOf_6 rfl rfl ?_
  refine en_getR h dX4_estimateIslandOf_7 fl_X4_estimateIslandOf_23 (hI _ (by omega) (by omega)) rfl rfl ?_
  refine en_getR h dX4_estimateIslandOf_10 fl_X4_estimateIslandOf_100 (hI _ (by omega) (by omega)) rfl rfl ?_
  refine en_iload_n (i := 1) h dX4_estimateIslandOf_13 rfl rfl ?_
  refine en_iaload h dX4_estimateIslandOf_14 (hI _ (by omega) (by omega)) rfl (by omega) rfl ?_
  refine en_callVX h hfx hx9 (k_X4_requireObservable hw hI hl ho hb hv) my_X4_requireObservable gX4_estimateIslandOf_X4_requireObservable (hI _ (by omega) (by omega)) rfl rfl rfl rfl ⟨by decide, by decide⟩ ⟨by decide, by decide⟩ (Nat.le_of_ble_eq_true rfl) dX4_estimateIslandOf_15 (fun E M hx => ⟨hx.2.1, hx.2.2.1, Or.inr ⟨hx.1, ⟨b0, b1⟩, hx.2.2.2⟩⟩) (fun r M2 hp => ?_)
  obtain ⟨rfl, g1, g2, g3⟩ := hp
  have e5 : M2 5 = M1 5 := g1 5 (by decide)
  refine en_aload_n (i := 0) h dX4_estimateIslandOf_18 rfl rfl ?_
  refine en_getR h dX4_estimateIslandOf_19 fl_X4_estimateIslandOf_48 (hI _ (by omega) (by omega)) rfl rfl ?_
  refine en_aload_n (i := 0) h dX4_estimateIslandOf_22 rfl rfl ?_
  refine en_getR h dX4_estimateIslandOf_23 fl_X4_estimateIslandOf_23 (hI _ (by omega) (by omega)) rfl rfl ?_
  refine en_getR h dX4_estimateIslandOf_26 fl_X4_estimateIslandOf_100 (hI _ (by omega) (by omega)) rfl rfl ?_
  refine en_iload_n (i := 1) h dX4_estimateIslandOf_29 rfl rfl ?_
  refine en_iaload h dX4_estimateIslandOf_30 (hI _ (by omega) (by omega)) rfl (by omega) rfl ?_
  refine en_callV h (k_X0_solve hw (fun k k0 k1 => hI k k0 (by omega)) (by rw [e5]; exact hb) (xv_all_ag (en_sc_ag g1) hv) (xv_rd_sc g1 hd)) my_X0_solve gX4_estimateIslandOf_X0_solve (hI _ (by omega) (by omega)) rfl rfl rfl rfl ⟨by decide, by decide⟩ ⟨by decide, by decide⟩ (Nat.le_of_ble_eq_true rfl) dX4_estimateIslandOf_31 (fun r M3 hp => ?_)
  obtain ⟨rfl, k1, k2, k3⟩ := hp
  rw [e5] at k2 k3
  exact en_vret h hf dX4_estimateIslandOf_34 ⟨by decide, by decide⟩ ⟨rfl, xm_es_mv ⟨en_sc_oe k1, xr_ok_oe k1 g2, k2, k3⟩ g1 hv, ⟨b0, b1⟩, g3⟩
abbrev rm_X4_estimateAround : Room := { frames := 7, cells := 3, slots := 18, locals := 134 }
theorem my_X4_estimateAround : en_MY yX4_estimateAround RX4 cX4_estimateAround 3 none wsX4_estimateAround 1 := ⟨⟨_, rfl⟩, rfl, by decide, by decide, by decide +kernel, by decide +kernel⟩
set_option maxRecDepth 20000 in
theorem fl_X4_estimateAround_32 : en_FL wsX4_estimateAround RX4 32 4 1 := ⟨_, _, _, rfl, by decide, by decide +kernel, Or.inl (by decide +kernel)⟩
set_option maxRecDepth 20000 in
theorem fl_X4_estimateAround_48 : en_FL wsX4_estimateAround RX4 48 4 3 := ⟨_, _, _, rfl, by decide, by decide +kernel, Or.inl (by decide +kernel)⟩
set_option maxRecDepth 20000 in
theorem th_X4_estimateAround_68 : en_TH wsX4_estimateAround "GridEstimator" 68 72 "java/lang/IllegalStateException" := ⟨by decide +kernel, by decide +kernel, by decide +kernel, by decide +kernel, by decide +kernel, by decide +kernel⟩
set_option maxRecDepth 100000 in
set_option maxHeartbeats 4000000 in
theorem k_X4_estimateAround {l : Launch} {w : en_W} {m : en_M} (hw : en_Wok w) (hp : en_Has w 0 50) (hl : l.stackTraces = false) {i : Int} (hc : xc m) (r0 : en_i32 i) : en_MetX l w yX4_estimateAround wsX4_estimateAround rm_X4_estimateAround [en_R 49, en_I i] m (fun r m' => r = none ∧ xm_es m' m (xm_iu m i) ∧ (0 ≤ i ∧ i < m 21 1) ∧ xm_iu m i ≠ -1 ∧ xm_ob m (xm_iu m i)) (fun E m' => en_sc m' m ∧ xr_ok m' ∧ ((E = eIO ∧ ¬ (0 ≤ i ∧ i < m 21 1)) ∨ (E = eIS ∧ (0 ≤ i ∧ i < m 21 1) ∧ (xm_iu m i = -1 ∨ ¬ xm_ob m (xm_iu m i))))) := by
  refine en_metX my_X4_estimateAround hw hl (Nat.le_of_ble_eq_true rfl) ?_
  intro κ hl9 hw9 h hfx hx9
  have hf := hfx.fin
  subst hw9
  subst hl9
  have hI : ∀ k, 0 ≤ k → k < 50 → en_in κ k := hp
  obtain ⟨-, ho, hv, hd⟩ := hc
  have n9 := hv.1
  refine en_aload_n (i := 0) h dX4_estimateAround_0 rfl rfl ?_
  refine en_iload_n (i := 1) h dX4_estimateAround_1 rfl rfl ?_
  refine en_callVX h hfx hx9 (k_X4_requireMeter hw hI hl r0 (by omega)) my_X4_requireMeter gX4_estimateAround_X4_requireMeter (hI _ (by omega) (by omega)) rfl rfl rfl rfl ⟨by decide, by decide⟩ ⟨by decide, by decide⟩ (Nat.le_of_ble_eq_true rfl) dX4_estimateAround_2 (fun E M hx => ⟨by rw [hx.2.1]; exact en_sc_rf m, by rw [hx.2.1]; exact ho, Or.inl ⟨hx.1, hx.2.2⟩⟩) (fun r M1 hp => ?_)
  obtain ⟨rfl, e1, b0, b1⟩ := hp
  subst e1
  have v := hv.2.1 i b0 b1
  refine en_aload_n (i := 0) h dX4_estimateAround_5 rfl rfl ?_
  refine en_getR h dX4_estimateAround_6 fl_X4_estimateAround_32 (hI _ (by omega) (by omega)) rfl rfl ?_
  refine en_iload_n (i := 1) h dX4_estimateAround_9 rfl rfl ?_
  refine en_callV h (k_X2_islandIfUsed hw (fun k k0 k1 => hI k k0 (by omega)) ⟨b0, by omega⟩ v.1) my_X2_islandIfUsed gX4_estimateAround_X2_islandIfUsed (hI _ (by omega) (by omega)) rfl rfl rfl rfl ⟨by decide, by decide⟩ ⟨by decide, by decide⟩ (Nat.le_of_ble_eq_true rfl) dX4_estimateAround_10 (fun r M0 hp => ?_)
  obtain ⟨rfl, e0⟩ := hp
  subst e0
  have hb := v.2.2.1
  refine en_istore_n (i := 2) h dX4_estimateAround_13 rfl (by decide) ?_
  refine en_iload_n (i := 2) h dX4_estimateAround_14 rfl rfl ?_
  refine en_iconst h dX4_estimateAround_15 ?_
  refine en_icmp_ne (tgt := 29) h dX4_estimateAround_16 (by decide) (by omega) (by omega) (fun c_16 => ?_) (fun c_16 => ?_)
  · refine en_aload_n (i := 0) h dX4_estimateAround_29 rfl rfl ?_
    refine en_iload_n (i := 2) h dX4_estimateAround_30 rfl rfl ?_
    refine en_callVX h hfx hx9 (k_X4_requireObservable hw hI hl ho hb hv) my_X4_requireObservable gX4_estimateAround_X4_requireObservable (hI _ (by omega) (by omega)) rfl rfl rfl rfl ⟨by decide, by decide⟩ ⟨by decide, by decide⟩ (Nat.le_of_ble_eq_true rfl) dX4_estimateAround_31 (fun E M hx => ⟨hx.2.1, hx.2.2.1, Or.inr ⟨hx.1, ⟨b0, b1⟩, Or.inr hx.2.2.2⟩⟩) (fun r M2 hp => ?_)
    obtain ⟨rfl, g1, g2, g3⟩ := hp
    refine en_aload_n (i := 0) h dX4_estimateAround_34 rfl rfl ?_
    refine en_getR h dX4_estimateAround_35 fl_X4_estimateAround_48 (hI _ (by omega) (by omega)) rfl rfl ?_
    refine en_iload_n (i := 2) h dX4_estimateAround_38 rfl rfl ?_
    refine en_callV h (k_X0_solve hw (fun k k0 k1 => hI k k0 (by omega)) hb (xv_all_ag (en_sc_ag g1) hv) (xv_rd_sc g1 hd)) my_X0_solve gX4_estimateAround_X0_solve (hI _ (by omega) (by omega)) rfl rfl rfl rfl ⟨by decide, by decide⟩ ⟨by decide, by decide⟩ (Nat.le_of_ble_eq_true rfl) dX4_estimateAround_39 (fun r M3 hp => ?_)
    obtain ⟨rfl, k1, k2, k3⟩ := hp
    exact en_vret h hf dX4_estimateAround_42 ⟨by decide, by decide⟩ ⟨rfl, xm_es_mv ⟨en_sc_oe k1, xr_ok_oe k1 g2, k2, k3⟩ g1 hv, ⟨b0, b1⟩, c_16, g3⟩
  · exact en_throw (cls := "java/lang/IllegalStateException") (text := "the meter would count nowhere") (ik := 68) (is := 187) (ic := 72) h hfx hx9 th_X4_estimateAround_68 (by decide) (by decide) dX4_estimateAround_19 dX4_estimateAround_22 dX4_estimateAround_23 dX4_estimateAround_25 dX4_estimateAround_28 ⟨by decide, by decide⟩ ⟨by decide, by decide⟩ ⟨en_sc_rf _, ho, Or.inr ⟨rfl, ⟨b0, b1⟩, Or.inl c_16⟩⟩
/-! CLASS 4: angles and residuals -/
/-- the values of an estimate that are divided fit -/
def xb_d (m : en_M) (q : Int) : Prop := 0 < gl_D m q (-1) ∧ gl_D m q (-1) < 9223372036854775808
def xb_a (m : en_M) (q b : Int) : Prop := -9223372036854775808 < gl_D m q b ∧ gl_D m q b < 9223372036854775808
def xb_r (m : en_M) (q i : Int) : Prop := -9223372036854775808 < xe_rs m q i ∧ xe_rs m q i < 9223372036854775808
theorem xg_rng {x y : Int} (hx : -9223372036854775808 < x ∧ x < 9223372036854775808) (hy : 0 < y ∧ y < 9223372036854775808) : 0 < xg x y ∧ xg x y < 9223372036854775808 := by
  have q : Nat.gcd y.natAbs x.natAbs ≤ y.natAbs := Nat.gcd_le_left _ (by omega)
  unfold xg
  omega
abbrev rm_X4_angleNumerator : Room := { frames := 8, cells := 2, slots := 12, locals := 155 }
theorem my_X4_angleNumerator : en_MY yX4_angleNumerator RX4 cX4_angleNumerator 4 (some .long) wsX4_angleNumerator 1 := ⟨⟨_, rfl⟩, rfl, by decide, by decide, by decide +kernel, by decide +kernel⟩
set_option maxRecDepth 20000 in
theorem fl_X4_angleNumerator_48 : en_FL wsX4_angleNumerator RX4 48 4 3 := ⟨_, _, _, rfl, by decide, by decide +kernel, Or.inl (by decide +kernel)⟩
set_option maxRecDepth 20000 in
theorem fl_X4_angleNumerator_148 : en_FL wsX4_angleNumerator RX4 148 0 5 := ⟨_, _, _, rfl, by decide, by decide +kernel, Or.inr (by decide +kernel)⟩
set_option maxRecDepth 20000 in
theorem fl_X4_angleNumerator_152 : en_FL wsX4_angleNumerator RX4 152 0 6 := ⟨_, _, _, rfl, by decide, by decide +kernel, Or.inr (by decide +kernel)⟩
set_option maxRecDepth 100000 in
set_option maxHeartbeats 4000000 in
theorem k_X4_angleNumerator {l : Launch} {w : en_W} {m : en_M} (hw : en_Wok w) (hp : en_Has w 0 50) (hl : l.stackTraces = false) {b : Int} (hc : xc m) (r0 : en_i32 b) (hb : 0 ≤ b → b < m 0 0 → xm_ob m (m 5 b) → xb_d m (m 5 b) ∧ xb_a m (m 5 b) b) : en_MetX l w yX4_angleNumerator wsX4_angleNumerator rm_X4_angleNumerator [en_R 49, en_I b] m (fun r m' => r = some (en_L ((gl_D m (m 5 b) b).tdiv (xg (gl_D m (m 5 b) b) (gl_D m (m 5 b) (-1))))) ∧ en_sc m' m ∧ xr_ok m' ∧ (0 ≤ b ∧ b < m 0 0) ∧ xm_ob m (m 5 b)) (fun E m' => en_sc m' m ∧ xr_ok m' ∧ ((E = eIO ∧ ¬ (0 ≤ b ∧ b < m 0 0)) ∨ (E = eIS ∧ (0 ≤ b ∧ b < m 0 0) ∧ ¬ xm_ob m (m 5 b)))) := by
  refine en_metX my_X4_angleNumerator hw hl (Nat.le_of_ble_eq_true rfl) ?_
  intro κ hl9 hw9 h hfx hx9
  have hf := hfx.fin
  subst hw9
  subst hl9
  have hI : ∀ k, 0 ≤ k → k < 50 → en_in κ k := hp
  refine en_aload_n (i := 0) h dX4_angleNumerator_0 rfl rfl ?_
  refine en_iload_n (i := 1) h dX4_angleNumerator_1 rfl rfl ?_
  refine en_callVX h hfx hx9 (k_X4_estimateIslandOf hw hI hl hc r0) my_X4_estimateIslandOf gX4_angleNumerator_X4_estimateIslandOf (hI _ (by omega) (by omega)) rfl rfl rfl rfl ⟨by decide, by decide⟩ ⟨by decide, by decide⟩ (Nat.le_of_ble_eq_true rfl) dX4_angleNumerator_2 (fun E M hx => hx) (fun r M1 hp => ?_)
  obtain ⟨rfl, es, b0, b1⟩ := hp
  obtain ⟨d9, a9⟩ := hb b0.1 b0.2 b1
  have n9 := hc.1.1
  have e1 := es.2.2.1
  have e2 := es.2.2.2 b b0.1 (by omega)
  refine en_aload_n (i := 0) h dX4_angleNumerator_5 rfl rfl ?_
  refine en_getR h dX4_angleNumerator_6 fl_X4_angleNumerator_48 (hI _ (by omega) (by omega)) rfl rfl ?_
  refine en_getR h dX4_angleNumerator_9 fl_X4_angleNumerator_148 (hI _ (by omega) (by omega)) rfl rfl ?_
  refine en_iload_n (i := 1) h dX4_angleNumerator_12 rfl rfl ?_
  refine en_laload h dX4_angleNumerator_13 (hI _ (by omega) (by omega)) rfl (by omega) e2 ?_
  refine en_lstore_n (i := 2) h dX4_angleNumerator_14 rfl (by decide) ?_
  refine en_lload_n (i := 2) h dX4_angleNumerator_15 rfl rfl ?_
  refine en_lload_n (i := 2) h dX4_angleNumerator_16 rfl rfl ?_
  refine en_aload_n (i := 0) h dX4_angleNumerator_17 rfl rfl ?_
  refine en_getR h dX4_angleNumerator_18 fl_X4_angleNumerator_48 (hI _ (by omega) (by omega)) rfl rfl ?_
  refine en_getL (i := 6) h dX4_angleNumerator_21 fl_X4_angleNumerator_152 (hI _ (by omega) (by omega)) rfl rfl rfl e1 ?_
  refine en_callS h (k_X4_commonDivisor hw hI a9 ⟨by unfold xb_d at d9; omega, d9.2⟩) my_X4_commonDivisor gX4_angleNumerator_X4_commonDivisor rfl rfl ⟨by decide, by decide⟩ ⟨by decide, by decide⟩ (Nat.le_of_ble_eq_true rfl) dX4_angleNumerator_24 (fun r M2 hp => ?_)
  obtain ⟨rfl, e3⟩ := hp
  subst e3
  refine en_ldiv h dX4_angleNumerator_27 (by unfold xb_a at a9; omega) (xg_rng a9 d9) ?_
  exact en_lret h hf dX4_angleNumerator_28 ⟨by decide, by decide⟩ ⟨rfl, es.1, es.2.1, b0, b1⟩
abbrev rm_X4_angleDenominator : Room := { frames := 8, cells := 2, slots := 12, locals := 155 }
theorem my_X4_angleDenominator : en_MY yX4_angleDenominator RX4 cX4_angleDenominator 2 (some .long) wsX4_angleDenominator 1 := ⟨⟨_, rfl⟩, rfl, by decide, by decide, by decide +kernel, by decide +kernel⟩
set_option maxRecDepth 20000 in
theorem fl_X4_angleDenominator_48 : en_FL wsX4_angleDenominator RX4 48 4 3 := ⟨_, _, _, rfl, by decide, by decide +kernel, Or.inl (by decide +kernel)⟩
set_option maxRecDepth 20000 in
theorem fl_X4_angleDenominator_148 : en_FL wsX4_angleDenominator RX4 148 0 5 := ⟨_, _, _, rfl, by decide, by decide +kernel, Or.inr (by decide +kernel)⟩
set_option maxRecDepth 20000 in
theorem fl_X4_angleDenominator_152 : en_FL wsX4_angleDenominator RX4 152 0 6 := ⟨_, _, _, rfl, by decide, by decide +kernel, Or.inr (by decide +kernel)⟩
set_option maxRecDepth 100000 in
set_option maxHeartbeats 4000000 in
theorem k_X4_angleDenominator {l : Launch} {w : en_W} {m : en_M} (hw : en_Wok w) (hp : en_Has w 0 50) (hl : l.stackTraces = false) {b : Int} (hc : xc m) (r0 : en_i32 b) (hb : 0 ≤ b → b < m 0 0 → xm_ob m (m 5 b) → xb_d m (m 5 b) ∧ xb_a m (m 5 b) b) : en_MetX l w yX4_angleDenominator wsX4_angleDenominator rm_X4_angleDenominator [en_R 49, en_I b] m (fun r m' => r = some (en_L ((gl_D m (m 5 b) (-1)).tdiv (xg (gl_D m (m 5 b) b) (gl_D m (m 5 b) (-1))))) ∧ en_sc m' m ∧ xr_ok m' ∧ (0 ≤ b ∧ b < m 0 0) ∧ xm_ob m (m 5 b)) (fun E m' => en_sc m' m ∧ xr_ok m' ∧ ((E = eIO ∧ ¬ (0 ≤ b ∧ b < m 0 0)) ∨ (E = eIS ∧ (0 ≤ b ∧ b < m 0 0) ∧ ¬ xm_ob m (m 5 b)))) := by
  refine en_metX my_X4_angleDenominator hw hl (Nat.le_of_ble_eq_true rfl) ?_
  intro κ hl9 hw9 h hfx hx9
  have hf := hfx.fin
  subst hw9
  subst hl9
  have hI : ∀ k, 0 ≤ k → k < 50 → en_in κ k := hp
  refine en_aload_n (i := 0) h dX4_angleDenominator_0 rfl rfl ?_
  refine en_iload_n (i := 1) h dX4_angleDenominator_1 rfl rfl ?_
  refine en_callVX h hfx hx9 (k_X4_estimateIslandOf hw hI hl hc r0) my_X4_estimateIslandOf gX4_angleDenominator_X4_estimateIslandOf (hI _ (by omega) (by omega)) rfl rfl rfl rfl ⟨by decide, by decide⟩ ⟨by decide, by decide⟩ (Nat.le_of_ble_eq_true rfl) dX4_angleDenominator_2 (fun E M hx => hx) (fun r M1 hp => ?_)
  obtain ⟨rfl, es, b0, b1⟩ := hp
  obtain ⟨d9, a9⟩ := hb b0.1 b0.2 b1
  have n9 := hc.1.1
  have e1 := es.2.2.1
  have e2 := es.2.2.2 b b0.1 (by omega)
  refine en_aload_n (i := 0) h dX4_angleDenominator_5 rfl rfl ?_
  refine en_getR h dX4_angleDenominator_6 fl_X4_angleDenominator_48 (hI _ (by omega) (by omega)) rfl rfl ?_
  refine en_getL (i := 6) h dX4_angleDenominator_9 fl_X4_angleDenominator_152 (hI _ (by omega) (by omega)) rfl rfl rfl e1 ?_
  refine en_aload_n (i := 0) h dX4_angleDenominator_12 rfl rfl ?_
  refine en_getR h dX4_angleDenominator_13 fl_X4_angleDenominator_48 (hI _ (by omega) (by omega)) rfl rfl ?_
  refine en_getR h dX4_angleDenominator_16 fl_X4_angleDenominator_148 (hI _ (by omega) (by omega)) rfl rfl ?_
  refine en_iload_n (i := 1) h dX4_angleDenominator_19 rfl rfl ?_
  refine en_laload h dX4_angleDenominator_20 (hI _ (by omega) (by omega)) rfl (by omega) e2 ?_
  refine en_aload_n (i := 0) h dX4_angleDenominator_21 rfl rfl ?_
  refine en_getR h dX4_angleDenominator_22 fl_X4_angleDenominator_48 (hI _ (by omega) (by omega)) rfl rfl ?_
  refine en_getL (i := 6) h dX4_angleDenominator_25 fl_X4_angleDenominator_152 (hI _ (by omega) (by omega)) rfl rfl rfl e1 ?_
  refine en_callS h (k_X4_commonDivisor hw hI a9 ⟨by unfold xb_d at d9; omega, d9.2⟩) my_X4_commonDivisor gX4_angleDenominator_X4_commonDivisor rfl rfl ⟨by decide, by decide⟩ ⟨by decide, by decide⟩ (Nat.le_of_ble_eq_true rfl) dX4_angleDenominator_28 (fun r M2 hp => ?_)
  obtain ⟨rfl, e3⟩ := hp
  subst e3
  refine en_ldiv h dX4_angleDenominator_31 (by unfold xb_d at d9; omega) (xg_rng a9 d9) ?_
  exact en_lret h hf dX4_angleDenominator_32 ⟨by decide, by decide⟩ ⟨rfl, es.1, es.2.1, b0, b1⟩
abbrev rm_X4_residualNumerator : Room := { frames := 8, cells := 3, slots := 18, locals := 156 }
theorem my_X4_residualNumerator : en_MY yX4_residualNumerator RX4 cX4_residualNumerator 4 (some .long) wsX4_residualNumerator 1 := ⟨⟨_, rfl⟩, rfl, by decide, by decide, by decide +kernel, by decide +kernel⟩
set_option maxRecDepth 20000 in
theorem fl_X4_residualNumerator_48 : en_FL wsX4_residualNumerator RX4 48 4 3 := ⟨_, _, _, rfl, by decide, by decide +kernel, Or.inl (by decide +kernel)⟩
set_option maxRecDepth 20000 in
theorem fl_X4_residualNumerator_152 : en_FL wsX4_residualNumerator RX4 152 0 6 := ⟨_, _, _, rfl, by decide, by decide +kernel, Or.inr (by decide +kernel)⟩
set_option maxRecDepth 100000 in
set_option maxHeartbeats 4000000 in
theorem k_X4_residualNumerator {l : Launch} {w : en_W} {m : en_M} (hw : en_Wok w) (hp : en_Has w 0 50) (hl : l.stackTraces = false) {i : Int} (hc : xc m) (r0 : en_i32 i) (hb : 0 ≤ i → i < m 21 1 → xm_iu m i ≠ -1 → xm_ob m (xm_iu m i) → xb_d m (xm_iu m i) ∧ xb_r m (xm_iu m i) i) : en_MetX l w yX4_residualNumerator wsX4_residualNumerator rm_X4_residualNumerator [en_R 49, en_I i] m (fun r m' => r = some (en_L ((xe_rs m (xm_iu m i) i).tdiv (xg (xe_rs m (xm_iu m i) i) (gl_D m (xm_iu m i) (-1))))) ∧ en_sc m' m ∧ xr_ok m' ∧ (0 ≤ i ∧ i < m 21 1) ∧ xm_iu m i ≠ -1 ∧ xm_ob m (xm_iu m i)) (fun E m' => en_sc m' m ∧ xr_ok m' ∧ ((E = eIO ∧ ¬ (0 ≤ i ∧ i < m 21 1)) ∨ (E = eIS ∧ (0 ≤ i ∧ i < m 21 1) ∧ (xm_iu m i = -1 ∨ ¬ xm_ob m (xm_iu m i))))) := by
  refine en_metX my_X4_residualNumerator hw hl (Nat.le_of_ble_eq_true rfl) ?_
  intro κ hl9 hw9 h hfx hx9
  have hf := hfx.fin
  subst hw9
  subst hl9
  have hI : ∀ k, 0 ≤ k → k < 50 → en_in κ k := hp
  obtain ⟨-, ho, hv, hd⟩ := id hc
  have n9 := hv.1
  refine en_aload_n (i := 0) h dX4_residualNumerator_0 rfl rfl ?_
  refine en_iload_n (i := 1) h dX4_residualNumerator_1 rfl rfl ?_
  refine en_callVX h hfx hx9 (k_X4_estimateAround hw hI hl hc r0) my_X4_estimateAround gX4_residualNumerator_X4_estimateAround (hI _ (by omega) (by omega)) rfl rfl rfl rfl ⟨by decide, by decide⟩ ⟨by decide, by decide⟩ (Nat.le_of_ble_eq_true rfl) dX4_residualNumerator_2 (fun E M hx => hx) (fun r M1 hp => ?_)
  obtain ⟨rfl, es, b0, b1, b2⟩ := hp
  obtain ⟨d9, a9⟩ := hb b0.1 b0.2 b1 b2
  have e1 := es.2.2.1
  have v := hv.2.1 i b0.1 b0.2
  have d := hd i b0.1 b0.2
  have ag := en_sc_ag es.1
  refine en_aload_n (i := 0) h dX4_residualNumerator_5 rfl rfl ?_
  refine en_getR h dX4_residualNumerator_6 fl_X4_residualNumerator_48 (hI _ (by omega) (by omega)) rfl rfl ?_
  refine en_iload_n (i := 1) h dX4_residualNumerator_9 rfl rfl ?_
  refine en_callV h (k_X0_residual hw (fun k k0 k1 => hI k k0 (by omega)) ⟨b0.1, by omega⟩ (xv_m_ag ag v.1) (fun b k0 k1 => by rw [xm_gr_ag ag v.1]; have z := v.2.2.2 b k0 k1; omega) (by rw [es.1 24 (by decide)]; omega)) my_X0_residual gX4_residualNumerator_X0_residual (hI _ (by omega) (by omega)) rfl rfl rfl rfl ⟨by decide, by decide⟩ ⟨by decide, by decide⟩ (Nat.le_of_ble_eq_true rfl) dX4_residualNumerator_10 (fun r M3 hp => ?_)
  obtain ⟨rfl, e4⟩ := hp
  subst e4
  rw [xm_rs_es es v.1]
  refine en_lstore_n (i := 2) h dX4_residualNumerator_13 rfl (by decide) ?_
  refine en_lload_n (i := 2) h dX4_residualNumerator_14 rfl rfl ?_
  refine en_lload_n (i := 2) h dX4_residualNumerator_15 rfl rfl ?_
  refine en_aload_n (i := 0) h dX4_residualNumerator_16 rfl rfl ?_
  refine en_getR h dX4_residualNumerator_17 fl_X4_residualNumerator_48 (hI _ (by omega) (by omega)) rfl rfl ?_
  refine en_getL (i := 6) h dX4_residualNumerator_20 fl_X4_residualNumerator_152 (hI _ (by omega) (by omega)) rfl rfl rfl e1 ?_
  refine en_callS h (k_X4_commonDivisor hw hI a9 ⟨by unfold xb_d at d9; omega, d9.2⟩) my_X4_commonDivisor gX4_residualNumerator_X4_commonDivisor rfl rfl ⟨by decide, by decide⟩ ⟨by decide, by decide⟩ (Nat.le_of_ble_eq_true rfl) dX4_residualNumerator_23 (fun r M2 hp => ?_)
  obtain ⟨rfl, e3⟩ := hp
  subst e3
  refine en_ldiv h dX4_residualNumerator_26 (by unfold xb_r at a9; omega) (xg_rng a9 d9) ?_
  exact en_lret h hf dX4_residualNumerator_27 ⟨by decide, by decide⟩ ⟨rfl, es.1, es.2.1, b0, b1, b2⟩
abbrev rm_X4_residualDenominator : Room := { frames := 8, cells := 3, slots := 18, locals := 156 }
theorem my_X4_residualDenominator : en_MY yX4_residualDenominator RX4 cX4_residualDenominator 2 (some .long) wsX4_residualDenominator 1 := ⟨⟨_, rfl⟩, rfl, by decide, by decide, by decide +kernel, by decide +kernel⟩
set_option maxRecDepth 20000 in
theorem fl_X4_residualDenominator_48 : en_FL wsX4_residualDenominator RX4 48 4 3 := ⟨_, _, _, rfl, by decide, by decide +kernel, Or.inl (by decide +kernel)⟩
set_option maxRecDepth 20000 in
theorem fl_X4_residualDenominator_152 : en_FL wsX4_residualDenominator RX4 152 0 6 := ⟨_, _, _, rfl, by decide, by decide +kernel, Or.inr (by decide +kernel)⟩
set_option maxRecDepth 100000 in
set_option maxHeartbeats 4000000 in
theorem k_X4_residualDenominator {l : Launch} {w : en_W} {m : en_M} (hw : en_Wok w) (hp : en_Has w 0 50) (hl : l.stackTraces = false) {i : Int} (hc : xc m) (r0 : en_i32 i) (hb : 0 ≤ i → i < m 21 1 → xm_iu m i ≠ -1 → xm_ob m (xm_iu m i) → xb_d m (xm_iu m i) ∧ xb_r m (xm_iu m i) i) : en_MetX l w yX4_residualDenominator wsX4_residualDenominator rm_X4_residualDenominator [en_R 49, en_I i] m (fun r m' => r = some (en_L ((gl_D m (xm_iu m i) (-1)).tdiv (xg (xe_rs m (xm_iu m i) i) (gl_D m (xm_iu m i) (-1))))) ∧ en_sc m' m ∧ xr_ok m' ∧ (0 ≤ i ∧ i < m 21 1) ∧ xm_iu m i ≠ -1 ∧ xm_ob m (xm_iu m i)) (fun E m' => en_sc m' m ∧ xr_ok m' ∧ ((E = eIO ∧ ¬ (0 ≤ i ∧ i < m 21 1)) ∨ (E = eIS ∧ (0 ≤ i ∧ i < m 21 1) ∧ (xm_iu m i = -1 ∨ ¬ xm_ob m (xm_iu m i))))) := by
  refine en_metX my_X4_residualDenominator hw hl (Nat.le_of_ble_eq_true rfl) ?_
  intro κ hl9 hw9 h hfx hx9
  have hf := hfx.fin
  subst hw9
  subst hl9
  have hI : ∀ k, 0 ≤ k → k < 50 → en_in κ k := hp
  obtain ⟨-, ho, hv, hd⟩ := id hc
  have n9 := hv.1
  refine en_aload_n (i := 0) h dX4_residualDenominator_0 rfl rfl ?_
  refine en_iload_n (i := 1) h dX4_residualDenominator_1 rfl rfl ?_
  refine en_callVX h hfx hx9 (k_X4_estimateAround hw hI hl hc r0) my_X4_estimateAround gX4_residualDenominator_X4_estimateAround (hI _ (by omega) (by omega)) rfl rfl rfl rfl ⟨by decide, by decide⟩ ⟨by decide, by decide⟩ (Nat.le_of_ble_eq_true rfl) dX4_residualDenominator_2 (fun E M hx => hx) (fun r M1 hp => ?_)
  obtain ⟨rfl, es, b0, b1, b2⟩ := hp
  obtain ⟨d9, a9⟩ := hb b0.1 b0.2 b1 b2
  have e1 := es.2.2.1
  have v := hv.2.1 i b0.1 b0.2
  have d := hd i b0.1 b0.2
  have ag := en_sc_ag es.1
  refine en_aload_n (i := 0) h dX4_residualDenominator_5 rfl rfl ?_
  refine en_getR h dX4_residualDenominator_6 fl_X4_residualDenominator_48 (hI _ (by omega) (by omega)) rfl rfl ?_
  refine en_getL (i := 6) h dX4_residualDenominator_9 fl_X4_residualDenominator_152 (hI _ (by omega) (by omega)) rfl rfl rfl e1 ?_
  refine en_aload_n (i := 0) h dX4_residualDenominator_12 rfl rfl ?_
  refine en_getR h dX4_residualDenominator_13 fl_X4_residualDenominator_48 (hI _ (by omega) (by omega)) rfl rfl ?_
  refine en_iload_n (i := 1) h dX4_residualDenominator_16 rfl rfl ?_
  refine en_callV h (k_X0_residual hw (fun k k0 k1 => hI k k0 (by omega)) ⟨b0.1, by omega⟩ (xv_m_ag ag v.1) (fun b k0 k1 => by rw [xm_gr_ag ag v.1]; have z := v.2.2.2 b k0 k1; omega) (by rw [es.1 24 (by decide)]; omega)) my_X0_residual gX4_residualDenominator_X0_residual (hI _ (by omega) (by omega)) rfl rfl rfl rfl ⟨by decide, by decide⟩ ⟨by decide, by decide⟩ (Nat.le_of_ble_eq_true rfl) dX4_residualDenominator_17 (fun r M3 hp => ?_)
  obtain ⟨rfl, e4⟩ := hp
  subst e4
  rw [xm_rs_es es v.1]
  refine en_aload_n (i := 0) h dX4_residualDenominator_20 rfl rfl ?_
  refine en_getR h dX4_residualDenominator_21 fl_X4_residualDenominator_48 (hI _ (by omega) (by omega)) rfl rfl ?_
  refine en_getL (i := 6) h dX4_residualDenominator_24 fl_X4_residualDenominator_152 (hI _ (by omega) (by omega)) rfl rfl rfl e1 ?_
  refine en_callS h (k_X4_commonDivisor hw hI a9 ⟨by unfold xb_d at d9; omega, d9.2⟩) my_X4_commonDivisor gX4_residualDenominator_X4_commonDivisor rfl rfl ⟨by decide, by decide⟩ ⟨by decide, by decide⟩ (Nat.le_of_ble_eq_true rfl) dX4_residualDenominator_27 (fun r M2 hp => ?_)
  obtain ⟨rfl, e3⟩ := hp
  subst e3
  refine en_ldiv h dX4_residualDenominator_30 (by unfold xb_d at d9; omega) (xg_rng a9 d9) ?_
  exact en_lret h hf dX4_residualDenominator_31 ⟨by decide, by decide⟩ ⟨rfl, es.1, es.2.1, b0, b1, b2⟩
abbrev rm_X4_worst : Room := { frames := 8, cells := 2, slots := 12, locals := 155 }
theorem my_X4_worst : en_MY yX4_worst RX4 cX4_worst 2 (some .int) wsX4_worst 1 := ⟨⟨_, rfl⟩, rfl, by decide, by decide, by decide +kernel, by decide +kernel⟩
set_option maxRecDepth 20000 in
theorem fl_X4_worst_23 : en_FL wsX4_worst RX4 23 4 0 := ⟨_, _, _, rfl, by decide, by decide +kernel, Or.inl (by decide +kernel)⟩
set_option maxRecDepth 20000 in
theorem fl_X4_worst_48 : en_FL wsX4_worst RX4 48 4 3 := ⟨_, _, _, rfl, by decide, by decide +kernel, Or.inl (by decide +kernel)⟩
set_option maxRecDepth 20000 in
theorem fl_X4_worst_100 : en_FL wsX4_worst RX4 100 1 6 := ⟨_, _, _, rfl, by decide, by decide +kernel, Or.inr (by decide +kernel)⟩
set_option maxRecDepth 100000 in
set_option maxHeartbeats 4000000 in
theorem k_X4_worst {l : Launch} {w : en_W} {m : en_M} (hw : en_Wok w) (hp : en_Has w 0 50) (hl : l.stackTraces = false) {b : Int} (hc : xc m) (r0 : en_i32 b) : en_MetX l w yX4_worst wsX4_worst rm_X4_worst [en_R 49, en_I b] m (fun r m' => r = some (en_I (xe_wm m (m 5 b))) ∧ en_sc m' m ∧ xr_ok m' ∧ (0 ≤ b ∧ b < m 0 0) ∧ xm_ob m (m 5 b)) (fun E m' => en_sc m' m ∧ xr_ok m' ∧ ((E = eIO ∧ ¬ (0 ≤ b ∧ b < m 0 0)) ∨ (E = eIS ∧ (0 ≤ b ∧ b < m 0 0) ∧ ¬ xm_ob m (m 5 b)))) := by
  refine en_metX my_X4_worst hw hl (Nat.le_of_ble_eq_true rfl) ?_
  intro κ hl9 hw9 h hfx hx9
  have hf := hfx.fin
  subst hw9
  subst hl9
  have hI : ∀ k, 0 ≤ k → k < 50 → en_in κ k := hp
  refine en_aload_n (i := 0) h dX4_worst_0 rfl rfl ?_
  refine en_iload_n (i := 1) h dX4_worst_1 rfl rfl ?_
  refine en_callVX h hfx hx9 (k_X4_estimateIslandOf hw hI hl hc r0) my_X4_estimateIslandOf gX4_worst_X4_estimateIslandOf (hI _ (by omega) (by omega)) rfl rfl rfl rfl ⟨by decide, by decide⟩ ⟨by decide, by decide⟩ (Nat.le_of_ble_eq_true rfl) dX4_worst_2 (fun E M hx => hx) (fun r M1 hp => ?_)
  obtain ⟨rfl, es, b0, b1⟩ := hp
  have n9 := hc.1.1
  have hv := hc.2.2.1
  have e5 : M1 5 = m 5 := es.1 5 (by decide)
  refine en_aload_n (i := 0) h dX4_worst_5 rfl rfl ?_
  refine en_getR h dX4_worst_6 fl_X4_worst_48 (hI _ (by omega) (by omega)) rfl rfl ?_
  refine en_aload_n (i := 0) h dX4_worst_9 rfl rfl ?_
  refine en_getR h dX4_worst_10 fl_X4_worst_23 (hI _ (by omega) (by omega)) rfl rfl ?_
  refine en_getR h dX4_worst_13 fl_X4_worst_100 (hI _ (by omega) (by omega)) rfl rfl ?_
  refine en_iload_n (i := 1) h dX4_worst_16 rfl rfl ?_
  refine en_iaload h dX4_worst_17 (hI _ (by omega) (by omega)) rfl (by omega) rfl ?_
  refine en_callV h (k_X0_worstMeter hw (fun k k0 k1 => hI k k0 (by omega)) (by rw [e5]; exact hv.2.2 b b0.1 (by omega)) (xv_all_ag (en_sc_ag es.1) hv) (xv_rd_sc es.1 hc.2.2.2)) my_X0_worstMeter gX4_worst_X0_worstMeter (hI _ (by omega) (by omega)) rfl rfl rfl rfl ⟨by decide, by decide⟩ ⟨by decide, by decide⟩ (Nat.le_of_ble_eq_true rfl) dX4_worst_18 (fun r M2 hp => ?_)
  obtain ⟨rfl, e3⟩ := hp
  subst e3
  rw [e5, xm_wm_es es hv]
  exact en_iret h hf dX4_worst_21 ⟨by decide, by decide⟩ ⟨rfl, es.1, es.2.1, b0, b1⟩
