/-! MODEL 9: the public methods -/
def mg_wm (m : en_M) (q : Int) : Int := (gm_wm (mo_io m) (mg_ws m q) q (m 51 7).toNat).1
theorem mg_wm_rng {m : en_M} (hm : xo_mt m) (q : Int) : -1 ≤ mg_wm m q ∧ mg_wm m q < m 51 7 := by
  have n9 := hm.1
  have z := gm_wm_rng (mo_io m) (mg_ws m q) q (m 51 7).toNat
  unfold mg_wm
  omega
theorem mg_wm_sm {M m : en_M} (h : mo_sm M m) (q : Int) : mg_wm M q = mg_wm m q := by
  have e1 : mo_io M = mo_io m := funext fun i => mo_io_sm h i
  have e2 : mg_ws M q = mg_ws m q := funext fun i => mg_ws_sm h q i
  unfold mg_wm
  rw [e1, e2, h.2 7 (by decide)]
theorem mg_es_sm {M m m0 : en_M} {q : Int} (h : mg_es M m q) (h0 : mo_sm m m0) (hj : ∀ j, j < 15 → m 51 j = m0 51 j) : mg_es M m0 q := by
  obtain ⟨⟨h1, h2, h3, h4, h5, h6⟩, h7, h8⟩ := h
  refine ⟨⟨fun k k0 k1 => (h1 k k0 k1).trans (h0.1 k k0 k1), fun j hj9 => (h2 j hj9).trans (hj j hj9), ?_, fun b b0 b1 => ?_, fun k k0 k1 => ?_, fun k k0 k1 => ?_⟩, ?_, fun a a0 a1 => ?_⟩
  · rw [h3, h0.1 61 (by decide) (by decide), h0.2 1 (by decide)]
  · rw [← h0.2 1 (by decide)] at b1; rw [h4 b b0 b1, h0.1 61 (by decide) (by decide)]
  · rw [h5 k k0 k1, mg_P_sm h0, h0.2 7 (by decide)]
  · rw [h6 k k0 k1, mg_S_sm h0, h0.2 7 (by decide)]
  · rw [h7, mg_D_sm h0]
  · rw [h8 a a0 a1, mg_T_sm h0]
abbrev rm_X5_worstOf : Room := { frames := 6, cells := 0, slots := 0, locals := 117 }
theorem my_X5_worstOf : en_MY yX5_worstOf RX5 cX5_worstOf 6 (some .int) wsX5_worstOf 1 := ⟨⟨_, rfl⟩, rfl, by decide, by decide, by decide +kernel, by decide +kernel⟩
set_option maxRecDepth 20000 in
theorem fl_X5_worstOf_74 : en_FL wsX5_worstOf RX5 74 5 7 := ⟨_, _, _, rfl, by decide, by decide +kernel, Or.inl (by decide +kernel)⟩
set_option maxRecDepth 100000 in
set_option maxHeartbeats 4000000 in
theorem lp_X5_worstOf {κ : en_C} {m : en_M} {q : Int} (hW : en_Wok (en_w κ)) (hP : en_Has (en_w κ) 0 68) (h : en_Ok κ RX5 cX5_worstOf 6 wsX5_worstOf rm_X5_worstOf) (hf : en_fin κ rm_X5_worstOf (some .int) (fun r m' => r = some (en_I (mg_wm m q)) ∧ mg_es m' m q)) (hl : xo_ln m) (hm : xo_mt m) (hr : ∀ b, 0 ≤ b → b < m 51 1 → 0 ≤ m 61 b ∧ m 61 b ≤ b) (hq : en_i32 q) : ∀ (f i : Nat), (f : Int) + i = m 51 7 → ∀ M : en_M, mg_es M m q → en_G κ 12 [some (en_R 51), some (en_I q), some (en_I (gm_wm (mo_io m) (mg_ws m q) q i).1), some (en_L (gm_wm (mo_io m) (mg_ws m q) q i).2), none, some (en_I (i : Int))] [] M (0 + rm_X5_estimate.cells) (0 + rm_X5_estimate.slots) := by
  have hI : ∀ k, 0 ≤ k → k < 68 → en_in κ k := hP
  have n7 := hm.1
  intro f
  induction f with
  | zero =>
    intro i hi M es
    refine en_iload (i := 5) h dX5_worstOf_12 rfl ?_
    refine en_aload_n (i := 0) h dX5_worstOf_14 rfl rfl ?_
    refine en_getI (i := 7) h dX5_worstOf_15 fl_X5_worstOf_74 (hI _ (by omega) (by omega)) rfl rfl rfl (v9 := m 51 7) (es.1.2.1 7 (by decide)) ?_
    refine en_icmp_ge (tgt := 58) h dX5_worstOf_18 (by decide) (by omega) (by omega) (fun c_18 => ?_) (fun c_18 => ?_)
    · refine en_iload_n (i := 2) h dX5_worstOf_58 rfl rfl ?_
      exact en_iret h hf dX5_worstOf_59 ⟨by decide, by decide⟩ ⟨by unfold mg_wm; rw [show (m 51 7).toNat = i by omega], es⟩
    · exact absurd c_18 (by omega)
  | succ f ih =>
    intro i hi M es
    have lM := mg_in_ln es.1 hl
    have mM := mg_in_mt es.1 hm
    have e7 := es.1.2.1 7 (by decide)
    have v := mM.2 i (by omega) (by omega)
    have io := mo_io_32 hl hm hr (i := (i : Int)) ⟨by omega, by omega⟩
    have ih9 := ih (i + 1) (by omega)
    simp only [gm_wm] at ih9
    refine en_iload (i := 5) h dX5_worstOf_12 rfl ?_
    refine en_aload_n (i := 0) h dX5_worstOf_14 rfl rfl ?_
    refine en_getI (i := 7) h dX5_worstOf_15 fl_X5_worstOf_74 (hI _ (by omega) (by omega)) rfl rfl rfl (v9 := m 51 7) (es.1.2.1 7 (by decide)) ?_
    refine en_icmp_ge (tgt := 58) h dX5_worstOf_18 (by decide) (by omega) (by omega) (fun c_18 => ?_) (fun c_18 => ?_)
    · exact absurd c_18 (by omega)
    · refine en_aload_n (i := 0) h dX5_worstOf_21 rfl rfl ?_
      refine en_iload (i := 5) h dX5_worstOf_22 rfl ?_
      refine en_callV h (k_X5_countedIn hW hI lM ⟨by omega, by omega⟩ v.1 v.2.1) my_X5_countedIn gX5_worstOf_X5_countedIn (hI _ (by omega) (by omega)) rfl rfl rfl rfl ⟨by decide, by decide⟩ ⟨by decide, by decide⟩ (Nat.le_of_ble_eq_true rfl) dX5_worstOf_24 (fun r M0 hp => ?_)
      obtain ⟨rfl, e0⟩ := hp
      subst e0
      rw [mo_io_sm (mg_in_sm es.1)]
      refine en_iload_n (i := 1) h dX5_worstOf_27 rfl rfl ?_
      refine en_icmp_ne (tgt := 52) h dX5_worstOf_28 (by decide) (by omega) (by omega) (fun c_28 => ?_) (fun c_28 => ?_)
      · rw [if_neg (fun z => c_28 z.1)] at ih9
        refine en_iinc h dX5_worstOf_52 rfl (by decide) ?_
        refine en_goto (tgt := 12) h dX5_worstOf_55 (by decide) ?_
        exact ih9 _ es
      · refine en_aload_n (i := 0) h dX5_worstOf_31 rfl rfl ?_
        refine en_iload (i := 5) h dX5_worstOf_32 rfl ?_
        refine en_callV h (k_X5_size hW hI hl hm hr es ⟨by omega, by omega⟩) my_X5_size gX5_worstOf_X5_size (hI _ (by omega) (by omega)) rfl rfl rfl rfl ⟨by decide, by decide⟩ ⟨by decide, by decide⟩ (Nat.le_of_ble_eq_true rfl) dX5_worstOf_34 (fun r M2 hp => ?_)
        obtain ⟨rfl, es2⟩ := hp
        refine en_lload_n (i := 3) h dX5_worstOf_37 rfl rfl ?_
        refine en_lcmp h dX5_worstOf_38 ?_
        refine en_if_le (tgt := 52) h dX5_worstOf_39 (by decide) (en_cmp_r _ _) (fun c_39 => ?_) (fun c_39 => ?_)
        · rw [if_neg (fun z => by have z2 := (en_cmp_le _ _).mp c_39; omega)] at ih9
          refine en_iinc h dX5_worstOf_52 rfl (by decide) ?_
          refine en_goto (tgt := 12) h dX5_worstOf_55 (by decide) ?_
          exact ih9 _ es2
        · rw [if_pos ⟨c_28, (en_cmp_gt _ _).mp c_39⟩] at ih9
          refine en_iload (i := 5) h dX5_worstOf_42 rfl ?_
          refine en_istore_n (i := 2) h dX5_worstOf_44 rfl (by decide) ?_
          refine en_aload_n (i := 0) h dX5_worstOf_45 rfl rfl ?_
          refine en_iload (i := 5) h dX5_worstOf_46 rfl ?_
          refine en_callV h (k_X5_size hW hI hl hm hr es2 ⟨by omega, by omega⟩) my_X5_size gX5_worstOf_X5_size (hI _ (by omega) (by omega)) rfl rfl rfl rfl ⟨by decide, by decide⟩ ⟨by decide, by decide⟩ (Nat.le_of_ble_eq_true rfl) dX5_worstOf_48 (fun r M3 hp => ?_)
          obtain ⟨rfl, es3⟩ := hp
          refine en_lstore_n (i := 3) h dX5_worstOf_51 rfl (by decide) ?_
          refine en_iinc h dX5_worstOf_52 rfl (by decide) ?_
          refine en_goto (tgt := 12) h dX5_worstOf_55 (by decide) ?_
          exact ih9 _ es3
set_option maxRecDepth 100000 in
set_option maxHeartbeats 4000000 in
theorem k_X5_worstOf {l : Launch} {w : en_W} {m : en_M} {q : Int} (hw : en_Wok w) (hp : en_Has w 0 68) (hl : xo_ln m) (hm : xo_mt m) (hr : ∀ b, 0 ≤ b → b < m 51 1 → 0 ≤ m 61 b ∧ m 61 b ≤ b) (hq : en_i32 q) : en_Met l w yX5_worstOf wsX5_worstOf rm_X5_worstOf [en_R 51, en_I q] m (fun r m' => r = some (en_I (mg_wm m q)) ∧ mg_es m' m q) := by
  refine en_met my_X5_worstOf hw (Nat.le_of_ble_eq_true rfl) ?_
  intro κ hl9 hw9 h hf
  subst hw9
  subst hl9
  have hI : ∀ k, 0 ≤ k → k < 68 → en_in κ k := hp
  have n7 := hm.1
  refine en_aload_n (i := 0) h dX5_worstOf_0 rfl rfl ?_
  refine en_iload_n (i := 1) h dX5_worstOf_1 rfl rfl ?_
  refine en_callV h (k_X5_estimate hw hI hl hm hq hr) my_X5_estimate gX5_worstOf_X5_estimate (hI _ (by omega) (by omega)) rfl rfl rfl rfl ⟨by decide, by decide⟩ ⟨by decide, by decide⟩ (Nat.le_of_ble_eq_true rfl) dX5_worstOf_2 (fun r M1 hp => ?_)
  obtain ⟨rfl, es⟩ := hp
  refine en_iconst h dX5_worstOf_5 ?_
  refine en_istore_n (i := 2) h dX5_worstOf_6 rfl (by decide) ?_
  refine en_lconst (z := 0) h dX5_worstOf_7 rfl ?_
  refine en_lstore_n (i := 3) h dX5_worstOf_8 rfl (by decide) ?_
  refine en_iconst h dX5_worstOf_9 ?_
  refine en_istore (i := 5) h dX5_worstOf_10 (by decide) ?_
  exact lp_X5_worstOf hw hI h hf hl hm hr hq (m 51 7).toNat 0 (by omega) M1 es
/-- the public methods keep all but the scratch, and note the refusal -/
def mo_fr (M m : en_M) (c : Int) : Prop := (∀ k, k ≠ 51 → (k < 61 ∨ 67 < k) → M k = m k) ∧ (∀ j, (j = 1 ∨ j = 2 ∨ j = 7) → M 51 j = m 51 j) ∧ M 51 0 = c
/-- the memory of a query: references found, refusal noted -/
def mo_qm (m : en_M) (c : Int) : en_M := en_set (mo_dv m) 51 0 c
theorem mo_qm_k {m : en_M} {c k : Int} (h : k ≠ 51) : mo_qm m c k = mo_dv m k := en_set_ne h
theorem mo_qm_kk {m : en_M} {c k : Int} (h : k ≠ 51) (h2 : k ≠ 61) : mo_qm m c k = m k := by rw [mo_qm_k h, mo_dv_k h2]
theorem mo_qm_j {m : en_M} {c j : Int} (h : j ≠ 0) : mo_qm m c 51 j = m 51 j := by
  unfold mo_qm
  rw [en_set_nj h, mo_dv_k (by decide)]
theorem mo_qm_0 {m : en_M} {c : Int} : mo_qm m c 51 0 = c := en_set_at
theorem mo_dv_0 {m : en_M} {c : Int} : mo_sm (mo_dv (en_set m 51 0 c)) (mo_qm m c) := by
  refine ⟨fun k k0 k1 => ?_, fun j hj => by rw [mo_dv_k (by decide)]; unfold mo_qm en_set; rw [mo_dv_k (k := 51) (by decide)]⟩
  rw [mo_qm_k k0]
  by_cases e : k = 61
  · subst e
    funext b
    unfold mo_dv
    rw [en_set_ne (k' := 52) (by decide), en_set_ne (k' := 53) (by decide), en_set_ne (k' := 55) (by decide), en_set_nj (j' := 2) (by decide), en_set_nj (j' := 1) (by decide)]
    unfold en_ar
    split
    · rfl
    · rw [en_set_ne (by decide)]
  · rw [mo_dv_k e, mo_dv_k e, en_set_ne k0]
theorem mo_qm_fr {M m : en_M} {c : Int} (h : mo_sm M (mo_qm m c)) (h0 : M 51 0 = c) : mo_fr M m c := ⟨fun k k0 k1 => by rw [h.1 k k0 (by omega), mo_qm_kk k0 (by omega)], fun j hj => by rw [h.2 j hj, mo_qm_j (by omega)], h0⟩
theorem mo_dv_qm {m : en_M} {c : Int} : mo_sm (mo_dv m) (mo_qm m c) := ⟨fun k k0 k1 => (mo_qm_k k0).symm, fun j hj => by rw [mo_qm_j (by omega), mo_dv_k (by decide)]⟩
theorem mo_rf_0 {m : en_M} {c : Int} : mo_dv (en_set m 51 0 c) 51 0 = c := by rw [mo_dv_k (by decide), en_set_at]
theorem mo_qm_ln {m : en_M} {c : Int} (hl : xo_ln m) : xo_ln (mo_qm m c) := xo_ln_k (fun k hk => mo_qm_kk (by omega) (by omega)) (mo_qm_j (by decide)) (mo_qm_j (by decide)) hl
theorem mo_qm_mt {m : en_M} {c : Int} (hl : xo_mt m) : xo_mt (mo_qm m c) := xo_mt_k (fun k hk => mo_qm_kk (by omega) (by omega)) (mo_qm_j (by decide)) (mo_qm_j (by decide)) (mo_qm_j (by decide)) hl
theorem mo_qm_rf {m : en_M} {c : Int} (hl : xo_ln m) : ∀ b, 0 ≤ b → b < mo_qm m c 51 1 → 0 ≤ mo_qm m c 61 b ∧ mo_qm m c 61 b ≤ b := fun b b0 b1 => by
  rw [mo_qm_j (by decide)] at b1
  rw [mo_qm_k (by decide)]
  exact mo_dv_rng hl b0 b1
theorem mr_rk_cong {P P' : Int → Int} (h : ∀ k, 0 ≤ k → k < 16 → P k = P' k) : ∀ n : Nat, mr_rk P n = mr_rk P' n
  | 0 => rfl
  | n + 1 => by
    simp only [mr_rk]
    rw [mr_rk_cong h n, md_cong (fun k k0 k1 => mp_c_cong (s := (n : Int)) (h k k0 k1))]
abbrev rm_X5_rank : Room := { frames := 5, cells := 0, slots := 0, locals := 88 }
theorem my_X5_rank : en_MY yX5_rank RX5 cX5_rank 2 (some .int) wsX5_rank 1 := ⟨⟨_, rfl⟩, rfl, by decide, by decide, by decide +kernel, by decide +kernel⟩
set_option maxRecDepth 20000 in
theorem fl_X5_rank_38 : en_FL wsX5_rank RX5 38 5 13 := ⟨_, _, _, rfl, by decide, by decide +kernel, Or.inl (by decide +kernel)⟩
def mo_rk (m : en_M) (q : Int) : Int := mr_rk (mg_P m q (-1) (m 51 7).toNat) (gm_p (gs_cu (m 61) q (m 51 1).toNat)).toNat
set_option maxRecDepth 100000 in
set_option maxHeartbeats 4000000 in
theorem k_X5_rank {l : Launch} {w : en_W} {m : en_M} {b : Int} (hw : en_Wok w) (hp : en_Has w 0 68) (hl : xo_ln m) (hm : xo_mt m) (ri : en_i32 b) : en_Met l w yX5_rank wsX5_rank rm_X5_rank [en_R 51, en_I b] m (fun r m' => (¬ (0 ≤ b ∧ b < m 51 1) ∧ r = some (en_I 0) ∧ m' = en_set m 51 0 1) ∨ ((0 ≤ b ∧ b < m 51 1) ∧ r = some (en_I (mo_rk (mo_qm m 0) (mo_dv m 61 b))) ∧ mo_fr m' m 0)) := by
  refine en_met my_X5_rank hw (Nat.le_of_ble_eq_true rfl) ?_
  intro κ hl9 hw9 h hf
  subst hw9
  subst hl9
  have hI : ∀ k, 0 ≤ k → k < 68 → en_in κ k := hp
  have n1 := hl.1
  refine en_aload_n (i := 0) h dX5_rank_0 rfl rfl ?_
  refine en_aload_n (i := 0) h dX5_rank_1 rfl rfl ?_
  refine en_iload_n (i := 1) h dX5_rank_2 rfl rfl ?_
  refine en_callV h (k_X5_isBus hw hI ri (by omega)) my_X5_isBus gX5_rank_X5_isBus (hI _ (by omega) (by omega)) rfl rfl rfl rfl ⟨by decide, by decide⟩ ⟨by decide, by decide⟩ (Nat.le_of_ble_eq_true rfl) dX5_rank_3 (fun r M1 hp => ?_)
  obtain ⟨rfl, e1⟩ := hp
  subst e1
  refine en_if_eq (tgt := 13) h dX5_rank_6 (by decide) (by split <;> omega) (fun c_6 => ?_) (fun c_6 => ?_)
  · have c9 : ¬ (0 ≤ b ∧ b < M1 51 1) := fun z => by rw [if_pos z] at c_6; omega
    refine en_iconst h dX5_rank_13 ?_
    refine en_callV h (k_X5_refused hw hI (by decide)) my_X5_refused gX5_rank_X5_refused (hI _ (by omega) (by omega)) rfl rfl rfl rfl ⟨by decide, by decide⟩ ⟨by decide, by decide⟩ (Nat.le_of_ble_eq_true rfl) dX5_rank_14 (fun r M2 hp => ?_)
    obtain ⟨rfl, e1⟩ := hp
    subst e1
    refine en_if_eq (tgt := 22) h dX5_rank_17 (by decide) (by omega) (fun c_17 => ?_) (fun c_17 => ?_)
    · exact absurd c_17 (by decide)
    · refine en_iconst h dX5_rank_20 ?_
      exact en_iret h hf dX5_rank_21 ⟨by decide, by decide⟩ (Or.inl ⟨c9, rfl, rfl⟩)
  · have c9 : (0 ≤ b ∧ b < M1 51 1) := by apply Decidable.byContradiction; intro z; rw [if_neg z] at c_6; omega
    refine en_iconst h dX5_rank_9 ?_
    refine en_goto (tgt := 14) h dX5_rank_10 (by decide) ?_
    refine en_callV h (k_X5_refused hw hI (by decide)) my_X5_refused gX5_rank_X5_refused (hI _ (by omega) (by omega)) rfl rfl rfl rfl ⟨by decide, by decide⟩ ⟨by decide, by decide⟩ (Nat.le_of_ble_eq_true rfl) dX5_rank_14 (fun r M2 hp => ?_)
    obtain ⟨rfl, e1⟩ := hp
    subst e1
    have s0 := mo_dv_0 (m := M1) (c := 0)
    have l0 := xo_ln_sm s0 (mo_qm_ln hl)
    have m0 := xo_mt_sm s0 (mo_qm_mt hm)
    have r0 := xo_rf_sm s0 (mo_qm_rf hl)
    have q0 := mo_dv_rng hl c9.1 c9.2
    have eq : mo_dv (en_set M1 51 0 0) 61 b = mo_dv M1 61 b := by rw [s0.1 61 (by decide) (by decide), mo_qm_k (by decide)]
    refine en_if_eq (tgt := 22) h dX5_rank_17 (by decide) (by omega) (fun c_17 => ?_) (fun c_17 => ?_)
    · refine en_aload_n (i := 0) h dX5_rank_22 rfl rfl ?_
      refine en_callV h (k_X5_divide hw hI (xo_ln_k (fun k hk => en_set_ne (by omega)) (en_set_nj (by decide)) (en_set_nj (by decide)) hl)) my_X5_divide gX5_rank_X5_divide (hI _ (by omega) (by omega)) rfl rfl rfl rfl ⟨by decide, by decide⟩ ⟨by decide, by decide⟩ (Nat.le_of_ble_eq_true rfl) dX5_rank_23 (fun r M3 hp => ?_)
      obtain ⟨rfl, e1⟩ := hp
      subst e1
      refine en_aload_n (i := 0) h dX5_rank_26 rfl rfl ?_
      refine en_aload_n (i := 0) h dX5_rank_27 rfl rfl ?_
      refine en_getR h dX5_rank_28 fl_X5_rank_38 (hI _ (by omega) (by omega)) rfl rfl ?_
      refine en_iload_n (i := 1) h dX5_rank_31 rfl rfl ?_
      refine en_iaload h dX5_rank_32 (hI _ (by omega) (by omega)) rfl (by omega) eq ?_
      refine en_iconst h dX5_rank_33 ?_
      refine en_callV h (k_X5_gather hw hI l0 m0 (q := mo_dv M1 61 b) (by omega) (by decide) r0) my_X5_gather gX5_rank_X5_gather (hI _ (by omega) (by omega)) rfl rfl rfl rfl ⟨by decide, by decide⟩ ⟨by decide, by decide⟩ (Nat.le_of_ble_eq_true rfl) dX5_rank_34 (fun r M4 hp => ?_)
      obtain ⟨rfl, g1⟩ := hp
      have s1 := mo_sm_tr (mg_in_sm g1) s0
      have ec := g1.2.2.1
      rw [s0.1 61 (by decide) (by decide), s0.2 1 (by decide)] at ec
      have e1' : mo_qm M1 0 51 1 = M1 51 1 := mo_qm_j (by decide)
      have z1 := gs_cu_rng (mo_qm M1 0 61) (mo_dv M1 61 b) (mo_qm M1 0 51 1).toNat
      have z2 := gs_cu_lt (R := mo_qm M1 0 61) (q := mo_dv M1 61 b) (by omega) (mo_qm M1 0 51 1).toNat (by omega)
      refine en_aload_n (i := 0) h dX5_rank_37 rfl rfl ?_
      refine en_callV h (k_X5_rankNow hw hI ec ⟨by omega, by omega⟩) my_X5_rankNow gX5_rank_X5_rankNow (hI _ (by omega) (by omega)) rfl rfl rfl rfl ⟨by decide, by decide⟩ ⟨by decide, by decide⟩ (Nat.le_of_ble_eq_true rfl) dX5_rank_38 (fun r M5 hp => ?_)
      obtain ⟨rfl, g2⟩ := hp
      have ek : mr_rk (M4 64) (gm_p (gs_cu (mo_qm M1 0 61) (mo_dv M1 61 b) (mo_qm M1 0 51 1).toNat)).toNat = mo_rk (mo_qm M1 0) (mo_dv M1 61 b) := by
        unfold mo_rk
        refine mr_rk_cong (fun k k0 k1 => ?_) _
        rw [g1.2.2.2.2.1 k k0 k1, mg_P_sm s0, s0.2 7 (by decide)]
      rw [ek]
      exact en_iret h hf dX5_rank_41 ⟨by decide, by decide⟩ (Or.inr ⟨c9, rfl, mo_qm_fr (mo_sm_tr ⟨fun k k0 k1 => g2 k (by omega), fun j hj => by rw [g2 51 (by decide)]⟩ s1) (by rw [g2 51 (by decide), g1.2.1 0 (by decide), mo_rf_0])⟩)
    · exact absurd rfl c_17
abbrev rm_X5_isObservable : Room := { frames := 5, cells := 0, slots := 0, locals := 94 }
theorem my_X5_isObservable : en_MY yX5_isObservable RX5 cX5_isObservable 2 (some .boolean) wsX5_isObservable 1 := ⟨⟨_, rfl⟩, rfl, by decide, by decide, by decide +kernel, by decide +kernel⟩
set_option maxRecDepth 20000 in
theorem fl_X5_isObservable_38 : en_FL wsX5_isObservable RX5 38 5 13 := ⟨_, _, _, rfl, by decide, by decide +kernel, Or.inl (by decide +kernel)⟩
set_option maxRecDepth 100000 in
set_option maxHeartbeats 4000000 in
theorem k_X5_isObservable {l : Launch} {w : en_W} {m : en_M} {b : Int} (hw : en_Wok w) (hp : en_Has w 0 68) (hl : xo_ln m) (hm : xo_mt m) (ri : en_i32 b) : en_Met l w yX5_isObservable wsX5_isObservable rm_X5_isObservable [en_R 51, en_I b] m (fun r m' => (¬ (0 ≤ b ∧ b < m 51 1) ∧ r = some (en_I 0) ∧ m' = en_set m 51 0 1) ∨ ((0 ≤ b ∧ b < m 51 1) ∧ r = some (en_I (if en_w64 (mg_D (mo_qm m 0) (mo_dv m 61 b) (-1)) = 0 then 0 else 1)) ∧ mo_fr m' m 0)) := by
  refine en_met my_X5_isObservable hw (Nat.le_of_ble_eq_true rfl) ?_
  intro κ hl9 hw9 h hf
  subst hw9
  subst hl9
  have hI : ∀ k, 0 ≤ k → k < 68 → en_in κ k := hp
  have n1 := hl.1
  refine en_aload_n (i := 0) h dX5_isObservable_0 rfl rfl ?_
  refine en_aload_n (i := 0) h dX5_isObservable_1 rfl rfl ?_
  refine en_iload_n (i := 1) h dX5_isObservable_2 rfl rfl ?_
  refine en_callV h (k_X5_isBus hw hI ri (by omega)) my_X5_isBus gX5_isObservable_X5_isBus (hI _ (by omega) (by omega)) rfl rfl rfl rfl ⟨by decide, by decide⟩ ⟨by decide, by decide⟩ (Nat.le_of_ble_eq_true rfl) dX5_isObservable_3 (fun r M1 hp => ?_)
  obtain ⟨rfl, e1⟩ := hp
  subst e1
  refine en_if_eq (tgt := 13) h dX5_isObservable_6 (by decide) (by split <;> omega) (fun c_6 => ?_) (fun c_6 => ?_)
  · have c9 : ¬ (0 ≤ b ∧ b < M1 51 1) := fun z => by rw [if_pos z] at c_6; omega
    refine en_iconst h dX5_isObservable_13 ?_
    refine en_callV h (k_X5_refused hw hI (by decide)) my_X5_refused gX5_isObservable_X5_refused (hI _ (by omega) (by omega)) rfl rfl rfl rfl ⟨by decide, by decide⟩ ⟨by decide, by decide⟩ (Nat.le_of_ble_eq_true rfl) dX5_isObservable_14 (fun r M2 hp => ?_)
    obtain ⟨rfl, e1⟩ := hp
    subst e1
    refine en_if_eq (tgt := 22) h dX5_isObservable_17 (by decide) (by omega) (fun c_17 => ?_) (fun c_17 => ?_)
    · exact absurd c_17 (by decide)
    · refine en_iconst h dX5_isObservable_20 ?_
      exact en_zret h hf dX5_isObservable_21 ⟨by decide, by decide⟩ (by omega) (Or.inl ⟨c9, rfl, rfl⟩)
  · have c9 : (0 ≤ b ∧ b < M1 51 1) := by apply Decidable.byContradiction; intro z; rw [if_neg z] at c_6; omega
    refine en_iconst h dX5_isObservable_9 ?_
    refine en_goto (tgt := 14) h dX5_isObservable_10 (by decide) ?_
    refine en_callV h (k_X5_refused hw hI (by decide)) my_X5_refused gX5_isObservable_X5_refused (hI _ (by omega) (by omega)) rfl rfl rfl rfl ⟨by decide, by decide⟩ ⟨by decide, by decide⟩ (Nat.le_of_ble_eq_true rfl) dX5_isObservable_14 (fun r M2 hp => ?_)
    obtain ⟨rfl, e1⟩ := hp
    subst e1
    have s0 := mo_dv_0 (m := M1) (c := 0)
    have l0 := xo_ln_sm s0 (mo_qm_ln hl)
    have m0 := xo_mt_sm s0 (mo_qm_mt hm)
    have r0 := xo_rf_sm s0 (mo_qm_rf hl)
    have q0 := mo_dv_rng hl c9.1 c9.2
    have eq : mo_dv (en_set M1 51 0 0) 61 b = mo_dv M1 61 b := by rw [s0.1 61 (by decide) (by decide), mo_qm_k (by decide)]
    refine en_if_eq (tgt := 22) h dX5_isObservable_17 (by decide) (by omega) (fun c_17 => ?_) (fun c_17 => ?_)
    · refine en_aload_n (i := 0) h dX5_isObservable_22 rfl rfl ?_
      refine en_callV h (k_X5_divide hw hI (xo_ln_k (fun k hk => en_set_ne (by omega)) (en_set_nj (by decide)) (en_set_nj (by decide)) hl)) my_X5_divide gX5_isObservable_X5_divide (hI _ (by omega) (by omega)) rfl rfl rfl rfl ⟨by decide, by decide⟩ ⟨by decide, by decide⟩ (Nat.le_of_ble_eq_true rfl) dX5_isObservable_23 (fun r M3 hp => ?_)
      obtain ⟨rfl, e1⟩ := hp
      subst e1
      refine en_aload_n (i := 0) h dX5_isObservable_26 rfl rfl ?_
      refine en_aload_n (i := 0) h dX5_isObservable_27 rfl rfl ?_
      refine en_getR h dX5_isObservable_28 fl_X5_isObservable_38 (hI _ (by omega) (by omega)) rfl rfl ?_
      refine en_iload_n (i := 1) h dX5_isObservable_31 rfl rfl ?_
      refine en_iaload h dX5_isObservable_32 (hI _ (by omega) (by omega)) rfl (by omega) eq ?_
      refine en_callV h (k_X5_sees hw hI l0 m0 (q := mo_dv M1 61 b) (by omega) r0) my_X5_sees gX5_isObservable_X5_sees (hI _ (by omega) (by omega)) rfl rfl rfl rfl ⟨by decide, by decide⟩ ⟨by decide, by decide⟩ (Nat.le_of_ble_eq_true rfl) dX5_isObservable_33 (fun r M4 hp => ?_)
      obtain ⟨rfl, g1, g2⟩ := hp
      rw [mg_D_sm s0]
      exact en_zret h hf dX5_isObservable_36 ⟨by decide, by decide⟩ (by split <;> omega) (Or.inr ⟨c9, rfl, mo_qm_fr (mo_sm_tr (mg_in_sm g1) s0) (by rw [g1.2.1 0 (by decide), mo_rf_0])⟩)
    · exact absurd rfl c_17
abbrev rm_X5_isCritical : Room := { frames := 6, cells := 0, slots := 0, locals := 116 }
theorem my_X5_isCritical : en_MY yX5_isCritical RX5 cX5_isCritical 2 (some .boolean) wsX5_isCritical 1 := ⟨⟨_, rfl⟩, rfl, by decide, by decide, by decide +kernel, by decide +kernel⟩
set_option maxRecDepth 100000 in
set_option maxHeartbeats 4000000 in
theorem k_X5_isCritical {l : Launch} {w : en_W} {m : en_M} {i : Int} (hw : en_Wok w) (hp : en_Has w 0 68) (hl : xo_ln m) (hm : xo_mt m) (ri : en_i32 i) : en_Met l w yX5_isCritical wsX5_isCritical rm_X5_isCritical [en_R 51, en_I i] m (fun r m' => (¬ (0 ≤ i ∧ i < m 51 7) ∧ r = some (en_I 0) ∧ m' = en_set m 51 0 1) ∨ ((0 ≤ i ∧ i < m 51 7) ∧ r = some (en_I (if mo_nd (mo_qm m 0) i then 1 else 0)) ∧ mo_fr m' m 0)) := by
  refine en_met my_X5_isCritical hw (Nat.le_of_ble_eq_true rfl) ?_
  intro κ hl9 hw9 h hf
  subst hw9
  subst hl9
  have hI : ∀ k, 0 ≤ k → k < 68 → en_in κ k := hp
  have n7 := hm.1
  refine en_aload_n (i := 0) h dX5_isCritical_0 rfl rfl ?_
  refine en_aload_n (i := 0) h dX5_isCritical_1 rfl rfl ?_
  refine en_iload_n (i := 1) h dX5_isCritical_2 rfl rfl ?_
  refine en_callV h (k_X5_isMeter hw hI ri (by omega)) my_X5_isMeter gX5_isCritical_X5_isMeter (hI _ (by omega) (by omega)) rfl rfl rfl rfl ⟨by decide, by decide⟩ ⟨by decide, by decide⟩ (Nat.le_of_ble_eq_true rfl) dX5_isCritical_3 (fun r M1 hp => ?_)
  obtain ⟨rfl, e1⟩ := hp
  subst e1
  refine en_if_eq (tgt := 13) h dX5_isCritical_6 (by decide) (by split <;> omega) (fun c_6 => ?_) (fun c_6 => ?_)
  · have c9 : ¬ (0 ≤ i ∧ i < M1 51 7) := fun z => by rw [if_pos z] at c_6; omega
    refine en_iconst h dX5_isCritical_13 ?_
    refine en_callV h (k_X5_refused hw hI (by decide)) my_X5_refused gX5_isCritical_X5_refused (hI _ (by omega) (by omega)) rfl rfl rfl rfl ⟨by decide, by decide⟩ ⟨by decide, by decide⟩ (Nat.le_of_ble_eq_true rfl) dX5_isCritical_14 (fun r M2 hp => ?_)
    obtain ⟨rfl, e1⟩ := hp
    subst e1
    refine en_if_eq (tgt := 22) h dX5_isCritical_17 (by decide) (by omega) (fun c_17 => ?_) (fun c_17 => ?_)
    · exact absurd c_17 (by decide)
    · refine en_iconst h dX5_isCritical_20 ?_
      exact en_zret h hf dX5_isCritical_21 ⟨by decide, by decide⟩ (by omega) (Or.inl ⟨c9, rfl, rfl⟩)
  · have c9 : (0 ≤ i ∧ i < M1 51 7) := by apply Decidable.byContradiction; intro z; rw [if_neg z] at c_6; omega
    refine en_iconst h dX5_isCritical_9 ?_
    refine en_goto (tgt := 14) h dX5_isCritical_10 (by decide) ?_
    refine en_callV h (k_X5_refused hw hI (by decide)) my_X5_refused gX5_isCritical_X5_refused (hI _ (by omega) (by omega)) rfl rfl rfl rfl ⟨by decide, by decide⟩ ⟨by decide, by decide⟩ (Nat.le_of_ble_eq_true rfl) dX5_isCritical_14 (fun r M2 hp => ?_)
    obtain ⟨rfl, e1⟩ := hp
    subst e1
    have s0 := mo_dv_0 (m := M1) (c := 0)
    have l0 := xo_ln_sm s0 (mo_qm_ln hl)
    have m0 := xo_mt_sm s0 (mo_qm_mt hm)
    have r0 := xo_rf_sm s0 (mo_qm_rf hl)
    have e7 : mo_dv (en_set M1 51 0 0) 51 7 = M1 51 7 := by rw [mo_dv_k (by decide), en_set_nj (by decide)]
    have nd := mo_nd_sm s0 i
    refine en_if_eq (tgt := 22) h dX5_isCritical_17 (by decide) (by omega) (fun c_17 => ?_) (fun c_17 => ?_)
    · refine en_aload_n (i := 0) h dX5_isCritical_22 rfl rfl ?_
      refine en_callV h (k_X5_divide hw hI (xo_ln_k (fun k hk => en_set_ne (by omega)) (en_set_nj (by decide)) (en_set_nj (by decide)) hl)) my_X5_divide gX5_isCritical_X5_divide (hI _ (by omega) (by omega)) rfl rfl rfl rfl ⟨by decide, by decide⟩ ⟨by decide, by decide⟩ (Nat.le_of_ble_eq_true rfl) dX5_isCritical_23 (fun r M3 hp => ?_)
      obtain ⟨rfl, e1⟩ := hp
      subst e1
      refine en_aload_n (i := 0) h dX5_isCritical_26 rfl rfl ?_
      refine en_iload_n (i := 1) h dX5_isCritical_27 rfl rfl ?_
      refine en_callV h (k_X5_isNeeded hw hI l0 m0 r0 ⟨c9.1, by omega⟩) my_X5_isNeeded gX5_isCritical_X5_isNeeded (hI _ (by omega) (by omega)) rfl rfl rfl rfl ⟨by decide, by decide⟩ ⟨by decide, by decide⟩ (Nat.le_of_ble_eq_true rfl) dX5_isCritical_28 (fun r M4 hp => ?_)
      obtain ⟨rfl, g1⟩ := hp
      have e9 : (if mo_nd (mo_dv (en_set M1 51 0 0)) i then (1 : Int) else 0) = if mo_nd (mo_qm M1 0) i then 1 else 0 := by
        by_cases z : mo_nd (mo_qm M1 0) i
        · rw [if_pos z, if_pos (nd.mpr z)]
        · rw [if_neg z, if_neg (fun y => z (nd.mp y))]
      rw [e9]
      exact en_zret h hf dX5_isCritical_31 ⟨by decide, by decide⟩ (by split <;> omega) (Or.inr ⟨c9, rfl, mo_qm_fr (mo_sm_tr g1.1 s0) (by rw [g1.2, mo_rf_0])⟩)
    · exact absurd rfl c_17
