/-! MODEL 11: residuals, the worst meter, cleaning -/
abbrev rm_X5_residualNumerator : Room := { frames := 7, cells := 0, slots := 0, locals := 139 }
theorem my_X5_residualNumerator : en_MY yX5_residualNumerator RX5 cX5_residualNumerator 2 (some .long) wsX5_residualNumerator 1 := ⟨⟨_, rfl⟩, rfl, by decide, by decide, by decide +kernel, by decide +kernel⟩
set_option maxRecDepth 20000 in
theorem fl_X5_residualNumerator_139 : en_FL wsX5_residualNumerator RX5 139 5 22 := ⟨_, _, _, rfl, by decide, by decide +kernel, Or.inl (by decide +kernel)⟩
set_option maxRecDepth 100000 in
set_option maxHeartbeats 4000000 in
theorem k_X5_residualNumerator {l : Launch} {w : en_W} {m : en_M} {i : Int} (hw : en_Wok w) (hp : en_Has w 0 68) (hl : xo_ln m) (hm : xo_mt m) (ri : en_i32 i) (hb : 0 ≤ i → i < m 51 7 → mo_iu (mo_qm m 0) i ≠ -1 → en_w64 (mg_D (mo_qm m 0) (mo_iu (mo_qm m 0) i) (-1)) ≠ 0 → mo_bd (mo_qm m 0) (mo_iu (mo_qm m 0) i) (mg_rs (mo_qm m 0) (mo_iu (mo_qm m 0) i) i)) : en_Met l w yX5_residualNumerator wsX5_residualNumerator rm_X5_residualNumerator [en_R 51, en_I i] m (fun r m' => (¬ (0 ≤ i ∧ i < m 51 7) ∧ r = some (en_L 0) ∧ mo_fr m' m 1) ∨ ((0 ≤ i ∧ i < m 51 7) ∧ ¬ (mo_iu (mo_qm m 0) i ≠ -1 ∧ en_w64 (mg_D (mo_qm m 0) (mo_iu (mo_qm m 0) i) (-1)) ≠ 0) ∧ r = some (en_L 0) ∧ mo_fr m' m 2) ∨ ((0 ≤ i ∧ i < m 51 7) ∧ (mo_iu (mo_qm m 0) i ≠ -1 ∧ en_w64 (mg_D (mo_qm m 0) (mo_iu (mo_qm m 0) i) (-1)) ≠ 0) ∧ r = some (en_L ((mg_rs (mo_qm m 0) (mo_iu (mo_qm m 0) i) i).tdiv (xg (mg_rs (mo_qm m 0) (mo_iu (mo_qm m 0) i) i) (mg_D (mo_qm m 0) (mo_iu (mo_qm m 0) i) (-1))))) ∧ mo_fr m' m 0)) := by
  refine en_met my_X5_residualNumerator hw (Nat.le_of_ble_eq_true rfl) ?_
  intro κ hl9 hw9 h hf
  subst hw9
  subst hl9
  have hI : ∀ k, 0 ≤ k → k < 68 → en_in κ k := hp
  refine en_aload_n (i := 0) h dX5_residualNumerator_0 rfl rfl ?_
  refine en_iload_n (i := 1) h dX5_residualNumerator_1 rfl rfl ?_
  refine en_callV h (k_X5_noResidual hw hI hl hm ri hb) my_X5_noResidual gX5_residualNumerator_X5_noResidual (hI _ (by omega) (by omega)) rfl rfl rfl rfl ⟨by decide, by decide⟩ ⟨by decide, by decide⟩ (Nat.le_of_ble_eq_true rfl) dX5_residualNumerator_2 (fun r M1 hp => ?_)
  rcases hp with ⟨c9, rfl, f1⟩ | ⟨c9, c8, rfl, f1⟩ | ⟨c9, c8, rfl, f1, f2, f3⟩
  · refine en_if_eq (tgt := 12) h dX5_residualNumerator_5 (by decide) (by omega) (fun c_5 => ?_) (fun c_5 => ?_)
    · exact absurd c_5 (by decide)
    · refine en_lconst (z := 0) h dX5_residualNumerator_8 rfl ?_
      refine en_goto (tgt := 16) h dX5_residualNumerator_9 (by decide) ?_
      exact en_lret h hf dX5_residualNumerator_16 ⟨by decide, by decide⟩ (Or.inl ⟨c9, rfl, f1⟩)
  · refine en_if_eq (tgt := 12) h dX5_residualNumerator_5 (by decide) (by omega) (fun c_5 => ?_) (fun c_5 => ?_)
    · exact absurd c_5 (by decide)
    · refine en_lconst (z := 0) h dX5_residualNumerator_8 rfl ?_
      refine en_goto (tgt := 16) h dX5_residualNumerator_9 (by decide) ?_
      exact en_lret h hf dX5_residualNumerator_16 ⟨by decide, by decide⟩ (Or.inr (Or.inl ⟨c9, c8, rfl, f1⟩))
  · refine en_if_eq (tgt := 12) h dX5_residualNumerator_5 (by decide) (by omega) (fun c_5 => ?_) (fun c_5 => ?_)
    · refine en_aload_n (i := 0) h dX5_residualNumerator_12 rfl rfl ?_
      refine en_getL (i := 22) h dX5_residualNumerator_13 fl_X5_residualNumerator_139 (hI _ (by omega) (by omega)) rfl rfl rfl f2 ?_
      exact en_lret h hf dX5_residualNumerator_16 ⟨by decide, by decide⟩ (Or.inr (Or.inr ⟨c9, c8, rfl, f1⟩))
    · exact absurd rfl c_5
abbrev rm_X5_residualDenominator : Room := { frames := 7, cells := 0, slots := 0, locals := 139 }
theorem my_X5_residualDenominator : en_MY yX5_residualDenominator RX5 cX5_residualDenominator 2 (some .long) wsX5_residualDenominator 1 := ⟨⟨_, rfl⟩, rfl, by decide, by decide, by decide +kernel, by decide +kernel⟩
set_option maxRecDepth 20000 in
theorem fl_X5_residualDenominator_142 : en_FL wsX5_residualDenominator RX5 142 5 23 := ⟨_, _, _, rfl, by decide, by decide +kernel, Or.inl (by decide +kernel)⟩
set_option maxRecDepth 100000 in
set_option maxHeartbeats 4000000 in
theorem k_X5_residualDenominator {l : Launch} {w : en_W} {m : en_M} {i : Int} (hw : en_Wok w) (hp : en_Has w 0 68) (hl : xo_ln m) (hm : xo_mt m) (ri : en_i32 i) (hb : 0 ≤ i → i < m 51 7 → mo_iu (mo_qm m 0) i ≠ -1 → en_w64 (mg_D (mo_qm m 0) (mo_iu (mo_qm m 0) i) (-1)) ≠ 0 → mo_bd (mo_qm m 0) (mo_iu (mo_qm m 0) i) (mg_rs (mo_qm m 0) (mo_iu (mo_qm m 0) i) i)) : en_Met l w yX5_residualDenominator wsX5_residualDenominator rm_X5_residualDenominator [en_R 51, en_I i] m (fun r m' => (¬ (0 ≤ i ∧ i < m 51 7) ∧ r = some (en_L 0) ∧ mo_fr m' m 1) ∨ ((0 ≤ i ∧ i < m 51 7) ∧ ¬ (mo_iu (mo_qm m 0) i ≠ -1 ∧ en_w64 (mg_D (mo_qm m 0) (mo_iu (mo_qm m 0) i) (-1)) ≠ 0) ∧ r = some (en_L 0) ∧ mo_fr m' m 2) ∨ ((0 ≤ i ∧ i < m 51 7) ∧ (mo_iu (mo_qm m 0) i ≠ -1 ∧ en_w64 (mg_D (mo_qm m 0) (mo_iu (mo_qm m 0) i) (-1)) ≠ 0) ∧ r = some (en_L ((mg_D (mo_qm m 0) (mo_iu (mo_qm m 0) i) (-1)).tdiv (xg (mg_rs (mo_qm m 0) (mo_iu (mo_qm m 0) i) i) (mg_D (mo_qm m 0) (mo_iu (mo_qm m 0) i) (-1))))) ∧ mo_fr m' m 0)) := by
  refine en_met my_X5_residualDenominator hw (Nat.le_of_ble_eq_true rfl) ?_
  intro κ hl9 hw9 h hf
  subst hw9
  subst hl9
  have hI : ∀ k, 0 ≤ k → k < 68 → en_in κ k := hp
  refine en_aload_n (i := 0) h dX5_residualDenominator_0 rfl rfl ?_
  refine en_iload_n (i := 1) h dX5_residualDenominator_1 rfl rfl ?_
  refine en_callV h (k_X5_noResidual hw hI hl hm ri hb) my_X5_noResidual gX5_residualDenominator_X5_noResidual (hI _ (by omega) (by omega)) rfl rfl rfl rfl ⟨by decide, by decide⟩ ⟨by decide, by decide⟩ (Nat.le_of_ble_eq_true rfl) dX5_residualDenominator_2 (fun r M1 hp => ?_)
  rcases hp with ⟨c9, rfl, f1⟩ | ⟨c9, c8, rfl, f1⟩ | ⟨c9, c8, rfl, f1, f2, f3⟩
  · refine en_if_eq (tgt := 12) h dX5_residualDenominator_5 (by decide) (by omega) (fun c_5 => ?_) (fun c_5 => ?_)
    · exact absurd c_5 (by decide)
    · refine en_lconst (z := 0) h dX5_residualDenominator_8 rfl ?_
      refine en_goto (tgt := 16) h dX5_residualDenominator_9 (by decide) ?_
      exact en_lret h hf dX5_residualDenominator_16 ⟨by decide, by decide⟩ (Or.inl ⟨c9, rfl, f1⟩)
  · refine en_if_eq (tgt := 12) h dX5_residualDenominator_5 (by decide) (by omega) (fun c_5 => ?_) (fun c_5 => ?_)
    · exact absurd c_5 (by decide)
    · refine en_lconst (z := 0) h dX5_residualDenominator_8 rfl ?_
      refine en_goto (tgt := 16) h dX5_residualDenominator_9 (by decide) ?_
      exact en_lret h hf dX5_residualDenominator_16 ⟨by decide, by decide⟩ (Or.inr (Or.inl ⟨c9, c8, rfl, f1⟩))
  · refine en_if_eq (tgt := 12) h dX5_residualDenominator_5 (by decide) (by omega) (fun c_5 => ?_) (fun c_5 => ?_)
    · refine en_aload_n (i := 0) h dX5_residualDenominator_12 rfl rfl ?_
      refine en_getL (i := 23) h dX5_residualDenominator_13 fl_X5_residualDenominator_142 (hI _ (by omega) (by omega)) rfl rfl rfl f3 ?_
      exact en_lret h hf dX5_residualDenominator_16 ⟨by decide, by decide⟩ (Or.inr (Or.inr ⟨c9, c8, rfl, f1⟩))
    · exact absurd rfl c_5
abbrev rm_X5_worst : Room := { frames := 7, cells := 0, slots := 0, locals := 142 }
theorem my_X5_worst : en_MY yX5_worst RX5 cX5_worst 2 (some .int) wsX5_worst 1 := ⟨⟨_, rfl⟩, rfl, by decide, by decide, by decide +kernel, by decide +kernel⟩
set_option maxRecDepth 20000 in
theorem fl_X5_worst_38 : en_FL wsX5_worst RX5 38 5 13 := ⟨_, _, _, rfl, by decide, by decide +kernel, Or.inl (by decide +kernel)⟩
set_option maxRecDepth 100000 in
set_option maxHeartbeats 4000000 in
theorem k_X5_worst {l : Launch} {w : en_W} {m : en_M} {b : Int} (hw : en_Wok w) (hp : en_Has w 0 68) (hl : xo_ln m) (hm : xo_mt m) (ri : en_i32 b) : en_Met l w yX5_worst wsX5_worst rm_X5_worst [en_R 51, en_I b] m (fun r m' => (¬ (0 ≤ b ∧ b < m 51 1) ∧ r = some (en_I 0) ∧ mo_fr m' m 1) ∨ ((0 ≤ b ∧ b < m 51 1) ∧ en_w64 (mg_D (mo_qm m 0) (mo_dv m 61 b) (-1)) = 0 ∧ r = some (en_I 0) ∧ mo_fr m' m 2) ∨ ((0 ≤ b ∧ b < m 51 1) ∧ en_w64 (mg_D (mo_qm m 0) (mo_dv m 61 b) (-1)) ≠ 0 ∧ r = some (en_I (mg_wm (mo_qm m 0) (mo_dv m 61 b))) ∧ mo_fr m' m 0)) := by
  refine en_met my_X5_worst hw (Nat.le_of_ble_eq_true rfl) ?_
  intro κ hl9 hw9 h hf
  subst hw9
  subst hl9
  have hI : ∀ k, 0 ≤ k → k < 68 → en_in κ k := hp
  have n1 := hl.1
  have sd : mo_sm (mo_dv m) (mo_qm m 0) := mo_dv_qm
  have l0 := xo_ln_sm sd (mo_qm_ln hl)
  have m0 := xo_mt_sm sd (mo_qm_mt hm)
  have r0 := xo_rf_sm sd (mo_qm_rf hl)
  have e1d : mo_dv m 51 1 = m 51 1 := by rw [mo_dv_k (by decide)]
  refine en_aload_n (i := 0) h dX5_worst_0 rfl rfl ?_
  refine en_callV h (k_X5_divide hw hI hl) my_X5_divide gX5_worst_X5_divide (hI _ (by omega) (by omega)) rfl rfl rfl rfl ⟨by decide, by decide⟩ ⟨by decide, by decide⟩ (Nat.le_of_ble_eq_true rfl) dX5_worst_1 (fun r M1 hp => ?_)
  obtain ⟨rfl, e1⟩ := hp
  subst e1
  refine en_aload_n (i := 0) h dX5_worst_4 rfl rfl ?_
  refine en_aload_n (i := 0) h dX5_worst_5 rfl rfl ?_
  refine en_iload_n (i := 1) h dX5_worst_6 rfl rfl ?_
  refine en_callV h (k_X5_isBus hw hI ri (by omega)) my_X5_isBus gX5_worst_X5_isBus (hI _ (by omega) (by omega)) rfl rfl rfl rfl ⟨by decide, by decide⟩ ⟨by decide, by decide⟩ (Nat.le_of_ble_eq_true rfl) dX5_worst_7 (fun r M2 hp => ?_)
  obtain ⟨rfl, e1⟩ := hp
  subst e1
  refine en_if_ne (tgt := 17) h dX5_worst_10 (by decide) (by split <;> omega) (fun c_10 => ?_) (fun c_10 => ?_)
  · have c9 : (0 ≤ b ∧ b < m 51 1) := by apply Decidable.byContradiction; intro z; rw [if_neg (by rw [e1d]; exact z)] at c_10; omega
    have q0 := mo_dv_rng hl c9.1 c9.2
    refine en_aload_n (i := 0) h dX5_worst_17 rfl rfl ?_
    refine en_aload_n (i := 0) h dX5_worst_18 rfl rfl ?_
    refine en_getR h dX5_worst_19 fl_X5_worst_38 (hI _ (by omega) (by omega)) rfl rfl ?_
    refine en_iload_n (i := 1) h dX5_worst_22 rfl rfl ?_
    refine en_iaload h dX5_worst_23 (hI _ (by omega) (by omega)) rfl (by omega) rfl ?_
    refine en_callV h (k_X5_sees hw hI l0 m0 (q := mo_dv m 61 b) (by omega) r0) my_X5_sees gX5_worst_X5_sees (hI _ (by omega) (by omega)) rfl rfl rfl rfl ⟨by decide, by decide⟩ ⟨by decide, by decide⟩ (Nat.le_of_ble_eq_true rfl) dX5_worst_24 (fun r M3 hp => ?_)
    obtain ⟨rfl, g1, g2⟩ := hp
    rw [mg_D_sm sd]
    refine en_if_eq (tgt := 34) h dX5_worst_27 (by decide) (by split <;> omega) (fun c_27 => ?_) (fun c_27 => ?_)
    · have c8 : en_w64 (mg_D (mo_qm m 0) (mo_dv m 61 b) (-1)) = 0 := by apply Decidable.byContradiction; intro z; rw [if_neg z] at c_27; omega
      refine en_iconst h dX5_worst_34 ?_
      refine en_callV h (k_X5_refused hw hI (by decide)) my_X5_refused gX5_worst_X5_refused (hI _ (by omega) (by omega)) rfl rfl rfl rfl ⟨by decide, by decide⟩ ⟨by decide, by decide⟩ (Nat.le_of_ble_eq_true rfl) dX5_worst_35 (fun r M4 hp => ?_)
      obtain ⟨rfl, e4⟩ := hp
      subst e4
      refine en_if_eq (tgt := 43) h dX5_worst_38 (by decide) (by omega) (fun c_38 => ?_) (fun c_38 => ?_)
      · exact absurd c_38 (by decide)
      · refine en_iconst h dX5_worst_41 ?_
        exact en_iret h hf dX5_worst_42 ⟨by decide, by decide⟩ (Or.inr (Or.inl ⟨c9, c8, rfl, mo_qm_fr (mo_qm_of (mg_in_sm g1)) en_set_at⟩))
    · have c8 : en_w64 (mg_D (mo_qm m 0) (mo_dv m 61 b) (-1)) ≠ 0 := fun z => by rw [if_pos z] at c_27; omega
      refine en_iconst h dX5_worst_30 ?_
      refine en_goto (tgt := 35) h dX5_worst_31 (by decide) ?_
      refine en_callV h (k_X5_refused hw hI (by decide)) my_X5_refused gX5_worst_X5_refused (hI _ (by omega) (by omega)) rfl rfl rfl rfl ⟨by decide, by decide⟩ ⟨by decide, by decide⟩ (Nat.le_of_ble_eq_true rfl) dX5_worst_35 (fun r M4 hp => ?_)
      obtain ⟨rfl, e4⟩ := hp
      have s4 : mo_sm M4 (mo_qm m 0) := by rw [e4]; exact mo_qm_of (mg_in_sm g1)
      have z4 : M4 51 0 = 0 := by rw [e4, en_set_at]
      have l4 := xo_ln_sm s4 (mo_qm_ln hl)
      have m4 := xo_mt_sm s4 (mo_qm_mt hm)
      have r4 := xo_rf_sm s4 (mo_qm_rf hl)
      have q4 : M4 61 b = mo_dv m 61 b := by rw [s4.1 61 (by decide) (by decide), mo_qm_k (by decide)]
      clear e4
      refine en_if_eq (tgt := 43) h dX5_worst_38 (by decide) (by omega) (fun c_38 => ?_) (fun c_38 => ?_)
      · refine en_aload_n (i := 0) h dX5_worst_43 rfl rfl ?_
        refine en_aload_n (i := 0) h dX5_worst_44 rfl rfl ?_
        refine en_getR h dX5_worst_45 fl_X5_worst_38 (hI _ (by omega) (by omega)) rfl rfl ?_
        refine en_iload_n (i := 1) h dX5_worst_48 rfl rfl ?_
        refine en_iaload h dX5_worst_49 (hI _ (by omega) (by omega)) rfl (by omega) q4 ?_
        refine en_callV h (k_X5_worstOf hw hI l4 m4 r4 (q := mo_dv m 61 b) (by omega)) my_X5_worstOf gX5_worst_X5_worstOf (hI _ (by omega) (by omega)) rfl rfl rfl rfl ⟨by decide, by decide⟩ ⟨by decide, by decide⟩ (Nat.le_of_ble_eq_true rfl) dX5_worst_50 (fun r M5 hp => ?_)
        obtain ⟨rfl, es⟩ := hp
        rw [mg_wm_sm s4]
        exact en_iret h hf dX5_worst_53 ⟨by decide, by decide⟩ (Or.inr (Or.inr ⟨c9, c8, rfl, mo_qm_fr (mo_sm_tr (mg_in_sm es.1) s4) (by rw [es.1.2.1 0 (by decide), z4])⟩))
      · exact absurd rfl c_38
  · have c9 : ¬ (0 ≤ b ∧ b < m 51 1) := fun z => by rw [if_pos (by rw [e1d]; exact z)] at c_10; omega
    refine en_iconst h dX5_worst_13 ?_
    refine en_goto (tgt := 35) h dX5_worst_14 (by decide) ?_
    refine en_callV h (k_X5_refused hw hI (by decide)) my_X5_refused gX5_worst_X5_refused (hI _ (by omega) (by omega)) rfl rfl rfl rfl ⟨by decide, by decide⟩ ⟨by decide, by decide⟩ (Nat.le_of_ble_eq_true rfl) dX5_worst_35 (fun r M4 hp => ?_)
    obtain ⟨rfl, e4⟩ := hp
    subst e4
    refine en_if_eq (tgt := 43) h dX5_worst_38 (by decide) (by omega) (fun c_38 => ?_) (fun c_38 => ?_)
    · exact absurd c_38 (by decide)
    · refine en_iconst h dX5_worst_41 ?_
      exact en_iret h hf dX5_worst_42 ⟨by decide, by decide⟩ (Or.inl ⟨c9, rfl, mo_qm_fr (mo_qm_of (mo_sm_rf _)) en_set_at⟩)
/-- whether the model drops the worst meter; what is left then -/
abbrev mc_dr (m : en_M) (q lim : Int) : Prop := mg_wm m q ≠ -1 ∧ en_w64 (lim * mg_D m q (-1)) < en_w64 (mg_ws m q (mg_wm m q)) ∧ ¬ mo_nd m (mg_wm m q)
def mc_st (m : en_M) (q lim : Int) : en_M := if mc_dr m q lim then en_set m 60 (mg_wm m q) 0 else m
def mc_cl (q lim : Int) : Nat → en_M → Int × en_M
  | 0, m => (0, m)
  | n + 1, m => if mc_dr m q lim then ((mc_cl q lim n (mc_st m q lim)).1 + 1, (mc_cl q lim n (mc_st m q lim)).2) else (0, m)
/-- how many of the first n meters are used -/
def mc_us (m : en_M) : Nat → Nat
  | 0 => 0
  | n + 1 => mc_us m n + (if m 60 (n : Int) = 0 then 0 else 1)
theorem mc_us_le (m : en_M) : ∀ n : Nat, mc_us m n ≤ n
  | 0 => Nat.le_refl _
  | n + 1 => by
    have h := mc_us_le m n
    simp only [mc_us]
    split <;> omega
theorem mc_us_set {m : en_M} {i : Int} : ∀ n : Nat, (mc_us (en_set m 60 i 0) n ≤ mc_us m n) ∧ (0 ≤ i → i < (n : Int) → m 60 i ≠ 0 → mc_us (en_set m 60 i 0) n + 1 ≤ mc_us m n)
  | 0 => ⟨Nat.le_refl _, fun _ _ _ => by omega⟩
  | n + 1 => by
    obtain ⟨h1, h2⟩ := mc_us_set (m := m) (i := i) n
    simp only [mc_us]
    by_cases e : (n : Int) = i
    · rw [e, en_set_at, if_pos rfl]
      refine ⟨by omega, fun _ _ h3 => ?_⟩
      rw [if_neg h3]
      omega
    · rw [en_set_nj e]
      refine ⟨by omega, fun h3 h4 h5 => ?_⟩
      have z := h2 h3 (by omega) h5
      omega
theorem gm_wm_io {io ws : Int → Int} {q : Int} : ∀ n : Nat, (gm_wm io ws q n).1 ≠ -1 → io (gm_wm io ws q n).1 = q
  | 0, h => absurd rfl h
  | n + 1, h => by
    simp only [gm_wm] at h ⊢
    by_cases c : io (n : Int) = q ∧ en_w64 (gm_wm io ws q n).2 < en_w64 (ws (n : Int))
    · rw [if_pos c]
      exact c.1
    · rw [if_neg c] at h ⊢
      exact gm_wm_io n h
theorem mg_wm_us {m : en_M} {q : Int} (hq : 0 ≤ q) (h : mg_wm m q ≠ -1) : m 60 (mg_wm m q) ≠ 0 := by
  have z := gm_wm_io (io := mo_io m) (ws := mg_ws m q) (q := q) (m 51 7).toNat h
  intro e
  have z2 : mo_io m (mg_wm m q) = q := z
  unfold mo_io at z2
  rw [if_pos e] at z2
  omega
theorem mc_us_0 {m : en_M} : ∀ n : Nat, mc_us m n = 0 → ∀ i, 0 ≤ i → i < (n : Int) → m 60 i = 0
  | 0, _, i, h0, h1 => by omega
  | n + 1, h, i, h0, h1 => by
    simp only [mc_us] at h
    by_cases e : i = (n : Int)
    · subst e
      apply Decidable.byContradiction
      intro c
      rw [if_neg c] at h
      omega
    · exact mc_us_0 n (by omega) i h0 (by omega)
theorem mc_st_ok {m : en_M} (hl : xo_ln m) (hm : xo_mt m) (hr : ∀ b, 0 ≤ b → b < m 51 1 → 0 ≤ m 61 b ∧ m 61 b ≤ b) (q lim : Int) : xo_ln (mc_st m q lim) ∧ xo_mt (mc_st m q lim) ∧ (∀ b, 0 ≤ b → b < (mc_st m q lim) 51 1 → 0 ≤ (mc_st m q lim) 61 b ∧ (mc_st m q lim) 61 b ≤ b) ∧ ∀ j, mc_st m q lim 51 j = m 51 j := by
  unfold mc_st
  split
  · refine ⟨xo_ln_k (fun k hk => en_set_ne (by omega)) (by rw [en_set_ne (by decide)]) (by rw [en_set_ne (by decide)]) hl, ?_, by rw [en_set_ne (by decide), en_set_ne (by decide)]; exact hr, fun j => by rw [en_set_ne (by decide)]⟩
    refine ⟨by rw [en_set_ne (by decide)]; exact hm.1, fun i i0 i1 => ?_⟩
    rw [en_set_ne (by decide)] at i1
    obtain ⟨v1, v2, v3⟩ := hm.2 i i0 i1
    refine ⟨?_, ?_, by rw [en_set_ne (by decide), en_set_ne (by decide)]; exact v3⟩
    · unfold xo_m
      rw [en_set_ne (by decide), en_set_ne (by decide), en_set_ne (by decide)]
      exact v1
    · unfold en_set
      split
      · exact Or.inl rfl
      · exact v2
  · exact ⟨hl, hm, hr, fun _ => rfl⟩
