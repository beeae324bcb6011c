/-! MODEL 10: the public methods that estimate -/
theorem mo_qm_of {M m : en_M} {c : Int} (h : mo_sm M (mo_dv m)) : mo_sm (en_set M 51 0 c) (mo_qm m c) := mo_sm_tr ⟨fun k k0 k1 => by rw [en_set_ne k0]; exact h.1 k k0 k1, fun j hj => by rw [en_set_nj (by omega)]; exact h.2 j hj⟩ mo_dv_qm
theorem mo_qm_js {M m : en_M} {c : Int} (h : ∀ j, j < 15 → M 51 j = mo_dv m 51 j) : ∀ j, j < 15 → en_set M 51 0 c 51 j = mo_qm m c 51 j := fun j hj => by
  by_cases e : j = 0
  · rw [e, en_set_at, mo_qm_0]
  · rw [en_set_nj e, mo_qm_j e, h j hj, mo_dv_k (by decide)]
theorem mo_qm_qm {m : en_M} {c c' : Int} : mo_sm (mo_qm m c) (mo_qm m c') := ⟨fun k k0 k1 => by rw [mo_qm_k k0, mo_qm_k k0], fun j hj => by rw [mo_qm_j (by omega), mo_qm_j (by omega)]⟩
/-- an angle's top; an estimate's values fit -/
def mo_tp (m : en_M) (q b : Int) : Int := if ma_ao (m 61) q b = -1 then 0 else mg_T m q (ma_ao (m 61) q b)
def mo_bd (m : en_M) (q x : Int) : Prop := (0 < mg_D m q (-1) ∧ mg_D m q (-1) < 9223372036854775808) ∧ (-9223372036854775808 < x ∧ x < 9223372036854775808)
abbrev rm_X5_noAngle : Room := { frames := 6, cells := 0, slots := 0, locals := 117 }
theorem my_X5_noAngle : en_MY yX5_noAngle RX5 cX5_noAngle 2 (some .boolean) wsX5_noAngle 1 := ⟨⟨_, rfl⟩, rfl, by decide, by decide, by decide +kernel, by decide +kernel⟩
set_option maxRecDepth 20000 in
theorem fl_X5_noAngle_38 : en_FL wsX5_noAngle RX5 38 5 13 := ⟨_, _, _, rfl, by decide, by decide +kernel, Or.inl (by decide +kernel)⟩
set_option maxRecDepth 20000 in
theorem fl_X5_noAngle_41 : en_FL wsX5_noAngle RX5 41 5 14 := ⟨_, _, _, rfl, by decide, by decide +kernel, Or.inl (by decide +kernel)⟩
set_option maxRecDepth 20000 in
theorem fl_X5_noAngle_57 : en_FL wsX5_noAngle RX5 57 5 20 := ⟨_, _, _, rfl, by decide, by decide +kernel, Or.inl (by decide +kernel)⟩
set_option maxRecDepth 20000 in
theorem fl_X5_noAngle_132 : en_FL wsX5_noAngle RX5 132 5 21 := ⟨_, _, _, rfl, by decide, by decide +kernel, Or.inl (by decide +kernel)⟩
set_option maxRecDepth 100000 in
set_option maxHeartbeats 4000000 in
theorem k_X5_noAngle {l : Launch} {w : en_W} {m : en_M} {b : Int} (hw : en_Wok w) (hp : en_Has w 0 68) (hl : xo_ln m) (hm : xo_mt m) (ri : en_i32 b) (hb : 0 ≤ b → b < m 51 1 → en_w64 (mg_D (mo_qm m 0) (mo_dv m 61 b) (-1)) ≠ 0 → mo_bd (mo_qm m 0) (mo_dv m 61 b) (mo_tp (mo_qm m 0) (mo_dv m 61 b) b)) : en_Met l w yX5_noAngle wsX5_noAngle rm_X5_noAngle [en_R 51, en_I b] m (fun r m' => (¬ (0 ≤ b ∧ b < m 51 1) ∧ r = some (en_I 1) ∧ mo_fr m' m 1) ∨ ((0 ≤ b ∧ b < m 51 1) ∧ en_w64 (mg_D (mo_qm m 0) (mo_dv m 61 b) (-1)) = 0 ∧ r = some (en_I 1) ∧ mo_fr m' m 2) ∨ ((0 ≤ b ∧ b < m 51 1) ∧ en_w64 (mg_D (mo_qm m 0) (mo_dv m 61 b) (-1)) ≠ 0 ∧ r = some (en_I 0) ∧ mo_fr m' m 0 ∧ m' 51 22 = (mo_tp (mo_qm m 0) (mo_dv m 61 b) b).tdiv (xg (mo_tp (mo_qm m 0) (mo_dv m 61 b) b) (mg_D (mo_qm m 0) (mo_dv m 61 b) (-1))) ∧ m' 51 23 = (mg_D (mo_qm m 0) (mo_dv m 61 b) (-1)).tdiv (xg (mo_tp (mo_qm m 0) (mo_dv m 61 b) b) (mg_D (mo_qm m 0) (mo_dv m 61 b) (-1))))) := by
  refine en_met my_X5_noAngle hw (Nat.le_of_ble_eq_true rfl) ?_
  intro κ hl9 hw9 h hf
  subst hw9
  subst hl9
  have hI : ∀ k, 0 ≤ k → k < 68 → en_in κ k := hp
  have n1 := hl.1
  have sd : mo_sm (mo_dv m) (mo_qm m 0) := mo_dv_qm
  have l0 := xo_ln_sm sd (mo_qm_ln hl)
  have m0 := xo_mt_sm sd (mo_qm_mt hm)
  have r0 := xo_rf_sm sd (mo_qm_rf hl)
  have e1d : mo_dv m 51 1 = m 51 1 := by rw [mo_dv_k (by decide)]
  refine en_aload_n (i := 0) h dX5_noAngle_0 rfl rfl ?_
  refine en_callV h (k_X5_divide hw hI hl) my_X5_divide gX5_noAngle_X5_divide (hI _ (by omega) (by omega)) rfl rfl rfl rfl ⟨by decide, by decide⟩ ⟨by decide, by decide⟩ (Nat.le_of_ble_eq_true rfl) dX5_noAngle_1 (fun r M1 hp => ?_)
  obtain ⟨rfl, e1⟩ := hp
  subst e1
  refine en_aload_n (i := 0) h dX5_noAngle_4 rfl rfl ?_
  refine en_aload_n (i := 0) h dX5_noAngle_5 rfl rfl ?_
  refine en_iload_n (i := 1) h dX5_noAngle_6 rfl rfl ?_
  refine en_callV h (k_X5_isBus hw hI ri (by omega)) my_X5_isBus gX5_noAngle_X5_isBus (hI _ (by omega) (by omega)) rfl rfl rfl rfl ⟨by decide, by decide⟩ ⟨by decide, by decide⟩ (Nat.le_of_ble_eq_true rfl) dX5_noAngle_7 (fun r M2 hp => ?_)
  obtain ⟨rfl, e1⟩ := hp
  subst e1
  refine en_if_ne (tgt := 17) h dX5_noAngle_10 (by decide) (by split <;> omega) (fun c_10 => ?_) (fun c_10 => ?_)
  · have c9 : (0 ≤ b ∧ b < m 51 1) := by apply Decidable.byContradiction; intro z; rw [if_neg (by rw [e1d]; exact z)] at c_10; omega
    have q0 := mo_dv_rng hl c9.1 c9.2
    refine en_aload_n (i := 0) h dX5_noAngle_17 rfl rfl ?_
    refine en_aload_n (i := 0) h dX5_noAngle_18 rfl rfl ?_
    refine en_getR h dX5_noAngle_19 fl_X5_noAngle_38 (hI _ (by omega) (by omega)) rfl rfl ?_
    refine en_iload_n (i := 1) h dX5_noAngle_22 rfl rfl ?_
    refine en_iaload h dX5_noAngle_23 (hI _ (by omega) (by omega)) rfl (by omega) rfl ?_
    refine en_callV h (k_X5_sees hw hI l0 m0 (q := mo_dv m 61 b) (by omega) r0) my_X5_sees gX5_noAngle_X5_sees (hI _ (by omega) (by omega)) rfl rfl rfl rfl ⟨by decide, by decide⟩ ⟨by decide, by decide⟩ (Nat.le_of_ble_eq_true rfl) dX5_noAngle_24 (fun r M3 hp => ?_)
    obtain ⟨rfl, g1, g2⟩ := hp
    rw [mg_D_sm sd]
    refine en_if_eq (tgt := 34) h dX5_noAngle_27 (by decide) (by split <;> omega) (fun c_27 => ?_) (fun c_27 => ?_)
    · have c8 : en_w64 (mg_D (mo_qm m 0) (mo_dv m 61 b) (-1)) = 0 := by apply Decidable.byContradiction; intro z; rw [if_neg z] at c_27; omega
      refine en_iconst h dX5_noAngle_34 ?_
      refine en_callV h (k_X5_refused hw hI (by decide)) my_X5_refused gX5_noAngle_X5_refused (hI _ (by omega) (by omega)) rfl rfl rfl rfl ⟨by decide, by decide⟩ ⟨by decide, by decide⟩ (Nat.le_of_ble_eq_true rfl) dX5_noAngle_35 (fun r M4 hp => ?_)
      obtain ⟨rfl, e4⟩ := hp
      subst e4
      refine en_if_eq (tgt := 43) h dX5_noAngle_38 (by decide) (by omega) (fun c_38 => ?_) (fun c_38 => ?_)
      · exact absurd c_38 (by decide)
      · refine en_iconst h dX5_noAngle_41 ?_
        exact en_zret h hf dX5_noAngle_42 ⟨by decide, by decide⟩ (by omega) (Or.inr (Or.inl ⟨c9, c8, rfl, mo_qm_fr (mo_qm_of (mg_in_sm g1)) en_set_at⟩))
    · have c8 : en_w64 (mg_D (mo_qm m 0) (mo_dv m 61 b) (-1)) ≠ 0 := fun z => by rw [if_pos z] at c_27; omega
      obtain ⟨d9, t9⟩ := hb c9.1 c9.2 c8
      refine en_iconst h dX5_noAngle_30 ?_
      refine en_goto (tgt := 35) h dX5_noAngle_31 (by decide) ?_
      refine en_callV h (k_X5_refused hw hI (by decide)) my_X5_refused gX5_noAngle_X5_refused (hI _ (by omega) (by omega)) rfl rfl rfl rfl ⟨by decide, by decide⟩ ⟨by decide, by decide⟩ (Nat.le_of_ble_eq_true rfl) dX5_noAngle_35 (fun r M4 hp => ?_)
      obtain ⟨rfl, e4⟩ := hp
      have s4 : mo_sm M4 (mo_qm m 0) := by rw [e4]; exact mo_qm_of (mg_in_sm g1)
      have j4 : ∀ j, j < 15 → M4 51 j = mo_qm m 0 51 j := by rw [e4]; exact mo_qm_js g1.2.1
      have z4 : M4 51 0 = 0 := by rw [e4, en_set_at]
      have l4 := xo_ln_sm s4 (mo_qm_ln hl)
      have m4 := xo_mt_sm s4 (mo_qm_mt hm)
      have r4 := xo_rf_sm s4 (mo_qm_rf hl)
      have q4 : M4 61 b = mo_dv m 61 b := by rw [s4.1 61 (by decide) (by decide), mo_qm_k (by decide)]
      clear e4
      refine en_if_eq (tgt := 43) h dX5_noAngle_38 (by decide) (by omega) (fun c_38 => ?_) (fun c_38 => ?_)
      · refine en_aload_n (i := 0) h dX5_noAngle_43 rfl rfl ?_
        refine en_aload_n (i := 0) h dX5_noAngle_44 rfl rfl ?_
        refine en_getR h dX5_noAngle_45 fl_X5_noAngle_38 (hI _ (by omega) (by omega)) rfl rfl ?_
        refine en_iload_n (i := 1) h dX5_noAngle_48 rfl rfl ?_
        refine en_iaload h dX5_noAngle_49 (hI _ (by omega) (by omega)) rfl (by omega) q4 ?_
        refine en_callV h (k_X5_estimate hw hI l4 m4 (q := mo_dv m 61 b) (by omega) r4) my_X5_estimate gX5_noAngle_X5_estimate (hI _ (by omega) (by omega)) rfl rfl rfl rfl ⟨by decide, by decide⟩ ⟨by decide, by decide⟩ (Nat.le_of_ble_eq_true rfl) dX5_noAngle_50 (fun r M5 hp => ?_)
        obtain ⟨rfl, es⟩ := hp
        have z5 : M5 51 0 = 0 := by rw [es.1.2.1 0 (by decide), z4]
        have es := mg_es_sm es s4 j4
        have ea := es.1.2.2.2.1 b c9.1 (by rw [mo_qm_j (by decide)]; exact c9.2)
        have lt := ma_ao_lt (R := mo_qm m 0 61) (q := mo_dv m 61 b) c9.1 (by omega) (mo_qm_rf hl b c9.1 (by rw [mo_qm_j (by decide)]; exact c9.2))
        have fin : ∀ M6 : en_M, M6 = en_set (en_set M5 51 22 ((mo_tp (mo_qm m 0) (mo_dv m 61 b) b).tdiv (xg (mo_tp (mo_qm m 0) (mo_dv m 61 b) b) (mg_D (mo_qm m 0) (mo_dv m 61 b) (-1))))) 51 23 ((mg_D (mo_qm m 0) (mo_dv m 61 b) (-1)).tdiv (xg (mo_tp (mo_qm m 0) (mo_dv m 61 b) b) (mg_D (mo_qm m 0) (mo_dv m 61 b) (-1)))) → mo_fr M6 m 0 ∧ M6 51 22 = (mo_tp (mo_qm m 0) (mo_dv m 61 b) b).tdiv (xg (mo_tp (mo_qm m 0) (mo_dv m 61 b) b) (mg_D (mo_qm m 0) (mo_dv m 61 b) (-1))) ∧ M6 51 23 = (mg_D (mo_qm m 0) (mo_dv m 61 b) (-1)).tdiv (xg (mo_tp (mo_qm m 0) (mo_dv m 61 b) b) (mg_D (mo_qm m 0) (mo_dv m 61 b) (-1))) := by
          intro M6 e6
          subst e6
          refine ⟨mo_qm_fr (mo_sm_tr ⟨fun k k0 k1 => by rw [en_set_ne k0, en_set_ne k0], fun j hj => by rw [en_set_nj (by omega), en_set_nj (by omega)]⟩ (mg_in_sm es.1)) (by rw [en_set_nj (by decide), en_set_nj (by decide)]; exact z5), by rw [en_set_nj (by decide), en_set_at], en_set_at⟩
        refine en_aload_n (i := 0) h dX5_noAngle_53 rfl rfl ?_
        refine en_aload_n (i := 0) h dX5_noAngle_54 rfl rfl ?_
        refine en_getR h dX5_noAngle_55 fl_X5_noAngle_41 (hI _ (by omega) (by omega)) rfl rfl ?_
        refine en_iload_n (i := 1) h dX5_noAngle_58 rfl rfl ?_
        refine en_iaload h dX5_noAngle_59 (hI _ (by omega) (by omega)) rfl (by omega) ea ?_
        refine en_iconst h dX5_noAngle_60 ?_
        refine en_icmp_ne (tgt := 68) h dX5_noAngle_61 (by decide) (by omega) (by omega) (fun c_61 => ?_) (fun c_61 => ?_)
        · have ct := c_61
          have et : mo_tp (mo_qm m 0) (mo_dv m 61 b) b = mg_T (mo_qm m 0) (mo_dv m 61 b) (ma_ao (mo_qm m 0 61) (mo_dv m 61 b) b) := by unfold mo_tp; rw [if_neg ct]
          refine en_aload_n (i := 0) h dX5_noAngle_68 rfl rfl ?_
          refine en_getR h dX5_noAngle_69 fl_X5_noAngle_57 (hI _ (by omega) (by omega)) rfl rfl ?_
          refine en_aload_n (i := 0) h dX5_noAngle_72 rfl rfl ?_
          refine en_getR h dX5_noAngle_73 fl_X5_noAngle_41 (hI _ (by omega) (by omega)) rfl rfl ?_
          refine en_iload_n (i := 1) h dX5_noAngle_76 rfl rfl ?_
          refine en_iaload h dX5_noAngle_77 (hI _ (by omega) (by omega)) rfl (by omega) ea ?_
          refine en_laload h dX5_noAngle_78 (hI _ (by omega) (by omega)) rfl (by omega) (v9 := mo_tp (mo_qm m 0) (mo_dv m 61 b) b) (by rw [et]; exact es.2.2 _ (by omega) (by omega)) ?_
          refine en_aload_n (i := 0) h dX5_noAngle_79 rfl rfl ?_
          refine en_getL (i := 21) h dX5_noAngle_80 fl_X5_noAngle_132 (hI _ (by omega) (by omega)) rfl rfl rfl es.2.1 ?_
          refine en_callV h (k_X5_reduce hw hI t9 d9) my_X5_reduce gX5_noAngle_X5_reduce (hI _ (by omega) (by omega)) rfl rfl rfl rfl ⟨by decide, by decide⟩ ⟨by decide, by decide⟩ (Nat.le_of_ble_eq_true rfl) dX5_noAngle_83 (fun r M6 hp => ?_)
          obtain ⟨rfl, e6⟩ := hp
          obtain ⟨f1, f2, f3⟩ := fin _ e6
          refine en_iconst h dX5_noAngle_86 ?_
          exact en_zret h hf dX5_noAngle_87 ⟨by decide, by decide⟩ (by omega) (Or.inr (Or.inr ⟨c9, c8, rfl, f1, f2, f3⟩))
        · have ct := c_61
          have et : (0 : Int) = mo_tp (mo_qm m 0) (mo_dv m 61 b) b := by unfold mo_tp; rw [if_pos ct]
          refine en_lconst (z := 0) h dX5_noAngle_64 rfl ?_
          refine en_goto (tgt := 79) h dX5_noAngle_65 (by decide) ?_
          refine en_aload_n (i := 0) h dX5_noAngle_79 rfl rfl ?_
          refine en_getL (i := 21) h dX5_noAngle_80 fl_X5_noAngle_132 (hI _ (by omega) (by omega)) rfl rfl rfl es.2.1 ?_
          refine en_callV h (k_X5_reduce hw hI (x := 0) (by omega) d9) my_X5_reduce gX5_noAngle_X5_reduce (hI _ (by omega) (by omega)) rfl rfl rfl rfl ⟨by decide, by decide⟩ ⟨by decide, by decide⟩ (Nat.le_of_ble_eq_true rfl) dX5_noAngle_83 (fun r M6 hp => ?_)
          obtain ⟨rfl, e6⟩ := hp
          obtain ⟨f1, f2, f3⟩ := fin M6 (by rw [← et]; exact e6)
          refine en_iconst h dX5_noAngle_86 ?_
          exact en_zret h hf dX5_noAngle_87 ⟨by decide, by decide⟩ (by omega) (Or.inr (Or.inr ⟨c9, c8, rfl, f1, f2, f3⟩))
      · exact absurd rfl c_38
  · have c9 : ¬ (0 ≤ b ∧ b < m 51 1) := fun z => by rw [if_pos (by rw [e1d]; exact z)] at c_10; omega
    refine en_iconst h dX5_noAngle_13 ?_
    refine en_goto (tgt := 35) h dX5_noAngle_14 (by decide) ?_
    refine en_callV h (k_X5_refused hw hI (by decide)) my_X5_refused gX5_noAngle_X5_refused (hI _ (by omega) (by omega)) rfl rfl rfl rfl ⟨by decide, by decide⟩ ⟨by decide, by decide⟩ (Nat.le_of_ble_eq_true rfl) dX5_noAngle_35 (fun r M4 hp => ?_)
    obtain ⟨rfl, e4⟩ := hp
    subst e4
    refine en_if_eq (tgt := 43) h dX5_noAngle_38 (by decide) (by omega) (fun c_38 => ?_) (fun c_38 => ?_)
    · exact absurd c_38 (by decide)
    · refine en_iconst h dX5_noAngle_41 ?_
      exact en_zret h hf dX5_noAngle_42 ⟨by decide, by decide⟩ (by omega) (Or.inl ⟨c9, rfl, mo_qm_fr (mo_qm_of (mo_sm_rf _)) en_set_at⟩)
abbrev rm_X5_angleNumerator : Room := { frames := 7, cells := 0, slots := 0, locals := 138 }
theorem my_X5_angleNumerator : en_MY yX5_angleNumerator RX5 cX5_angleNumerator 2 (some .long) wsX5_angleNumerator 1 := ⟨⟨_, rfl⟩, rfl, by decide, by decide, by decide +kernel, by decide +kernel⟩
set_option maxRecDepth 20000 in
theorem fl_X5_angleNumerator_139 : en_FL wsX5_angleNumerator RX5 139 5 22 := ⟨_, _, _, rfl, by decide, by decide +kernel, Or.inl (by decide +kernel)⟩
set_option maxRecDepth 100000 in
set_option maxHeartbeats 4000000 in
theorem k_X5_angleNumerator {l : Launch} {w : en_W} {m : en_M} {b : Int} (hw : en_Wok w) (hp : en_Has w 0 68) (hl : xo_ln m) (hm : xo_mt m) (ri : en_i32 b) (hb : 0 ≤ b → b < m 51 1 → en_w64 (mg_D (mo_qm m 0) (mo_dv m 61 b) (-1)) ≠ 0 → mo_bd (mo_qm m 0) (mo_dv m 61 b) (mo_tp (mo_qm m 0) (mo_dv m 61 b) b)) : en_Met l w yX5_angleNumerator wsX5_angleNumerator rm_X5_angleNumerator [en_R 51, en_I b] m (fun r m' => (¬ (0 ≤ b ∧ b < m 51 1) ∧ r = some (en_L 0) ∧ mo_fr m' m 1) ∨ ((0 ≤ b ∧ b < m 51 1) ∧ en_w64 (mg_D (mo_qm m 0) (mo_dv m 61 b) (-1)) = 0 ∧ r = some (en_L 0) ∧ mo_fr m' m 2) ∨ ((0 ≤ b ∧ b < m 51 1) ∧ en_w64 (mg_D (mo_qm m 0) (mo_dv m 61 b) (-1)) ≠ 0 ∧ r = some (en_L ((mo_tp (mo_qm m 0) (mo_dv m 61 b) b).tdiv (xg (mo_tp (mo_qm m 0) (mo_dv m 61 b) b) (mg_D (mo_qm m 0) (mo_dv m 61 b) (-1))))) ∧ mo_fr m' m 0)) := by
  refine en_met my_X5_angleNumerator hw (Nat.le_of_ble_eq_true rfl) ?_
  intro κ hl9 hw9 h hf
  subst hw9
  subst hl9
  have hI : ∀ k, 0 ≤ k → k < 68 → en_in κ k := hp
  refine en_aload_n (i := 0) h dX5_angleNumerator_0 rfl rfl ?_
  refine en_iload_n (i := 1) h dX5_angleNumerator_1 rfl rfl ?_
  refine en_callV h (k_X5_noAngle hw hI hl hm ri hb) my_X5_noAngle gX5_angleNumerator_X5_noAngle (hI _ (by omega) (by omega)) rfl rfl rfl rfl ⟨by decide, by decide⟩ ⟨by decide, by decide⟩ (Nat.le_of_ble_eq_true rfl) dX5_angleNumerator_2 (fun r M1 hp => ?_)
  rcases hp with ⟨c9, rfl, f1⟩ | ⟨c9, c8, rfl, f1⟩ | ⟨c9, c8, rfl, f1, f2, f3⟩
  · refine en_if_eq (tgt := 12) h dX5_angleNumerator_5 (by decide) (by omega) (fun c_5 => ?_) (fun c_5 => ?_)
    · exact absurd c_5 (by decide)
    · refine en_lconst (z := 0) h dX5_angleNumerator_8 rfl ?_
      refine en_goto (tgt := 16) h dX5_angleNumerator_9 (by decide) ?_
      exact en_lret h hf dX5_angleNumerator_16 ⟨by decide, by decide⟩ (Or.inl ⟨c9, rfl, f1⟩)
  · refine en_if_eq (tgt := 12) h dX5_angleNumerator_5 (by decide) (by omega) (fun c_5 => ?_) (fun c_5 => ?_)
    · exact absurd c_5 (by decide)
    · refine en_lconst (z := 0) h dX5_angleNumerator_8 rfl ?_
      refine en_goto (tgt := 16) h dX5_angleNumerator_9 (by decide) ?_
      exact en_lret h hf dX5_angleNumerator_16 ⟨by decide, by decide⟩ (Or.inr (Or.inl ⟨c9, c8, rfl, f1⟩))
  · refine en_if_eq (tgt := 12) h dX5_angleNumerator_5 (by decide) (by omega) (fun c_5 => ?_) (fun c_5 => ?_)
    · refine en_aload_n (i := 0) h dX5_angleNumerator_12 rfl rfl ?_
      refine en_getL (i := 22) h dX5_angleNumerator_13 fl_X5_angleNumerator_139 (hI _ (by omega) (by omega)) rfl rfl rfl f2 ?_
      exact en_lret h hf dX5_angleNumerator_16 ⟨by decide, by decide⟩ (Or.inr (Or.inr ⟨c9, c8, rfl, f1⟩))
    · exact absurd rfl c_5
abbrev rm_X5_angleDenominator : Room := { frames := 7, cells := 0, slots := 0, locals := 138 }
theorem my_X5_angleDenominator : en_MY yX5_angleDenominator RX5 cX5_angleDenominator 2 (some .long) wsX5_angleDenominator 1 := ⟨⟨_, rfl⟩, rfl, by decide, by decide, by decide +kernel, by decide +kernel⟩
set_option maxRecDepth 20000 in
theorem fl_X5_angleDenominator_142 : en_FL wsX5_angleDenominator RX5 142 5 23 := ⟨_, _, _, rfl, by decide, by decide +kernel, Or.inl (by decide +kernel)⟩
set_option maxRecDepth 100000 in
set_option maxHeartbeats 4000000 in
theorem k_X5_angleDenominator {l : Launch} {w : en_W} {m : en_M} {b : Int} (hw : en_Wok w) (hp : en_Has w 0 68) (hl : xo_ln m) (hm : xo_mt m) (ri : en_i32 b) (hb : 0 ≤ b → b < m 51 1 → en_w64 (mg_D (mo_qm m 0) (mo_dv m 61 b) (-1)) ≠ 0 → mo_bd (mo_qm m 0) (mo_dv m 61 b) (mo_tp (mo_qm m 0) (mo_dv m 61 b) b)) : en_Met l w yX5_angleDenominator wsX5_angleDenominator rm_X5_angleDenominator [en_R 51, en_I b] m (fun r m' => (¬ (0 ≤ b ∧ b < m 51 1) ∧ r = some (en_L 0) ∧ mo_fr m' m 1) ∨ ((0 ≤ b ∧ b < m 51 1) ∧ en_w64 (mg_D (mo_qm m 0) (mo_dv m 61 b) (-1)) = 0 ∧ r = some (en_L 0) ∧ mo_fr m' m 2) ∨ ((0 ≤ b ∧ b < m 51 1) ∧ en_w64 (mg_D (mo_qm m 0) (mo_dv m 61 b) (-1)) ≠ 0 ∧ r = some (en_L ((mg_D (mo_qm m 0) (mo_dv m 61 b) (-1)).tdiv (xg (mo_tp (mo_qm m 0) (mo_dv m 61 b) b) (mg_D (mo_qm m 0) (mo_dv m 61 b) (-1))))) ∧ mo_fr m' m 0)) := by
  refine en_met my_X5_angleDenominator hw (Nat.le_of_ble_eq_true rfl) ?_
  intro κ hl9 hw9 h hf
  subst hw9
  subst hl9
  have hI : ∀ k, 0 ≤ k → k < 68 → en_in κ k := hp
  refine en_aload_n (i := 0) h dX5_angleDenominator_0 rfl rfl ?_
  refine en_iload_n (i := 1) h dX5_angleDenominator_1 rfl rfl ?_
  refine en_callV h (k_X5_noAngle hw hI hl hm ri hb) my_X5_noAngle gX5_angleDenominator_X5_noAngle (hI _ (by omega) (by omega)) rfl rfl rfl rfl ⟨by decide, by decide⟩ ⟨by decide, by decide⟩ (Nat.le_of_ble_eq_true rfl) dX5_angleDenominator_2 (fun r M1 hp => ?_)
  rcases hp with ⟨c9, rfl, f1⟩ | ⟨c9, c8, rfl, f1⟩ | ⟨c9, c8, rfl, f1, f2, f3⟩
  · refine en_if_eq (tgt := 12) h dX5_angleDenominator_5 (by decide) (by omega) (fun c_5 => ?_) (fun c_5 => ?_)
    · exact absurd c_5 (by decide)
    · refine en_lconst (z := 0) h dX5_angleDenominator_8 rfl ?_
      refine en_goto (tgt := 16) h dX5_angleDenominator_9 (by decide) ?_
      exact en_lret h hf dX5_angleDenominator_16 ⟨by decide, by decide⟩ (Or.inl ⟨c9, rfl, f1⟩)
  · refine en_if_eq (tgt := 12) h dX5_angleDenominator_5 (by decide) (by omega) (fun c_5 => ?_) (fun c_5 => ?_)
    · exact absurd c_5 (by decide)
    · refine en_lconst (z := 0) h dX5_angleDenominator_8 rfl ?_
      refine en_goto (tgt := 16) h dX5_angleDenominator_9 (by decide) ?_
      exact en_lret h hf dX5_angleDenominator_16 ⟨by decide, by decide⟩ (Or.inr (Or.inl ⟨c9, c8, rfl, f1⟩))
  · refine en_if_eq (tgt := 12) h dX5_angleDenominator_5 (by decide) (by omega) (fun c_5 => ?_) (fun c_5 => ?_)
    · refine en_aload_n (i := 0) h dX5_angleDenominator_12 rfl rfl ?_
      refine en_getL (i := 23) h dX5_angleDenominator_13 fl_X5_angleDenominator_142 (hI _ (by omega) (by omega)) rfl rfl rfl f3 ?_
      exact en_lret h hf dX5_angleDenominator_16 ⟨by decide, by decide⟩ (Or.inr (Or.inr ⟨c9, c8, rfl, f1⟩))
    · exact absurd rfl c_5
abbrev rm_X5_noResidual : Room := { frames := 6, cells := 0, slots := 0, locals := 117 }
theorem my_X5_noResidual : en_MY yX5_noResidual RX5 cX5_noResidual 3 (some .boolean) wsX5_noResidual 1 := ⟨⟨_, rfl⟩, rfl, by decide, by decide, by decide +kernel, by decide +kernel⟩
set_option maxRecDepth 20000 in
theorem fl_X5_noResidual_132 : en_FL wsX5_noResidual RX5 132 5 21 := ⟨_, _, _, rfl, by decide, by decide +kernel, Or.inl (by decide +kernel)⟩
set_option maxRecDepth 100000 in
set_option maxHeartbeats 4000000 in
theorem k_X5_noResidual {l : Launch} {w : en_W} {m : en_M} {i : Int} (hw : en_Wok w) (hp : en_Has w 0 68) (hl : xo_ln m) (hm : xo_mt m) (ri : en_i32 i) (hb : 0 ≤ i → i < m 51 7 → mo_iu (mo_qm m 0) i ≠ -1 → en_w64 (mg_D (mo_qm m 0) (mo_iu (mo_qm m 0) i) (-1)) ≠ 0 → mo_bd (mo_qm m 0) (mo_iu (mo_qm m 0) i) (mg_rs (mo_qm m 0) (mo_iu (mo_qm m 0) i) i)) : en_Met l w yX5_noResidual wsX5_noResidual rm_X5_noResidual [en_R 51, en_I i] m (fun r m' => (¬ (0 ≤ i ∧ i < m 51 7) ∧ r = some (en_I 1) ∧ mo_fr m' m 1) ∨ ((0 ≤ i ∧ i < m 51 7) ∧ ¬ (mo_iu (mo_qm m 0) i ≠ -1 ∧ en_w64 (mg_D (mo_qm m 0) (mo_iu (mo_qm m 0) i) (-1)) ≠ 0) ∧ r = some (en_I 1) ∧ mo_fr m' m 2) ∨ ((0 ≤ i ∧ i < m 51 7) ∧ (mo_iu (mo_qm m 0) i ≠ -1 ∧ en_w64 (mg_D (mo_qm m 0) (mo_iu (mo_qm m 0) i) (-1)) ≠ 0) ∧ r = some (en_I 0) ∧ mo_fr m' m 0 ∧ m' 51 22 = (mg_rs (mo_qm m 0) (mo_iu (mo_qm m 0) i) i).tdiv (xg (mg_rs (mo_qm m 0) (mo_iu (mo_qm m 0) i) i) (mg_D (mo_qm m 0) (mo_iu (mo_qm m 0) i) (-1))) ∧ m' 51 23 = (mg_D (mo_qm m 0) (mo_iu (mo_qm m 0) i) (-1)).tdiv (xg (mg_rs (mo_qm m 0) (mo_iu (mo_qm m 0) i) i) (mg_D (mo_qm m 0) (mo_iu (mo_qm m 0) i) (-1))))) := by
  refine en_met my_X5_noResidual hw (Nat.le_of_ble_eq_true rfl) ?_
  intro κ hl9 hw9 h hf
  subst hw9
  subst hl9
  have hI : ∀ k, 0 ≤ k → k < 68 → en_in κ k := hp
  have n1 := hl.1
  have n7 := hm.1
  have sd : mo_sm (mo_dv m) (mo_qm m 0) := mo_dv_qm
  have l0 := xo_ln_sm sd (mo_qm_ln hl)
  have m0 := xo_mt_sm sd (mo_qm_mt hm)
  have r0 := xo_rf_sm sd (mo_qm_rf hl)
  have e7d : mo_dv m 51 7 = m 51 7 := by rw [mo_dv_k (by decide)]
  have two : ∀ (M : en_M) (o : Int), mo_sm M (mo_dv m) → (0 ≤ i ∧ i < m 51 7) → ¬ (mo_iu (mo_qm m 0) i ≠ -1 ∧ en_w64 (mg_D (mo_qm m 0) (mo_iu (mo_qm m 0) i) (-1)) ≠ 0) → en_G κ 52 [some (en_R 51), some (en_I i), some (en_I o)] [en_R 51] M (0 + rm_X5_divide.cells + rm_X5_isMeter.cells) (0 + rm_X5_divide.slots + rm_X5_isMeter.slots) := by
    intro M o hM c9 c8
    refine en_iconst h dX5_noResidual_52 ?_
    refine en_callV h (k_X5_refused hw hI (by decide)) my_X5_refused gX5_noResidual_X5_refused (hI _ (by omega) (by omega)) rfl rfl rfl rfl ⟨by decide, by decide⟩ ⟨by decide, by decide⟩ (Nat.le_of_ble_eq_true rfl) dX5_noResidual_53 (fun r M4 hp => ?_)
    obtain ⟨rfl, e4⟩ := hp
    subst e4
    refine en_if_eq (tgt := 61) h dX5_noResidual_56 (by decide) (by omega) (fun c_56 => ?_) (fun c_56 => ?_)
    · exact absurd c_56 (by decide)
    · refine en_iconst h dX5_noResidual_59 ?_
      exact en_zret h hf dX5_noResidual_60 ⟨by decide, by decide⟩ (by omega) (Or.inr (Or.inl ⟨c9, c8, rfl, mo_qm_fr (mo_qm_of hM) en_set_at⟩))
  refine en_aload_n (i := 0) h dX5_noResidual_0 rfl rfl ?_
  refine en_callV h (k_X5_divide hw hI hl) my_X5_divide gX5_noResidual_X5_divide (hI _ (by omega) (by omega)) rfl rfl rfl rfl ⟨by decide, by decide⟩ ⟨by decide, by decide⟩ (Nat.le_of_ble_eq_true rfl) dX5_noResidual_1 (fun r M1 hp => ?_)
  obtain ⟨rfl, e1⟩ := hp
  subst e1
  refine en_aload_n (i := 0) h dX5_noResidual_4 rfl rfl ?_
  refine en_iload_n (i := 1) h dX5_noResidual_5 rfl rfl ?_
  refine en_callV h (k_X5_isMeter hw hI ri (by omega)) my_X5_isMeter gX5_noResidual_X5_isMeter (hI _ (by omega) (by omega)) rfl rfl rfl rfl ⟨by decide, by decide⟩ ⟨by decide, by decide⟩ (Nat.le_of_ble_eq_true rfl) dX5_noResidual_6 (fun r M2 hp => ?_)
  obtain ⟨rfl, e1⟩ := hp
  subst e1
  refine en_if_eq (tgt := 20) h dX5_noResidual_9 (by decide) (by split <;> omega) (fun c_9 => ?_) (fun c_9 => ?_)
  · have c9 : ¬ (0 ≤ i ∧ i < m 51 7) := fun z => by rw [if_pos (by rw [e7d]; exact z)] at c_9; omega
    refine en_iconst h dX5_noResidual_20 ?_
    refine en_istore_n (i := 2) h dX5_noResidual_21 rfl (by decide) ?_
    refine en_aload_n (i := 0) h dX5_noResidual_22 rfl rfl ?_
    refine en_aload_n (i := 0) h dX5_noResidual_23 rfl rfl ?_
    refine en_iload_n (i := 1) h dX5_noResidual_24 rfl rfl ?_
    refine en_callV h (k_X5_isMeter hw hI ri (by omega)) my_X5_isMeter gX5_noResidual_X5_isMeter (hI _ (by omega) (by omega)) rfl rfl rfl rfl ⟨by decide, by decide⟩ ⟨by decide, by decide⟩ (Nat.le_of_ble_eq_true rfl) dX5_noResidual_25 (fun r M2 hp => ?_)
    obtain ⟨rfl, e1⟩ := hp
    subst e1
    rw [if_neg (by rw [e7d]; exact c9)]
    refine en_if_ne (tgt := 35) h dX5_noResidual_28 (by decide) (by omega) (fun c_28 => ?_) (fun c_28 => ?_)
    · exact absurd rfl c_28
    · refine en_iconst h dX5_noResidual_31 ?_
      refine en_goto (tgt := 53) h dX5_noResidual_32 (by decide) ?_
      refine en_callV h (k_X5_refused hw hI (by decide)) my_X5_refused gX5_noResidual_X5_refused (hI _ (by omega) (by omega)) rfl rfl rfl rfl ⟨by decide, by decide⟩ ⟨by decide, by decide⟩ (Nat.le_of_ble_eq_true rfl) dX5_noResidual_53 (fun r M4 hp => ?_)
      obtain ⟨rfl, e4⟩ := hp
      subst e4
      refine en_if_eq (tgt := 61) h dX5_noResidual_56 (by decide) (by omega) (fun c_56 => ?_) (fun c_56 => ?_)
      · exact absurd c_56 (by decide)
      · refine en_iconst h dX5_noResidual_59 ?_
        exact en_zret h hf dX5_noResidual_60 ⟨by decide, by decide⟩ (by omega) (Or.inl ⟨c9, rfl, mo_qm_fr (mo_qm_of (mo_sm_rf _)) en_set_at⟩)
  · have c9 : (0 ≤ i ∧ i < m 51 7) := by apply Decidable.byContradiction; intro z; rw [if_neg (by rw [e7d]; exact z)] at c_9; omega
    have v := m0.2 i c9.1 (by omega)
    have eu : mo_iu (mo_dv m) i = mo_iu (mo_qm m 0) i := mo_iu_sm sd i
    have iu9 : -1 ≤ mo_iu (mo_qm m 0) i ∧ mo_iu (mo_qm m 0) i < 5 := by
      rw [← eu]
      unfold mo_iu
      rcases v.1 with ⟨g1, g2, g3⟩ | ⟨g1, g2, g3⟩
      · rw [if_pos g1]
        have z := r0 _ g2 g3
        have z2 := l0.1
        omega
      · rw [if_neg (by omega)]
        split
        · omega
        · have y := l0.2.2 _ g2 g3
          have z := r0 _ y.1.1 y.1.2
          have z2 := l0.1
          omega
    refine en_aload_n (i := 0) h dX5_noResidual_12 rfl rfl ?_
    refine en_iload_n (i := 1) h dX5_noResidual_13 rfl rfl ?_
    refine en_callV h (k_X5_islandOf hw hI l0 ⟨c9.1, by omega⟩ v.1) my_X5_islandOf gX5_noResidual_X5_islandOf (hI _ (by omega) (by omega)) rfl rfl rfl rfl ⟨by decide, by decide⟩ ⟨by decide, by decide⟩ (Nat.le_of_ble_eq_true rfl) dX5_noResidual_14 (fun r M2 hp => ?_)
    obtain ⟨rfl, e1⟩ := hp
    subst e1
    rw [eu]
    refine en_goto (tgt := 21) h dX5_noResidual_17 (by decide) ?_
    refine en_istore_n (i := 2) h dX5_noResidual_21 rfl (by decide) ?_
    refine en_aload_n (i := 0) h dX5_noResidual_22 rfl rfl ?_
    refine en_aload_n (i := 0) h dX5_noResidual_23 rfl rfl ?_
    refine en_iload_n (i := 1) h dX5_noResidual_24 rfl rfl ?_
    refine en_callV h (k_X5_isMeter hw hI ri (by omega)) my_X5_isMeter gX5_noResidual_X5_isMeter (hI _ (by omega) (by omega)) rfl rfl rfl rfl ⟨by decide, by decide⟩ ⟨by decide, by decide⟩ (Nat.le_of_ble_eq_true rfl) dX5_noResidual_25 (fun r M2 hp => ?_)
    obtain ⟨rfl, e1⟩ := hp
    subst e1
    rw [if_pos (by rw [e7d]; exact c9)]
    refine en_if_ne (tgt := 35) h dX5_noResidual_28 (by decide) (by omega) (fun c_28 => ?_) (fun c_28 => ?_)
    · refine en_iload_n (i := 2) h dX5_noResidual_35 rfl rfl ?_
      refine en_iconst h dX5_noResidual_36 ?_
      refine en_icmp_eq (tgt := 52) h dX5_noResidual_37 (by decide) (by omega) (by omega) (fun c_37 => ?_) (fun c_37 => ?_)
      · exact two _ _ (mo_sm_rf _) c9 (fun z => z.1 c_37)
      · refine en_aload_n (i := 0) h dX5_noResidual_40 rfl rfl ?_
        refine en_iload_n (i := 2) h dX5_noResidual_41 rfl rfl ?_
        refine en_callV h (k_X5_sees hw hI l0 m0 (q := mo_iu (mo_qm m 0) i) (by omega) r0) my_X5_sees gX5_noResidual_X5_sees (hI _ (by omega) (by omega)) rfl rfl rfl rfl ⟨by decide, by decide⟩ ⟨by decide, by decide⟩ (Nat.le_of_ble_eq_true rfl) dX5_noResidual_42 (fun r M3 hp => ?_)
        obtain ⟨rfl, g1, g2⟩ := hp
        rw [mg_D_sm sd]
        refine en_if_eq (tgt := 52) h dX5_noResidual_45 (by decide) (by split <;> omega) (fun c_45 => ?_) (fun c_45 => ?_)
        · have c8 : en_w64 (mg_D (mo_qm m 0) (mo_iu (mo_qm m 0) i) (-1)) = 0 := by apply Decidable.byContradiction; intro z; rw [if_neg z] at c_45; omega
          exact two _ _ (mg_in_sm g1) c9 (fun z => z.2 c8)
        · have c8 : en_w64 (mg_D (mo_qm m 0) (mo_iu (mo_qm m 0) i) (-1)) ≠ 0 := fun z => by rw [if_pos z] at c_45; omega
          obtain ⟨d9, t9⟩ := hb c9.1 c9.2 c_37 c8
          refine en_iconst h dX5_noResidual_48 ?_
          refine en_goto (tgt := 53) h dX5_noResidual_49 (by decide) ?_
          refine en_callV h (k_X5_refused hw hI (by decide)) my_X5_refused gX5_noResidual_X5_refused (hI _ (by omega) (by omega)) rfl rfl rfl rfl ⟨by decide, by decide⟩ ⟨by decide, by decide⟩ (Nat.le_of_ble_eq_true rfl) dX5_noResidual_53 (fun r M4 hp => ?_)
          obtain ⟨rfl, e4⟩ := hp
          have s4 : mo_sm M4 (mo_qm m 0) := by rw [e4]; exact mo_qm_of (mg_in_sm g1)
          have j4 : ∀ j, j < 15 → M4 51 j = mo_qm m 0 51 j := by rw [e4]; exact mo_qm_js g1.2.1
          have z4 : M4 51 0 = 0 := by rw [e4, en_set_at]
          have l4 := xo_ln_sm s4 (mo_qm_ln hl)
          have m4 := xo_mt_sm s4 (mo_qm_mt hm)
          have r4 := xo_rf_sm s4 (mo_qm_rf hl)
          clear e4
          refine en_if_eq (tgt := 61) h dX5_noResidual_56 (by decide) (by omega) (fun c_56 => ?_) (fun c_56 => ?_)
          · refine en_aload_n (i := 0) h dX5_noResidual_61 rfl rfl ?_
            refine en_iload_n (i := 2) h dX5_noResidual_62 rfl rfl ?_
            refine en_callV h (k_X5_estimate hw hI l4 m4 (q := mo_iu (mo_qm m 0) i) (by omega) r4) my_X5_estimate gX5_noResidual_X5_estimate (hI _ (by omega) (by omega)) rfl rfl rfl rfl ⟨by decide, by decide⟩ ⟨by decide, by decide⟩ (Nat.le_of_ble_eq_true rfl) dX5_noResidual_63 (fun r M5 hp => ?_)
            obtain ⟨rfl, es⟩ := hp
            have es := mg_es_sm es s4 j4
            refine en_aload_n (i := 0) h dX5_noResidual_66 rfl rfl ?_
            refine en_aload_n (i := 0) h dX5_noResidual_67 rfl rfl ?_
            refine en_iload_n (i := 1) h dX5_noResidual_68 rfl rfl ?_
            refine en_callV h (k_X5_residual hw hI (mo_qm_ln hl) (mo_qm_mt hm) (mo_qm_rf hl) es ⟨c9.1, by rw [mo_qm_j (by decide)]; exact c9.2⟩) my_X5_residual gX5_noResidual_X5_residual (hI _ (by omega) (by omega)) rfl rfl rfl rfl ⟨by decide, by decide⟩ ⟨by decide, by decide⟩ (Nat.le_of_ble_eq_true rfl) dX5_noResidual_69 (fun r M7 hp => ?_)
            obtain ⟨rfl, es7⟩ := hp
            have z7 : M7 51 0 = 0 := by rw [es7.1.2.1 0 (by decide), mo_qm_0]
            refine en_aload_n (i := 0) h dX5_noResidual_72 rfl rfl ?_
            refine en_getL (i := 21) h dX5_noResidual_73 fl_X5_noResidual_132 (hI _ (by omega) (by omega)) rfl rfl rfl es7.2.1 ?_
            refine en_callV h (k_X5_reduce hw hI t9 d9) my_X5_reduce gX5_noResidual_X5_reduce (hI _ (by omega) (by omega)) rfl rfl rfl rfl ⟨by decide, by decide⟩ ⟨by decide, by decide⟩ (Nat.le_of_ble_eq_true rfl) dX5_noResidual_76 (fun r M6 hp => ?_)
            obtain ⟨rfl, e6⟩ := hp
            subst e6
            refine en_iconst h dX5_noResidual_79 ?_
            exact en_zret h hf dX5_noResidual_80 ⟨by decide, by decide⟩ (by omega) (Or.inr (Or.inr ⟨c9, ⟨c_37, c8⟩, rfl, mo_qm_fr (mo_sm_tr ⟨fun k k0 k1 => by rw [en_set_ne k0, en_set_ne k0], fun j hj => by rw [en_set_nj (by omega), en_set_nj (by omega)]⟩ (mg_in_sm es7.1)) (by rw [en_set_nj (by decide), en_set_nj (by decide)]; exact z7), by rw [en_set_nj (by decide), en_set_at], en_set_at⟩))
          · exact absurd rfl c_56
    · exact absurd c_28 (by decide)
