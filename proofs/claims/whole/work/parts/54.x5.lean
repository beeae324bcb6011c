/-! MODEL 3: islands, meters -/
theorem mo_dv_k {m : en_M} {k : Int} (h : k ≠ 61) : mo_dv m k = m k := en_ar_ne h
theorem mo_dv_at {m : en_M} {b : Int} (h0 : 0 ≤ b) (h1 : b < m 51 1) : mo_dv m 61 b = gs_it (m 51 2).toNat (m 52) (m 53) (m 55) (m 51 1).toNat b := en_ar_at h0 h1
theorem mo_dv_rng {m : en_M} (hl : xo_ln m) {b : Int} (h0 : 0 ≤ b) (h1 : b < m 51 1) : 0 ≤ mo_dv m 61 b ∧ mo_dv m 61 b ≤ b := by
  obtain ⟨n0, n1, hr⟩ := hl
  rw [mo_dv_at h0 h1]
  exact gs_it_rng (fun j j0 j1 => ⟨(hr j j0 (by omega)).1.1, (hr j j0 (by omega)).2.1.1⟩) _ b h0
theorem xo_ln_k {M m : en_M} (h : ∀ k, (52 ≤ k ∧ k ≤ 55) → M k = m k) (h1 : M 51 1 = m 51 1) (h2 : M 51 2 = m 51 2) (hl : xo_ln m) : xo_ln M := by
  unfold xo_ln
  rw [h 52 (by omega), h 53 (by omega), h 54 (by omega), h 55 (by omega), h1, h2]
  exact hl
abbrev rm_X5_islands : Room := { frames := 2, cells := 0, slots := 0, locals := 24 }
theorem my_X5_islands : en_MY yX5_islands RX5 cX5_islands 3 (some .int) wsX5_islands 0 := ⟨⟨_, rfl⟩, rfl, by decide, by decide, by decide +kernel, by decide +kernel⟩
set_option maxRecDepth 20000 in
theorem fl_X5_islands_38 : en_FL wsX5_islands RX5 38 5 13 := ⟨_, _, _, rfl, by decide, by decide +kernel, Or.inl (by decide +kernel)⟩
set_option maxRecDepth 20000 in
theorem fl_X5_islands_60 : en_FL wsX5_islands RX5 60 5 1 := ⟨_, _, _, rfl, by decide, by decide +kernel, Or.inl (by decide +kernel)⟩
set_option maxRecDepth 100000 in
set_option maxHeartbeats 4000000 in
theorem lp_X5_islands {κ : en_C} {m m0 : en_M} (hW : en_Wok (en_w κ)) (hP : en_Has (en_w κ) 0 68) (h : en_Ok κ RX5 cX5_islands 3 wsX5_islands rm_X5_islands) (hf : en_fin κ rm_X5_islands (some .int) (fun r m' => r = some (en_I (gs_is (m 61) (m 51 1).toNat)) ∧ m' = en_set m 51 0 0)) (hn : 2 ≤ m 51 1 ∧ m 51 1 ≤ 5) (hr : ∀ b, 0 ≤ b → b < m 51 1 → 0 ≤ m 61 b ∧ m 61 b ≤ b) : ∀ (f b : Nat), (f : Int) + b = m 51 1 → en_G κ 8 [some (en_R 51), some (en_I (gs_is (m 61) b)), some (en_I (b : Int))] [] m 0 0 := by
  have hI : ∀ k, 0 ≤ k → k < 68 → en_in κ k := hP
  intro f
  induction f with
  | zero =>
    intro b hb
    refine en_iload_n (i := 2) h dX5_islands_8 rfl rfl ?_
    refine en_aload_n (i := 0) h dX5_islands_9 rfl rfl ?_
    refine en_getI (i := 1) h dX5_islands_10 fl_X5_islands_60 (hI _ (by omega) (by omega)) rfl rfl rfl rfl ?_
    refine en_icmp_ge (tgt := 40) h dX5_islands_13 (by decide) (by omega) (by omega) (fun c_13 => ?_) (fun c_13 => ?_)
    · refine en_aload_n (i := 0) h dX5_islands_40 rfl rfl ?_
      refine en_iload_n (i := 1) h dX5_islands_41 rfl rfl ?_
      refine en_callV h (k_X5_fine hW hI) my_X5_fine gX5_islands_X5_fine (hI _ (by omega) (by omega)) rfl rfl rfl rfl ⟨by decide, by decide⟩ ⟨by decide, by decide⟩ (Nat.le_of_ble_eq_true rfl) dX5_islands_42 (fun r m' hp => ?_)
      obtain ⟨rfl, e1⟩ := hp
      exact en_iret h hf dX5_islands_45 ⟨by decide, by decide⟩ ⟨by rw [show (m 51 1).toNat = b by omega], e1⟩
    · exact absurd c_13 (by omega)
  | succ f ih =>
    intro b hb
    have r := hr b (by omega) (by omega)
    have ih9 := ih (b + 1) (by omega)
    simp only [gs_is] at ih9
    refine en_iload_n (i := 2) h dX5_islands_8 rfl rfl ?_
    refine en_aload_n (i := 0) h dX5_islands_9 rfl rfl ?_
    refine en_getI (i := 1) h dX5_islands_10 fl_X5_islands_60 (hI _ (by omega) (by omega)) rfl rfl rfl rfl ?_
    refine en_icmp_ge (tgt := 40) h dX5_islands_13 (by decide) (by omega) (by omega) (fun c_13 => ?_) (fun c_13 => ?_)
    · exact absurd c_13 (by omega)
    · refine en_iload_n (i := 1) h dX5_islands_16 rfl rfl ?_
      refine en_aload_n (i := 0) h dX5_islands_17 rfl rfl ?_
      refine en_getR h dX5_islands_18 fl_X5_islands_38 (hI _ (by omega) (by omega)) rfl rfl ?_
      refine en_iload_n (i := 2) h dX5_islands_21 rfl rfl ?_
      refine en_iaload h dX5_islands_22 (hI _ (by omega) (by omega)) rfl (by omega) rfl ?_
      refine en_iload_n (i := 2) h dX5_islands_23 rfl rfl ?_
      refine en_icmp_ne (tgt := 31) h dX5_islands_24 (by decide) (by omega) (by omega) (fun c_24 => ?_) (fun c_24 => ?_)
      · rw [if_neg c_24] at ih9
        refine en_iconst h dX5_islands_31 ?_
        refine en_iadd h dX5_islands_32 ?_
        refine en_istore_n (i := 1) h dX5_islands_33 rfl (by decide) ?_
        refine en_iinc h dX5_islands_34 rfl (by decide) ?_
        refine en_goto (tgt := 8) h dX5_islands_37 (by decide) ?_
        exact ih9
      · rw [if_pos c_24] at ih9
        refine en_iconst h dX5_islands_27 ?_
        refine en_goto (tgt := 32) h dX5_islands_28 (by decide) ?_
        refine en_iadd h dX5_islands_32 ?_
        refine en_istore_n (i := 1) h dX5_islands_33 rfl (by decide) ?_
        refine en_iinc h dX5_islands_34 rfl (by decide) ?_
        refine en_goto (tgt := 8) h dX5_islands_37 (by decide) ?_
        exact ih9
set_option maxRecDepth 100000 in
set_option maxHeartbeats 4000000 in
theorem k_X5_islands {l : Launch} {w : en_W} {m : en_M} (hw : en_Wok w) (hp : en_Has w 0 68) (hl : xo_ln m) : en_Met l w yX5_islands wsX5_islands rm_X5_islands [en_R 51] m (fun r m' => r = some (en_I (gs_is (mo_dv m 61) (m 51 1).toNat)) ∧ m' = en_set (mo_dv m) 51 0 0) := by
  refine en_met my_X5_islands hw (Nat.le_of_ble_eq_true rfl) ?_
  intro κ hl9 hw9 h hf
  subst hw9
  subst hl9
  have hI : ∀ k, 0 ≤ k → k < 68 → en_in κ k := hp
  refine en_aload_n (i := 0) h dX5_islands_0 rfl rfl ?_
  refine en_callV h (k_X5_divide hw hI hl) my_X5_divide gX5_islands_X5_divide (hI _ (by omega) (by omega)) rfl rfl rfl rfl ⟨by decide, by decide⟩ ⟨by decide, by decide⟩ (Nat.le_of_ble_eq_true rfl) dX5_islands_1 (fun r M1 hp => ?_)
  obtain ⟨rfl, e1⟩ := hp
  subst e1
  refine en_iconst h dX5_islands_4 ?_
  refine en_istore_n (i := 1) h dX5_islands_5 rfl (by decide) ?_
  refine en_iconst h dX5_islands_6 ?_
  refine en_istore_n (i := 2) h dX5_islands_7 rfl (by decide) ?_
  exact lp_X5_islands (m := mo_dv m) (m0 := m) hw hp h (by rw [mo_dv_k (k := 51) (by decide)]; exact hf) (by rw [mo_dv_k (k := 51) (by decide)]; exact hl.1) (fun b b0 b1 => by rw [mo_dv_k (k := 51) (by decide)] at b1; exact mo_dv_rng hl b0 b1) (mo_dv m 51 1).toNat 0 (by rw [mo_dv_k (k := 51) (by decide)]; have z := hl.1; omega)
abbrev rm_X5_reference : Room := { frames := 3, cells := 0, slots := 0, locals := 43 }
theorem my_X5_reference : en_MY yX5_reference RX5 cX5_reference 2 (some .int) wsX5_reference 1 := ⟨⟨_, rfl⟩, rfl, by decide, by decide, by decide +kernel, by decide +kernel⟩
set_option maxRecDepth 20000 in
theorem fl_X5_reference_38 : en_FL wsX5_reference RX5 38 5 13 := ⟨_, _, _, rfl, by decide, by decide +kernel, Or.inl (by decide +kernel)⟩
set_option maxRecDepth 100000 in
set_option maxHeartbeats 4000000 in
theorem k_X5_reference {l : Launch} {w : en_W} {m : en_M} {b : Int} (hw : en_Wok w) (hp : en_Has w 0 68) (hl : xo_ln m) (ri : en_i32 b) : en_Met l w yX5_reference wsX5_reference rm_X5_reference [en_R 51, en_I b] m (fun r m' => (¬ (0 ≤ b ∧ b < m 51 1) ∧ r = some (en_I 0) ∧ m' = en_set m 51 0 1) ∨ ((0 ≤ b ∧ b < m 51 1) ∧ r = some (en_I (mo_dv m 61 b)) ∧ m' = mo_dv (en_set m 51 0 0))) := by
  refine en_met my_X5_reference hw (Nat.le_of_ble_eq_true rfl) ?_
  intro κ hl9 hw9 h hf
  subst hw9
  subst hl9
  have hI : ∀ k, 0 ≤ k → k < 68 → en_in κ k := hp
  obtain ⟨n0, n1, hr⟩ := id hl
  refine en_aload_n (i := 0) h dX5_reference_0 rfl rfl ?_
  refine en_aload_n (i := 0) h dX5_reference_1 rfl rfl ?_
  refine en_iload_n (i := 1) h dX5_reference_2 rfl rfl ?_
  refine en_callV h (k_X5_isBus hw hI ri (by omega)) my_X5_isBus gX5_reference_X5_isBus (hI _ (by omega) (by omega)) rfl rfl rfl rfl ⟨by decide, by decide⟩ ⟨by decide, by decide⟩ (Nat.le_of_ble_eq_true rfl) dX5_reference_3 (fun r M1 hp => ?_)
  obtain ⟨rfl, e1⟩ := hp
  subst e1
  refine en_if_eq (tgt := 13) h dX5_reference_6 (by decide) (by split <;> omega) (fun c_6 => ?_) (fun c_6 => ?_)
  · have c9 : ¬ (0 ≤ b ∧ b < M1 51 1) := fun z => by rw [if_pos z] at c_6; omega
    refine en_iconst h dX5_reference_13 ?_
    refine en_callV h (k_X5_refused hw hI (by decide)) my_X5_refused gX5_reference_X5_refused (hI _ (by omega) (by omega)) rfl rfl rfl rfl ⟨by decide, by decide⟩ ⟨by decide, by decide⟩ (Nat.le_of_ble_eq_true rfl) dX5_reference_14 (fun r M2 hp => ?_)
    obtain ⟨rfl, e1⟩ := hp
    subst e1
    refine en_if_eq (tgt := 22) h dX5_reference_17 (by decide) (by omega) (fun c_17 => ?_) (fun c_17 => ?_)
    · exact absurd c_17 (by decide)
    · refine en_iconst h dX5_reference_20 ?_
      exact en_iret h hf dX5_reference_21 ⟨by decide, by decide⟩ (Or.inl ⟨c9, rfl, rfl⟩)
  · have c9 : (0 ≤ b ∧ b < M1 51 1) := by apply Decidable.byContradiction; intro z; rw [if_neg z] at c_6; omega
    refine en_iconst h dX5_reference_9 ?_
    refine en_goto (tgt := 14) h dX5_reference_10 (by decide) ?_
    refine en_callV h (k_X5_refused hw hI (by decide)) my_X5_refused gX5_reference_X5_refused (hI _ (by omega) (by omega)) rfl rfl rfl rfl ⟨by decide, by decide⟩ ⟨by decide, by decide⟩ (Nat.le_of_ble_eq_true rfl) dX5_reference_14 (fun r M2 hp => ?_)
    obtain ⟨rfl, e1⟩ := hp
    subst e1
    refine en_if_eq (tgt := 22) h dX5_reference_17 (by decide) (by omega) (fun c_17 => ?_) (fun c_17 => ?_)
    · refine en_aload_n (i := 0) h dX5_reference_22 rfl rfl ?_
      refine en_callV h (k_X5_divide hw hI (xo_ln_k (fun k hk => en_set_ne (by omega)) (en_set_nj (by decide)) (en_set_nj (by decide)) hl)) my_X5_divide gX5_reference_X5_divide (hI _ (by omega) (by omega)) rfl rfl rfl rfl ⟨by decide, by decide⟩ ⟨by decide, by decide⟩ (Nat.le_of_ble_eq_true rfl) dX5_reference_23 (fun r M3 hp => ?_)
      obtain ⟨rfl, e1⟩ := hp
      subst e1
      refine en_aload_n (i := 0) h dX5_reference_26 rfl rfl ?_
      refine en_getR h dX5_reference_27 fl_X5_reference_38 (hI _ (by omega) (by omega)) rfl rfl ?_
      refine en_iload_n (i := 1) h dX5_reference_30 rfl rfl ?_
      refine en_iaload h dX5_reference_31 (hI _ (by omega) (by omega)) rfl (by omega) rfl ?_
      exact en_iret h hf dX5_reference_32 ⟨by decide, by decide⟩ (Or.inr ⟨c9, rfl, rfl⟩)
    · exact absurd rfl c_17
abbrev rm_X5_addMeter : Room := { frames := 3, cells := 0, slots := 0, locals := 43 }
theorem my_X5_addMeter : en_MY yX5_addMeter RX5 cX5_addMeter 7 (some .int) wsX5_addMeter 4 := ⟨⟨_, rfl⟩, rfl, by decide, by decide, by decide +kernel, by decide +kernel⟩
set_option maxRecDepth 20000 in
theorem fl_X5_addMeter_23 : en_FL wsX5_addMeter RX5 23 5 8 := ⟨_, _, _, rfl, by decide, by decide +kernel, Or.inl (by decide +kernel)⟩
set_option maxRecDepth 20000 in
theorem fl_X5_addMeter_26 : en_FL wsX5_addMeter RX5 26 5 9 := ⟨_, _, _, rfl, by decide, by decide +kernel, Or.inl (by decide +kernel)⟩
set_option maxRecDepth 20000 in
theorem fl_X5_addMeter_29 : en_FL wsX5_addMeter RX5 29 5 10 := ⟨_, _, _, rfl, by decide, by decide +kernel, Or.inl (by decide +kernel)⟩
set_option maxRecDepth 20000 in
theorem fl_X5_addMeter_32 : en_FL wsX5_addMeter RX5 32 5 11 := ⟨_, _, _, rfl, by decide, by decide +kernel, Or.inl (by decide +kernel)⟩
set_option maxRecDepth 20000 in
theorem fl_X5_addMeter_35 : en_FL wsX5_addMeter RX5 35 5 12 := ⟨_, _, _, rfl, by decide, by decide +kernel, Or.inl (by decide +kernel)⟩
set_option maxRecDepth 20000 in
theorem fl_X5_addMeter_74 : en_FL wsX5_addMeter RX5 74 5 7 := ⟨_, _, _, rfl, by decide, by decide +kernel, Or.inl (by decide +kernel)⟩
abbrev mo_am (m : en_M) (k p r a : Int) : Int := if ¬ ((k = 0 ∨ k = 1) ∧ (-50 ≤ r ∧ r ≤ 50) ∧ (1 ≤ a ∧ a ≤ 2)) then 1 else if ¬ (0 ≤ p ∧ p < if k = 0 then m 51 2 else m 51 1) then 2 else if m 51 7 = 10 then 3 else 0
def mo_mp (m : en_M) (k p r a : Int) : en_M := en_set (en_set (en_set (en_set (en_set (en_set (en_set m 51 0 0) 56 (m 51 7) k) 57 (m 51 7) p) 58 (m 51 7) r) 59 (m 51 7) a) 60 (m 51 7) 1) 51 7 (m 51 7 + 1)
set_option maxRecDepth 100000 in
set_option maxHeartbeats 4000000 in
theorem lp_X5_addMeter {κ : en_C} {m : en_M} {k p r a ar th : Int} (hW : en_Wok (en_w κ)) (hP : en_Has (en_w κ) 0 68) (h : en_Ok κ RX5 cX5_addMeter 7 wsX5_addMeter rm_X5_addMeter) (hf : en_fin κ rm_X5_addMeter (some .int) (fun r' m' => (mo_am m k p r a ≠ 0 ∧ r' = some (en_I 0) ∧ m' = en_set m 51 0 (mo_am m k p r a)) ∨ (mo_am m k p r a = 0 ∧ r' = some (en_I (m 51 7)) ∧ m' = mo_mp m k p r a))) (hn : 0 ≤ m 51 7 ∧ m 51 7 ≤ 10) (har : ar = if ((k = 0 ∨ k = 1) ∧ (-50 ≤ r ∧ r ≤ 50) ∧ (1 ≤ a ∧ a ≤ 2)) then 1 else 0) (hth : th = if (0 ≤ p ∧ p < if k = 0 then m 51 2 else m 51 1) then 1 else 0) : en_G κ 56 [some (en_R 51), some (en_I k), some (en_I p), some (en_I r), some (en_I a), some (en_I ar), some (en_I th)] [] m 0 0 := by
  have hI : ∀ k, 0 ≤ k → k < 68 → en_in κ k := hP
  have fin : ∀ c : Int, c = mo_am m k p r a → en_i32 c → en_G κ 89 [some (en_R 51), some (en_I k), some (en_I p), some (en_I r), some (en_I a), some (en_I ar), some (en_I th)] [en_I c, en_R 51] m 0 0 := by
    intro c hc rc
    refine en_callV h (k_X5_refused hW hI rc) my_X5_refused gX5_addMeter_X5_refused (hI _ (by omega) (by omega)) rfl rfl rfl rfl ⟨by decide, by decide⟩ ⟨by decide, by decide⟩ (Nat.le_of_ble_eq_true rfl) dX5_addMeter_89 (fun r M1 hp => ?_)
    obtain ⟨rfl, e1⟩ := hp
    subst e1
    refine en_if_eq (tgt := 97) h dX5_addMeter_92 (by decide) (by split <;> omega) (fun c_92 => ?_) (fun c_92 => ?_)
    · have c0 : c = 0 := by apply Decidable.byContradiction; intro z; rw [if_neg z] at c_92; omega
      subst c0
      have n8 : m 51 7 < 10 := by
        have q := hc.symm
        unfold mo_am at q
        split at q
        · omega
        · split at q
          · omega
          · split at q
            · omega
            · omega
      refine en_aload_n (i := 0) h dX5_addMeter_97 rfl rfl ?_
      refine en_getR h dX5_addMeter_98 fl_X5_addMeter_23 (hI _ (by omega) (by omega)) rfl rfl ?_
      refine en_aload_n (i := 0) h dX5_addMeter_101 rfl rfl ?_
      refine en_getI (i := 7) h dX5_addMeter_102 fl_X5_addMeter_74 (hI _ (by omega) (by omega)) rfl rfl rfl (v9 := m 51 7) (by simp [en_set]) ?_
      refine en_iload_n (i := 1) h dX5_addMeter_105 rfl rfl ?_
      refine en_iastore h dX5_addMeter_106 (hI _ (by omega) (by omega)) rfl (by omega) ?_
      refine en_aload_n (i := 0) h dX5_addMeter_107 rfl rfl ?_
      refine en_getR h dX5_addMeter_108 fl_X5_addMeter_26 (hI _ (by omega) (by omega)) rfl rfl ?_
      refine en_aload_n (i := 0) h dX5_addMeter_111 rfl rfl ?_
      refine en_getI (i := 7) h dX5_addMeter_112 fl_X5_addMeter_74 (hI _ (by omega) (by omega)) rfl rfl rfl (v9 := m 51 7) (by simp [en_set]) ?_
      refine en_iload_n (i := 2) h dX5_addMeter_115 rfl rfl ?_
      refine en_iastore h dX5_addMeter_116 (hI _ (by omega) (by omega)) rfl (by omega) ?_
      refine en_aload_n (i := 0) h dX5_addMeter_117 rfl rfl ?_
      refine en_getR h dX5_addMeter_118 fl_X5_addMeter_29 (hI _ (by omega) (by omega)) rfl rfl ?_
      refine en_aload_n (i := 0) h dX5_addMeter_121 rfl rfl ?_
      refine en_getI (i := 7) h dX5_addMeter_122 fl_X5_addMeter_74 (hI _ (by omega) (by omega)) rfl rfl rfl (v9 := m 51 7) (by simp [en_set]) ?_
      refine en_iload_n (i := 3) h dX5_addMeter_125 rfl rfl ?_
      refine en_iastore h dX5_addMeter_126 (hI _ (by omega) (by omega)) rfl (by omega) ?_
      refine en_aload_n (i := 0) h dX5_addMeter_127 rfl rfl ?_
      refine en_getR h dX5_addMeter_128 fl_X5_addMeter_32 (hI _ (by omega) (by omega)) rfl rfl ?_
      refine en_aload_n (i := 0) h dX5_addMeter_131 rfl rfl ?_
      refine en_getI (i := 7) h dX5_addMeter_132 fl_X5_addMeter_74 (hI _ (by omega) (by omega)) rfl rfl rfl (v9 := m 51 7) (by simp [en_set]) ?_
      refine en_iload (i := 4) h dX5_addMeter_135 rfl ?_
      refine en_iastore h dX5_addMeter_137 (hI _ (by omega) (by omega)) rfl (by omega) ?_
      refine en_aload_n (i := 0) h dX5_addMeter_138 rfl rfl ?_
      refine en_getR h dX5_addMeter_139 fl_X5_addMeter_35 (hI _ (by omega) (by omega)) rfl rfl ?_
      refine en_aload_n (i := 0) h dX5_addMeter_142 rfl rfl ?_
      refine en_getI (i := 7) h dX5_addMeter_143 fl_X5_addMeter_74 (hI _ (by omega) (by omega)) rfl rfl rfl (v9 := m 51 7) (by simp [en_set]) ?_
      refine en_iconst h dX5_addMeter_146 ?_
      refine en_zastore h dX5_addMeter_147 (hI _ (by omega) (by omega)) rfl (by omega) (by omega) ?_
      refine en_aload_n (i := 0) h dX5_addMeter_148 rfl rfl ?_
      refine en_dupa h dX5_addMeter_149 ?_
      refine en_getI (i := 7) h dX5_addMeter_150 fl_X5_addMeter_74 (hI _ (by omega) (by omega)) rfl rfl rfl (v9 := m 51 7) (by simp [en_set]) ?_
      refine en_iconst h dX5_addMeter_153 ?_
      refine en_iadd h dX5_addMeter_154 ?_
      refine en_putI (i := 7) h dX5_addMeter_155 fl_X5_addMeter_74 fp_5_7 (hI _ (by omega) (by omega)) rfl rfl rfl ?_
      refine en_aload_n (i := 0) h dX5_addMeter_158 rfl rfl ?_
      refine en_getI (i := 7) h dX5_addMeter_159 fl_X5_addMeter_74 (hI _ (by omega) (by omega)) rfl rfl rfl (v9 := m 51 7 + 1) (by simp [en_set]) ?_
      refine en_iconst h dX5_addMeter_162 ?_
      refine en_isub h dX5_addMeter_163 ?_
      exact en_iret h hf dX5_addMeter_164 ⟨by decide, by decide⟩ (Or.inr ⟨hc.symm, by congr 2; omega, rfl⟩)
    · have c0 : c ≠ 0 := fun z => by rw [if_pos z] at c_92; omega
      refine en_iconst h dX5_addMeter_95 ?_
      exact en_iret h hf dX5_addMeter_96 ⟨by decide, by decide⟩ (Or.inl ⟨by rw [← hc]; exact c0, rfl, by rw [hc]⟩)
  refine en_aload_n (i := 0) h dX5_addMeter_56 rfl rfl ?_
  refine en_iload (i := 5) h dX5_addMeter_57 rfl ?_
  refine en_if_ne (tgt := 66) h dX5_addMeter_59 (by decide) (by rw [har]; split <;> omega) (fun c_59 => ?_) (fun c_59 => ?_)
  · have c9 : ((k = 0 ∨ k = 1) ∧ (-50 ≤ r ∧ r ≤ 50) ∧ (1 ≤ a ∧ a ≤ 2)) := by apply Decidable.byContradiction; intro z; rw [har, if_neg z] at c_59; omega
    refine en_iload (i := 6) h dX5_addMeter_66 rfl ?_
    refine en_if_ne (tgt := 75) h dX5_addMeter_68 (by decide) (by rw [hth]; split <;> omega) (fun c_68 => ?_) (fun c_68 => ?_)
    · have c8 : (0 ≤ p ∧ p < if k = 0 then m 51 2 else m 51 1) := by apply Decidable.byContradiction; intro z; rw [hth, if_neg z] at c_68; omega
      refine en_aload_n (i := 0) h dX5_addMeter_75 rfl rfl ?_
      refine en_getI (i := 7) h dX5_addMeter_76 fl_X5_addMeter_74 (hI _ (by omega) (by omega)) rfl rfl rfl rfl ?_
      refine en_bipush h dX5_addMeter_79 (by decide) ?_
      refine en_icmp_ne (tgt := 88) h dX5_addMeter_81 (by decide) (by omega) (by omega) (fun c_81 => ?_) (fun c_81 => ?_)
      · refine en_iconst h dX5_addMeter_88 ?_
        exact fin 0 (by unfold mo_am; rw [if_neg (fun q => q c9), if_neg (fun q => q c8), if_neg c_81]) (by decide)
      · refine en_iconst h dX5_addMeter_84 ?_
        refine en_goto (tgt := 89) h dX5_addMeter_85 (by decide) ?_
        exact fin 3 (by unfold mo_am; rw [if_neg (fun q => q c9), if_neg (fun q => q c8), if_pos c_81]) (by decide)
    · have c8 : ¬ (0 ≤ p ∧ p < if k = 0 then m 51 2 else m 51 1) := fun z => by rw [hth, if_pos z] at c_68; omega
      refine en_iconst h dX5_addMeter_71 ?_
      refine en_goto (tgt := 89) h dX5_addMeter_72 (by decide) ?_
      exact fin 2 (by unfold mo_am; rw [if_neg (fun q => q c9), if_pos c8]) (by decide)
  · have c9 : ¬ ((k = 0 ∨ k = 1) ∧ (-50 ≤ r ∧ r ≤ 50) ∧ (1 ≤ a ∧ a ≤ 2)) := fun z => by rw [har, if_pos z] at c_59; omega
    refine en_iconst h dX5_addMeter_62 ?_
    refine en_goto (tgt := 89) h dX5_addMeter_63 (by decide) ?_
    exact fin 1 (by unfold mo_am; rw [if_pos c9]) (by decide)
set_option maxRecDepth 100000 in
set_option maxHeartbeats 4000000 in
theorem k_X5_addMeter {l : Launch} {w : en_W} {m : en_M} {k p r a : Int} (hw : en_Wok w) (hp : en_Has w 0 68) (hl : xo_ln m) (hn : 0 ≤ m 51 7 ∧ m 51 7 ≤ 10) (rk : en_i32 k) (rp : en_i32 p) (rr : en_i32 r) (ra : en_i32 a) : en_Met l w yX5_addMeter wsX5_addMeter rm_X5_addMeter [en_R 51, en_I k, en_I p, en_I r, en_I a] m (fun r' m' => (mo_am m k p r a ≠ 0 ∧ r' = some (en_I 0) ∧ m' = en_set m 51 0 (mo_am m k p r a)) ∨ (mo_am m k p r a = 0 ∧ r' = some (en_I (m 51 7)) ∧ m' = mo_mp m k p r a)) := by
  refine en_met my_X5_addMeter hw (Nat.le_of_ble_eq_true rfl) ?_
  intro κ hl9 hw9 h hf
  subst hw9
  subst hl9
  have hI : ∀ k, 0 ≤ k → k < 68 → en_in κ k := hp
  obtain ⟨n0, n1, -⟩ := id hl
  have go : ∀ (ar : Int), (ar = if ((k = 0 ∨ k = 1) ∧ (-50 ≤ r ∧ r ≤ 50) ∧ (1 ≤ a ∧ a ≤ 2)) then 1 else 0) → en_G κ 35 [some (en_R 51), some (en_I k), some (en_I p), some (en_I r), some (en_I a), none, none] [en_I ar] m 0 0 := by
    intro ar har
    refine en_istore (i := 5) h dX5_addMeter_35 (by decide) ?_
    refine en_iload_n (i := 1) h dX5_addMeter_37 rfl rfl ?_
    refine en_if_ne (tgt := 49) h dX5_addMeter_38 (by decide) (by omega) (fun c_38 => ?_) (fun c_38 => ?_)
    · have k9 : ¬ k = 0 := c_38
      refine en_aload_n (i := 0) h dX5_addMeter_49 rfl rfl ?_
      refine en_iload_n (i := 2) h dX5_addMeter_50 rfl rfl ?_
      refine en_callV h (k_X5_isBus hw hI rp (by omega)) my_X5_isBus gX5_addMeter_X5_isBus (hI _ (by omega) (by omega)) rfl rfl rfl rfl ⟨by decide, by decide⟩ ⟨by decide, by decide⟩ (Nat.le_of_ble_eq_true rfl) dX5_addMeter_51 (fun r M1 hp => ?_)
      obtain ⟨rfl, e1⟩ := hp
      subst e1
      refine en_istore (i := 6) h dX5_addMeter_54 (by decide) ?_
      exact lp_X5_addMeter hw hI h hf hn har (by rw [if_neg k9])
    · have k9 : k = 0 := c_38
      refine en_aload_n (i := 0) h dX5_addMeter_41 rfl rfl ?_
      refine en_iload_n (i := 2) h dX5_addMeter_42 rfl rfl ?_
      refine en_callV h (k_X5_isLine hw hI rp (by omega)) my_X5_isLine gX5_addMeter_X5_isLine (hI _ (by omega) (by omega)) rfl rfl rfl rfl ⟨by decide, by decide⟩ ⟨by decide, by decide⟩ (Nat.le_of_ble_eq_true rfl) dX5_addMeter_43 (fun r M1 hp => ?_)
      obtain ⟨rfl, e1⟩ := hp
      subst e1
      refine en_goto (tgt := 54) h dX5_addMeter_46 (by decide) ?_
      refine en_istore (i := 6) h dX5_addMeter_54 (by decide) ?_
      exact lp_X5_addMeter hw hI h hf hn har (by rw [if_pos k9])
  refine en_iload_n (i := 1) h dX5_addMeter_0 rfl rfl ?_
  refine en_iconst h dX5_addMeter_1 ?_
  refine en_iconst h dX5_addMeter_2 ?_
  refine en_callS h (k_X5_in hw rk (by decide) (by decide)) my_X5_in gX5_addMeter_X5_in rfl rfl ⟨by decide, by decide⟩ ⟨by decide, by decide⟩ (Nat.le_of_ble_eq_true rfl) dX5_addMeter_3 (fun r M1 hp => ?_)
  obtain ⟨rfl, e1⟩ := hp
  subst e1
  refine en_if_eq (tgt := 34) h dX5_addMeter_6 (by decide) (by split <;> omega) (fun c_6 => ?_) (fun c_6 => ?_)
  · have c9 : ¬ (0 ≤ k ∧ k ≤ 1) := fun z => by rw [if_pos z] at c_6; omega
    refine en_iconst h dX5_addMeter_34 ?_
    exact go 0 (by rw [if_neg (by omega)])
  · have c9 : (0 ≤ k ∧ k ≤ 1) := by apply Decidable.byContradiction; intro z; rw [if_neg z] at c_6; omega
    refine en_iload_n (i := 3) h dX5_addMeter_9 rfl rfl ?_
    refine en_bipush h dX5_addMeter_10 (by decide) ?_
    refine en_bipush h dX5_addMeter_12 (by decide) ?_
    refine en_callS h (k_X5_in hw rr (by decide) (by decide)) my_X5_in gX5_addMeter_X5_in rfl rfl ⟨by decide, by decide⟩ ⟨by decide, by decide⟩ (Nat.le_of_ble_eq_true rfl) dX5_addMeter_14 (fun r M1 hp => ?_)
    obtain ⟨rfl, e1⟩ := hp
    subst e1
    refine en_if_eq (tgt := 34) h dX5_addMeter_17 (by decide) (by split <;> omega) (fun c_17 => ?_) (fun c_17 => ?_)
    · have c8 : ¬ (-50 ≤ r ∧ r ≤ 50) := fun z => by rw [if_pos z] at c_17; omega
      refine en_iconst h dX5_addMeter_34 ?_
      exact go 0 (by rw [if_neg (by omega)])
    · have c8 : (-50 ≤ r ∧ r ≤ 50) := by apply Decidable.byContradiction; intro z; rw [if_neg z] at c_17; omega
      refine en_iload (i := 4) h dX5_addMeter_20 rfl ?_
      refine en_iconst h dX5_addMeter_22 ?_
      refine en_iconst h dX5_addMeter_23 ?_
      refine en_callS h (k_X5_in hw ra (by decide) (by decide)) my_X5_in gX5_addMeter_X5_in rfl rfl ⟨by decide, by decide⟩ ⟨by decide, by decide⟩ (Nat.le_of_ble_eq_true rfl) dX5_addMeter_24 (fun r M1 hp => ?_)
      obtain ⟨rfl, e1⟩ := hp
      subst e1
      refine en_if_eq (tgt := 34) h dX5_addMeter_27 (by decide) (by split <;> omega) (fun c_27 => ?_) (fun c_27 => ?_)
      · have c7 : ¬ (1 ≤ a ∧ a ≤ 2) := fun z => by rw [if_pos z] at c_27; omega
        refine en_iconst h dX5_addMeter_34 ?_
        exact go 0 (by rw [if_neg (by omega)])
      · have c7 : (1 ≤ a ∧ a ≤ 2) := by apply Decidable.byContradiction; intro z; rw [if_neg z] at c_27; omega
        refine en_iconst h dX5_addMeter_30 ?_
        refine en_goto (tgt := 35) h dX5_addMeter_31 (by decide) ?_
        exact go 1 (by rw [if_pos (by omega)])
abbrev rm_X5_read : Room := { frames := 3, cells := 0, slots := 0, locals := 43 }
theorem my_X5_read : en_MY yX5_read RX5 cX5_read 4 (some .int) wsX5_read 2 := ⟨⟨_, rfl⟩, rfl, by decide, by decide, by decide +kernel, by decide +kernel⟩
set_option maxRecDepth 20000 in
theorem fl_X5_read_29 : en_FL wsX5_read RX5 29 5 10 := ⟨_, _, _, rfl, by decide, by decide +kernel, Or.inl (by decide +kernel)⟩
set_option maxRecDepth 100000 in
set_option maxHeartbeats 4000000 in
theorem k_X5_read {l : Launch} {w : en_W} {m : en_M} {i r : Int} (hw : en_Wok w) (hp : en_Has w 0 68) (hn : 0 ≤ m 51 7 ∧ m 51 7 ≤ 10) (ri : en_i32 i) (rr : en_i32 r) : en_Met l w yX5_read wsX5_read rm_X5_read [en_R 51, en_I i, en_I r] m (fun r' m' => (¬ (0 ≤ i ∧ i < m 51 7) ∧ r' = some (en_I 0) ∧ m' = en_set m 51 0 1) ∨ ((0 ≤ i ∧ i < m 51 7) ∧ ¬ (-50 ≤ r ∧ r ≤ 50) ∧ r' = some (en_I 0) ∧ m' = en_set m 51 0 2) ∨ ((0 ≤ i ∧ i < m 51 7) ∧ (-50 ≤ r ∧ r ≤ 50) ∧ r' = some (en_I (m 58 i)) ∧ m' = en_set (en_set m 51 0 0) 58 i r)) := by
  refine en_met my_X5_read hw (Nat.le_of_ble_eq_true rfl) ?_
  intro κ hl9 hw9 h hf
  subst hw9
  subst hl9
  have hI : ∀ k, 0 ≤ k → k < 68 → en_in κ k := hp
  refine en_aload_n (i := 0) h dX5_read_0 rfl rfl ?_
  refine en_aload_n (i := 0) h dX5_read_1 rfl rfl ?_
  refine en_iload_n (i := 1) h dX5_read_2 rfl rfl ?_
  refine en_callV h (k_X5_isMeter hw hI ri (by omega)) my_X5_isMeter gX5_read_X5_isMeter (hI _ (by omega) (by omega)) rfl rfl rfl rfl ⟨by decide, by decide⟩ ⟨by decide, by decide⟩ (Nat.le_of_ble_eq_true rfl) dX5_read_3 (fun r M1 hp => ?_)
  obtain ⟨rfl, e1⟩ := hp
  subst e1
  refine en_if_ne (tgt := 13) h dX5_read_6 (by decide) (by split <;> omega) (fun c_6 => ?_) (fun c_6 => ?_)
  · have c9 : (0 ≤ i ∧ i < M1 51 7) := by apply Decidable.byContradiction; intro z; rw [if_neg z] at c_6; omega
    refine en_iload_n (i := 2) h dX5_read_13 rfl rfl ?_
    refine en_bipush h dX5_read_14 (by decide) ?_
    refine en_bipush h dX5_read_16 (by decide) ?_
    refine en_callS h (k_X5_in hw rr (by decide) (by decide)) my_X5_in gX5_read_X5_in rfl rfl ⟨by decide, by decide⟩ ⟨by decide, by decide⟩ (Nat.le_of_ble_eq_true rfl) dX5_read_18 (fun r M2 hp => ?_)
    obtain ⟨rfl, e1⟩ := hp
    subst e1
    refine en_if_eq (tgt := 28) h dX5_read_21 (by decide) (by split <;> omega) (fun c_21 => ?_) (fun c_21 => ?_)
    · have c8 : ¬ (-50 ≤ r ∧ r ≤ 50) := fun z => by rw [if_pos z] at c_21; omega
      refine en_iconst h dX5_read_28 ?_
      refine en_callV h (k_X5_refused hw hI (by decide)) my_X5_refused gX5_read_X5_refused (hI _ (by omega) (by omega)) rfl rfl rfl rfl ⟨by decide, by decide⟩ ⟨by decide, by decide⟩ (Nat.le_of_ble_eq_true rfl) dX5_read_29 (fun r M3 hp => ?_)
      obtain ⟨rfl, e1⟩ := hp
      subst e1
      refine en_if_eq (tgt := 37) h dX5_read_32 (by decide) (by omega) (fun c_32 => ?_) (fun c_32 => ?_)
      · exact absurd c_32 (by decide)
      · refine en_iconst h dX5_read_35 ?_
        exact en_iret h hf dX5_read_36 ⟨by decide, by decide⟩ (Or.inr (Or.inl ⟨c9, c8, rfl, rfl⟩))
    · have c8 : (-50 ≤ r ∧ r ≤ 50) := by apply Decidable.byContradiction; intro z; rw [if_neg z] at c_21; omega
      refine en_iconst h dX5_read_24 ?_
      refine en_goto (tgt := 29) h dX5_read_25 (by decide) ?_
      refine en_callV h (k_X5_refused hw hI (by decide)) my_X5_refused gX5_read_X5_refused (hI _ (by omega) (by omega)) rfl rfl rfl rfl ⟨by decide, by decide⟩ ⟨by decide, by decide⟩ (Nat.le_of_ble_eq_true rfl) dX5_read_29 (fun r M3 hp => ?_)
      obtain ⟨rfl, e1⟩ := hp
      subst e1
      refine en_if_eq (tgt := 37) h dX5_read_32 (by decide) (by omega) (fun c_32 => ?_) (fun c_32 => ?_)
      · refine en_aload_n (i := 0) h dX5_read_37 rfl rfl ?_
        refine en_getR h dX5_read_38 fl_X5_read_29 (hI _ (by omega) (by omega)) rfl rfl ?_
        refine en_iload_n (i := 1) h dX5_read_41 rfl rfl ?_
        refine en_iaload h dX5_read_42 (hI _ (by omega) (by omega)) rfl (by omega) (v9 := M2 58 i) (by rw [en_set_ne (by decide)]) ?_
        refine en_istore_n (i := 3) h dX5_read_43 rfl (by decide) ?_
        refine en_aload_n (i := 0) h dX5_read_44 rfl rfl ?_
        refine en_getR h dX5_read_45 fl_X5_read_29 (hI _ (by omega) (by omega)) rfl rfl ?_
        refine en_iload_n (i := 1) h dX5_read_48 rfl rfl ?_
        refine en_iload_n (i := 2) h dX5_read_49 rfl rfl ?_
        refine en_iastore h dX5_read_50 (hI _ (by omega) (by omega)) rfl (by omega) ?_
        refine en_iload_n (i := 3) h dX5_read_51 rfl rfl ?_
        exact en_iret h hf dX5_read_52 ⟨by decide, by decide⟩ (Or.inr (Or.inr ⟨c9, c8, rfl, rfl⟩))
      · exact absurd rfl c_32
  · have c9 : ¬ (0 ≤ i ∧ i < M1 51 7) := fun z => by rw [if_pos z] at c_6; omega
    refine en_iconst h dX5_read_9 ?_
    refine en_goto (tgt := 29) h dX5_read_10 (by decide) ?_
    refine en_callV h (k_X5_refused hw hI (by decide)) my_X5_refused gX5_read_X5_refused (hI _ (by omega) (by omega)) rfl rfl rfl rfl ⟨by decide, by decide⟩ ⟨by decide, by decide⟩ (Nat.le_of_ble_eq_true rfl) dX5_read_29 (fun r M2 hp => ?_)
    obtain ⟨rfl, e1⟩ := hp
    subst e1
    refine en_if_eq (tgt := 37) h dX5_read_32 (by decide) (by omega) (fun c_32 => ?_) (fun c_32 => ?_)
    · exact absurd c_32 (by decide)
    · refine en_iconst h dX5_read_35 ?_
      exact en_iret h hf dX5_read_36 ⟨by decide, by decide⟩ (Or.inl ⟨c9, rfl, rfl⟩)
abbrev rm_X5_use : Room := { frames := 3, cells := 0, slots := 0, locals := 43 }
theorem my_X5_use : en_MY yX5_use RX5 cX5_use 4 (some .boolean) wsX5_use 2 := ⟨⟨_, rfl⟩, rfl, by decide, by decide, by decide +kernel, by decide +kernel⟩
set_option maxRecDepth 20000 in
theorem fl_X5_use_35 : en_FL wsX5_use RX5 35 5 12 := ⟨_, _, _, rfl, by decide, by decide +kernel, Or.inl (by decide +kernel)⟩
set_option maxRecDepth 100000 in
set_option maxHeartbeats 4000000 in
theorem k_X5_use {l : Launch} {w : en_W} {m : en_M} {i c : Int} (hw : en_Wok w) (hp : en_Has w 0 68) (hn : 0 ≤ m 51 7 ∧ m 51 7 ≤ 10) (hu : 0 ≤ i → i < m 51 7 → m 60 i = 0 ∨ m 60 i = 1) (ri : en_i32 i) (c0 : c = 0 ∨ c = 1) : en_Met l w yX5_use wsX5_use rm_X5_use [en_R 51, en_I i, en_I c] m (fun r m' => (¬ (0 ≤ i ∧ i < m 51 7) ∧ r = some (en_I 0) ∧ m' = en_set m 51 0 1) ∨ ((0 ≤ i ∧ i < m 51 7) ∧ r = some (en_I (m 60 i)) ∧ m' = en_set (en_set m 51 0 0) 60 i c)) := by
  refine en_met my_X5_use hw (Nat.le_of_ble_eq_true rfl) ?_
  intro κ hl9 hw9 h hf
  subst hw9
  subst hl9
  have hI : ∀ k, 0 ≤ k → k < 68 → en_in κ k := hp
  refine en_aload_n (i := 0) h dX5_use_0 rfl rfl ?_
  refine en_aload_n (i := 0) h dX5_use_1 rfl rfl ?_
  refine en_iload_n (i := 1) h dX5_use_2 rfl rfl ?_
  refine en_callV h (k_X5_isMeter hw hI ri (by omega)) my_X5_isMeter gX5_use_X5_isMeter (hI _ (by omega) (by omega)) rfl rfl rfl rfl ⟨by decide, by decide⟩ ⟨by decide, by decide⟩ (Nat.le_of_ble_eq_true rfl) dX5_use_3 (fun r M1 hp => ?_)
  obtain ⟨rfl, e1⟩ := hp
  subst e1
  refine en_if_eq (tgt := 13) h dX5_use_6 (by decide) (by split <;> omega) (fun c_6 => ?_) (fun c_6 => ?_)
  · have c9 : ¬ (0 ≤ i ∧ i < M1 51 7) := fun z => by rw [if_pos z] at c_6; omega
    refine en_iconst h dX5_use_13 ?_
    refine en_callV h (k_X5_refused hw hI (by decide)) my_X5_refused gX5_use_X5_refused (hI _ (by omega) (by omega)) rfl rfl rfl rfl ⟨by decide, by decide⟩ ⟨by decide, by decide⟩ (Nat.le_of_ble_eq_true rfl) dX5_use_14 (fun r M2 hp => ?_)
    obtain ⟨rfl, e1⟩ := hp
    subst e1
    refine en_if_eq (tgt := 22) h dX5_use_17 (by decide) (by omega) (fun c_17 => ?_) (fun c_17 => ?_)
    · exact absurd c_17 (by decide)
    · refine en_iconst h dX5_use_20 ?_
      exact en_zret h hf dX5_use_21 ⟨by decide, by decide⟩ (by omega) (Or.inl ⟨c9, rfl, rfl⟩)
  · have c9 : (0 ≤ i ∧ i < M1 51 7) := by apply Decidable.byContradiction; intro z; rw [if_neg z] at c_6; omega
    refine en_iconst h dX5_use_9 ?_
    refine en_goto (tgt := 14) h dX5_use_10 (by decide) ?_
    refine en_callV h (k_X5_refused hw hI (by decide)) my_X5_refused gX5_use_X5_refused (hI _ (by omega) (by omega)) rfl rfl rfl rfl ⟨by decide, by decide⟩ ⟨by decide, by decide⟩ (Nat.le_of_ble_eq_true rfl) dX5_use_14 (fun r M2 hp => ?_)
    obtain ⟨rfl, e1⟩ := hp
    subst e1
    have u := hu c9.1 c9.2
    refine en_if_eq (tgt := 22) h dX5_use_17 (by decide) (by omega) (fun c_17 => ?_) (fun c_17 => ?_)
    · refine en_aload_n (i := 0) h dX5_use_22 rfl rfl ?_
      refine en_getR h dX5_use_23 fl_X5_use_35 (hI _ (by omega) (by omega)) rfl rfl ?_
      refine en_iload_n (i := 1) h dX5_use_26 rfl rfl ?_
      refine en_zaload h dX5_use_27 (hI _ (by omega) (by omega)) rfl (by omega) (v9 := M1 60 i) (by rw [en_set_ne (by decide)]) ?_
      refine en_istore_n (i := 3) h dX5_use_28 rfl (by decide) ?_
      refine en_aload_n (i := 0) h dX5_use_29 rfl rfl ?_
      refine en_getR h dX5_use_30 fl_X5_use_35 (hI _ (by omega) (by omega)) rfl rfl ?_
      refine en_iload_n (i := 1) h dX5_use_33 rfl rfl ?_
      refine en_iload_n (i := 2) h dX5_use_34 rfl rfl ?_
      refine en_zastore h dX5_use_35 (hI _ (by omega) (by omega)) rfl (by omega) (by omega) ?_
      refine en_iload_n (i := 3) h dX5_use_36 rfl rfl ?_
      exact en_zret h hf dX5_use_37 ⟨by decide, by decide⟩ (by omega) (Or.inr ⟨c9, rfl, rfl⟩)
    · exact absurd rfl c_17
/-- what the model keeps of a meter -/
def xo_m (m : en_M) (i : Int) : Prop := (m 56 i = 1 ∧ 0 ≤ m 57 i ∧ m 57 i < m 51 1) ∨ (m 56 i = 0 ∧ 0 ≤ m 57 i ∧ m 57 i < m 51 2)
def xo_mt (m : en_M) : Prop := (0 ≤ m 51 7 ∧ m 51 7 ≤ 10) ∧ ∀ i, 0 ≤ i → i < m 51 7 → xo_m m i ∧ (m 60 i = 0 ∨ m 60 i = 1) ∧ (-50 ≤ m 58 i ∧ m 58 i ≤ 50) ∧ (1 ≤ m 59 i ∧ m 59 i ≤ 2)
def mo_iu (m : en_M) (i : Int) : Int := if m 56 i = 1 then m 61 (m 57 i) else if m 55 (m 57 i) = 0 then -1 else m 61 (m 52 (m 57 i))
def mo_io (m : en_M) (i : Int) : Int := if m 60 i = 0 then -1 else mo_iu m i
abbrev rm_X5_islandOf : Room := { frames := 1, cells := 0, slots := 0, locals := 0 }
theorem my_X5_islandOf : en_MY yX5_islandOf RX5 cX5_islandOf 2 (some .int) wsX5_islandOf 1 := ⟨⟨_, rfl⟩, rfl, by decide, by decide, by decide +kernel, by decide +kernel⟩
set_option maxRecDepth 20000 in
theorem fl_X5_islandOf_7 : en_FL wsX5_islandOf RX5 7 5 3 := ⟨_, _, _, rfl, by decide, by decide +kernel, Or.inl (by decide +kernel)⟩
set_option maxRecDepth 20000 in
theorem fl_X5_islandOf_19 : en_FL wsX5_islandOf RX5 19 5 6 := ⟨_, _, _, rfl, by decide, by decide +kernel, Or.inl (by decide +kernel)⟩
set_option maxRecDepth 20000 in
theorem fl_X5_islandOf_23 : en_FL wsX5_islandOf RX5 23 5 8 := ⟨_, _, _, rfl, by decide, by decide +kernel, Or.inl (by decide +kernel)⟩
set_option maxRecDepth 20000 in
theorem fl_X5_islandOf_26 : en_FL wsX5_islandOf RX5 26 5 9 := ⟨_, _, _, rfl, by decide, by decide +kernel, Or.inl (by decide +kernel)⟩
set_option maxRecDepth 20000 in
theorem fl_X5_islandOf_38 : en_FL wsX5_islandOf RX5 38 5 13 := ⟨_, _, _, rfl, by decide, by decide +kernel, Or.inl (by decide +kernel)⟩
set_option maxRecDepth 100000 in
set_option maxHeartbeats 4000000 in
theorem k_X5_islandOf {l : Launch} {w : en_W} {m : en_M} {i : Int} (hw : en_Wok w) (hp : en_Has w 0 68) (hl : xo_ln m) (i0 : 0 ≤ i ∧ i < 10) (hv : xo_m m i) : en_Met l w yX5_islandOf wsX5_islandOf rm_X5_islandOf [en_R 51, en_I i] m (fun r m' => r = some (en_I (mo_iu m i)) ∧ m' = m) := by
  refine en_met my_X5_islandOf hw (Nat.le_of_ble_eq_true rfl) ?_
  intro κ hl9 hw9 h hf
  subst hw9
  subst hl9
  have hI : ∀ k, 0 ≤ k → k < 68 → en_in κ k := hp
  obtain ⟨n0, n1, hr⟩ := hl
  rcases hv with ⟨v1, v2, v3⟩ | ⟨v1, v2, v3⟩
  · refine en_aload_n (i := 0) h dX5_islandOf_0 rfl rfl ?_
    refine en_getR h dX5_islandOf_1 fl_X5_islandOf_23 (hI _ (by omega) (by omega)) rfl rfl ?_
    refine en_iload_n (i := 1) h dX5_islandOf_4 rfl rfl ?_
    refine en_iaload h dX5_islandOf_5 (hI _ (by omega) (by omega)) rfl (by omega) rfl ?_
    refine en_iconst h dX5_islandOf_6 ?_
    refine en_icmp_ne (tgt := 22) h dX5_islandOf_7 (by decide) (by omega) (by omega) (fun c_7 => ?_) (fun c_7 => ?_)
    · exact absurd v1 c_7
    · refine en_aload_n (i := 0) h dX5_islandOf_10 rfl rfl ?_
      refine en_getR h dX5_islandOf_11 fl_X5_islandOf_38 (hI _ (by omega) (by omega)) rfl rfl ?_
      refine en_aload_n (i := 0) h dX5_islandOf_14 rfl rfl ?_
      refine en_getR h dX5_islandOf_15 fl_X5_islandOf_26 (hI _ (by omega) (by omega)) rfl rfl ?_
      refine en_iload_n (i := 1) h dX5_islandOf_18 rfl rfl ?_
      refine en_iaload h dX5_islandOf_19 (hI _ (by omega) (by omega)) rfl (by omega) rfl ?_
      refine en_iaload h dX5_islandOf_20 (hI _ (by omega) (by omega)) rfl (by omega) rfl ?_
      exact en_iret h hf dX5_islandOf_21 ⟨by decide, by decide⟩ ⟨by unfold mo_iu; rw [if_pos v1], rfl⟩
  · have r := hr _ v2 v3
    refine en_aload_n (i := 0) h dX5_islandOf_0 rfl rfl ?_
    refine en_getR h dX5_islandOf_1 fl_X5_islandOf_23 (hI _ (by omega) (by omega)) rfl rfl ?_
    refine en_iload_n (i := 1) h dX5_islandOf_4 rfl rfl ?_
    refine en_iaload h dX5_islandOf_5 (hI _ (by omega) (by omega)) rfl (by omega) rfl ?_
    refine en_iconst h dX5_islandOf_6 ?_
    refine en_icmp_ne (tgt := 22) h dX5_islandOf_7 (by decide) (by omega) (by omega) (fun c_7 => ?_) (fun c_7 => ?_)
    · refine en_aload_n (i := 0) h dX5_islandOf_22 rfl rfl ?_
      refine en_getR h dX5_islandOf_23 fl_X5_islandOf_19 (hI _ (by omega) (by omega)) rfl rfl ?_
      refine en_aload_n (i := 0) h dX5_islandOf_26 rfl rfl ?_
      refine en_getR h dX5_islandOf_27 fl_X5_islandOf_26 (hI _ (by omega) (by omega)) rfl rfl ?_
      refine en_iload_n (i := 1) h dX5_islandOf_30 rfl rfl ?_
      refine en_iaload h dX5_islandOf_31 (hI _ (by omega) (by omega)) rfl (by omega) rfl ?_
      refine en_zaload h dX5_islandOf_32 (hI _ (by omega) (by omega)) rfl (by omega) rfl ?_
      refine en_if_eq (tgt := 55) h dX5_islandOf_33 (by decide) (by omega) (fun c_33 => ?_) (fun c_33 => ?_)
      · refine en_iconst h dX5_islandOf_55 ?_
        exact en_iret h hf dX5_islandOf_56 ⟨by decide, by decide⟩ ⟨by unfold mo_iu; rw [if_neg c_7, if_pos c_33], rfl⟩
      · refine en_aload_n (i := 0) h dX5_islandOf_36 rfl rfl ?_
        refine en_getR h dX5_islandOf_37 fl_X5_islandOf_38 (hI _ (by omega) (by omega)) rfl rfl ?_
        refine en_aload_n (i := 0) h dX5_islandOf_40 rfl rfl ?_
        refine en_getR h dX5_islandOf_41 fl_X5_islandOf_7 (hI _ (by omega) (by omega)) rfl rfl ?_
        refine en_aload_n (i := 0) h dX5_islandOf_44 rfl rfl ?_
        refine en_getR h dX5_islandOf_45 fl_X5_islandOf_26 (hI _ (by omega) (by omega)) rfl rfl ?_
        refine en_iload_n (i := 1) h dX5_islandOf_48 rfl rfl ?_
        refine en_iaload h dX5_islandOf_49 (hI _ (by omega) (by omega)) rfl (by omega) rfl ?_
        refine en_iaload h dX5_islandOf_50 (hI _ (by omega) (by omega)) rfl (by omega) rfl ?_
        refine en_iaload h dX5_islandOf_51 (hI _ (by omega) (by omega)) rfl (by omega) rfl ?_
        refine en_goto (tgt := 56) h dX5_islandOf_52 (by decide) ?_
        exact en_iret h hf dX5_islandOf_56 ⟨by decide, by decide⟩ ⟨by unfold mo_iu; rw [if_neg c_7, if_neg c_33], rfl⟩
    · exact absurd c_7 (by omega)
abbrev rm_X5_countedIn : Room := { frames := 2, cells := 0, slots := 0, locals := 21 }
theorem my_X5_countedIn : en_MY yX5_countedIn RX5 cX5_countedIn 2 (some .int) wsX5_countedIn 1 := ⟨⟨_, rfl⟩, rfl, by decide, by decide, by decide +kernel, by decide +kernel⟩
set_option maxRecDepth 20000 in
theorem fl_X5_countedIn_35 : en_FL wsX5_countedIn RX5 35 5 12 := ⟨_, _, _, rfl, by decide, by decide +kernel, Or.inl (by decide +kernel)⟩
set_option maxRecDepth 100000 in
set_option maxHeartbeats 4000000 in
theorem k_X5_countedIn {l : Launch} {w : en_W} {m : en_M} {i : Int} (hw : en_Wok w) (hp : en_Has w 0 68) (hl : xo_ln m) (i0 : 0 ≤ i ∧ i < 10) (hv : xo_m m i) (hu : m 60 i = 0 ∨ m 60 i = 1) : en_Met l w yX5_countedIn wsX5_countedIn rm_X5_countedIn [en_R 51, en_I i] m (fun r m' => r = some (en_I (mo_io m i)) ∧ m' = m) := by
  refine en_met my_X5_countedIn hw (Nat.le_of_ble_eq_true rfl) ?_
  intro κ hl9 hw9 h hf
  subst hw9
  subst hl9
  have hI : ∀ k, 0 ≤ k → k < 68 → en_in κ k := hp
  refine en_aload_n (i := 0) h dX5_countedIn_0 rfl rfl ?_
  refine en_getR h dX5_countedIn_1 fl_X5_countedIn_35 (hI _ (by omega) (by omega)) rfl rfl ?_
  refine en_iload_n (i := 1) h dX5_countedIn_4 rfl rfl ?_
  refine en_zaload h dX5_countedIn_5 (hI _ (by omega) (by omega)) rfl (by omega) rfl ?_
  refine en_if_eq (tgt := 17) h dX5_countedIn_6 (by decide) (by omega) (fun c_6 => ?_) (fun c_6 => ?_)
  · refine en_iconst h dX5_countedIn_17 ?_
    exact en_iret h hf dX5_countedIn_18 ⟨by decide, by decide⟩ ⟨by unfold mo_io; rw [if_pos c_6], rfl⟩
  · refine en_aload_n (i := 0) h dX5_countedIn_9 rfl rfl ?_
    refine en_iload_n (i := 1) h dX5_countedIn_10 rfl rfl ?_
    refine en_callV h (k_X5_islandOf hw hI hl i0 hv) my_X5_islandOf gX5_countedIn_X5_islandOf (hI _ (by omega) (by omega)) rfl rfl rfl rfl ⟨by decide, by decide⟩ ⟨by decide, by decide⟩ (Nat.le_of_ble_eq_true rfl) dX5_countedIn_11 (fun r m' hp => ?_)
    obtain ⟨rfl, rfl⟩ := hp
    refine en_goto (tgt := 18) h dX5_countedIn_14 (by decide) ?_
    exact en_iret h hf dX5_countedIn_18 ⟨by decide, by decide⟩ ⟨by unfold mo_io; rw [if_neg c_6], rfl⟩
theorem xo_mt_k {M m : en_M} (h : ∀ k, (56 ≤ k ∧ k ≤ 60) → M k = m k) (h1 : M 51 1 = m 51 1) (h2 : M 51 2 = m 51 2) (h7 : M 51 7 = m 51 7) (hl : xo_mt m) : xo_mt M := by
  unfold xo_mt xo_m
  rw [h 56 (by omega), h 57 (by omega), h 58 (by omega), h 59 (by omega), h 60 (by omega), h1, h2, h7]
  exact hl
abbrev rm_X5_countsIn : Room := { frames := 3, cells := 0, slots := 0, locals := 43 }
theorem my_X5_countsIn : en_MY yX5_countsIn RX5 cX5_countsIn 2 (some .int) wsX5_countsIn 1 := ⟨⟨_, rfl⟩, rfl, by decide, by decide, by decide +kernel, by decide +kernel⟩
set_option maxRecDepth 100000 in
set_option maxHeartbeats 4000000 in
theorem k_X5_countsIn {l : Launch} {w : en_W} {m : en_M} {i : Int} (hw : en_Wok w) (hp : en_Has w 0 68) (hl : xo_ln m) (hm : xo_mt m) (ri : en_i32 i) : en_Met l w yX5_countsIn wsX5_countsIn rm_X5_countsIn [en_R 51, en_I i] m (fun r m' => (¬ (0 ≤ i ∧ i < m 51 7) ∧ r = some (en_I 0) ∧ m' = en_set m 51 0 1) ∨ ((0 ≤ i ∧ i < m 51 7) ∧ r = some (en_I (mo_io (mo_dv m) i)) ∧ m' = mo_dv (en_set m 51 0 0))) := by
  refine en_met my_X5_countsIn hw (Nat.le_of_ble_eq_true rfl) ?_
  intro κ hl9 hw9 h hf
  subst hw9
  subst hl9
  have hI : ∀ k, 0 ≤ k → k < 68 → en_in κ k := hp
  have n9 := hm.1
  refine en_aload_n (i := 0) h dX5_countsIn_0 rfl rfl ?_
  refine en_aload_n (i := 0) h dX5_countsIn_1 rfl rfl ?_
  refine en_iload_n (i := 1) h dX5_countsIn_2 rfl rfl ?_
  refine en_callV h (k_X5_isMeter hw hI ri (by omega)) my_X5_isMeter gX5_countsIn_X5_isMeter (hI _ (by omega) (by omega)) rfl rfl rfl rfl ⟨by decide, by decide⟩ ⟨by decide, by decide⟩ (Nat.le_of_ble_eq_true rfl) dX5_countsIn_3 (fun r M1 hp => ?_)
  obtain ⟨rfl, e1⟩ := hp
  subst e1
  refine en_if_eq (tgt := 13) h dX5_countsIn_6 (by decide) (by split <;> omega) (fun c_6 => ?_) (fun c_6 => ?_)
  · have c9 : ¬ (0 ≤ i ∧ i < M1 51 7) := fun z => by rw [if_pos z] at c_6; omega
    refine en_iconst h dX5_countsIn_13 ?_
    refine en_callV h (k_X5_refused hw hI (by decide)) my_X5_refused gX5_countsIn_X5_refused (hI _ (by omega) (by omega)) rfl rfl rfl rfl ⟨by decide, by decide⟩ ⟨by decide, by decide⟩ (Nat.le_of_ble_eq_true rfl) dX5_countsIn_14 (fun r M2 hp => ?_)
    obtain ⟨rfl, e1⟩ := hp
    subst e1
    refine en_if_eq (tgt := 22) h dX5_countsIn_17 (by decide) (by omega) (fun c_17 => ?_) (fun c_17 => ?_)
    · exact absurd c_17 (by decide)
    · refine en_iconst h dX5_countsIn_20 ?_
      exact en_iret h hf dX5_countsIn_21 ⟨by decide, by decide⟩ (Or.inl ⟨c9, rfl, rfl⟩)
  · have c9 : (0 ≤ i ∧ i < M1 51 7) := by apply Decidable.byContradiction; intro z; rw [if_neg z] at c_6; omega
    refine en_iconst h dX5_countsIn_9 ?_
    refine en_goto (tgt := 14) h dX5_countsIn_10 (by decide) ?_
    refine en_callV h (k_X5_refused hw hI (by decide)) my_X5_refused gX5_countsIn_X5_refused (hI _ (by omega) (by omega)) rfl rfl rfl rfl ⟨by decide, by decide⟩ ⟨by decide, by decide⟩ (Nat.le_of_ble_eq_true rfl) dX5_countsIn_14 (fun r M2 hp => ?_)
    obtain ⟨rfl, e1⟩ := hp
    subst e1
    have l0 : xo_ln (en_set M1 51 0 0) := xo_ln_k (fun k hk => en_set_ne (by omega)) (en_set_nj (by decide)) (en_set_nj (by decide)) hl
    have m0 : xo_mt (en_set M1 51 0 0) := xo_mt_k (fun k hk => en_set_ne (by omega)) (en_set_nj (by decide)) (en_set_nj (by decide)) (en_set_nj (by decide)) hm
    have l1 : xo_ln (mo_dv (en_set M1 51 0 0)) := xo_ln_k (fun k hk => mo_dv_k (by omega)) (by rw [mo_dv_k (by decide)]) (by rw [mo_dv_k (by decide)]) l0
    have m1 : xo_mt (mo_dv (en_set M1 51 0 0)) := xo_mt_k (fun k hk => mo_dv_k (by omega)) (by rw [mo_dv_k (by decide)]) (by rw [mo_dv_k (by decide)]) (by rw [mo_dv_k (by decide)]) m0
    have v := m1.2 i c9.1 (by rw [mo_dv_k (by decide), en_set_nj (by decide)]; exact c9.2)
    refine en_if_eq (tgt := 22) h dX5_countsIn_17 (by decide) (by omega) (fun c_17 => ?_) (fun c_17 => ?_)
    · refine en_aload_n (i := 0) h dX5_countsIn_22 rfl rfl ?_
      refine en_callV h (k_X5_divide hw hI l0) my_X5_divide gX5_countsIn_X5_divide (hI _ (by omega) (by omega)) rfl rfl rfl rfl ⟨by decide, by decide⟩ ⟨by decide, by decide⟩ (Nat.le_of_ble_eq_true rfl) dX5_countsIn_23 (fun r M3 hp => ?_)
      obtain ⟨rfl, e1⟩ := hp
      subst e1
      refine en_aload_n (i := 0) h dX5_countsIn_26 rfl rfl ?_
      refine en_iload_n (i := 1) h dX5_countsIn_27 rfl rfl ?_
      refine en_callV h (k_X5_countedIn hw hI l1 ⟨c9.1, by omega⟩ v.1 v.2.1) my_X5_countedIn gX5_countsIn_X5_countedIn (hI _ (by omega) (by omega)) rfl rfl rfl rfl ⟨by decide, by decide⟩ ⟨by decide, by decide⟩ (Nat.le_of_ble_eq_true rfl) dX5_countsIn_28 (fun r M4 hp => ?_)
      obtain ⟨rfl, e1⟩ := hp
      exact en_iret h hf dX5_countsIn_31 ⟨by decide, by decide⟩ (Or.inr ⟨c9, rfl, e1⟩)
    · exact absurd rfl c_17
