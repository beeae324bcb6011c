/-! MODEL 12: cleaning -/
theorem mc_cl_no {m : en_M} {q lim : Int} (h : ¬ mc_dr m q lim) : ∀ n : Nat, mc_cl q lim n m = (0, m)
  | 0 => rfl
  | n + 1 => by
    simp only [mc_cl]
    rw [if_neg h]
theorem mo_sm_off {M m : en_M} {i : Int} (h : mo_sm M m) : mo_sm (en_set M 60 i 0) (en_set m 60 i 0) := by
  refine ⟨fun k k0 k1 => ?_, fun j hj => by rw [en_set_ne (by decide), en_set_ne (by decide)]; exact h.2 j hj⟩
  by_cases e : k = 60
  · subst e
    funext j
    unfold en_set
    rw [h.1 60 (by decide) (by decide)]
  · rw [en_set_ne e, en_set_ne e]
    exact h.1 k k0 k1
abbrev rm_X5_clean : Room := { frames := 7, cells := 0, slots := 0, locals := 142 }
theorem my_X5_clean : en_MY yX5_clean RX5 cX5_clean 5 (some .int) wsX5_clean 2 := ⟨⟨_, rfl⟩, rfl, by decide, by decide, by decide +kernel, by decide +kernel⟩
set_option maxRecDepth 20000 in
theorem fl_X5_clean_35 : en_FL wsX5_clean RX5 35 5 12 := ⟨_, _, _, rfl, by decide, by decide +kernel, Or.inl (by decide +kernel)⟩
set_option maxRecDepth 20000 in
theorem fl_X5_clean_38 : en_FL wsX5_clean RX5 38 5 13 := ⟨_, _, _, rfl, by decide, by decide +kernel, Or.inl (by decide +kernel)⟩
set_option maxRecDepth 20000 in
theorem fl_X5_clean_132 : en_FL wsX5_clean RX5 132 5 21 := ⟨_, _, _, rfl, by decide, by decide +kernel, Or.inl (by decide +kernel)⟩
set_option maxRecDepth 100000 in
set_option maxHeartbeats 4000000 in
theorem lp_X5_clean_S {κ : en_C} {mm m M : en_M} {b q lim : Int} {n : Nat} (hW : en_Wok (en_w κ)) (hP : en_Has (en_w κ) 0 68) (h : en_Ok κ RX5 cX5_clean 5 wsX5_clean rm_X5_clean) (b0 : 0 ≤ b ∧ b < 5) (q0 : 0 ≤ q ∧ q < 5) (hlim : en_i32 lim) (sm : mo_sm m mm) (hl : xo_ln mm) (hm : xo_mt mm) (hr : ∀ b, 0 ≤ b → b < mm 51 1 → 0 ≤ mm 61 b ∧ mm 61 b ≤ b) (hqb : mm 61 b = q) (es : mg_es M m q) (hz : M 51 0 = 0)
    (kk : mc_dr mm q lim → ∀ m' M', mo_sm m' (en_set mm 60 (mg_wm mm q) 0) → mg_es M' m' q → M' 51 0 = 0 → en_G κ 72 [some (en_R 51), some (en_I b), some (en_I lim), some (en_I ((n + 1 : Nat) : Int)), some (en_I (mg_wm (en_set mm 60 (mg_wm mm q) 0) q))] [] M' 0 0)
    (kx : ¬ mc_dr mm q lim → ∀ M', mo_sm M' mm → M' 51 0 = 0 → en_G κ 130 [some (en_R 51), some (en_I b), some (en_I lim), some (en_I (n : Int)), some (en_I (mg_wm mm q))] [] M' 0 0) : en_G κ 72 [some (en_R 51), some (en_I b), some (en_I lim), some (en_I (n : Int)), some (en_I (mg_wm mm q))] [] M 0 0 := by
  have hI : ∀ k, 0 ≤ k → k < 68 → en_in κ k := hP
  have lm := xo_ln_sm sm hl
  have mt := xo_mt_sm sm hm
  have rf := xo_rf_sm sm hr
  have wr := mg_wm_rng hm q
  have n7 := hm.1
  have e7 := sm.2 7 (by decide)
  have sM := mo_sm_tr (mg_in_sm es.1) sm
  refine en_iload (i := 4) h dX5_clean_72 rfl ?_
  refine en_iconst h dX5_clean_74 ?_
  refine en_icmp_eq (tgt := 130) h dX5_clean_75 (by decide) (by omega) (by omega) (fun c_75 => ?_) (fun c_75 => ?_)
  · exact kx (fun z => z.1 c_75) M sM hz
  · refine en_aload_n (i := 0) h dX5_clean_78 rfl rfl ?_
    refine en_iload (i := 4) h dX5_clean_79 rfl ?_
    refine en_callV h (k_X5_size hW hI lm mt rf es (i := mg_wm mm q) ⟨by omega, by omega⟩) my_X5_size gX5_clean_X5_size (hI _ (by omega) (by omega)) rfl rfl rfl rfl ⟨by decide, by decide⟩ ⟨by decide, by decide⟩ (Nat.le_of_ble_eq_true rfl) dX5_clean_81 (fun r M1 hp => ?_)
    obtain ⟨rfl, es1⟩ := hp
    have z1 : M1 51 0 = 0 := by rw [es1.1.2.1 0 (by decide), ← es.1.2.1 0 (by decide), hz]
    have s1 := mo_sm_tr (mg_in_sm es1.1) sm
    rw [mg_ws_sm sm]
    refine en_iload_n (i := 2) h dX5_clean_84 rfl rfl ?_
    refine en_i2l h dX5_clean_85 hlim ?_
    refine en_aload_n (i := 0) h dX5_clean_86 rfl rfl ?_
    refine en_getL (i := 21) h dX5_clean_87 fl_X5_clean_132 (hI _ (by omega) (by omega)) rfl rfl rfl es1.2.1 ?_
    refine en_lmul h dX5_clean_90 ?_
    refine en_lcmp h dX5_clean_91 ?_
    refine en_if_le (tgt := 130) h dX5_clean_92 (by decide) (en_cmp_r _ _) (fun c_92 => ?_) (fun c_92 => ?_)
    · rw [mg_D_sm sm, en_cmp_le] at c_92
      exact kx (fun z => by omega) M1 s1 z1
    · rw [mg_D_sm sm, en_cmp_gt] at c_92
      refine en_aload_n (i := 0) h dX5_clean_95 rfl rfl ?_
      refine en_iload (i := 4) h dX5_clean_96 rfl ?_
      refine en_callV h (k_X5_isNeeded hW hI (xo_ln_sm s1 hl) (xo_mt_sm s1 hm) (xo_rf_sm s1 hr) (i := mg_wm mm q) ⟨by omega, by rw [s1.2 7 (by decide)]; omega⟩) my_X5_isNeeded gX5_clean_X5_isNeeded (hI _ (by omega) (by omega)) rfl rfl rfl rfl ⟨by decide, by decide⟩ ⟨by decide, by decide⟩ (Nat.le_of_ble_eq_true rfl) dX5_clean_98 (fun r M2 hp => ?_)
      obtain ⟨rfl, g1, g2⟩ := hp
      have s2 := mo_sm_tr g1 s1
      have z2 : M2 51 0 = 0 := by rw [g2, z1]
      have nd := mo_nd_sm s1 (mg_wm mm q)
      refine en_if_ne (tgt := 130) h dX5_clean_101 (by decide) (by split <;> omega) (fun c_101 => ?_) (fun c_101 => ?_)
      · have c9 : mo_nd mm (mg_wm mm q) := nd.mp (by apply Decidable.byContradiction; intro z; rw [if_neg z] at c_101; omega)
        exact kx (fun z => z.2.2 c9) M2 s2 z2
      · have c9 : ¬ mo_nd mm (mg_wm mm q) := fun y => by rw [if_pos (nd.mpr y)] at c_101; omega
        have dr : mc_dr mm q lim := ⟨c_75, c_92, c9⟩
        have s3 := mo_sm_off (i := mg_wm mm q) s2
        obtain ⟨l3, m3, r3, j3⟩ := mc_st_ok hl hm hr q lim
        unfold mc_st at l3 m3 r3 j3
        rw [if_pos dr] at l3 m3 r3 j3
        have q3 : en_set M2 60 (mg_wm mm q) 0 61 b = q := by rw [s3.1 61 (by decide) (by decide), en_set_ne (by decide)]; exact hqb
        refine en_aload_n (i := 0) h dX5_clean_104 rfl rfl ?_
        refine en_getR h dX5_clean_105 fl_X5_clean_35 (hI _ (by omega) (by omega)) rfl rfl ?_
        refine en_iload (i := 4) h dX5_clean_108 rfl ?_
        refine en_iconst h dX5_clean_110 ?_
        refine en_zastore h dX5_clean_111 (hI _ (by omega) (by omega)) rfl (by omega) (by omega) ?_
        refine en_iinc h dX5_clean_112 rfl (by decide) ?_
        refine en_aload_n (i := 0) h dX5_clean_115 rfl rfl ?_
        refine en_aload_n (i := 0) h dX5_clean_116 rfl rfl ?_
        refine en_getR h dX5_clean_117 fl_X5_clean_38 (hI _ (by omega) (by omega)) rfl rfl ?_
        refine en_iload_n (i := 1) h dX5_clean_120 rfl rfl ?_
        refine en_iaload h dX5_clean_121 (hI _ (by omega) (by omega)) rfl (by omega) q3 ?_
        refine en_callV h (k_X5_worstOf hW hI (xo_ln_sm s3 l3) (xo_mt_sm s3 m3) (xo_rf_sm s3 r3) (q := q) (by omega)) my_X5_worstOf gX5_clean_X5_worstOf (hI _ (by omega) (by omega)) rfl rfl rfl rfl ⟨by decide, by decide⟩ ⟨by decide, by decide⟩ (Nat.le_of_ble_eq_true rfl) dX5_clean_122 (fun r M4 hp => ?_)
        obtain ⟨rfl, es4⟩ := hp
        rw [mg_wm_sm s3]
        have k9 := kk dr _ _ s3 es4 (by rw [es4.1.2.1 0 (by decide), en_set_ne (by decide)]; exact z2)
        refine en_istore (i := 4) h dX5_clean_125 (by decide) ?_
        refine en_goto (tgt := 72) h dX5_clean_127 (by decide) ?_
        exact k9
set_option maxRecDepth 100000 in
set_option maxHeartbeats 4000000 in
theorem lp_X5_clean {κ : en_C} {b q lim A : Int} {B : en_M} {post : Option en_V → en_M → Prop} (hW : en_Wok (en_w κ)) (hP : en_Has (en_w κ) 0 68) (h : en_Ok κ RX5 cX5_clean 5 wsX5_clean rm_X5_clean) (hf : en_fin κ rm_X5_clean (some .int) post) (hpost : ∀ r m', r = some (en_I A) → mo_sm m' B → m' 51 0 = 0 → post r m') (b0 : 0 ≤ b ∧ b < 5) (q0 : 0 ≤ q ∧ q < 5) (hlim : en_i32 lim) : ∀ (f n : Nat) (mm m M : en_M), mc_us mm (mm 51 7).toNat ≤ f → mo_sm m mm → xo_ln mm → xo_mt mm → (∀ b, 0 ≤ b → b < mm 51 1 → 0 ≤ mm 61 b ∧ mm 61 b ≤ b) → mm 61 b = q → mg_es M m q → M 51 0 = 0 → A = n + (mc_cl q lim f mm).1 → B = (mc_cl q lim f mm).2 → en_G κ 72 [some (en_R 51), some (en_I b), some (en_I lim), some (en_I (n : Int)), some (en_I (mg_wm mm q))] [] M 0 0 := by
  have hI : ∀ k, 0 ≤ k → k < 68 → en_in κ k := hP
  intro f
  induction f with
  | zero =>
    intro n mm m M hu sm hl hm hr hqb es hz hA hB
    refine lp_X5_clean_S hW hP h b0 q0 hlim sm hl hm hr hqb es hz (fun dr => ?_) (fun nd M' hs hz' => ?_)
    · have wr := mg_wm_rng hm q
      have n7 := hm.1
      exact absurd (mc_us_0 (m := mm) (mm 51 7).toNat (by omega) (mg_wm mm q) (by have z := dr.1; omega) (by omega)) (mg_wm_us q0.1 dr.1)
    · rw [mc_cl_no nd] at hA hB
      refine en_iload_n (i := 3) h dX5_clean_130 rfl rfl ?_
      exact en_iret h hf dX5_clean_131 ⟨by decide, by decide⟩ (hpost _ _ (by rw [hA, Int.add_zero]) (by rw [hB]; exact hs) hz')
  | succ f ih =>
    intro n mm m M hu sm hl hm hr hqb es hz hA hB
    refine lp_X5_clean_S hW hP h b0 q0 hlim sm hl hm hr hqb es hz (fun dr m' M' hs he hz' => ?_) (fun nd M' hs hz' => ?_)
    · have wr := mg_wm_rng hm q
      have n7 := hm.1
      obtain ⟨l3, m3, r3, j3⟩ := mc_st_ok hl hm hr q lim
      have us := (mc_us_set (m := mm) (i := mg_wm mm q) (mm 51 7).toNat).2 (by have z := dr.1; omega) (by omega) (mg_wm_us q0.1 dr.1)
      simp only [mc_cl] at hA hB
      rw [if_pos dr] at hA hB
      have e : mc_st mm q lim = en_set mm 60 (mg_wm mm q) 0 := by unfold mc_st; rw [if_pos dr]
      rw [e] at l3 m3 r3 j3 hA hB
      exact ih (n + 1) _ m' M' (by rw [en_set_ne (k' := 51) (by decide)]; omega) hs l3 m3 r3 (by rw [en_set_ne (by decide)]; exact hqb) he hz' (by rw [hA]; show (n : Int) + (_ + 1) = ((n + 1 : Nat) : Int) + _; omega) hB
    · rw [mc_cl_no nd] at hA hB
      refine en_iload_n (i := 3) h dX5_clean_130 rfl rfl ?_
      exact en_iret h hf dX5_clean_131 ⟨by decide, by decide⟩ (hpost _ _ (by rw [hA, Int.add_zero]) (by rw [hB]; exact hs) hz')
set_option maxRecDepth 100000 in
set_option maxHeartbeats 4000000 in
theorem k_X5_clean {l : Launch} {w : en_W} {m : en_M} {b lim : Int} (hw : en_Wok w) (hp : en_Has w 0 68) (hl : xo_ln m) (hm : xo_mt m) (ri : en_i32 b) (rlim : en_i32 lim) : en_Met l w yX5_clean wsX5_clean rm_X5_clean [en_R 51, en_I b, en_I lim] m (fun r m' => (¬ (0 ≤ b ∧ b < m 51 1) ∧ r = some (en_I 0) ∧ mo_fr m' m 1) ∨ ((0 ≤ b ∧ b < m 51 1) ∧ ¬ (0 ≤ lim ∧ lim ≤ 200) ∧ r = some (en_I 0) ∧ mo_fr m' m 2) ∨ ((0 ≤ b ∧ b < m 51 1) ∧ (0 ≤ lim ∧ lim ≤ 200) ∧ en_w64 (mg_D (mo_qm m 0) (mo_dv m 61 b) (-1)) = 0 ∧ r = some (en_I 0) ∧ mo_fr m' m 3) ∨ ((0 ≤ b ∧ b < m 51 1) ∧ (0 ≤ lim ∧ lim ≤ 200) ∧ en_w64 (mg_D (mo_qm m 0) (mo_dv m 61 b) (-1)) ≠ 0 ∧ r = some (en_I (mc_cl (mo_dv m 61 b) lim 10 (mo_qm m 0)).1) ∧ mo_sm m' (mc_cl (mo_dv m 61 b) lim 10 (mo_qm m 0)).2 ∧ m' 51 0 = 0)) := by
  refine en_met my_X5_clean hw (Nat.le_of_ble_eq_true rfl) ?_
  intro κ hl9 hw9 h hf
  subst hw9
  subst hl9
  have hI : ∀ k, 0 ≤ k → k < 68 → en_in κ k := hp
  have n1 := hl.1
  have n7 := hm.1
  have sd : mo_sm (mo_dv m) (mo_qm m 0) := mo_dv_qm
  have l0 := xo_ln_sm sd (mo_qm_ln hl)
  have m0 := xo_mt_sm sd (mo_qm_mt hm)
  have r0 := xo_rf_sm sd (mo_qm_rf hl)
  have e1d : mo_dv m 51 1 = m 51 1 := by rw [mo_dv_k (by decide)]
  refine en_aload_n (i := 0) h dX5_clean_0 rfl rfl ?_
  refine en_callV h (k_X5_divide hw hI hl) my_X5_divide gX5_clean_X5_divide (hI _ (by omega) (by omega)) rfl rfl rfl rfl ⟨by decide, by decide⟩ ⟨by decide, by decide⟩ (Nat.le_of_ble_eq_true rfl) dX5_clean_1 (fun r M1 hp => ?_)
  obtain ⟨rfl, e1⟩ := hp
  subst e1
  refine en_aload_n (i := 0) h dX5_clean_4 rfl rfl ?_
  refine en_aload_n (i := 0) h dX5_clean_5 rfl rfl ?_
  refine en_iload_n (i := 1) h dX5_clean_6 rfl rfl ?_
  refine en_callV h (k_X5_isBus hw hI ri (by omega)) my_X5_isBus gX5_clean_X5_isBus (hI _ (by omega) (by omega)) rfl rfl rfl rfl ⟨by decide, by decide⟩ ⟨by decide, by decide⟩ (Nat.le_of_ble_eq_true rfl) dX5_clean_7 (fun r M2 hp => ?_)
  obtain ⟨rfl, e1⟩ := hp
  subst e1
  refine en_if_ne (tgt := 17) h dX5_clean_10 (by decide) (by split <;> omega) (fun c_10 => ?_) (fun c_10 => ?_)
  · have c9 : (0 ≤ b ∧ b < m 51 1) := by apply Decidable.byContradiction; intro z; rw [if_neg (by rw [e1d]; exact z)] at c_10; omega
    have q0 := mo_dv_rng hl c9.1 c9.2
    refine en_iload_n (i := 2) h dX5_clean_17 rfl rfl ?_
    refine en_iconst h dX5_clean_18 ?_
    refine en_sipush h dX5_clean_19 (by decide) ?_
    refine en_callS h (k_X5_in hw rlim (by decide) (by decide)) my_X5_in gX5_clean_X5_in rfl rfl ⟨by decide, by decide⟩ ⟨by decide, by decide⟩ (Nat.le_of_ble_eq_true rfl) dX5_clean_22 (fun r M2 hp => ?_)
    obtain ⟨rfl, e1⟩ := hp
    subst e1
    refine en_if_ne (tgt := 32) h dX5_clean_25 (by decide) (by split <;> omega) (fun c_25 => ?_) (fun c_25 => ?_)
    · have c7 : (0 ≤ lim ∧ lim ≤ 200) := by apply Decidable.byContradiction; intro z; rw [if_neg z] at c_25; omega
      refine en_aload_n (i := 0) h dX5_clean_32 rfl rfl ?_
      refine en_aload_n (i := 0) h dX5_clean_33 rfl rfl ?_
      refine en_getR h dX5_clean_34 fl_X5_clean_38 (hI _ (by omega) (by omega)) rfl rfl ?_
      refine en_iload_n (i := 1) h dX5_clean_37 rfl rfl ?_
      refine en_iaload h dX5_clean_38 (hI _ (by omega) (by omega)) rfl (by omega) rfl ?_
      refine en_callV h (k_X5_sees hw hI l0 m0 (q := mo_dv m 61 b) (by omega) r0) my_X5_sees gX5_clean_X5_sees (hI _ (by omega) (by omega)) rfl rfl rfl rfl ⟨by decide, by decide⟩ ⟨by decide, by decide⟩ (Nat.le_of_ble_eq_true rfl) dX5_clean_39 (fun r M3 hp => ?_)
      obtain ⟨rfl, g1, g2⟩ := hp
      rw [mg_D_sm sd]
      refine en_if_eq (tgt := 49) h dX5_clean_42 (by decide) (by split <;> omega) (fun c_42 => ?_) (fun c_42 => ?_)
      · have c8 : en_w64 (mg_D (mo_qm m 0) (mo_dv m 61 b) (-1)) = 0 := by apply Decidable.byContradiction; intro z; rw [if_neg z] at c_42; omega
        refine en_iconst h dX5_clean_49 ?_
        refine en_callV h (k_X5_refused hw hI (by decide)) my_X5_refused gX5_clean_X5_refused (hI _ (by omega) (by omega)) rfl rfl rfl rfl ⟨by decide, by decide⟩ ⟨by decide, by decide⟩ (Nat.le_of_ble_eq_true rfl) dX5_clean_50 (fun r M4 hp => ?_)
        obtain ⟨rfl, e4⟩ := hp
        subst e4
        refine en_if_eq (tgt := 58) h dX5_clean_53 (by decide) (by omega) (fun c_53 => ?_) (fun c_53 => ?_)
        · exact absurd c_53 (by decide)
        · refine en_iconst h dX5_clean_56 ?_
          exact en_iret h hf dX5_clean_57 ⟨by decide, by decide⟩ (Or.inr (Or.inr (Or.inl ⟨c9, c7, c8, rfl, mo_qm_fr (mo_qm_of (mg_in_sm g1)) en_set_at⟩)))
      · have c8 : en_w64 (mg_D (mo_qm m 0) (mo_dv m 61 b) (-1)) ≠ 0 := fun z => by rw [if_pos z] at c_42; omega
        refine en_iconst h dX5_clean_45 ?_
        refine en_goto (tgt := 50) h dX5_clean_46 (by decide) ?_
        refine en_callV h (k_X5_refused hw hI (by decide)) my_X5_refused gX5_clean_X5_refused (hI _ (by omega) (by omega)) rfl rfl rfl rfl ⟨by decide, by decide⟩ ⟨by decide, by decide⟩ (Nat.le_of_ble_eq_true rfl) dX5_clean_50 (fun r M4 hp => ?_)
        obtain ⟨rfl, e4⟩ := hp
        have s4 : mo_sm M4 (mo_qm m 0) := by rw [e4]; exact mo_qm_of (mg_in_sm g1)
        have z4 : M4 51 0 = 0 := by rw [e4, en_set_at]
        have l4 := xo_ln_sm s4 (mo_qm_ln hl)
        have m4 := xo_mt_sm s4 (mo_qm_mt hm)
        have r4 := xo_rf_sm s4 (mo_qm_rf hl)
        have q4 : M4 61 b = mo_dv m 61 b := by rw [s4.1 61 (by decide) (by decide), mo_qm_k (by decide)]
        clear e4
        refine en_if_eq (tgt := 58) h dX5_clean_53 (by decide) (by omega) (fun c_53 => ?_) (fun c_53 => ?_)
        · refine en_iconst h dX5_clean_58 ?_
          refine en_istore_n (i := 3) h dX5_clean_59 rfl (by decide) ?_
          refine en_aload_n (i := 0) h dX5_clean_60 rfl rfl ?_
          refine en_aload_n (i := 0) h dX5_clean_61 rfl rfl ?_
          refine en_getR h dX5_clean_62 fl_X5_clean_38 (hI _ (by omega) (by omega)) rfl rfl ?_
          refine en_iload_n (i := 1) h dX5_clean_65 rfl rfl ?_
          refine en_iaload h dX5_clean_66 (hI _ (by omega) (by omega)) rfl (by omega) q4 ?_
          refine en_callV h (k_X5_worstOf hw hI l4 m4 r4 (q := mo_dv m 61 b) (by omega)) my_X5_worstOf gX5_clean_X5_worstOf (hI _ (by omega) (by omega)) rfl rfl rfl rfl ⟨by decide, by decide⟩ ⟨by decide, by decide⟩ (Nat.le_of_ble_eq_true rfl) dX5_clean_67 (fun r M5 hp => ?_)
          obtain ⟨rfl, es⟩ := hp
          rw [mg_wm_sm s4]
          have us := mc_us_le (mo_qm m 0) (mo_qm m 0 51 7).toNat
          have e7q : mo_qm m 0 51 7 = m 51 7 := mo_qm_j (by decide)
          have go := lp_X5_clean (A := (mc_cl (mo_dv m 61 b) lim 10 (mo_qm m 0)).1) (B := (mc_cl (mo_dv m 61 b) lim 10 (mo_qm m 0)).2) (b := b) hw hI h hf (fun r m' h1 h2 h3 => Or.inr (Or.inr (Or.inr ⟨c9, c7, c8, h1, h2, h3⟩))) ⟨by omega, by omega⟩ (q := mo_dv m 61 b) ⟨by omega, by omega⟩ rlim 10 0 (mo_qm m 0) M4 M5 (by omega) s4 (mo_qm_ln hl) (mo_qm_mt hm) (mo_qm_rf hl) (by rw [mo_qm_k (by decide)]) es (by rw [es.1.2.1 0 (by decide), z4]) (by omega) rfl
          refine en_istore (i := 4) h dX5_clean_70 (by decide) ?_
          exact go
        · exact absurd rfl c_53
    · have c7 : ¬ (0 ≤ lim ∧ lim ≤ 200) := fun z => by rw [if_pos z] at c_25; omega
      refine en_iconst h dX5_clean_28 ?_
      refine en_goto (tgt := 50) h dX5_clean_29 (by decide) ?_
      refine en_callV h (k_X5_refused hw hI (by decide)) my_X5_refused gX5_clean_X5_refused (hI _ (by omega) (by omega)) rfl rfl rfl rfl ⟨by decide, by decide⟩ ⟨by decide, by decide⟩ (Nat.le_of_ble_eq_true rfl) dX5_clean_50 (fun r M4 hp => ?_)
      obtain ⟨rfl, e4⟩ := hp
      subst e4
      refine en_if_eq (tgt := 58) h dX5_clean_53 (by decide) (by omega) (fun c_53 => ?_) (fun c_53 => ?_)
      · exact absurd c_53 (by decide)
      · refine en_iconst h dX5_clean_56 ?_
        exact en_iret h hf dX5_clean_57 ⟨by decide, by decide⟩ (Or.inr (Or.inl ⟨c9, c7, rfl, mo_qm_fr (mo_qm_of (mo_sm_rf _)) en_set_at⟩))
  · have c9 : ¬ (0 ≤ b ∧ b < m 51 1) := fun z => by rw [if_pos (by rw [e1d]; exact z)] at c_10; omega
    refine en_iconst h dX5_clean_13 ?_
    refine en_goto (tgt := 50) h dX5_clean_14 (by decide) ?_
    refine en_callV h (k_X5_refused hw hI (by decide)) my_X5_refused gX5_clean_X5_refused (hI _ (by omega) (by omega)) rfl rfl rfl rfl ⟨by decide, by decide⟩ ⟨by decide, by decide⟩ (Nat.le_of_ble_eq_true rfl) dX5_clean_50 (fun r M4 hp => ?_)
    obtain ⟨rfl, e4⟩ := hp
    subst e4
    refine en_if_eq (tgt := 58) h dX5_clean_53 (by decide) (by omega) (fun c_53 => ?_) (fun c_53 => ?_)
    · exact absurd c_53 (by decide)
    · refine en_iconst h dX5_clean_56 ?_
      exact en_iret h hf dX5_clean_57 ⟨by decide, by decide⟩ (Or.inl ⟨c9, rfl, mo_qm_fr (mo_qm_of (mo_sm_rf _)) en_set_at⟩)
