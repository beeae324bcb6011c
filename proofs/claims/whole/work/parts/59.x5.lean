/-! MODEL 8: fractions, residuals -/
abbrev rm_X5_reduce : Room := { frames := 1, cells := 0, slots := 0, locals := 0 }
theorem my_X5_reduce : en_MY yX5_reduce RX5 cX5_reduce 11 none wsX5_reduce 2 := ⟨⟨_, rfl⟩, rfl, by decide, by decide, by decide +kernel, by decide +kernel⟩
set_option maxRecDepth 20000 in
theorem fl_X5_reduce_139 : en_FL wsX5_reduce RX5 139 5 22 := ⟨_, _, _, rfl, by decide, by decide +kernel, Or.inl (by decide +kernel)⟩
set_option maxRecDepth 20000 in
theorem fl_X5_reduce_142 : en_FL wsX5_reduce RX5 142 5 23 := ⟨_, _, _, rfl, by decide, by decide +kernel, Or.inl (by decide +kernel)⟩
set_option maxRecDepth 100000 in
set_option maxHeartbeats 4000000 in
theorem lp_X5_reduce {κ : en_C} {m : en_M} {x y : Int} {g : Nat} (hP : en_Has (en_w κ) 0 68) (h : en_Ok κ RX5 cX5_reduce 11 wsX5_reduce rm_X5_reduce) (hf : en_fin κ rm_X5_reduce none (fun r m' => r = none ∧ m' = en_set (en_set m 51 22 (x.tdiv g)) 51 23 (y.tdiv g))) (hx : -9223372036854775808 < x ∧ x < 9223372036854775808) (hy : 0 < y ∧ y < 9223372036854775808) (hg : 0 < g ∧ g < 9223372036854775808) : ∀ (f a b : Nat) (o : Option en_V), xg_P f a b → a < 9223372036854775808 → b < 9223372036854775808 → Nat.gcd a b = g → en_G κ 17 [some (en_R 51), some (en_L x), none, some (en_L y), none, some (en_L (a : Int)), none, some (en_L (b : Int)), none, o, none] [] m 0 0 := by
  have hI : ∀ k, 0 ≤ k → k < 68 → en_in κ k := hP
  have w0 : en_w64 0 = 0 := by decide
  have out : ∀ (a b : Nat) (o : Option en_V), b = 0 → Nat.gcd a b = g → en_G κ 42 [some (en_R 51), some (en_L x), none, some (en_L y), none, some (en_L (a : Int)), none, some (en_L (b : Int)), none, o, none] [] m 0 0 := by
    intro a b o hb hg9
    subst hb
    rw [Nat.gcd_zero_right] at hg9
    subst hg9
    refine en_aload_n (i := 0) h dX5_reduce_42 rfl rfl ?_
    refine en_lload_n (i := 1) h dX5_reduce_43 rfl rfl ?_
    refine en_lload (i := 5) h dX5_reduce_44 rfl ?_
    refine en_ldiv h dX5_reduce_46 (by omega) (by omega) ?_
    refine en_putL (i := 22) h dX5_reduce_47 fl_X5_reduce_139 fp_5_22 (hI _ (by omega) (by omega)) rfl rfl rfl ?_
    refine en_aload_n (i := 0) h dX5_reduce_50 rfl rfl ?_
    refine en_lload_n (i := 3) h dX5_reduce_51 rfl rfl ?_
    refine en_lload (i := 5) h dX5_reduce_52 rfl ?_
    refine en_ldiv h dX5_reduce_54 (by omega) (by omega) ?_
    refine en_putL (i := 23) h dX5_reduce_55 fl_X5_reduce_142 fp_5_23 (hI _ (by omega) (by omega)) rfl rfl rfl ?_
    exact en_vret h hf dX5_reduce_58 ⟨by decide, by decide⟩ ⟨rfl, rfl⟩
  intro f
  induction f with
  | zero =>
    intro a b o hP9 ha hb hg9
    have b0 := xg_P0 hP9
    refine en_lload (i := 7) h dX5_reduce_17 rfl ?_
    refine en_lconst (z := 0) h dX5_reduce_19 rfl ?_
    refine en_lcmp h dX5_reduce_20 ?_
    refine en_if_eq (tgt := 42) h dX5_reduce_21 (by decide) (en_cmp_r _ _) (fun c_21 => ?_) (fun c_21 => ?_)
    · exact out a b o b0 hg9
    · rw [en_w64_id (by omega), w0, Ne, en_cmp_eq] at c_21
      exact absurd (by omega) c_21
  | succ f ih =>
    intro a b o hP9 ha hb hg9
    refine en_lload (i := 7) h dX5_reduce_17 rfl ?_
    refine en_lconst (z := 0) h dX5_reduce_19 rfl ?_
    refine en_lcmp h dX5_reduce_20 ?_
    refine en_if_eq (tgt := 42) h dX5_reduce_21 (by decide) (en_cmp_r _ _) (fun c_21 => ?_) (fun c_21 => ?_)
    · rw [en_w64_id (by omega), w0, en_cmp_eq] at c_21
      exact out a b o (by omega) hg9
    · rw [en_w64_id (by omega), w0, Ne, en_cmp_eq] at c_21
      obtain ⟨f', e1, hP'⟩ := xg_Ps (by omega) hP9
      obtain rfl : f' = f := by omega
      refine en_lload (i := 5) h dX5_reduce_24 rfl ?_
      refine en_lload (i := 7) h dX5_reduce_26 rfl ?_
      refine en_lrem h dX5_reduce_28 (by omega) (by omega) ?_
      refine en_lstore (i := 9) h dX5_reduce_29 (by decide) ?_
      refine en_lload (i := 7) h dX5_reduce_31 rfl ?_
      refine en_lstore (i := 5) h dX5_reduce_33 (by decide) ?_
      refine en_lload (i := 9) h dX5_reduce_35 rfl ?_
      refine en_lstore (i := 7) h dX5_reduce_37 (by decide) ?_
      refine en_goto (tgt := 17) h dX5_reduce_39 (by decide) ?_
      rw [xg_rem]
      exact ih b (a % b) _ hP' hb (by have := Nat.mod_lt a (show 0 < b by omega); omega) (by rw [← hg9, Nat.gcd_comm b, ← Nat.gcd_rec, Nat.gcd_comm])
set_option maxRecDepth 100000 in
set_option maxHeartbeats 4000000 in
theorem k_X5_reduce {l : Launch} {w : en_W} {m : en_M} {x y : Int} (hw : en_Wok w) (hp : en_Has w 0 68) (hx : -9223372036854775808 < x ∧ x < 9223372036854775808) (hy : 0 < y ∧ y < 9223372036854775808) : en_Met l w yX5_reduce wsX5_reduce rm_X5_reduce [en_R 51, en_L x, en_L y] m (fun r m' => r = none ∧ m' = en_set (en_set m 51 22 (x.tdiv (xg x y))) 51 23 (y.tdiv (xg x y))) := by
  refine en_met my_X5_reduce hw (Nat.le_of_ble_eq_true rfl) ?_
  intro κ hl9 hw9 h hf
  subst hw9
  subst hl9
  have hI : ∀ k, 0 ≤ k → k < 68 → en_in κ k := hp
  have w0 : en_w64 0 = 0 := by decide
  have e : xg x y = ((Nat.gcd x.natAbs y.natAbs : Nat) : Int) := by
    have q : 0 < Nat.gcd y.natAbs x.natAbs := Nat.gcd_pos_of_pos_left _ (by omega)
    unfold xg
    rw [Nat.gcd_comm x.natAbs]
    omega
  have q : 0 < Nat.gcd x.natAbs y.natAbs := Nat.gcd_pos_of_pos_right _ (by omega)
  have q2 : Nat.gcd x.natAbs y.natAbs ≤ y.natAbs := Nat.gcd_le_right _ (by omega)
  have q3 : x.natAbs * y.natAbs ≤ 9223372036854775807 * 9223372036854775807 := Nat.mul_le_mul (by omega) (by omega)
  rw [e] at hf
  have go := lp_X5_reduce hp h hf hx hy ⟨q, by omega⟩ 127 x.natAbs y.natAbs none (Or.inr ⟨126, rfl, Nat.lt_of_le_of_lt q3 (by decide)⟩) (by omega) (by omega) rfl
  rw [show ((y.natAbs : Nat) : Int) = y by omega] at go
  refine en_lload_n (i := 1) h dX5_reduce_0 rfl rfl ?_
  refine en_lconst (z := 0) h dX5_reduce_1 rfl ?_
  refine en_lcmp h dX5_reduce_2 ?_
  refine en_if_ge (tgt := 11) h dX5_reduce_3 (by decide) (en_cmp_r _ _) (fun c_3 => ?_) (fun c_3 => ?_)
  · rw [en_w64_id (by omega), w0, en_cmp_ge] at c_3
    rw [show ((x.natAbs : Nat) : Int) = x by omega] at go
    refine en_lload_n (i := 1) h dX5_reduce_11 rfl rfl ?_
    refine en_lstore (i := 5) h dX5_reduce_12 (by decide) ?_
    refine en_lload_n (i := 3) h dX5_reduce_14 rfl rfl ?_
    refine en_lstore (i := 7) h dX5_reduce_15 (by decide) ?_
    exact go
  · rw [en_w64_id (by omega), w0, en_cmp_lt] at c_3
    rw [show ((x.natAbs : Nat) : Int) = -x by omega] at go
    refine en_lload_n (i := 1) h dX5_reduce_6 rfl rfl ?_
    refine en_lneg h dX5_reduce_7 ?_
    refine en_goto (tgt := 12) h dX5_reduce_8 (by decide) ?_
    refine en_lstore (i := 5) h dX5_reduce_12 (by decide) ?_
    refine en_lload_n (i := 3) h dX5_reduce_14 rfl rfl ?_
    refine en_lstore (i := 7) h dX5_reduce_15 (by decide) ?_
    exact go
/-- the residual of meter i in island q, times the bottom; its size -/
def mg_rs (m : en_M) (q i : Int) : Int := gm_rs (m 58 i) (mg_D m q (-1)) (mg_row m q i) (mg_T m q) 4
def mm_ab (x : Int) : Int := if en_w64 x < 0 then -x else x
def mg_ws (m : en_M) (q i : Int) : Int := m 59 i * mm_ab (mg_rs m q i)
theorem mg_es_mv {M M0 m : en_M} {q : Int} (h : mg_es M0 m q) (hk : ∀ k, k ≠ 63 → M k = M0 k) : mg_es M m q := by
  obtain ⟨⟨h1, h2, h3, h4, h5, h6⟩, h7, h8⟩ := h
  exact ⟨⟨fun k k0 k1 => by rw [hk k (by omega)]; exact h1 k k0 k1, fun j hj => by rw [hk 51 (by decide)]; exact h2 j hj, by rw [hk 51 (by decide)]; exact h3, fun b b0 b1 => by rw [hk 62 (by decide)]; exact h4 b b0 b1, fun k k0 k1 => by rw [hk 64 (by decide)]; exact h5 k k0 k1, fun k k0 k1 => by rw [hk 65 (by decide)]; exact h6 k k0 k1⟩, by rw [hk 51 (by decide)]; exact h7, fun a a0 a1 => by rw [hk 67 (by decide)]; exact h8 a a0 a1⟩
abbrev rm_X5_residual : Room := { frames := 3, cells := 0, slots := 0, locals := 48 }
theorem my_X5_residual : en_MY yX5_residual RX5 cX5_residual 5 (some .long) wsX5_residual 1 := ⟨⟨_, rfl⟩, rfl, by decide, by decide, by decide +kernel, by decide +kernel⟩
set_option maxRecDepth 20000 in
theorem fl_X5_residual_29 : en_FL wsX5_residual RX5 29 5 10 := ⟨_, _, _, rfl, by decide, by decide +kernel, Or.inl (by decide +kernel)⟩
set_option maxRecDepth 20000 in
theorem fl_X5_residual_44 : en_FL wsX5_residual RX5 44 5 16 := ⟨_, _, _, rfl, by decide, by decide +kernel, Or.inl (by decide +kernel)⟩
set_option maxRecDepth 20000 in
theorem fl_X5_residual_57 : en_FL wsX5_residual RX5 57 5 20 := ⟨_, _, _, rfl, by decide, by decide +kernel, Or.inl (by decide +kernel)⟩
set_option maxRecDepth 20000 in
theorem fl_X5_residual_132 : en_FL wsX5_residual RX5 132 5 21 := ⟨_, _, _, rfl, by decide, by decide +kernel, Or.inl (by decide +kernel)⟩
set_option maxRecDepth 100000 in
set_option maxHeartbeats 4000000 in
theorem lp_X5_residual {κ : en_C} {M m : en_M} {q i : Int} (hP : en_Has (en_w κ) 0 68) (h : en_Ok κ RX5 cX5_residual 5 wsX5_residual rm_X5_residual) (hf : en_fin κ rm_X5_residual (some .long) (fun r m' => r = some (en_L (mg_rs m q i)) ∧ mg_es m' m q)) (hl : xo_ln m) (es : mg_es M m q) (hrow : ∀ k, 0 ≤ k → k < 4 → M 63 k = mg_row m q i k) : ∀ (f k : Nat), f + k = 4 → en_G κ 21 [some (en_R 51), some (en_I i), some (en_L (gm_rs (m 58 i) (mg_D m q (-1)) (mg_row m q i) (mg_T m q) k)), none, some (en_I (k : Int))] [] M 0 0 := by
  have hI : ∀ k, 0 ≤ k → k < 68 → en_in κ k := hP
  intro f
  induction f with
  | zero =>
    intro k hk
    refine en_iload (i := 4) h dX5_residual_21 rfl ?_
    refine en_iconst h dX5_residual_23 ?_
    refine en_icmp_ge (tgt := 52) h dX5_residual_24 (by decide) (by omega) (by omega) (fun c_24 => ?_) (fun c_24 => ?_)
    · refine en_lload_n (i := 2) h dX5_residual_52 rfl rfl ?_
      exact en_lret h hf dX5_residual_53 ⟨by decide, by decide⟩ ⟨by rw [show k = 4 by omega]; rfl, es⟩
    · exact absurd c_24 (by omega)
  | succ f ih =>
    intro k hk
    have z := mg_row_bd hl q i k
    refine en_iload (i := 4) h dX5_residual_21 rfl ?_
    refine en_iconst h dX5_residual_23 ?_
    refine en_icmp_ge (tgt := 52) h dX5_residual_24 (by decide) (by omega) (by omega) (fun c_24 => ?_) (fun c_24 => ?_)
    · exact absurd c_24 (by omega)
    · refine en_lload_n (i := 2) h dX5_residual_27 rfl rfl ?_
      refine en_aload_n (i := 0) h dX5_residual_28 rfl rfl ?_
      refine en_getR h dX5_residual_29 fl_X5_residual_44 (hI _ (by omega) (by omega)) rfl rfl ?_
      refine en_iload (i := 4) h dX5_residual_32 rfl ?_
      refine en_iaload h dX5_residual_34 (hI _ (by omega) (by omega)) rfl (by omega) (hrow k (by omega) (by omega)) ?_
      refine en_i2l h dX5_residual_35 (by omega) ?_
      refine en_aload_n (i := 0) h dX5_residual_36 rfl rfl ?_
      refine en_getR h dX5_residual_37 fl_X5_residual_57 (hI _ (by omega) (by omega)) rfl rfl ?_
      refine en_iload (i := 4) h dX5_residual_40 rfl ?_
      refine en_laload h dX5_residual_42 (hI _ (by omega) (by omega)) rfl (by omega) (es.2.2 k (by omega) (by omega)) ?_
      refine en_lmul h dX5_residual_43 ?_
      refine en_lsub h dX5_residual_44 ?_
      refine en_lstore_n (i := 2) h dX5_residual_45 rfl (by decide) ?_
      refine en_iinc h dX5_residual_46 rfl (by decide) ?_
      refine en_goto (tgt := 21) h dX5_residual_49 (by decide) ?_
      exact ih (k + 1) (by omega)
set_option maxRecDepth 100000 in
set_option maxHeartbeats 4000000 in
theorem k_X5_residual {l : Launch} {w : en_W} {M m : en_M} {q i : Int} (hw : en_Wok w) (hp : en_Has w 0 68) (hl : xo_ln m) (hm : xo_mt m) (hr : ∀ b, 0 ≤ b → b < m 51 1 → 0 ≤ m 61 b ∧ m 61 b ≤ b) (es : mg_es M m q) (i0 : 0 ≤ i ∧ i < m 51 7) : en_Met l w yX5_residual wsX5_residual rm_X5_residual [en_R 51, en_I i] M (fun r m' => r = some (en_L (mg_rs m q i)) ∧ mg_es m' m q) := by
  refine en_met my_X5_residual hw (Nat.le_of_ble_eq_true rfl) ?_
  intro κ hl9 hw9 h hf
  subst hw9
  subst hl9
  have hI : ∀ k, 0 ≤ k → k < 68 → en_in κ k := hp
  have n1 := hl.1
  have n7 := hm.1
  have lM := mg_in_ln es.1 hl
  have mM := mg_in_mt es.1 hm
  have e7 := es.1.2.1 7 (by decide)
  have v := mM.2 i i0.1 (by omega)
  have v0 := hm.2 i i0.1 i0.2
  refine en_aload_n (i := 0) h dX5_residual_0 rfl rfl ?_
  refine en_iload_n (i := 1) h dX5_residual_1 rfl rfl ?_
  refine en_callV h (k_X5_layRow hw hI lM ⟨by omega, by omega⟩ v.1 (fun b b0 b1 => by rw [es.1.2.1 1 (by decide)] at b1; rw [es.1.2.2.2.1 b b0 b1]; exact ma_ao_lt b0 (by omega) (hr b b0 b1))) my_X5_layRow gX5_residual_X5_layRow (hI _ (by omega) (by omega)) rfl rfl rfl rfl ⟨by decide, by decide⟩ ⟨by decide, by decide⟩ (Nat.le_of_ble_eq_true rfl) dX5_residual_2 (fun r M1 hp => ?_)
  obtain ⟨rfl, e1⟩ := hp
  rw [mg_in_row es.1 hl] at e1
  have es1 : mg_es M1 m q := mg_es_mv es (fun k hk => by rw [e1, en_ar_ne hk])
  have q58 : M1 58 i = m 58 i := by rw [es1.1.1 58 (by decide) (by decide)]
  refine en_aload_n (i := 0) h dX5_residual_5 rfl rfl ?_
  refine en_getR h dX5_residual_6 fl_X5_residual_29 (hI _ (by omega) (by omega)) rfl rfl ?_
  refine en_iload_n (i := 1) h dX5_residual_9 rfl rfl ?_
  refine en_iaload h dX5_residual_10 (hI _ (by omega) (by omega)) rfl (by omega) q58 ?_
  refine en_i2l h dX5_residual_11 (by omega) ?_
  refine en_aload_n (i := 0) h dX5_residual_12 rfl rfl ?_
  refine en_getL (i := 21) h dX5_residual_13 fl_X5_residual_132 (hI _ (by omega) (by omega)) rfl rfl rfl es1.2.1 ?_
  refine en_lmul h dX5_residual_16 ?_
  refine en_lstore_n (i := 2) h dX5_residual_17 rfl (by decide) ?_
  refine en_iconst h dX5_residual_18 ?_
  refine en_istore (i := 4) h dX5_residual_19 (by decide) ?_
  exact lp_X5_residual hI h hf hl es1 (fun k k0 k1 => by rw [e1, en_ar_at k0 k1]) 4 0 rfl
abbrev rm_X5_size : Room := { frames := 4, cells := 0, slots := 0, locals := 72 }
theorem my_X5_size : en_MY yX5_size RX5 cX5_size 4 (some .long) wsX5_size 1 := ⟨⟨_, rfl⟩, rfl, by decide, by decide, by decide +kernel, by decide +kernel⟩
set_option maxRecDepth 20000 in
theorem fl_X5_size_32 : en_FL wsX5_size RX5 32 5 11 := ⟨_, _, _, rfl, by decide, by decide +kernel, Or.inl (by decide +kernel)⟩
set_option maxRecDepth 100000 in
set_option maxHeartbeats 4000000 in
theorem k_X5_size {l : Launch} {w : en_W} {M m : en_M} {q i : Int} (hw : en_Wok w) (hp : en_Has w 0 68) (hl : xo_ln m) (hm : xo_mt m) (hr : ∀ b, 0 ≤ b → b < m 51 1 → 0 ≤ m 61 b ∧ m 61 b ≤ b) (es : mg_es M m q) (i0 : 0 ≤ i ∧ i < m 51 7) : en_Met l w yX5_size wsX5_size rm_X5_size [en_R 51, en_I i] M (fun r m' => r = some (en_L (mg_ws m q i)) ∧ mg_es m' m q) := by
  refine en_met my_X5_size hw (Nat.le_of_ble_eq_true rfl) ?_
  intro κ hl9 hw9 h hf
  subst hw9
  subst hl9
  have hI : ∀ k, 0 ≤ k → k < 68 → en_in κ k := hp
  have n7 := hm.1
  have v0 := hm.2 i i0.1 i0.2
  have w0 : en_w64 0 = 0 := by decide
  refine en_aload_n (i := 0) h dX5_size_0 rfl rfl ?_
  refine en_iload_n (i := 1) h dX5_size_1 rfl rfl ?_
  refine en_callV h (k_X5_residual hw hI hl hm hr es i0) my_X5_residual gX5_size_X5_residual (hI _ (by omega) (by omega)) rfl rfl rfl rfl ⟨by decide, by decide⟩ ⟨by decide, by decide⟩ (Nat.le_of_ble_eq_true rfl) dX5_size_2 (fun r M1 hp => ?_)
  obtain ⟨rfl, es1⟩ := hp
  have q59 : M1 59 i = m 59 i := by rw [es1.1.1 59 (by decide) (by decide)]
  refine en_lstore_n (i := 2) h dX5_size_5 rfl (by decide) ?_
  refine en_aload_n (i := 0) h dX5_size_6 rfl rfl ?_
  refine en_getR h dX5_size_7 fl_X5_size_32 (hI _ (by omega) (by omega)) rfl rfl ?_
  refine en_iload_n (i := 1) h dX5_size_10 rfl rfl ?_
  refine en_iaload h dX5_size_11 (hI _ (by omega) (by omega)) rfl (by omega) q59 ?_
  refine en_i2l h dX5_size_12 (by omega) ?_
  refine en_lload_n (i := 2) h dX5_size_13 rfl rfl ?_
  refine en_lconst (z := 0) h dX5_size_14 rfl ?_
  refine en_lcmp h dX5_size_15 ?_
  refine en_if_ge (tgt := 24) h dX5_size_16 (by decide) (en_cmp_r _ _) (fun c_16 => ?_) (fun c_16 => ?_)
  · rw [w0, en_cmp_ge] at c_16
    refine en_lload_n (i := 2) h dX5_size_24 rfl rfl ?_
    refine en_lmul h dX5_size_25 ?_
    exact en_lret h hf dX5_size_26 ⟨by decide, by decide⟩ ⟨by unfold mg_ws mm_ab; rw [if_neg (by omega)], es1⟩
  · rw [w0, en_cmp_lt] at c_16
    refine en_lload_n (i := 2) h dX5_size_19 rfl rfl ?_
    refine en_lneg h dX5_size_20 ?_
    refine en_goto (tgt := 25) h dX5_size_21 (by decide) ?_
    refine en_lmul h dX5_size_25 ?_
    exact en_lret h hf dX5_size_26 ⟨by decide, by decide⟩ ⟨by unfold mg_ws mm_ab; rw [if_pos c_16], es1⟩
/-- the model's meters, lines and references are the same -/
def mo_sm (M m : en_M) : Prop := (∀ k, k ≠ 51 → (k < 62 ∨ 67 < k) → M k = m k) ∧ ∀ j, (j = 1 ∨ j = 2 ∨ j = 7) → M 51 j = m 51 j
theorem mg_in_sm {M m : en_M} {q ex : Int} {n : Nat} (h : mg_in M m q ex n) : mo_sm M m := ⟨h.1, fun j hj => h.2.1 j (by omega)⟩
theorem mo_sm_tr {M M0 m : en_M} (h : mo_sm M M0) (h0 : mo_sm M0 m) : mo_sm M m := ⟨fun k k0 k1 => (h.1 k k0 k1).trans (h0.1 k k0 k1), fun j hj => (h.2 j hj).trans (h0.2 j hj)⟩
theorem mo_sm_rf (m : en_M) : mo_sm m m := ⟨fun _ _ _ => rfl, fun _ _ => rfl⟩
abbrev rm_X5_isNeeded : Room := { frames := 5, cells := 0, slots := 0, locals := 94 }
theorem my_X5_isNeeded : en_MY yX5_isNeeded RX5 cX5_isNeeded 3 (some .boolean) wsX5_isNeeded 1 := ⟨⟨_, rfl⟩, rfl, by decide, by decide, by decide +kernel, by decide +kernel⟩
/-- meter i is needed -/
abbrev mo_nd (m : en_M) (i : Int) : Prop := mo_io m i ≠ -1 ∧ en_w64 (mg_D m (mo_io m i) (-1)) ≠ 0 ∧ en_w64 (mg_D m (mo_io m i) i) = 0
theorem mo_io_32 {m : en_M} (hl : xo_ln m) (hm : xo_mt m) (hr : ∀ b, 0 ≤ b → b < m 51 1 → 0 ≤ m 61 b ∧ m 61 b ≤ b) {i : Int} (i0 : 0 ≤ i ∧ i < m 51 7) : -1 ≤ mo_io m i ∧ mo_io m i < 5 := by
  have n1 := hl.1
  have v := hm.2 i i0.1 i0.2
  unfold mo_io mo_iu
  split
  · omega
  · rcases v.1 with ⟨g1, g2, g3⟩ | ⟨g1, g2, g3⟩
    · rw [if_pos g1]
      have z := hr _ g2 g3
      omega
    · rw [if_neg (by omega)]
      split
      · omega
      · have y := hl.2.2 _ g2 g3
        have z := hr _ y.1.1 y.1.2
        omega
/-- what depends on meters, lines and references alone -/
theorem ml_row_sm {M m : en_M} (h : mo_sm M m) (ao : Int → Int) (i : Int) (n : Nat) : ml_row M ao i n = ml_row m ao i n := ml_row_cong h.1 n (fun _ _ _ => ⟨rfl, rfl⟩)
theorem mg_row_sm {M m : en_M} (h : mo_sm M m) (q i : Int) : mg_row M q i = mg_row m q i := by
  unfold mg_row
  rw [ml_row_sm h, h.1 61 (by decide) (by decide), h.2 2 (by decide)]
theorem mo_iu_sm {M m : en_M} (h : mo_sm M m) (i : Int) : mo_iu M i = mo_iu m i := by
  unfold mo_iu
  rw [h.1 56 (by decide) (by decide), h.1 57 (by decide) (by decide), h.1 61 (by decide) (by decide), h.1 55 (by decide) (by decide), h.1 52 (by decide) (by decide)]
theorem mo_io_sm {M m : en_M} (h : mo_sm M m) (i : Int) : mo_io M i = mo_io m i := by
  unfold mo_io
  rw [mo_iu_sm h, h.1 60 (by decide) (by decide)]
theorem mg_P_sm {M m : en_M} (h : mo_sm M m) (q ex : Int) : ∀ n : Nat, mg_P M q ex n = mg_P m q ex n
  | 0 => by simp only [mg_P]; rw [h.1 61 (by decide) (by decide), h.2 1 (by decide)]
  | n + 1 => by
    simp only [mg_P]
    rw [mg_P_sm h q ex n, mo_io_sm h, mg_row_sm h, h.1 59 (by decide) (by decide)]
theorem mg_S_sm {M m : en_M} (h : mo_sm M m) (q ex : Int) : ∀ n : Nat, mg_S M q ex n = mg_S m q ex n
  | 0 => rfl
  | n + 1 => by
    simp only [mg_S]
    rw [mg_S_sm h q ex n, mo_io_sm h, mg_row_sm h, h.1 59 (by decide) (by decide), h.1 58 (by decide) (by decide)]
theorem mg_D_sm {M m : en_M} (h : mo_sm M m) (q ex : Int) : mg_D M q ex = mg_D m q ex := by
  unfold mg_D
  rw [h.2 7 (by decide), mg_P_sm h]
theorem mg_T_sm {M m : en_M} (h : mo_sm M m) (q a : Int) : mg_T M q a = mg_T m q a := by
  unfold mg_T
  rw [h.2 7 (by decide), mg_P_sm h, mg_S_sm h]
theorem mg_rs_sm {M m : en_M} (h : mo_sm M m) (q i : Int) : mg_rs M q i = mg_rs m q i := by
  have e : mg_T M q = mg_T m q := funext fun a => mg_T_sm h q a
  unfold mg_rs
  rw [mg_D_sm h, mg_row_sm h, e, h.1 58 (by decide) (by decide)]
theorem mg_ws_sm {M m : en_M} (h : mo_sm M m) (q i : Int) : mg_ws M q i = mg_ws m q i := by
  unfold mg_ws
  rw [mg_rs_sm h, h.1 59 (by decide) (by decide)]
theorem mo_nd_sm {M m : en_M} (h : mo_sm M m) (i : Int) : mo_nd M i ↔ mo_nd m i := by
  unfold mo_nd
  rw [mo_io_sm h, mg_D_sm h, mg_D_sm h]
theorem xo_ln_sm {M m : en_M} (h : mo_sm M m) (hl : xo_ln m) : xo_ln M := xo_ln_k (fun k hk => h.1 k (by omega) (by omega)) (h.2 1 (by decide)) (h.2 2 (by decide)) hl
theorem xo_mt_sm {M m : en_M} (h : mo_sm M m) (hm : xo_mt m) : xo_mt M := xo_mt_k (fun k hk => h.1 k (by omega) (by omega)) (h.2 1 (by decide)) (h.2 2 (by decide)) (h.2 7 (by decide)) hm
theorem xo_rf_sm {M m : en_M} (h : mo_sm M m) (hr : ∀ b, 0 ≤ b → b < m 51 1 → 0 ≤ m 61 b ∧ m 61 b ≤ b) : ∀ b, 0 ≤ b → b < M 51 1 → 0 ≤ M 61 b ∧ M 61 b ≤ b := by
  rw [h.2 1 (by decide), h.1 61 (by decide) (by decide)]
  exact hr
set_option maxRecDepth 100000 in
set_option maxHeartbeats 4000000 in
theorem k_X5_isNeeded {l : Launch} {w : en_W} {m : en_M} {i : Int} (hw : en_Wok w) (hp : en_Has w 0 68) (hl : xo_ln m) (hm : xo_mt m) (hr : ∀ b, 0 ≤ b → b < m 51 1 → 0 ≤ m 61 b ∧ m 61 b ≤ b) (i0 : 0 ≤ i ∧ i < m 51 7) : en_Met l w yX5_isNeeded wsX5_isNeeded rm_X5_isNeeded [en_R 51, en_I i] m (fun r m' => r = some (en_I (if mo_nd m i then 1 else 0)) ∧ mo_sm m' m ∧ m' 51 0 = m 51 0) := by
  refine en_met my_X5_isNeeded hw (Nat.le_of_ble_eq_true rfl) ?_
  intro κ hl9 hw9 h hf
  subst hw9
  subst hl9
  have hI : ∀ k, 0 ≤ k → k < 68 → en_in κ k := hp
  have n7 := hm.1
  have v := hm.2 i i0.1 i0.2
  have io := mo_io_32 hl hm hr i0
  have w0 : en_w64 0 = 0 := by decide
  refine en_aload_n (i := 0) h dX5_isNeeded_0 rfl rfl ?_
  refine en_iload_n (i := 1) h dX5_isNeeded_1 rfl rfl ?_
  refine en_callV h (k_X5_countedIn hw hI hl ⟨i0.1, by omega⟩ v.1 v.2.1) my_X5_countedIn gX5_isNeeded_X5_countedIn (hI _ (by omega) (by omega)) rfl rfl rfl rfl ⟨by decide, by decide⟩ ⟨by decide, by decide⟩ (Nat.le_of_ble_eq_true rfl) dX5_isNeeded_2 (fun r M0 hp => ?_)
  obtain ⟨rfl, e0⟩ := hp
  subst e0
  refine en_istore_n (i := 2) h dX5_isNeeded_5 rfl (by decide) ?_
  refine en_iload_n (i := 2) h dX5_isNeeded_6 rfl rfl ?_
  refine en_iconst h dX5_isNeeded_7 ?_
  refine en_icmp_eq (tgt := 19) h dX5_isNeeded_8 (by decide) (by omega) (by omega) (fun c_8 => ?_) (fun c_8 => ?_)
  · refine en_iconst h dX5_isNeeded_19 ?_
    exact en_zret h hf dX5_isNeeded_20 ⟨by decide, by decide⟩ (by omega) ⟨by rw [if_neg (fun z => z.1 c_8)], mo_sm_rf _, rfl⟩
  · refine en_aload_n (i := 0) h dX5_isNeeded_11 rfl rfl ?_
    refine en_iload_n (i := 2) h dX5_isNeeded_12 rfl rfl ?_
    refine en_callV h (k_X5_sees hw hI hl hm (q := mo_io M0 i) (by omega) hr) my_X5_sees gX5_isNeeded_X5_sees (hI _ (by omega) (by omega)) rfl rfl rfl rfl ⟨by decide, by decide⟩ ⟨by decide, by decide⟩ (Nat.le_of_ble_eq_true rfl) dX5_isNeeded_13 (fun r M1 hp => ?_)
    obtain ⟨rfl, g1, g2⟩ := hp
    have s1 := mg_in_sm g1
    refine en_if_ne (tgt := 21) h dX5_isNeeded_16 (by decide) (by split <;> omega) (fun c_16 => ?_) (fun c_16 => ?_)
    · have c9 : en_w64 (mg_D M0 (mo_io M0 i) (-1)) ≠ 0 := fun z => by rw [if_pos z] at c_16; omega
      refine en_aload_n (i := 0) h dX5_isNeeded_21 rfl rfl ?_
      refine en_iload_n (i := 2) h dX5_isNeeded_22 rfl rfl ?_
      refine en_iload_n (i := 1) h dX5_isNeeded_23 rfl rfl ?_
      refine en_callV h (k_X5_gather hw hI (xo_ln_sm s1 hl) (xo_mt_sm s1 hm) (q := mo_io M0 i) (ex := i) (by omega) (by omega) (xo_rf_sm s1 hr)) my_X5_gather gX5_isNeeded_X5_gather (hI _ (by omega) (by omega)) rfl rfl rfl rfl ⟨by decide, by decide⟩ ⟨by decide, by decide⟩ (Nat.le_of_ble_eq_true rfl) dX5_isNeeded_24 (fun r M2 hp => ?_)
      obtain ⟨rfl, g3⟩ := hp
      refine en_aload_n (i := 0) h dX5_isNeeded_27 rfl rfl ?_
      refine en_bipush h dX5_isNeeded_28 (by decide) ?_
      refine en_callV h (k_X5_part hw hI (by decide) (by decide)) my_X5_part gX5_isNeeded_X5_part (hI _ (by omega) (by omega)) rfl rfl rfl rfl ⟨by decide, by decide⟩ ⟨by decide, by decide⟩ (Nat.le_of_ble_eq_true rfl) dX5_isNeeded_30 (fun r M3 hp => ?_)
      obtain ⟨rfl, e3⟩ := hp
      rw [mg_D_part g3, mg_D_sm s1]
      have s3 : mo_sm M3 M0 := mo_sm_tr ⟨fun k k0 k1 => by rw [e3, en_ar_ne (by omega)], fun j hj => by rw [e3, en_ar_ne (by decide)]⟩ (mo_sm_tr (mg_in_sm g3) s1)
      have s4 : M3 51 0 = M0 51 0 := by rw [e3, en_ar_ne (by decide), g3.2.1 0 (by decide), g1.2.1 0 (by decide)]
      refine en_lconst (z := 0) h dX5_isNeeded_33 rfl ?_
      refine en_lcmp h dX5_isNeeded_34 ?_
      refine en_if_ne (tgt := 42) h dX5_isNeeded_35 (by decide) (en_cmp_r _ _) (fun c_35 => ?_) (fun c_35 => ?_)
      · rw [Ne, en_cmp_eq, w0] at c_35
        refine en_iconst h dX5_isNeeded_42 ?_
        exact en_zret h hf dX5_isNeeded_43 ⟨by decide, by decide⟩ (by omega) ⟨by rw [if_neg (fun z => c_35 z.2.2)], s3, s4⟩
      · rw [en_cmp_eq, w0] at c_35
        refine en_iconst h dX5_isNeeded_38 ?_
        refine en_goto (tgt := 43) h dX5_isNeeded_39 (by decide) ?_
        exact en_zret h hf dX5_isNeeded_43 ⟨by decide, by decide⟩ (by omega) ⟨by rw [if_pos ⟨c_8, c9, c_35⟩], s3, s4⟩
    · have c9 : en_w64 (mg_D M0 (mo_io M0 i) (-1)) = 0 := by apply Decidable.byContradiction; intro z; rw [if_neg z] at c_16; omega
      refine en_iconst h dX5_isNeeded_19 ?_
      exact en_zret h hf dX5_isNeeded_20 ⟨by decide, by decide⟩ (by omega) ⟨by rw [if_neg (fun z => z.2.1 c9)], s1, g1.2.1 0 (by decide)⟩
