/-! MODEL 6: determinants -/
def md_p (c : Int → Int) (u a b : Int) : Int := c (4 * u + a) * c (4 * u + 4 + b) - c (4 * u + b) * c (4 * u + 4 + a)
def md (c : Int → Int) : Int := md_p c 0 0 1 * md_p c 2 2 3 - md_p c 0 0 2 * md_p c 2 1 3 + md_p c 0 0 3 * md_p c 2 1 2 + md_p c 0 1 2 * md_p c 2 0 3 - md_p c 0 1 3 * md_p c 2 0 2 + md_p c 0 2 3 * md_p c 2 0 1
theorem md_cong {c c' : Int → Int} (h : ∀ k, 0 ≤ k → k < 16 → c k = c' k) : md c = md c' := by
  have e : ∀ u a b : Int, (u = 0 ∨ u = 2) → 0 ≤ a → a < 4 → 0 ≤ b → b < 4 → md_p c u a b = md_p c' u a b := by
    intro u a b hu a0 a1 b0 b1
    unfold md_p
    rw [h _ (by omega) (by omega), h (4 * u + 4 + b) (by omega) (by omega), h (4 * u + b) (by omega) (by omega), h (4 * u + 4 + a) (by omega) (by omega)]
  unfold md
  rw [e 0 0 1 (by decide) (by decide) (by decide) (by decide) (by decide), e 2 2 3 (by decide) (by decide) (by decide) (by decide) (by decide), e 0 0 2 (by decide) (by decide) (by decide) (by decide) (by decide), e 2 1 3 (by decide) (by decide) (by decide) (by decide) (by decide), e 0 0 3 (by decide) (by decide) (by decide) (by decide) (by decide), e 2 1 2 (by decide) (by decide) (by decide) (by decide) (by decide), e 0 1 2 (by decide) (by decide) (by decide) (by decide) (by decide), e 2 0 3 (by decide) (by decide) (by decide) (by decide) (by decide), e 0 1 3 (by decide) (by decide) (by decide) (by decide) (by decide), e 2 0 2 (by decide) (by decide) (by decide) (by decide) (by decide), e 0 2 3 (by decide) (by decide) (by decide) (by decide) (by decide), e 2 0 1 (by decide) (by decide) (by decide) (by decide) (by decide)]
abbrev rm_X5_pair : Room := { frames := 1, cells := 0, slots := 0, locals := 0 }
theorem my_X5_pair : en_MY yX5_pair RX5 cX5_pair 4 (some .long) wsX5_pair 3 := ⟨⟨_, rfl⟩, rfl, by decide, by decide, by decide +kernel, by decide +kernel⟩
set_option maxRecDepth 20000 in
theorem fl_X5_pair_54 : en_FL wsX5_pair RX5 54 5 19 := ⟨_, _, _, rfl, by decide, by decide +kernel, Or.inl (by decide +kernel)⟩
set_option maxRecDepth 100000 in
set_option maxHeartbeats 4000000 in
theorem k_X5_pair {l : Launch} {w : en_W} {m : en_M} {u a b : Int} (hw : en_Wok w) (hp : en_Has w 0 68) (u0 : 0 ≤ u ∧ u ≤ 2) (a0 : 0 ≤ a ∧ a < 4) (b0 : 0 ≤ b ∧ b < 4) : en_Met l w yX5_pair wsX5_pair rm_X5_pair [en_R 51, en_I u, en_I a, en_I b] m (fun r m' => r = some (en_L (md_p (m 66) u a b)) ∧ m' = m) := by
  refine en_met my_X5_pair hw (Nat.le_of_ble_eq_true rfl) ?_
  intro κ hl9 hw9 h hf
  subst hw9
  subst hl9
  have hI : ∀ k, 0 ≤ k → k < 68 → en_in κ k := hp
  refine en_aload_n (i := 0) h dX5_pair_0 rfl rfl ?_
  refine en_getR h dX5_pair_1 fl_X5_pair_54 (hI _ (by omega) (by omega)) rfl rfl ?_
  refine en_iconst h dX5_pair_4 ?_
  refine en_iload_n (i := 1) h dX5_pair_5 rfl rfl ?_
  refine en_imul h dX5_pair_6 ?_
  refine en_iload_n (i := 2) h dX5_pair_7 rfl rfl ?_
  refine en_iadd h dX5_pair_8 ?_
  refine en_laload h dX5_pair_9 (hI _ (by omega) (by omega)) rfl (by omega) rfl ?_
  refine en_aload_n (i := 0) h dX5_pair_10 rfl rfl ?_
  refine en_getR h dX5_pair_11 fl_X5_pair_54 (hI _ (by omega) (by omega)) rfl rfl ?_
  refine en_iconst h dX5_pair_14 ?_
  refine en_iload_n (i := 1) h dX5_pair_15 rfl rfl ?_
  refine en_imul h dX5_pair_16 ?_
  refine en_iconst h dX5_pair_17 ?_
  refine en_iadd h dX5_pair_18 ?_
  refine en_iload_n (i := 3) h dX5_pair_19 rfl rfl ?_
  refine en_iadd h dX5_pair_20 ?_
  refine en_laload h dX5_pair_21 (hI _ (by omega) (by omega)) rfl (by omega) rfl ?_
  refine en_lmul h dX5_pair_22 ?_
  refine en_aload_n (i := 0) h dX5_pair_23 rfl rfl ?_
  refine en_getR h dX5_pair_24 fl_X5_pair_54 (hI _ (by omega) (by omega)) rfl rfl ?_
  refine en_iconst h dX5_pair_27 ?_
  refine en_iload_n (i := 1) h dX5_pair_28 rfl rfl ?_
  refine en_imul h dX5_pair_29 ?_
  refine en_iload_n (i := 3) h dX5_pair_30 rfl rfl ?_
  refine en_iadd h dX5_pair_31 ?_
  refine en_laload h dX5_pair_32 (hI _ (by omega) (by omega)) rfl (by omega) rfl ?_
  refine en_aload_n (i := 0) h dX5_pair_33 rfl rfl ?_
  refine en_getR h dX5_pair_34 fl_X5_pair_54 (hI _ (by omega) (by omega)) rfl rfl ?_
  refine en_iconst h dX5_pair_37 ?_
  refine en_iload_n (i := 1) h dX5_pair_38 rfl rfl ?_
  refine en_imul h dX5_pair_39 ?_
  refine en_iconst h dX5_pair_40 ?_
  refine en_iadd h dX5_pair_41 ?_
  refine en_iload_n (i := 2) h dX5_pair_42 rfl rfl ?_
  refine en_iadd h dX5_pair_43 ?_
  refine en_laload h dX5_pair_44 (hI _ (by omega) (by omega)) rfl (by omega) rfl ?_
  refine en_lmul h dX5_pair_45 ?_
  refine en_lsub h dX5_pair_46 ?_
  exact en_lret h hf dX5_pair_47 ⟨by decide, by decide⟩ ⟨rfl, rfl⟩
abbrev rm_X5_determinant : Room := { frames := 2, cells := 0, slots := 0, locals := 23 }
theorem my_X5_determinant : en_MY yX5_determinant RX5 cX5_determinant 1 (some .long) wsX5_determinant 0 := ⟨⟨_, rfl⟩, rfl, by decide, by decide, by decide +kernel, by decide +kernel⟩
set_option maxRecDepth 100000 in
set_option maxHeartbeats 4000000 in
theorem k_X5_determinant {l : Launch} {w : en_W} {m : en_M} (hw : en_Wok w) (hp : en_Has w 0 68) : en_Met l w yX5_determinant wsX5_determinant rm_X5_determinant [en_R 51] m (fun r m' => r = some (en_L (md (m 66))) ∧ m' = m) := by
  refine en_met my_X5_determinant hw (Nat.le_of_ble_eq_true rfl) ?_
  intro κ hl9 hw9 h hf
  subst hw9
  subst hl9
  have hI : ∀ k, 0 ≤ k → k < 68 → en_in κ k := hp
  refine en_aload_n (i := 0) h dX5_determinant_0 rfl rfl ?_
  refine en_iconst h dX5_determinant_1 ?_
  refine en_iconst h dX5_determinant_2 ?_
  refine en_iconst h dX5_determinant_3 ?_
  refine en_callV h (k_X5_pair hw hI (by decide) (by decide) (by decide)) my_X5_pair gX5_determinant_X5_pair (hI _ (by omega) (by omega)) rfl rfl rfl rfl ⟨by decide, by decide⟩ ⟨by decide, by decide⟩ (Nat.le_of_ble_eq_true rfl) dX5_determinant_4 (fun r M1 hp => ?_)
  obtain ⟨rfl, e1⟩ := hp
  subst e1
  refine en_aload_n (i := 0) h dX5_determinant_7 rfl rfl ?_
  refine en_iconst h dX5_determinant_8 ?_
  refine en_iconst h dX5_determinant_9 ?_
  refine en_iconst h dX5_determinant_10 ?_
  refine en_callV h (k_X5_pair hw hI (by decide) (by decide) (by decide)) my_X5_pair gX5_determinant_X5_pair (hI _ (by omega) (by omega)) rfl rfl rfl rfl ⟨by decide, by decide⟩ ⟨by decide, by decide⟩ (Nat.le_of_ble_eq_true rfl) dX5_determinant_11 (fun r M1 hp => ?_)
  obtain ⟨rfl, e1⟩ := hp
  subst e1
  refine en_lmul h dX5_determinant_14 ?_
  refine en_aload_n (i := 0) h dX5_determinant_15 rfl rfl ?_
  refine en_iconst h dX5_determinant_16 ?_
  refine en_iconst h dX5_determinant_17 ?_
  refine en_iconst h dX5_determinant_18 ?_
  refine en_callV h (k_X5_pair hw hI (by decide) (by decide) (by decide)) my_X5_pair gX5_determinant_X5_pair (hI _ (by omega) (by omega)) rfl rfl rfl rfl ⟨by decide, by decide⟩ ⟨by decide, by decide⟩ (Nat.le_of_ble_eq_true rfl) dX5_determinant_19 (fun r M1 hp => ?_)
  obtain ⟨rfl, e1⟩ := hp
  subst e1
  refine en_aload_n (i := 0) h dX5_determinant_22 rfl rfl ?_
  refine en_iconst h dX5_determinant_23 ?_
  refine en_iconst h dX5_determinant_24 ?_
  refine en_iconst h dX5_determinant_25 ?_
  refine en_callV h (k_X5_pair hw hI (by decide) (by decide) (by decide)) my_X5_pair gX5_determinant_X5_pair (hI _ (by omega) (by omega)) rfl rfl rfl rfl ⟨by decide, by decide⟩ ⟨by decide, by decide⟩ (Nat.le_of_ble_eq_true rfl) dX5_determinant_26 (fun r M1 hp => ?_)
  obtain ⟨rfl, e1⟩ := hp
  subst e1
  refine en_lmul h dX5_determinant_29 ?_
  refine en_lsub h dX5_determinant_30 ?_
  refine en_aload_n (i := 0) h dX5_determinant_31 rfl rfl ?_
  refine en_iconst h dX5_determinant_32 ?_
  refine en_iconst h dX5_determinant_33 ?_
  refine en_iconst h dX5_determinant_34 ?_
  refine en_callV h (k_X5_pair hw hI (by decide) (by decide) (by decide)) my_X5_pair gX5_determinant_X5_pair (hI _ (by omega) (by omega)) rfl rfl rfl rfl ⟨by decide, by decide⟩ ⟨by decide, by decide⟩ (Nat.le_of_ble_eq_true rfl) dX5_determinant_35 (fun r M1 hp => ?_)
  obtain ⟨rfl, e1⟩ := hp
  subst e1
  refine en_aload_n (i := 0) h dX5_determinant_38 rfl rfl ?_
  refine en_iconst h dX5_determinant_39 ?_
  refine en_iconst h dX5_determinant_40 ?_
  refine en_iconst h dX5_determinant_41 ?_
  refine en_callV h (k_X5_pair hw hI (by decide) (by decide) (by decide)) my_X5_pair gX5_determinant_X5_pair (hI _ (by omega) (by omega)) rfl rfl rfl rfl ⟨by decide, by decide⟩ ⟨by decide, by decide⟩ (Nat.le_of_ble_eq_true rfl) dX5_determinant_42 (fun r M1 hp => ?_)
  obtain ⟨rfl, e1⟩ := hp
  subst e1
  refine en_lmul h dX5_determinant_45 ?_
  refine en_ladd h dX5_determinant_46 ?_
  refine en_aload_n (i := 0) h dX5_determinant_47 rfl rfl ?_
  refine en_iconst h dX5_determinant_48 ?_
  refine en_iconst h dX5_determinant_49 ?_
  refine en_iconst h dX5_determinant_50 ?_
  refine en_callV h (k_X5_pair hw hI (by decide) (by decide) (by decide)) my_X5_pair gX5_determinant_X5_pair (hI _ (by omega) (by omega)) rfl rfl rfl rfl ⟨by decide, by decide⟩ ⟨by decide, by decide⟩ (Nat.le_of_ble_eq_true rfl) dX5_determinant_51 (fun r M1 hp => ?_)
  obtain ⟨rfl, e1⟩ := hp
  subst e1
  refine en_aload_n (i := 0) h dX5_determinant_54 rfl rfl ?_
  refine en_iconst h dX5_determinant_55 ?_
  refine en_iconst h dX5_determinant_56 ?_
  refine en_iconst h dX5_determinant_57 ?_
  refine en_callV h (k_X5_pair hw hI (by decide) (by decide) (by decide)) my_X5_pair gX5_determinant_X5_pair (hI _ (by omega) (by omega)) rfl rfl rfl rfl ⟨by decide, by decide⟩ ⟨by decide, by decide⟩ (Nat.le_of_ble_eq_true rfl) dX5_determinant_58 (fun r M1 hp => ?_)
  obtain ⟨rfl, e1⟩ := hp
  subst e1
  refine en_lmul h dX5_determinant_61 ?_
  refine en_ladd h dX5_determinant_62 ?_
  refine en_aload_n (i := 0) h dX5_determinant_63 rfl rfl ?_
  refine en_iconst h dX5_determinant_64 ?_
  refine en_iconst h dX5_determinant_65 ?_
  refine en_iconst h dX5_determinant_66 ?_
  refine en_callV h (k_X5_pair hw hI (by decide) (by decide) (by decide)) my_X5_pair gX5_determinant_X5_pair (hI _ (by omega) (by omega)) rfl rfl rfl rfl ⟨by decide, by decide⟩ ⟨by decide, by decide⟩ (Nat.le_of_ble_eq_true rfl) dX5_determinant_67 (fun r M1 hp => ?_)
  obtain ⟨rfl, e1⟩ := hp
  subst e1
  refine en_aload_n (i := 0) h dX5_determinant_70 rfl rfl ?_
  refine en_iconst h dX5_determinant_71 ?_
  refine en_iconst h dX5_determinant_72 ?_
  refine en_iconst h dX5_determinant_73 ?_
  refine en_callV h (k_X5_pair hw hI (by decide) (by decide) (by decide)) my_X5_pair gX5_determinant_X5_pair (hI _ (by omega) (by omega)) rfl rfl rfl rfl ⟨by decide, by decide⟩ ⟨by decide, by decide⟩ (Nat.le_of_ble_eq_true rfl) dX5_determinant_74 (fun r M1 hp => ?_)
  obtain ⟨rfl, e1⟩ := hp
  subst e1
  refine en_lmul h dX5_determinant_77 ?_
  refine en_lsub h dX5_determinant_78 ?_
  refine en_aload_n (i := 0) h dX5_determinant_79 rfl rfl ?_
  refine en_iconst h dX5_determinant_80 ?_
  refine en_iconst h dX5_determinant_81 ?_
  refine en_iconst h dX5_determinant_82 ?_
  refine en_callV h (k_X5_pair hw hI (by decide) (by decide) (by decide)) my_X5_pair gX5_determinant_X5_pair (hI _ (by omega) (by omega)) rfl rfl rfl rfl ⟨by decide, by decide⟩ ⟨by decide, by decide⟩ (Nat.le_of_ble_eq_true rfl) dX5_determinant_83 (fun r M1 hp => ?_)
  obtain ⟨rfl, e1⟩ := hp
  subst e1
  refine en_aload_n (i := 0) h dX5_determinant_86 rfl rfl ?_
  refine en_iconst h dX5_determinant_87 ?_
  refine en_iconst h dX5_determinant_88 ?_
  refine en_iconst h dX5_determinant_89 ?_
  refine en_callV h (k_X5_pair hw hI (by decide) (by decide) (by decide)) my_X5_pair gX5_determinant_X5_pair (hI _ (by omega) (by omega)) rfl rfl rfl rfl ⟨by decide, by decide⟩ ⟨by decide, by decide⟩ (Nat.le_of_ble_eq_true rfl) dX5_determinant_90 (fun r M1 hp => ?_)
  obtain ⟨rfl, e1⟩ := hp
  subst e1
  refine en_lmul h dX5_determinant_93 ?_
  refine en_ladd h dX5_determinant_94 ?_
  exact en_lret h hf dX5_determinant_95 ⟨by decide, by decide⟩ ⟨rfl, rfl⟩
/-! bits -/
theorem mb_shr {s c : Int} (h0 : 0 ≤ s) (h1 : s < 32) (h2 : 0 ≤ c) (h3 : c < 5) : Int32.ofInt s >>> (Int32.ofInt c &&& 31) = Int32.ofInt (s / gm_p c) :=
  gm_5 (P := fun c => ∀ s, 0 ≤ s → s < 32 → Int32.ofInt s >>> (Int32.ofInt c &&& 31) = Int32.ofInt (s / gm_p c)) (fun c s h0 h1 => gm_32 (P := fun s => Int32.ofInt s >>> (Int32.ofInt ((c.val : Nat) : Int) &&& 31) = Int32.ofInt (s / gm_p ((c.val : Nat) : Int))) (fun s => by revert c s; decide +kernel) h0 h1) h2 h3 s h0 h1
theorem mb_and {s c : Int} (h0 : 0 ≤ s) (h1 : s < 32) (h2 : 0 ≤ c) (h3 : c < 5) : Int32.ofInt (s / gm_p c) &&& Int32.ofInt 1 = Int32.ofInt (if gm_tb s c = true then 1 else 0) :=
  gm_5 (P := fun c => ∀ s, 0 ≤ s → s < 32 → Int32.ofInt (s / gm_p c) &&& Int32.ofInt 1 = Int32.ofInt (if gm_tb s c = true then 1 else 0)) (fun c s h0 h1 => gm_32 (P := fun s => Int32.ofInt (s / gm_p ((c.val : Nat) : Int)) &&& Int32.ofInt 1 = Int32.ofInt (if gm_tb s ((c.val : Nat) : Int) = true then 1 else 0)) (fun s => by revert c s; decide +kernel) h0 h1) h2 h3 s h0 h1
def mb_lo (r : Int) : Int := (Int32.ofInt r &&& Int32.ofInt (r - 1)).toInt
theorem mb_lo_ok {r : Int} (h0 : 0 ≤ r) (h1 : r < 32) (h : r ≠ 0) : 0 ≤ mb_lo r ∧ mb_lo r < 32 ∧ gm_pc (mb_lo r) = gm_pc r - 1 :=
  gm_32 (P := fun r => r ≠ 0 → 0 ≤ mb_lo r ∧ mb_lo r < 32 ∧ gm_pc (mb_lo r) = gm_pc r - 1) (by decide +kernel) h0 h1 h
theorem gm_pc_pos {r : Int} (h0 : 0 ≤ r) (h1 : r < 32) (h : r ≠ 0) : 1 ≤ gm_pc r := gm_32 (P := fun r => r ≠ 0 → 1 ≤ gm_pc r) (by decide +kernel) h0 h1 h
abbrev rm_X5_bits : Room := { frames := 1, cells := 0, slots := 0, locals := 0 }
theorem my_X5_bits : en_MY yX5_bits RX5 cX5_bits 3 (some .int) wsX5_bits 1 := ⟨⟨_, rfl⟩, rfl, by decide, by decide, by decide +kernel, by decide +kernel⟩
set_option maxRecDepth 100000 in
set_option maxHeartbeats 4000000 in
theorem lp_X5_bits {κ : en_C} {m : en_M} {s : Int} (h : en_Ok κ RX5 cX5_bits 3 wsX5_bits rm_X5_bits) (hf : en_fin κ rm_X5_bits (some .int) (fun r m' => r = some (en_I (gm_pc s)) ∧ m' = m)) : ∀ (f : Nat) (n r : Int), f = gm_pc r → 0 ≤ r → r < 32 → n + gm_pc r = gm_pc s → en_G κ 4 [some (en_I s), some (en_I n), some (en_I r)] [] m 0 0 := by
  intro f
  induction f with
  | zero =>
    intro n r hf9 r0 r1 hn
    have e := gm_pc_0 r0 r1 (by omega)
    refine en_iload_n (i := 2) h dX5_bits_4 rfl rfl ?_
    refine en_if_eq (tgt := 20) h dX5_bits_5 (by decide) (by omega) (fun c_5 => ?_) (fun c_5 => ?_)
    · refine en_iload_n (i := 1) h dX5_bits_20 rfl rfl ?_
      exact en_iret h hf dX5_bits_21 ⟨by decide, by decide⟩ ⟨by congr 2; omega, rfl⟩
    · exact absurd e c_5
  | succ f ih =>
    intro n r hf9 r0 r1 hn
    refine en_iload_n (i := 2) h dX5_bits_4 rfl rfl ?_
    refine en_if_eq (tgt := 20) h dX5_bits_5 (by decide) (by omega) (fun c_5 => ?_) (fun c_5 => ?_)
    · rw [c_5, show gm_pc 0 = 0 from rfl] at hf9
      omega
    · have q := mb_lo_ok r0 r1 c_5
      refine en_iinc h dX5_bits_8 rfl (by decide) ?_
      refine en_iload_n (i := 2) h dX5_bits_11 rfl rfl ?_
      refine en_iload_n (i := 2) h dX5_bits_12 rfl rfl ?_
      refine en_iconst h dX5_bits_13 ?_
      refine en_isub h dX5_bits_14 ?_
      refine en_iand h dX5_bits_15 (mb_lo r) (Int32.ofInt_toInt _).symm ?_
      refine en_istore_n (i := 2) h dX5_bits_16 rfl (by decide) ?_
      refine en_goto (tgt := 4) h dX5_bits_17 (by decide) ?_
      exact ih _ _ (by omega) q.1 q.2.1 (by omega)
set_option maxRecDepth 100000 in
set_option maxHeartbeats 4000000 in
theorem k_X5_bits {l : Launch} {w : en_W} {m : en_M} {s : Int} (hw : en_Wok w) (s0 : 0 ≤ s) (s1 : s < 32) : en_Met l w yX5_bits wsX5_bits rm_X5_bits [en_I s] m (fun r m' => r = some (en_I (gm_pc s)) ∧ m' = m) := by
  refine en_met my_X5_bits hw (Nat.le_of_ble_eq_true rfl) ?_
  intro κ hl9 hw9 h hf
  have z := gm_pc_rng s0 s1
  refine en_iconst h dX5_bits_0 ?_
  refine en_istore_n (i := 1) h dX5_bits_1 rfl (by decide) ?_
  refine en_iload_n (i := 0) h dX5_bits_2 rfl rfl ?_
  refine en_istore_n (i := 2) h dX5_bits_3 rfl (by decide) ?_
  exact lp_X5_bits h hf (gm_pc s).toNat 0 s (by omega) s0 s1 (by omega)
/-- the cells for a set of angles -/
def mp_c (P : Int → Int) (s k : Int) : Int := if gm_tb s (k / 4) = true ∧ gm_tb s (k % 4) = true then P k else if k % 5 = 0 then 1 else 0
theorem mp_c_cong {P P' : Int → Int} {s k : Int} (h : P k = P' k) : mp_c P s k = mp_c P' s k := by
  unfold mp_c
  rw [h]
abbrev rm_X5_part : Room := { frames := 3, cells := 0, slots := 0, locals := 43 }
theorem my_X5_part : en_MY yX5_part RX5 cX5_part 4 (some .long) wsX5_part 1 := ⟨⟨_, rfl⟩, rfl, by decide, by decide, by decide +kernel, by decide +kernel⟩
set_option maxRecDepth 20000 in
theorem fl_X5_part_47 : en_FL wsX5_part RX5 47 5 17 := ⟨_, _, _, rfl, by decide, by decide +kernel, Or.inl (by decide +kernel)⟩
set_option maxRecDepth 20000 in
theorem fl_X5_part_54 : en_FL wsX5_part RX5 54 5 19 := ⟨_, _, _, rfl, by decide, by decide +kernel, Or.inl (by decide +kernel)⟩
set_option maxRecDepth 100000 in
set_option maxHeartbeats 4000000 in
theorem lp_X5_part {κ : en_C} {m : en_M} {s : Int} (hW : en_Wok (en_w κ)) (hP : en_Has (en_w κ) 0 68) (h : en_Ok κ RX5 cX5_part 4 wsX5_part rm_X5_part) (hf : en_fin κ rm_X5_part (some .long) (fun r m' => r = some (en_L (md (mp_c (m 64) s))) ∧ m' = en_ar m 66 16 (mp_c (m 64) s))) (s0 : 0 ≤ s) (s1 : s < 32) : ∀ (f k : Nat), f + k = 16 → ∀ o, en_G κ 2 [some (en_R 51), some (en_I s), some (en_I (k : Int)), o] [] (en_ar m 66 k (mp_c (m 64) s)) 0 0 := by
  have hI : ∀ k, 0 ≤ k → k < 68 → en_in κ k := hP
  intro f
  induction f with
  | zero =>
    intro k hk o
    have ek : (k : Int) = 16 := by omega
    refine en_iload_n (i := 2) h dX5_part_2 rfl rfl ?_
    refine en_bipush h dX5_part_3 (by decide) ?_
    refine en_icmp_ge (tgt := 72) h dX5_part_5 (by decide) (by omega) (by omega) (fun c_5 => ?_) (fun c_5 => ?_)
    · refine en_aload_n (i := 0) h dX5_part_72 rfl rfl ?_
      refine en_callV h (k_X5_determinant hW hI) my_X5_determinant gX5_part_X5_determinant (hI _ (by omega) (by omega)) rfl rfl rfl rfl ⟨by decide, by decide⟩ ⟨by decide, by decide⟩ (Nat.le_of_ble_eq_true rfl) dX5_part_73 (fun r M1 hp => ?_)
      obtain ⟨rfl, e1⟩ := hp
      rw [ek] at e1
      rw [ek, md_cong (c := en_ar m 66 16 (mp_c (m 64) s) 66) (c' := mp_c (m 64) s) (fun k k0 k1 => en_ar_at k0 k1)]
      exact en_lret h hf dX5_part_76 ⟨by decide, by decide⟩ ⟨rfl, e1⟩
    · exact absurd c_5 (by omega)
  | succ f ih =>
    intro k hk o
    have ih9 := ih (k + 1) (by omega)
    rw [show ((k + 1 : Nat) : Int) = (k : Int) + 1 by omega] at ih9
    have no : ∀ o, ¬ (gm_tb s ((k : Int) / 4) = true ∧ gm_tb s ((k : Int) % 4) = true) → en_G κ 34 [some (en_R 51), some (en_I s), some (en_I (k : Int)), o] [] (en_ar m 66 k (mp_c (m 64) s)) 0 0 := by
      intro o hn
      refine en_iconst h dX5_part_34 ?_
      refine en_istore_n (i := 3) h dX5_part_35 rfl (by decide) ?_
      refine en_aload_n (i := 0) h dX5_part_36 rfl rfl ?_
      refine en_getR h dX5_part_37 fl_X5_part_54 (hI _ (by omega) (by omega)) rfl rfl ?_
      refine en_iload_n (i := 2) h dX5_part_40 rfl rfl ?_
      refine en_iload_n (i := 3) h dX5_part_41 rfl rfl ?_
      refine en_if_eq (tgt := 54) h dX5_part_42 (by decide) (by omega) (fun c_42 => ?_) (fun c_42 => ?_)
      · refine en_iload_n (i := 2) h dX5_part_54 rfl rfl ?_
        refine en_iconst h dX5_part_55 ?_
        refine en_irem h dX5_part_56 (by omega) (by omega) ?_
        rw [td5]
        refine en_if_ne (tgt := 64) h dX5_part_57 (by decide) (by omega) (fun c_57 => ?_) (fun c_57 => ?_)
        · rw [← en_ar_push (x := 0) (by omega) (by unfold mp_c; rw [if_neg hn, if_neg (by omega)])] at ih9
          refine en_lconst (z := 0) h dX5_part_64 rfl ?_
          refine en_lastore h dX5_part_65 (hI _ (by omega) (by omega)) rfl (by omega) ?_
          refine en_iinc h dX5_part_66 rfl (by decide) ?_
          refine en_goto (tgt := 2) h dX5_part_69 (by decide) ?_
          exact ih9 _
        · rw [← en_ar_push (x := 1) (by omega) (by unfold mp_c; rw [if_neg hn, if_pos (by omega)])] at ih9
          refine en_lconst (z := 1) h dX5_part_60 rfl ?_
          refine en_goto (tgt := 65) h dX5_part_61 (by decide) ?_
          refine en_lastore h dX5_part_65 (hI _ (by omega) (by omega)) rfl (by omega) ?_
          refine en_iinc h dX5_part_66 rfl (by decide) ?_
          refine en_goto (tgt := 2) h dX5_part_69 (by decide) ?_
          exact ih9 _
      · exact absurd rfl c_42
    refine en_iload_n (i := 2) h dX5_part_2 rfl rfl ?_
    refine en_bipush h dX5_part_3 (by decide) ?_
    refine en_icmp_ge (tgt := 72) h dX5_part_5 (by decide) (by omega) (by omega) (fun c_5 => ?_) (fun c_5 => ?_)
    · exact absurd c_5 (by omega)
    · refine en_iload_n (i := 1) h dX5_part_8 rfl rfl ?_
      refine en_iload_n (i := 2) h dX5_part_9 rfl rfl ?_
      refine en_iconst h dX5_part_10 ?_
      refine en_idiv h dX5_part_11 (by omega) (by omega) ?_
      rw [td4]
      refine en_ishr h dX5_part_12 _ (mb_shr s0 s1 (by omega) (by omega)) ?_
      refine en_iconst h dX5_part_13 ?_
      refine en_iand h dX5_part_14 _ (mb_and s0 s1 (by omega) (by omega)) ?_
      refine en_iconst h dX5_part_15 ?_
      refine en_icmp_ne (tgt := 34) h dX5_part_16 (by decide) (by split <;> omega) (by decide) (fun c_16 => ?_) (fun c_16 => ?_)
      · exact no _ (fun z => by rw [if_pos z.1] at c_16; omega)
      · have t1 : gm_tb s ((k : Int) / 4) = true := by apply Decidable.byContradiction; intro z; rw [if_neg z] at c_16; omega
        refine en_iload_n (i := 1) h dX5_part_19 rfl rfl ?_
        refine en_iload_n (i := 2) h dX5_part_20 rfl rfl ?_
        refine en_iconst h dX5_part_21 ?_
        refine en_irem h dX5_part_22 (by omega) (by omega) ?_
        rw [td4, show (k : Int) - (k : Int) / 4 * 4 = (k : Int) % 4 by omega]
        refine en_ishr h dX5_part_23 _ (mb_shr s0 s1 (by omega) (by omega)) ?_
        refine en_iconst h dX5_part_24 ?_
        refine en_iand h dX5_part_25 _ (mb_and s0 s1 (by omega) (by omega)) ?_
        refine en_iconst h dX5_part_26 ?_
        refine en_icmp_ne (tgt := 34) h dX5_part_27 (by decide) (by split <;> omega) (by decide) (fun c_27 => ?_) (fun c_27 => ?_)
        · exact no _ (fun z => by rw [if_pos z.2] at c_27; omega)
        · have t2 : gm_tb s ((k : Int) % 4) = true := by apply Decidable.byContradiction; intro z; rw [if_neg z] at c_27; omega
          refine en_iconst h dX5_part_30 ?_
          refine en_goto (tgt := 35) h dX5_part_31 (by decide) ?_
          refine en_istore_n (i := 3) h dX5_part_35 rfl (by decide) ?_
          refine en_aload_n (i := 0) h dX5_part_36 rfl rfl ?_
          refine en_getR h dX5_part_37 fl_X5_part_54 (hI _ (by omega) (by omega)) rfl rfl ?_
          refine en_iload_n (i := 2) h dX5_part_40 rfl rfl ?_
          refine en_iload_n (i := 3) h dX5_part_41 rfl rfl ?_
          refine en_if_eq (tgt := 54) h dX5_part_42 (by decide) (by omega) (fun c_42 => ?_) (fun c_42 => ?_)
          · exact absurd c_42 (by decide)
          · refine en_aload_n (i := 0) h dX5_part_45 rfl rfl ?_
            refine en_getR h dX5_part_46 fl_X5_part_47 (hI _ (by omega) (by omega)) rfl rfl ?_
            refine en_iload_n (i := 2) h dX5_part_49 rfl rfl ?_
            refine en_laload h dX5_part_50 (hI _ (by omega) (by omega)) rfl (by omega) (v9 := m 64 k) (by rw [en_ar_ne (by decide)]) ?_
            refine en_goto (tgt := 65) h dX5_part_51 (by decide) ?_
            refine en_lastore h dX5_part_65 (hI _ (by omega) (by omega)) rfl (by omega) ?_
            refine en_iinc h dX5_part_66 rfl (by decide) ?_
            refine en_goto (tgt := 2) h dX5_part_69 (by decide) ?_
            rw [en_ar_push (by omega) (by unfold mp_c; rw [if_pos ⟨t1, t2⟩])]
            exact ih9 _
set_option maxRecDepth 100000 in
set_option maxHeartbeats 4000000 in
theorem k_X5_part {l : Launch} {w : en_W} {m : en_M} {s : Int} (hw : en_Wok w) (hp : en_Has w 0 68) (s0 : 0 ≤ s) (s1 : s < 32) : en_Met l w yX5_part wsX5_part rm_X5_part [en_R 51, en_I s] m (fun r m' => r = some (en_L (md (mp_c (m 64) s))) ∧ m' = en_ar m 66 16 (mp_c (m 64) s)) := by
  refine en_met my_X5_part hw (Nat.le_of_ble_eq_true rfl) ?_
  intro κ hl9 hw9 h hf
  subst hw9
  subst hl9
  have hI : ∀ k, 0 ≤ k → k < 68 → en_in κ k := hp
  refine en_iconst h dX5_part_0 ?_
  refine en_istore_n (i := 2) h dX5_part_1 rfl (by decide) ?_
  rw [← en_ar_0 (m := m) (k := 66) (f := mp_c (m 64) s)]
  exact lp_X5_part hw hp h hf s0 s1 16 0 rfl _
