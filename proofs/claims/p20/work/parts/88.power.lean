/-! LAW 6: power, drawn -/
abbrev rm_L_power : Room := { frames := 1, cells := 0, slots := 0, locals := 0 }
theorem my_L_power : en_MY yL_power RL cL_power 10 (some .long) wsL_power 2 := ⟨⟨_, rfl⟩, rfl, by decide, by decide, by decide +kernel, by decide +kernel⟩
set_option maxRecDepth 20000 in
theorem cn_L_power_136 : Cond.constantLong RL 136 2 ∈ wsL_power := by decide +kernel
theorem pw_mod (x P : Int) : ∀ n : Nat, (x % P) ^ n % P = x ^ n % P
  | 0 => by rw [Int.pow_zero, Int.pow_zero]
  | n + 1 => by
    rw [Int.pow_succ, Int.pow_succ, Int.mul_emod, pw_mod x P n, Int.emod_emod_of_dvd x (Int.dvd_refl P), ← Int.mul_emod]
theorem pw_sq (o : Int) (n : Nat) : (o * o) ^ n = o ^ (2 * n) := by
  induction n with
  | zero => rw [Int.pow_zero, Nat.mul_zero, Int.pow_zero]
  | succ n ih =>
    rw [Int.pow_succ, ih, show 2 * (n + 1) = 2 * n + 1 + 1 by omega, Int.pow_succ, Int.pow_succ, Int.mul_assoc]
/-- one round: the square's rest by half the power -/
theorem pw_st (p o P : Int) (n : Nat) : (p * (o * o % P) ^ n) % P = (p * o ^ (2 * n)) % P := by
  rw [Int.mul_emod, pw_mod, pw_sq, ← Int.mul_emod]
theorem pw_st1 (p o P : Int) (n : Nat) : (p * o % P * (o * o % P) ^ n) % P = (p * o ^ (2 * n + 1)) % P := by
  rw [Int.mul_emod, pw_mod, pw_sq, Int.emod_emod_of_dvd _ (Int.dvd_refl P), ← Int.mul_emod, Int.pow_succ]
  congr 1
  rw [Int.mul_assoc, Int.mul_comm o]
theorem pw_b {a b P : Int} (ha : 0 ≤ a ∧ a < P) (hb : 0 ≤ b ∧ b < P) (hP : P ≤ 1000000007) : 0 ≤ a * b ∧ a * b < 9223372036854775808 := by
  have h1 := Int.mul_nonneg ha.1 hb.1
  have h2 := Int.mul_le_mul (show a ≤ 1000000006 by omega) (show b ≤ 1000000006 by omega) hb.1 (by decide)
  omega
set_option maxRecDepth 100000 in
set_option maxHeartbeats 4000000 in
theorem lp_L_power {κ : en_C} {m : en_M} {u P c : Int} (h : en_Ok κ RL cL_power 10 wsL_power rm_L_power) (hf : en_fin κ rm_L_power (some .long) (fun r m' => r = some (en_L c) ∧ m' = m)) (hP : 2 ≤ P ∧ P ≤ 1000000007) : ∀ (f : Nat) (n : Nat) (p o : Int), n ≤ f → (n : Int) < 1000000007 → (0 ≤ p ∧ p < P) → (0 ≤ o ∧ o < P) → (p * o ^ n) % P = c → en_G κ 19 [some (en_L u), none, some (en_L P), none, some (en_L p), none, some (en_L o), none, some (en_L (n : Int)), none] [] m 0 0 := by
  intro f
  induction f with
  | zero =>
    intro n p o hn n1 hp ho e
    refine en_lload (i := 8) h dL_power_19 rfl ?_
    refine en_lconst (z := 0) h dL_power_21 rfl ?_
    refine en_lcmpR h dL_power_22 ⟨by omega, by omega⟩ (by decide) ?_
    refine en_if_le (tgt := 71) h dL_power_23 (by decide) (en_cmp_r _ _) (fun c_23 => ?_) (fun c_23 => ?_)
    · have z : p = c := by
        rw [show n = 0 by omega, Int.pow_zero, Int.mul_one, Int.emod_eq_of_lt hp.1 hp.2] at e
        exact e
      refine en_lload (i := 4) h dL_power_71 rfl ?_
      exact en_lret h hf dL_power_73 ⟨by decide, by decide⟩ ⟨by rw [z], rfl⟩
    · rw [show n = 0 by omega] at c_23
      exact absurd c_23 (by decide)
  | succ f ih =>
    intro n p o hn n1 hp ho e
    by_cases n0 : n = 0
    · subst n0
      refine en_lload (i := 8) h dL_power_19 rfl ?_
      refine en_lconst (z := 0) h dL_power_21 rfl ?_
      refine en_lcmpR h dL_power_22 (by decide) (by decide) ?_
      refine en_if_le (tgt := 71) h dL_power_23 (by decide) (en_cmp_r _ _) (fun c_23 => ?_) (fun c_23 => ?_)
      · have z : p = c := by
          rw [Int.pow_zero, Int.mul_one, Int.emod_eq_of_lt hp.1 hp.2] at e
          exact e
        refine en_lload (i := 4) h dL_power_71 rfl ?_
        exact en_lret h hf dL_power_73 ⟨by decide, by decide⟩ ⟨by rw [z], rfl⟩
      · exact absurd c_23 (by decide)
    · have oo := pw_b ho ho hP.2
      have po := pw_b hp ho hP.2
      have o2 : 0 ≤ o * o % P ∧ o * o % P < P := ⟨Int.emod_nonneg _ (by omega), Int.emod_lt_of_pos _ (by omega)⟩
      have p2 : 0 ≤ p * o % P ∧ p * o % P < P := ⟨Int.emod_nonneg _ (by omega), Int.emod_lt_of_pos _ (by omega)⟩
      have h2 : ((n : Int)) / 2 = ((n / 2 : Nat) : Int) := by omega
      refine en_lload (i := 8) h dL_power_19 rfl ?_
      refine en_lconst (z := 0) h dL_power_21 rfl ?_
      refine en_lcmpR h dL_power_22 ⟨by omega, by omega⟩ (by decide) ?_
      refine en_if_le (tgt := 71) h dL_power_23 (by decide) (en_cmp_r _ _) (fun c_23 => ?_) (fun c_23 => ?_)
      · have z := (en_cmp_le _ _).mp c_23
        omega
      · refine en_lload (i := 8) h dL_power_26 rfl ?_
        refine en_ldc2 (z := 2) h dL_power_28 cn_L_power_136 (by decide) ?_
        refine en_lremP h dL_power_31 ⟨by omega, by omega⟩ (by decide) ?_
        refine en_lconst (z := 1) h dL_power_32 rfl ?_
        refine en_lcmpR h dL_power_33 ⟨by omega, by omega⟩ (by decide) ?_
        refine en_if_ne (tgt := 47) h dL_power_34 (by decide) (en_cmp_r _ _) (fun c_34 => ?_) (fun c_34 => ?_)
        · have z : (n : Int) % 2 ≠ 1 := fun z => c_34 ((en_cmp_eq _ _).mpr z)
          refine en_lload (i := 4) h dL_power_47 rfl ?_
          refine en_lstore (i := 4) h dL_power_49 (by decide) ?_
          refine en_lload (i := 6) h dL_power_51 rfl ?_
          refine en_lload (i := 6) h dL_power_53 rfl ?_
          refine en_lmul h dL_power_55 ?_
          refine en_lload_n (i := 2) h dL_power_56 rfl rfl ?_
          refine en_lremP h dL_power_57 oo (by omega) ?_
          refine en_lstore (i := 6) h dL_power_58 (by decide) ?_
          refine en_lload (i := 8) h dL_power_60 rfl ?_
          refine en_ldc2 (z := 2) h dL_power_62 cn_L_power_136 (by decide) ?_
          refine en_ldivP h dL_power_65 ⟨by omega, by omega⟩ (by decide) ?_
          refine en_lstore (i := 8) h dL_power_66 (by decide) ?_
          refine en_goto (tgt := 19) h dL_power_68 (by decide) ?_
          rw [h2]
          refine ih (n / 2) p (o * o % P) (by omega) (by omega) hp o2 ?_
          rw [pw_st, show 2 * (n / 2) = n by omega]
          exact e
        · have z : (n : Int) % 2 = 1 := (en_cmp_eq _ _).mp c_34
          refine en_lload (i := 4) h dL_power_37 rfl ?_
          refine en_lload (i := 6) h dL_power_39 rfl ?_
          refine en_lmul h dL_power_41 ?_
          refine en_lload_n (i := 2) h dL_power_42 rfl rfl ?_
          refine en_lremP h dL_power_43 po (by omega) ?_
          refine en_goto (tgt := 49) h dL_power_44 (by decide) ?_
          refine en_lstore (i := 4) h dL_power_49 (by decide) ?_
          refine en_lload (i := 6) h dL_power_51 rfl ?_
          refine en_lload (i := 6) h dL_power_53 rfl ?_
          refine en_lmul h dL_power_55 ?_
          refine en_lload_n (i := 2) h dL_power_56 rfl rfl ?_
          refine en_lremP h dL_power_57 oo (by omega) ?_
          refine en_lstore (i := 6) h dL_power_58 (by decide) ?_
          refine en_lload (i := 8) h dL_power_60 rfl ?_
          refine en_ldc2 (z := 2) h dL_power_62 cn_L_power_136 (by decide) ?_
          refine en_ldivP h dL_power_65 ⟨by omega, by omega⟩ (by decide) ?_
          refine en_lstore (i := 8) h dL_power_66 (by decide) ?_
          refine en_goto (tgt := 19) h dL_power_68 (by decide) ?_
          rw [h2]
          refine ih (n / 2) (p * o % P) (o * o % P) (by omega) (by omega) p2 o2 ?_
          rw [pw_st1, show 2 * (n / 2) + 1 = n by omega]
          exact e
set_option maxRecDepth 100000 in
set_option maxHeartbeats 4000000 in
theorem k_L_power {l : Launch} {w : en_W} {m : en_M} {u P : Int} (hw : en_Wok w) (hu : 0 ≤ u ∧ u < 4611686018427387904) (hP : 2 ≤ P ∧ P ≤ 1000000007) : en_Met l w yL_power wsL_power rm_L_power [en_L u, en_L P] m (fun r m' => r = some (en_L (pwf P u)) ∧ m' = m) := by
  refine en_met my_L_power hw (Nat.le_of_ble_eq_true rfl) ?_
  intro κ hl9 hw9 h hf
  subst hw9
  subst hl9
  have u2 : 0 ≤ u % P ∧ u % P < P := ⟨Int.emod_nonneg _ (by omega), Int.emod_lt_of_pos _ (by omega)⟩
  have u3 : (u % P + P) % P = u % P := by rw [Int.add_emod_right, Int.emod_emod_of_dvd _ (Int.dvd_refl P)]
  refine en_lconst (z := 1) h dL_power_0 rfl ?_
  refine en_lstore (i := 4) h dL_power_1 (by decide) ?_
  refine en_lload_n (i := 0) h dL_power_3 rfl rfl ?_
  refine en_lload_n (i := 2) h dL_power_4 rfl rfl ?_
  refine en_lremP h dL_power_5 ⟨by omega, by omega⟩ ⟨by omega, by omega⟩ ?_
  refine en_lload_n (i := 2) h dL_power_6 rfl rfl ?_
  refine en_ladd h dL_power_7 ?_
  refine en_lload_n (i := 2) h dL_power_8 rfl rfl ?_
  refine en_lremP h dL_power_9 ⟨by omega, by omega⟩ ⟨by omega, by omega⟩ ?_
  refine en_lstore (i := 6) h dL_power_10 (by decide) ?_
  refine en_lload_n (i := 2) h dL_power_12 rfl rfl ?_
  refine en_ldc2 (z := 2) h dL_power_13 cn_L_power_136 (by decide) ?_
  refine en_lsub h dL_power_16 ?_
  refine en_lstore (i := 8) h dL_power_17 (by decide) ?_
  rw [u3, show P - 2 = (((P - 2).toNat : Nat) : Int) by omega]
  refine lp_L_power h hf hP (P - 2).toNat (P - 2).toNat 1 (u % P) (Nat.le_refl _) (by omega) (by omega) u2 ?_
  rw [Int.one_mul, pw_mod]
  rfl
