/-! MODEL 7: rank, estimates -/
/-- the greatest number of angles of a set below n whose products are not dependent -/
def mr_rk (P : Int → Int) : Nat → Int
  | 0 => 0
  | n + 1 => if mr_rk P n < gm_pc (n : Int) ∧ en_w64 (md (mp_c P (n : Int))) ≠ 0 then gm_pc (n : Int) else mr_rk P n
theorem mr_rk_rng (P : Int → Int) : ∀ n : Nat, n ≤ 32 → 0 ≤ mr_rk P n ∧ mr_rk P n ≤ 5
  | 0, _ => by simp [mr_rk]
  | n + 1, h => by
    have ih := mr_rk_rng P n (by omega)
    have z := gm_pc_rng (s := (n : Int)) (by omega) (by omega)
    simp only [mr_rk]
    split <;> omega
theorem mr_rk_1 (P : Int → Int) : mr_rk P 1 = 0 := by
  show (if (0 : Int) < gm_pc ((0 : Nat) : Int) ∧ en_w64 (md (mp_c P ((0 : Nat) : Int))) ≠ 0 then gm_pc ((0 : Nat) : Int) else (0 : Int)) = 0
  exact if_neg (fun z => absurd z.1 (by decide))
abbrev rm_X5_rankNow : Room := { frames := 4, cells := 0, slots := 0, locals := 66 }
theorem my_X5_rankNow : en_MY yX5_rankNow RX5 cX5_rankNow 3 (some .int) wsX5_rankNow 0 := ⟨⟨_, rfl⟩, rfl, by decide, by decide, by decide +kernel, by decide +kernel⟩
set_option maxRecDepth 20000 in
theorem fl_X5_rankNow_107 : en_FL wsX5_rankNow RX5 107 5 15 := ⟨_, _, _, rfl, by decide, by decide +kernel, Or.inl (by decide +kernel)⟩
set_option maxRecDepth 100000 in
set_option maxHeartbeats 4000000 in
theorem lp_X5_rankNow {κ : en_C} {m : en_M} {c : Int} (hW : en_Wok (en_w κ)) (hP : en_Has (en_w κ) 0 68) (h : en_Ok κ RX5 cX5_rankNow 3 wsX5_rankNow rm_X5_rankNow) (hf : en_fin κ rm_X5_rankNow (some .int) (fun r m' => r = some (en_I (mr_rk (m 64) (gm_p c).toNat)) ∧ ∀ k, k ≠ 66 → m' k = m k)) (hc : m 51 15 = c) (c0 : 0 ≤ c ∧ c < 5) : ∀ (f s : Nat), (f : Int) + s = gm_p c → ∀ M : en_M, (∀ k, k ≠ 66 → M k = m k) → en_G κ 4 [some (en_R 51), some (en_I (mr_rk (m 64) s)), some (en_I (s : Int))] [] M 0 0 := by
  have hI : ∀ k, 0 ≤ k → k < 68 → en_in κ k := hP
  have pr := gm_p_rng c
  intro f
  induction f with
  | zero =>
    intro s hs M hM
    have rr := mr_rk_rng (m 64) s (by omega)
    refine en_iload_n (i := 2) h dX5_rankNow_4 rfl rfl ?_
    refine en_iconst h dX5_rankNow_5 ?_
    refine en_aload_n (i := 0) h dX5_rankNow_6 rfl rfl ?_
    refine en_getI (i := 15) h dX5_rankNow_7 fl_X5_rankNow_107 (hI _ (by omega) (by omega)) rfl rfl rfl (v9 := c) (by rw [hM 51 (by decide)]; exact hc) ?_
    refine en_ishl h dX5_rankNow_10 _ (gm_shl c0.1 c0.2) ?_
    refine en_icmp_ge (tgt := 47) h dX5_rankNow_11 (by decide) (by omega) (by omega) (fun c_11 => ?_) (fun c_11 => ?_)
    · refine en_iload_n (i := 1) h dX5_rankNow_47 rfl rfl ?_
      exact en_iret h hf dX5_rankNow_48 ⟨by decide, by decide⟩ ⟨by rw [show (gm_p c).toNat = s by omega], hM⟩
    · exact absurd c_11 (by omega)
  | succ f ih =>
    intro s hs M hM
    have rr := mr_rk_rng (m 64) s (by omega)
    have pc := gm_pc_rng (s := (s : Int)) (by omega) (by omega)
    have ih9 := ih (s + 1) (by omega)
    simp only [mr_rk] at ih9
    have no : ∀ M : en_M, (∀ k, k ≠ 66 → M k = m k) → ¬ (mr_rk (m 64) s < gm_pc (s : Int) ∧ en_w64 (md (mp_c (m 64) (s : Int))) ≠ 0) → en_G κ 39 [some (en_R 51), some (en_I (mr_rk (m 64) s)), some (en_I (s : Int))] [] M 0 0 := by
      intro M hM hn
      rw [if_neg hn] at ih9
      refine en_iload_n (i := 1) h dX5_rankNow_39 rfl rfl ?_
      refine en_istore_n (i := 1) h dX5_rankNow_40 rfl (by decide) ?_
      refine en_iinc h dX5_rankNow_41 rfl (by decide) ?_
      refine en_goto (tgt := 4) h dX5_rankNow_44 (by decide) ?_
      exact ih9 M hM
    refine en_iload_n (i := 2) h dX5_rankNow_4 rfl rfl ?_
    refine en_iconst h dX5_rankNow_5 ?_
    refine en_aload_n (i := 0) h dX5_rankNow_6 rfl rfl ?_
    refine en_getI (i := 15) h dX5_rankNow_7 fl_X5_rankNow_107 (hI _ (by omega) (by omega)) rfl rfl rfl (v9 := c) (by rw [hM 51 (by decide)]; exact hc) ?_
    refine en_ishl h dX5_rankNow_10 _ (gm_shl c0.1 c0.2) ?_
    refine en_icmp_ge (tgt := 47) h dX5_rankNow_11 (by decide) (by omega) (by omega) (fun c_11 => ?_) (fun c_11 => ?_)
    · exact absurd c_11 (by omega)
    · refine en_iload_n (i := 2) h dX5_rankNow_14 rfl rfl ?_
      refine en_callS h (k_X5_bits hW (by omega) (by omega)) my_X5_bits gX5_rankNow_X5_bits rfl rfl ⟨by decide, by decide⟩ ⟨by decide, by decide⟩ (Nat.le_of_ble_eq_true rfl) dX5_rankNow_15 (fun r M0 hp => ?_)
      obtain ⟨rfl, e0⟩ := hp
      subst e0
      refine en_iload_n (i := 1) h dX5_rankNow_18 rfl rfl ?_
      refine en_icmp_le (tgt := 39) h dX5_rankNow_19 (by decide) (by omega) (by omega) (fun c_19 => ?_) (fun c_19 => ?_)
      · exact no _ hM (fun z => by omega)
      · refine en_aload_n (i := 0) h dX5_rankNow_22 rfl rfl ?_
        refine en_iload_n (i := 2) h dX5_rankNow_23 rfl rfl ?_
        refine en_callV h (k_X5_part hW hI (s := (s : Int)) (by omega) (by omega)) my_X5_part gX5_rankNow_X5_part (hI _ (by omega) (by omega)) rfl rfl rfl rfl ⟨by decide, by decide⟩ ⟨by decide, by decide⟩ (Nat.le_of_ble_eq_true rfl) dX5_rankNow_24 (fun r M1 hp => ?_)
        obtain ⟨rfl, e1⟩ := hp
        rw [hM 64 (by decide)] at e1 ⊢
        have hM1 : ∀ k, k ≠ 66 → M1 k = m k := fun k hk => by rw [e1, en_ar_ne hk]; exact hM k hk
        clear e1
        have w0 : en_w64 0 = 0 := by decide
        refine en_lconst (z := 0) h dX5_rankNow_27 rfl ?_
        refine en_lcmp h dX5_rankNow_28 ?_
        refine en_if_eq (tgt := 39) h dX5_rankNow_29 (by decide) (en_cmp_r _ _) (fun c_29 => ?_) (fun c_29 => ?_)
        · rw [en_cmp_eq, w0] at c_29
          exact no _ hM1 (fun z => z.2 c_29)
        · rw [Ne, en_cmp_eq, w0] at c_29
          rw [if_pos ⟨by omega, c_29⟩] at ih9
          refine en_iload_n (i := 2) h dX5_rankNow_32 rfl rfl ?_
          refine en_callS h (k_X5_bits hW (by omega) (by omega)) my_X5_bits gX5_rankNow_X5_bits rfl rfl ⟨by decide, by decide⟩ ⟨by decide, by decide⟩ (Nat.le_of_ble_eq_true rfl) dX5_rankNow_33 (fun r M2 hp => ?_)
          obtain ⟨rfl, e2⟩ := hp
          subst e2
          refine en_goto (tgt := 40) h dX5_rankNow_36 (by decide) ?_
          refine en_istore_n (i := 1) h dX5_rankNow_40 rfl (by decide) ?_
          refine en_iinc h dX5_rankNow_41 rfl (by decide) ?_
          refine en_goto (tgt := 4) h dX5_rankNow_44 (by decide) ?_
          exact ih9 _ hM1
set_option maxRecDepth 100000 in
set_option maxHeartbeats 4000000 in
theorem k_X5_rankNow {l : Launch} {w : en_W} {m : en_M} {c : Int} (hw : en_Wok w) (hp : en_Has w 0 68) (hc : m 51 15 = c) (c0 : 0 ≤ c ∧ c < 5) : en_Met l w yX5_rankNow wsX5_rankNow rm_X5_rankNow [en_R 51] m (fun r m' => r = some (en_I (mr_rk (m 64) (gm_p c).toNat)) ∧ ∀ k, k ≠ 66 → m' k = m k) := by
  refine en_met my_X5_rankNow hw (Nat.le_of_ble_eq_true rfl) ?_
  intro κ hl9 hw9 h hf
  subst hw9
  subst hl9
  have hI : ∀ k, 0 ≤ k → k < 68 → en_in κ k := hp
  have pr := gm_p_rng c
  have q := lp_X5_rankNow hw hp h hf hc c0 ((gm_p c).toNat - 1) 1 (by omega) m (fun _ _ => rfl)
  rw [mr_rk_1] at q
  refine en_iconst h dX5_rankNow_0 ?_
  refine en_istore_n (i := 1) h dX5_rankNow_1 rfl (by decide) ?_
  refine en_iconst h dX5_rankNow_2 ?_
  refine en_istore_n (i := 2) h dX5_rankNow_3 rfl (by decide) ?_
  exact q
/-- the determinant of an island -/
def mg_D (m : en_M) (q ex : Int) : Int := md (mp_c (mg_P m q ex (m 51 7).toNat) 15)
theorem mg_D_part {M m : en_M} {q ex : Int} (h : mg_in M m q ex (m 51 7).toNat) : md (mp_c (M 64) 15) = mg_D m q ex := by
  unfold mg_D
  exact md_cong (fun k k0 k1 => mp_c_cong (h.2.2.2.2.1 k k0 k1))
theorem mg_in_mv {M M0 m : en_M} {q ex : Int} {n : Nat} (h : mg_in M0 m q ex n) (hk : ∀ k, k ≠ 51 → k < 66 → M k = M0 k) (hk2 : ∀ k, 67 < k → M k = M0 k) (hj : ∀ j, j < 16 → M 51 j = M0 51 j) : mg_in M m q ex n := by
  obtain ⟨h1, h2, h3, h4, h5, h6⟩ := h
  refine ⟨fun k k0 k1 => ?_, fun j hj9 => by rw [hj j (by omega)]; exact h2 j hj9, by rw [hj 15 (by decide)]; exact h3, fun b b0 b1 => by rw [hk 62 (by decide) (by decide)]; exact h4 b b0 b1, fun k k0 k1 => by rw [hk 64 (by decide) (by decide)]; exact h5 k k0 k1, fun k k0 k1 => by rw [hk 65 (by decide) (by decide)]; exact h6 k k0 k1⟩
  rcases k1 with k1 | k1
  · rw [hk k k0 (by omega)]; exact h1 k k0 (Or.inl k1)
  · rw [hk2 k k1]; exact h1 k k0 (Or.inr k1)
abbrev rm_X5_sees : Room := { frames := 4, cells := 0, slots := 0, locals := 73 }
theorem my_X5_sees : en_MY yX5_sees RX5 cX5_sees 2 (some .boolean) wsX5_sees 1 := ⟨⟨_, rfl⟩, rfl, by decide, by decide, by decide +kernel, by decide +kernel⟩
set_option maxRecDepth 20000 in
theorem fl_X5_sees_132 : en_FL wsX5_sees RX5 132 5 21 := ⟨_, _, _, rfl, by decide, by decide +kernel, Or.inl (by decide +kernel)⟩
set_option maxRecDepth 100000 in
set_option maxHeartbeats 4000000 in
theorem k_X5_sees {l : Launch} {w : en_W} {m : en_M} {q : Int} (hw : en_Wok w) (hp : en_Has w 0 68) (hl : xo_ln m) (hm : xo_mt m) (hq : en_i32 q) (hr : ∀ b, 0 ≤ b → b < m 51 1 → 0 ≤ m 61 b ∧ m 61 b ≤ b) : en_Met l w yX5_sees wsX5_sees rm_X5_sees [en_R 51, en_I q] m (fun r m' => r = some (en_I (if en_w64 (mg_D m q (-1)) = 0 then 0 else 1)) ∧ mg_in m' m q (-1) (m 51 7).toNat ∧ m' 51 21 = mg_D m q (-1)) := by
  refine en_met my_X5_sees hw (Nat.le_of_ble_eq_true rfl) ?_
  intro κ hl9 hw9 h hf
  subst hw9
  subst hl9
  have hI : ∀ k, 0 ≤ k → k < 68 → en_in κ k := hp
  refine en_aload_n (i := 0) h dX5_sees_0 rfl rfl ?_
  refine en_iload_n (i := 1) h dX5_sees_1 rfl rfl ?_
  refine en_iconst h dX5_sees_2 ?_
  refine en_callV h (k_X5_gather hw hI hl hm hq (by decide) hr) my_X5_gather gX5_sees_X5_gather (hI _ (by omega) (by omega)) rfl rfl rfl rfl ⟨by decide, by decide⟩ ⟨by decide, by decide⟩ (Nat.le_of_ble_eq_true rfl) dX5_sees_3 (fun r M1 hp => ?_)
  obtain ⟨rfl, g1⟩ := hp
  refine en_aload_n (i := 0) h dX5_sees_6 rfl rfl ?_
  refine en_aload_n (i := 0) h dX5_sees_7 rfl rfl ?_
  refine en_bipush h dX5_sees_8 (by decide) ?_
  refine en_callV h (k_X5_part hw hI (by decide) (by decide)) my_X5_part gX5_sees_X5_part (hI _ (by omega) (by omega)) rfl rfl rfl rfl ⟨by decide, by decide⟩ ⟨by decide, by decide⟩ (Nat.le_of_ble_eq_true rfl) dX5_sees_10 (fun r M2 hp => ?_)
  obtain ⟨rfl, e2⟩ := hp
  rw [mg_D_part g1]
  have g2 : mg_in (en_set M2 51 21 (mg_D m q (-1))) m q (-1) (m 51 7).toNat := mg_in_mv g1 (fun k k0 k1 => by rw [en_set_ne k0, e2, en_ar_ne (by omega)]) (fun k k1 => by rw [en_set_ne (by omega), e2, en_ar_ne (by omega)]) (fun j hj => by rw [en_set_nj (by omega), e2, en_ar_ne (by decide)])
  have w0 : en_w64 0 = 0 := by decide
  refine en_putL (i := 21) h dX5_sees_13 fl_X5_sees_132 fp_5_21 (hI _ (by omega) (by omega)) rfl rfl rfl ?_
  refine en_aload_n (i := 0) h dX5_sees_16 rfl rfl ?_
  refine en_getL (i := 21) h dX5_sees_17 fl_X5_sees_132 (hI _ (by omega) (by omega)) rfl rfl rfl en_set_at ?_
  refine en_lconst (z := 0) h dX5_sees_20 rfl ?_
  refine en_lcmp h dX5_sees_21 ?_
  refine en_if_eq (tgt := 29) h dX5_sees_22 (by decide) (en_cmp_r _ _) (fun c_22 => ?_) (fun c_22 => ?_)
  · rw [en_cmp_eq, w0] at c_22
    refine en_iconst h dX5_sees_29 ?_
    exact en_zret h hf dX5_sees_30 ⟨by decide, by decide⟩ (by omega) ⟨by rw [if_pos c_22], g2, en_set_at⟩
  · rw [Ne, en_cmp_eq, w0] at c_22
    refine en_iconst h dX5_sees_25 ?_
    refine en_goto (tgt := 30) h dX5_sees_26 (by decide) ?_
    exact en_zret h hf dX5_sees_30 ⟨by decide, by decide⟩ (by omega) ⟨by rw [if_neg c_22], g2, en_set_at⟩
/-- the cells for the top of an angle -/
def me_c (P S : Int → Int) (a k : Int) : Int := if k % 4 = a then S (k / 4) else P k
def mg_T (m : en_M) (q a : Int) : Int := md (me_c (mg_P m q (-1) (m 51 7).toNat) (mg_S m q (-1) (m 51 7).toNat) a)
/-- an island is estimated -/
def mg_es (M m : en_M) (q : Int) : Prop := mg_in M m q (-1) (m 51 7).toNat ∧ M 51 21 = mg_D m q (-1) ∧ ∀ a, 0 ≤ a → a < 4 → M 67 a = mg_T m q a
abbrev rm_X5_estimate : Room := { frames := 5, cells := 0, slots := 0, locals := 94 }
theorem my_X5_estimate : en_MY yX5_estimate RX5 cX5_estimate 4 none wsX5_estimate 1 := ⟨⟨_, rfl⟩, rfl, by decide, by decide, by decide +kernel, by decide +kernel⟩
set_option maxRecDepth 20000 in
theorem fl_X5_estimate_47 : en_FL wsX5_estimate RX5 47 5 17 := ⟨_, _, _, rfl, by decide, by decide +kernel, Or.inl (by decide +kernel)⟩
set_option maxRecDepth 20000 in
theorem fl_X5_estimate_51 : en_FL wsX5_estimate RX5 51 5 18 := ⟨_, _, _, rfl, by decide, by decide +kernel, Or.inl (by decide +kernel)⟩
set_option maxRecDepth 20000 in
theorem fl_X5_estimate_54 : en_FL wsX5_estimate RX5 54 5 19 := ⟨_, _, _, rfl, by decide, by decide +kernel, Or.inl (by decide +kernel)⟩
set_option maxRecDepth 20000 in
theorem fl_X5_estimate_57 : en_FL wsX5_estimate RX5 57 5 20 := ⟨_, _, _, rfl, by decide, by decide +kernel, Or.inl (by decide +kernel)⟩
set_option maxRecDepth 100000 in
set_option maxHeartbeats 4000000 in
theorem lp_X5_estimate_B {κ : en_C} {m : en_M} {q a : Int} (hP : en_Has (en_w κ) 0 68) (h : en_Ok κ RX5 cX5_estimate 4 wsX5_estimate rm_X5_estimate) (a0 : 0 ≤ a ∧ a < 4) (K : ∀ k, en_G κ 57 [some (en_R 51), some (en_I q), some (en_I a), some (en_I k)] [] (en_ar m 66 16 (me_c (m 64) (m 65) a)) (0 + rm_X5_sees.cells) (0 + rm_X5_sees.slots)) : ∀ (f k : Nat), f + k = 16 → en_G κ 15 [some (en_R 51), some (en_I q), some (en_I a), some (en_I (k : Int))] [] (en_ar m 66 k (me_c (m 64) (m 65) a)) (0 + rm_X5_sees.cells) (0 + rm_X5_sees.slots) := by
  have hI : ∀ k, 0 ≤ k → k < 68 → en_in κ k := hP
  intro f
  induction f with
  | zero =>
    intro k hk
    refine en_iload_n (i := 3) h dX5_estimate_15 rfl rfl ?_
    refine en_bipush h dX5_estimate_16 (by decide) ?_
    refine en_icmp_ge (tgt := 57) h dX5_estimate_18 (by decide) (by omega) (by omega) (fun c_18 => ?_) (fun c_18 => ?_)
    · have e : (k : Int) = 16 := by omega
      rw [e]
      exact K _
    · exact absurd c_18 (by omega)
  | succ f ih =>
    intro k hk
    have ih9 := ih (k + 1) (by omega)
    rw [show ((k + 1 : Nat) : Int) = (k : Int) + 1 by omega] at ih9
    refine en_iload_n (i := 3) h dX5_estimate_15 rfl rfl ?_
    refine en_bipush h dX5_estimate_16 (by decide) ?_
    refine en_icmp_ge (tgt := 57) h dX5_estimate_18 (by decide) (by omega) (by omega) (fun c_18 => ?_) (fun c_18 => ?_)
    · exact absurd c_18 (by omega)
    · refine en_aload_n (i := 0) h dX5_estimate_21 rfl rfl ?_
      refine en_getR h dX5_estimate_22 fl_X5_estimate_54 (hI _ (by omega) (by omega)) rfl rfl ?_
      refine en_iload_n (i := 3) h dX5_estimate_25 rfl rfl ?_
      refine en_iload_n (i := 3) h dX5_estimate_26 rfl rfl ?_
      refine en_iconst h dX5_estimate_27 ?_
      refine en_irem h dX5_estimate_28 (by omega) (by omega) ?_
      rw [td4, show (k : Int) - (k : Int) / 4 * 4 = (k : Int) % 4 by omega]
      refine en_iload_n (i := 2) h dX5_estimate_29 rfl rfl ?_
      refine en_icmp_ne (tgt := 44) h dX5_estimate_30 (by decide) (by omega) (by omega) (fun c_30 => ?_) (fun c_30 => ?_)
      · refine en_aload_n (i := 0) h dX5_estimate_44 rfl rfl ?_
        refine en_getR h dX5_estimate_45 fl_X5_estimate_47 (hI _ (by omega) (by omega)) rfl rfl ?_
        refine en_iload_n (i := 3) h dX5_estimate_48 rfl rfl ?_
        refine en_laload h dX5_estimate_49 (hI _ (by omega) (by omega)) rfl (by omega) (v9 := m 64 k) (by rw [en_ar_ne (by decide)]) ?_
        refine en_lastore h dX5_estimate_50 (hI _ (by omega) (by omega)) rfl (by omega) ?_
        refine en_iinc h dX5_estimate_51 rfl (by decide) ?_
        refine en_goto (tgt := 15) h dX5_estimate_54 (by decide) ?_
        rw [en_ar_push (by omega) (by unfold me_c; rw [if_neg c_30])]
        exact ih9
      · refine en_aload_n (i := 0) h dX5_estimate_33 rfl rfl ?_
        refine en_getR h dX5_estimate_34 fl_X5_estimate_51 (hI _ (by omega) (by omega)) rfl rfl ?_
        refine en_iload_n (i := 3) h dX5_estimate_37 rfl rfl ?_
        refine en_iconst h dX5_estimate_38 ?_
        refine en_idiv h dX5_estimate_39 (by omega) (by omega) ?_
        rw [td4]
        refine en_laload h dX5_estimate_40 (hI _ (by omega) (by omega)) rfl (by omega) (v9 := m 65 (k / 4)) (by rw [en_ar_ne (by decide)]) ?_
        refine en_goto (tgt := 50) h dX5_estimate_41 (by decide) ?_
        refine en_lastore h dX5_estimate_50 (hI _ (by omega) (by omega)) rfl (by omega) ?_
        refine en_iinc h dX5_estimate_51 rfl (by decide) ?_
        refine en_goto (tgt := 15) h dX5_estimate_54 (by decide) ?_
        rw [en_ar_push (by omega) (by unfold me_c; rw [if_pos c_30])]
        exact ih9
set_option maxRecDepth 100000 in
set_option maxHeartbeats 4000000 in
theorem lp_X5_estimate_A {κ : en_C} {m : en_M} {q : Int} (hW : en_Wok (en_w κ)) (hP : en_Has (en_w κ) 0 68) (h : en_Ok κ RX5 cX5_estimate 4 wsX5_estimate rm_X5_estimate) (hf : en_fin κ rm_X5_estimate none (fun r m' => r = none ∧ mg_es m' m q)) : ∀ (f a : Nat), f + a = 4 → ∀ (M : en_M) o, mg_in M m q (-1) (m 51 7).toNat → M 51 21 = mg_D m q (-1) → (∀ j, 0 ≤ j → j < (a : Int) → M 67 j = mg_T m q j) → en_G κ 8 [some (en_R 51), some (en_I q), some (en_I (a : Int)), o] [] M (0 + rm_X5_sees.cells) (0 + rm_X5_sees.slots) := by
  have hI : ∀ k, 0 ≤ k → k < 68 → en_in κ k := hP
  intro f
  induction f with
  | zero =>
    intro a ha M o h1 h2 h3
    refine en_iload_n (i := 2) h dX5_estimate_8 rfl rfl ?_
    refine en_iconst h dX5_estimate_9 ?_
    refine en_icmp_ge (tgt := 73) h dX5_estimate_10 (by decide) (by omega) (by omega) (fun c_10 => ?_) (fun c_10 => ?_)
    · exact en_vret h hf dX5_estimate_73 ⟨by decide, by decide⟩ ⟨rfl, h1, h2, fun j j0 j1 => h3 j j0 (by omega)⟩
    · exact absurd c_10 (by omega)
  | succ f ih =>
    intro a ha M o h1 h2 h3
    refine en_iload_n (i := 2) h dX5_estimate_8 rfl rfl ?_
    refine en_iconst h dX5_estimate_9 ?_
    refine en_icmp_ge (tgt := 73) h dX5_estimate_10 (by decide) (by omega) (by omega) (fun c_10 => ?_) (fun c_10 => ?_)
    · exact absurd c_10 (by omega)
    · refine en_iconst h dX5_estimate_13 ?_
      refine en_istore_n (i := 3) h dX5_estimate_14 rfl (by decide) ?_
      rw [← en_ar_0 (m := M) (k := 66) (f := me_c (M 64) (M 65) a)]
      refine lp_X5_estimate_B hP h ⟨by omega, by omega⟩ (fun k9 => ?_) 16 0 rfl
      refine en_aload_n (i := 0) h dX5_estimate_57 rfl rfl ?_
      refine en_getR h dX5_estimate_58 fl_X5_estimate_57 (hI _ (by omega) (by omega)) rfl rfl ?_
      refine en_iload_n (i := 2) h dX5_estimate_61 rfl rfl ?_
      refine en_aload_n (i := 0) h dX5_estimate_62 rfl rfl ?_
      refine en_callV h (k_X5_determinant hW hI) my_X5_determinant gX5_estimate_X5_determinant (hI _ (by omega) (by omega)) rfl rfl rfl rfl ⟨by decide, by decide⟩ ⟨by decide, by decide⟩ (Nat.le_of_ble_eq_true rfl) dX5_estimate_63 (fun r M1 hp => ?_)
      obtain ⟨rfl, e1⟩ := hp
      have ed : md (en_ar M 66 16 (me_c (M 64) (M 65) a) 66) = mg_T m q a := by
        unfold mg_T
        refine md_cong (fun k k0 k1 => ?_)
        rw [en_ar_at k0 k1]
        unfold me_c
        split
        · exact h1.2.2.2.2.2 _ (by omega) (by omega)
        · exact h1.2.2.2.2.1 k k0 k1
      rw [ed]
      subst e1
      refine en_lastore h dX5_estimate_66 (hI _ (by omega) (by omega)) rfl (by omega) ?_
      refine en_iinc h dX5_estimate_67 rfl (by decide) ?_
      refine en_goto (tgt := 8) h dX5_estimate_70 (by decide) ?_
      refine ih (a + 1) (by omega) _ _ (mg_in_mv h1 (fun k k0 k1 => by rw [en_set_ne (by omega), en_ar_ne (by omega)]) (fun k k1 => by rw [en_set_ne (by omega), en_ar_ne (by omega)]) (fun j hj => by rw [en_set_ne (by decide), en_ar_ne (by decide)])) (by rw [en_set_ne (by decide), en_ar_ne (by decide)]; exact h2) (fun j j0 j1 => ?_)
      by_cases e : j = (a : Int)
      · rw [e, en_set_at]
      · rw [en_set_nj e, en_ar_ne (by decide)]
        exact h3 j j0 (by omega)
set_option maxRecDepth 100000 in
set_option maxHeartbeats 4000000 in
theorem k_X5_estimate {l : Launch} {w : en_W} {m : en_M} {q : Int} (hw : en_Wok w) (hp : en_Has w 0 68) (hl : xo_ln m) (hm : xo_mt m) (hq : en_i32 q) (hr : ∀ b, 0 ≤ b → b < m 51 1 → 0 ≤ m 61 b ∧ m 61 b ≤ b) : en_Met l w yX5_estimate wsX5_estimate rm_X5_estimate [en_R 51, en_I q] m (fun r m' => r = none ∧ mg_es m' m q) := by
  refine en_met my_X5_estimate hw (Nat.le_of_ble_eq_true rfl) ?_
  intro κ hl9 hw9 h hf
  subst hw9
  subst hl9
  have hI : ∀ k, 0 ≤ k → k < 68 → en_in κ k := hp
  refine en_aload_n (i := 0) h dX5_estimate_0 rfl rfl ?_
  refine en_iload_n (i := 1) h dX5_estimate_1 rfl rfl ?_
  refine en_callV h (k_X5_sees hw hI hl hm hq hr) my_X5_sees gX5_estimate_X5_sees (hI _ (by omega) (by omega)) rfl rfl rfl rfl ⟨by decide, by decide⟩ ⟨by decide, by decide⟩ (Nat.le_of_ble_eq_true rfl) dX5_estimate_2 (fun r M1 hp => ?_)
  obtain ⟨rfl, g1, g2⟩ := hp
  refine en_popI h dX5_estimate_5 ?_
  refine en_iconst h dX5_estimate_6 ?_
  refine en_istore_n (i := 2) h dX5_estimate_7 rfl (by decide) ?_
  exact lp_X5_estimate_A hw hp h hf 4 0 rfl M1 _ g1 g2 (fun j j0 j1 => absurd j1 (by omega))
