/-! LAW 4: refuses, whole -/
theorem obs_cq {M m : en_M} (h : cq M m) (hI : INV m) (b : Int) : obs M (M 5 b) ↔ obs m (m 5 b) := by
  have e5 : M 5 = m 5 := h.1 5 (by decide)
  unfold obs
  rw [e5, xm_rk_ag (cq_ag h) (inv_xc hI).2.2.1]
set_option maxRecDepth 100000 in
set_option maxHeartbeats 4000000 in
theorem rt_end {κ : en_C} {m : en_M} {bus line meter own x : Int} (hW : en_Wok (en_w κ)) (hP : HasL (en_w κ)) (h : en_Ok κ RL cL_refuses 8 wsL_refuses rm_L_refuses) (hx9 : en_Xs κ) (hR : RC m bus line meter own x) (F : ∀ M, cq M m → en_G κ 609 (rc_l1 x bus line meter own) [en_I 1] M 119 714) : en_G κ 540 (rc_l1 x bus line meter own) [] m 109 654 := by
  obtain ⟨hI9, hN, hC, hx0, hb0, hl0, hm0⟩ := id hR
  have n9 := inv_n hI9
  have hI : ∀ k, 200 ≤ k → k < 204 → en_in κ k := hP.2.2.1
  have o0 := hC.2.2.2.1
  have o1 := hC.2.2.2.2
  have pO : pB m ((own + 1) % m 0 0) := ⟨Int.emod_nonneg _ (by omega), Int.emod_lt_of_pos _ (by omega)⟩
  have pO1 := pO.1
  have pO2 := pO.2
  have pX : 0 ≤ x % m 21 1 := by
    by_cases e : m 21 1 = 0
    · rw [e, Int.emod_zero]; omega
    · exact Int.emod_nonneg _ e
  have pX2 : m 21 1 ≠ 0 → x % m 21 1 < m 21 1 := fun e => Int.emod_lt_of_pos _ (by omega)
  refine en_iload (i := 7) h dL_refuses_540 rfl ?_
  refine en_if_eq (tgt := 608) h dL_refuses_542 (by decide) (by decide) (fun c_542 => ?_) (fun c_542 => ?_)
  · exact absurd c_542 (by decide)
  · refine en_aload_n (i := 0) h dL_refuses_545 rfl rfl ?_
    refine en_iload (i := 6) h dL_refuses_546 rfl ?_
    refine en_callSS h hx9 (K_observable hW hP.1 (en_Xs_l hx9) hI9 (by constructor <;> omega)) my_L_observable gL_refuses_L_observable rfl rfl ⟨by decide, by decide⟩ ⟨by decide, by decide⟩ (Nat.le_of_ble_eq_true rfl) dL_refuses_548 (fun r M1 hp => ?_)
    obtain ⟨rfl, hq⟩ := hp
    have e1 : w_observable m own = if obs m (m 5 own) then 1 else 0 := by unfold w_observable; exact if_pos hC.2.2.2
    rw [e1]
    have fin : ∀ M, cq M m → en_G κ 604 (rc_l1 x bus line meter own) [] M 119 714 := by
      intro M hM
      refine en_iconst h dL_refuses_604 ?_
      refine en_goto (tgt := 609) h dL_refuses_605 (by decide) ?_
      exact F M hM
    by_cases hf : obs m (m 5 own)
    · rw [if_pos hf]
      refine en_iconst h dL_refuses_551 ?_
      refine en_icmp_eq (tgt := 604) h dL_refuses_552 (by decide) (by decide) (by decide) (fun c_552 => ?_) (fun c_552 => ?_)
      · exact en_wide (by decide) (by decide) (fin M1 hq)
      · exact absurd rfl c_552
    · rw [if_neg hf]
      refine en_iconst h dL_refuses_551 ?_
      refine en_icmp_eq (tgt := 604) h dL_refuses_552 (by decide) (by decide) (by decide) (fun c_552 => ?_) (fun c_552 => ?_)
      · exact absurd c_552 (by decide)
      · have nf : ∀ {M : en_M}, cq M m → ¬ obs M (M 5 own) := fun hM z => hf ((obs_cq hM hI9 own).mp z)
        refine rt_top hW hP h hx9 (RC_cq hR hq) (nf hq) (fun M2 h2 => ?_)
        have h2 := cq_tr h2 hq
        refine rt_bot hW hP h hx9 (RC_cq hR h2) (nf h2) (fun M3 h3 => ?_)
        have h3 := cq_tr h3 h2
        refine rt_wst hW hP h hx9 (RC_cq hR h3) (nf h3) (fun M4 h4 => ?_)
        have h4 := cq_tr h4 h3
        refine rt_cln hW hP h hx9 (RC_cq hR h4) (nf h4) (fun M5 h5 => ?_)
        exact fin M5 (cq_tr h5 h4)
set_option maxRecDepth 100000 in
set_option maxHeartbeats 4000000 in
theorem rt_mid {κ : en_C} {m : en_M} {bus line meter own x : Int} (hW : en_Wok (en_w κ)) (hP : HasL (en_w κ)) (h : en_Ok κ RL cL_refuses 8 wsL_refuses rm_L_refuses) (hx9 : en_Xs κ) (hR : RC m bus line meter own x) (F : ∀ M, cq M m → en_G κ 609 (rc_l1 x bus line meter own) [en_I 1] M 119 714) : en_G κ 469 (rc_ls x bus line meter own) [] m 100 600 := by
  obtain ⟨hI9, hN, hC, hx0, hb0, hl0, hm0⟩ := id hR
  have n9 := inv_n hI9
  have hI : ∀ k, 200 ≤ k → k < 204 → en_in κ k := hP.2.2.1
  have o0 := hC.2.2.2.1
  have o1 := hC.2.2.2.2
  have pO : pB m ((own + 1) % m 0 0) := ⟨Int.emod_nonneg _ (by omega), Int.emod_lt_of_pos _ (by omega)⟩
  have pO1 := pO.1
  have pO2 := pO.2
  have pX : 0 ≤ x % m 21 1 := by
    by_cases e : m 21 1 = 0
    · rw [e, Int.emod_zero]; omega
    · exact Int.emod_nonneg _ e
  have pX2 : m 21 1 ≠ 0 → x % m 21 1 < m 21 1 := fun e => Int.emod_lt_of_pos _ (by omega)
  have g1 : ∀ M, cq M m → en_G κ 533 (rc_ls x bus line meter own) [] M 109 654 := by
    intro M hM
    refine en_iconst h dL_refuses_533 ?_
    refine en_goto (tgt := 538) h dL_refuses_534 (by decide) ?_
    refine en_istore (i := 7) h dL_refuses_538 (by decide) ?_
    exact rt_end hW hP h hx9 (RC_cq hR hM) (fun M2 h2 => F M2 (cq_tr h2 hM))
  have g2 : ∀ M, cq M m → en_G κ 491 (rc_ls x bus line meter own) [] M 105 630 := by
    intro M hM
    have hR2 := RC_cq hR hM
    have hN := hR2.2.1
    have n9 := inv_n hR2.1
    refine en_aload_n (i := 1) h dL_refuses_491 rfl rfl ?_
    refine en_iconst h dL_refuses_492 ?_
    refine en_iaload h dL_refuses_493 (hI _ (by omega) (by omega)) rfl (by omega) hN.2.2 ?_
    refine en_if_eq (tgt := 533) h dL_refuses_494 (by decide) (by omega) (fun c_494 => ?_) (fun c_494 => ?_)
    · exact en_wide (by decide) (by decide) (g1 M hM)
    · refine rt_rd1 hW hP h hx9 hR2 c_494 (fun M2 h2 => ?_)
      have h2 := cq_tr h2 hM
      have hR3 := RC_cq hR h2
      have e21 : M2 21 1 = M 21 1 := by rw [h2.1 21 (by decide), hM.1 21 (by decide)]
      refine rt_rd2 hW hP h hx9 hR3 (by rw [e21]; exact c_494) (fun M3 h3 => ?_)
      exact g1 M3 (cq_tr h3 h2)
  refine en_aload_n (i := 1) h dL_refuses_469 rfl rfl ?_
  refine en_iconst h dL_refuses_470 ?_
  refine en_iaload h dL_refuses_471 (hI _ (by omega) (by omega)) rfl (by omega) hN.2.2 ?_
  refine en_bipush h dL_refuses_472 (by decide) ?_
  refine en_icmp_lt (tgt := 491) h dL_refuses_474 (by decide) (by omega) (by omega) (fun c_474 => ?_) (fun c_474 => ?_)
  · exact en_wide (by decide) (by decide) (g2 m (cq_rf hI9.2.2.2))
  · refine rt_full hW hP h hx9 hR (by omega) (fun M2 h2 => ?_)
    exact g2 M2 h2
set_option maxRecDepth 100000 in
set_option maxHeartbeats 4000000 in
theorem rt_all {κ : en_C} {m : en_M} {bus line meter own x : Int} (hW : en_Wok (en_w κ)) (hP : HasL (en_w κ)) (h : en_Ok κ RL cL_refuses 8 wsL_refuses rm_L_refuses) (hx9 : en_Xs κ) (hR : RC m bus line meter own x) (F : ∀ M, cq M m → en_G κ 609 (rc_l1 x bus line meter own) [en_I 1] M 119 714) : en_G κ 81 (rc_ls x bus line meter own) [] m 0 0 := by
  have c0 := cq_rf hR.1.2.2.2
  refine rc_0 hW hP h hx9 (RC_cq hR c0) (fun M1 h1 => ?_)
  have c1 := cq_tr h1 c0
  refine rc_1 hW hP h hx9 (RC_cq hR c1) (fun M2 h2 => ?_)
  have c2 := cq_tr h2 c1
  refine rc_2 hW hP h hx9 (RC_cq hR c2) (fun M3 h3 => ?_)
  have c3 := cq_tr h3 c2
  refine rc_3 hW hP h hx9 (RC_cq hR c3) (fun M4 h4 => ?_)
  have c4 := cq_tr h4 c3
  refine rc_4 hW hP h hx9 (RC_cq hR c4) (fun M5 h5 => ?_)
  have c5 := cq_tr h5 c4
  refine rc_5 hW hP h hx9 (RC_cq hR c5) (fun M6 h6 => ?_)
  have c6 := cq_tr h6 c5
  refine rc_6 hW hP h hx9 (RC_cq hR c6) (fun M7 h7 => ?_)
  have c7 := cq_tr h7 c6
  refine rc_7 hW hP h hx9 (RC_cq hR c7) (fun M8 h8 => ?_)
  have c8 := cq_tr h8 c7
  refine rc_8 hW hP h hx9 (RC_cq hR c8) (fun M9 h9 => ?_)
  have c9 := cq_tr h9 c8
  refine rc_9 hW hP h hx9 (RC_cq hR c9) (fun M10 h10 => ?_)
  have c10 := cq_tr h10 c9
  refine rc_10 hW hP h hx9 (RC_cq hR c10) (fun M11 h11 => ?_)
  have c11 := cq_tr h11 c10
  refine rc_11 hW hP h hx9 (RC_cq hR c11) (fun M12 h12 => ?_)
  have c12 := cq_tr h12 c11
  refine rc_12 hW hP h hx9 (RC_cq hR c12) (fun M13 h13 => ?_)
  have c13 := cq_tr h13 c12
  refine rc_13 hW hP h hx9 (RC_cq hR c13) (fun M14 h14 => ?_)
  have c14 := cq_tr h14 c13
  refine rc_14 hW hP h hx9 (RC_cq hR c14) (fun M15 h15 => ?_)
  have c15 := cq_tr h15 c14
  refine rc_15 hW hP h hx9 (RC_cq hR c15) (fun M16 h16 => ?_)
  have c16 := cq_tr h16 c15
  refine rc_16 hW hP h hx9 (RC_cq hR c16) (fun M17 h17 => ?_)
  have c17 := cq_tr h17 c16
  refine rc_17 hW hP h hx9 (RC_cq hR c17) (fun M18 h18 => ?_)
  have c18 := cq_tr h18 c17
  refine rc_18 hW hP h hx9 (RC_cq hR c18) (fun M19 h19 => ?_)
  have c19 := cq_tr h19 c18
  refine rc_19 hW hP h hx9 (RC_cq hR c19) (fun M20 h20 => ?_)
  have c20 := cq_tr h20 c19
  refine rc_20 hW hP h hx9 (RC_cq hR c20) (fun M21 h21 => ?_)
  have c21 := cq_tr h21 c20
  refine rc_21 hW hP h hx9 (RC_cq hR c21) (fun M22 h22 => ?_)
  have c22 := cq_tr h22 c21
  refine rc_22 hW hP h hx9 (RC_cq hR c22) (fun M23 h23 => ?_)
  have c23 := cq_tr h23 c22
  refine rc_23 hW hP h hx9 (RC_cq hR c23) (fun M24 h24 => ?_)
  have c24 := cq_tr h24 c23
  refine rc_24 hW hP h hx9 (RC_cq hR c24) (fun M25 h25 => ?_)
  have c25 := cq_tr h25 c24
  refine rc_25 hW hP h hx9 (RC_cq hR c25) (fun M26 h26 => ?_)
  have c26 := cq_tr h26 c25
  refine rc_26 hW hP h hx9 (RC_cq hR c26) (fun M27 h27 => ?_)
  have c27 := cq_tr h27 c26
  refine rc_27 hW hP h hx9 (RC_cq hR c27) (fun M28 h28 => ?_)
  have c28 := cq_tr h28 c27
  refine rc_28 hW hP h hx9 (RC_cq hR c28) (fun M29 h29 => ?_)
  have c29 := cq_tr h29 c28
  exact rt_mid hW hP h hx9 (RC_cq hR c29) (fun M hM => F M (cq_tr hM c29))
set_option maxRecDepth 100000 in
set_option maxHeartbeats 4000000 in
theorem k_L_refuses {l : Launch} {w : en_W} {m : en_M} {x : Int} (hw : en_Wok w) (hp : HasL w) (hl : l.stackTraces = false) (hI9 : INV m) (hN : m 200 0 = m 0 0 ∧ m 200 1 = m 0 1 ∧ m 200 2 = m 21 1) (hx0 : 0 ≤ x ∧ x < 9973) : en_MetS l w yL_refuses wsL_refuses rm_L_refuses [en_R 49, en_R 200, en_I x] m (fun r m' => r = some (en_I 1) ∧ cq m' m) := by
  refine en_metP my_L_refuses hw hl (Nat.le_of_ble_eq_true rfl) ?_
  intro κ hl9 hw9 h hf hx9
  subst hw9
  subst hl9
  have hI : ∀ k, 200 ≤ k → k < 204 → en_in κ k := hp.2.2.1
  have n9 := inv_n hI9
  have x50 : 0 ≤ x % 50 ∧ x % 50 < 50 := by omega
  have o0 := Int.emod_nonneg x (show m 0 0 ≠ 0 by omega)
  have o1 := Int.emod_lt_of_pos x (show 0 < m 0 0 by omega)
  have fin : ∀ bus line meter : Int, (¬ pB m bus ∧ ¬ pL m line ∧ ¬ pM m meter) → (-1000 ≤ bus ∧ bus ≤ 1000) → (-1000 ≤ line ∧ line ≤ 1000) → (-1000 ≤ meter ∧ meter ≤ 1000) → en_G κ 81 (rc_ls x bus line meter (x % m 0 0)) [] m 0 0 := by
    intro bus line meter z1 z2 z3 z4
    refine rt_all hw hp h hx9 ⟨hI9, hN, ⟨z1.1, z1.2.1, z1.2.2, o0, o1⟩, hx0, z2, z3, z4⟩ (fun M hM => ?_)
    exact en_zret h hf dL_refuses_609 ⟨by decide, by decide⟩ (Or.inr rfl) ⟨rfl, hM⟩
  refine en_iload_n (i := 2) h dL_refuses_0 rfl rfl ?_
  refine en_iconst h dL_refuses_1 ?_
  refine en_iremP h dL_refuses_2 (by omega) (by omega) ?_
  refine en_if_ne (tgt := 15) h dL_refuses_3 (by decide) (by omega) (fun c_3 => ?_) (fun c_3 => ?_)
  · refine en_aload_n (i := 1) h dL_refuses_15 rfl rfl ?_
    refine en_iconst h dL_refuses_16 ?_
    refine en_iaload h dL_refuses_17 (hI _ (by omega) (by omega)) rfl (by omega) hN.1 ?_
    refine en_iload_n (i := 2) h dL_refuses_18 rfl rfl ?_
    refine en_bipush h dL_refuses_19 (by decide) ?_
    refine en_iremP h dL_refuses_21 (by omega) (by omega) ?_
    refine en_iadd h dL_refuses_22 ?_
    refine en_istore_n (i := 3) h dL_refuses_23 rfl (by decide) ?_
    refine en_iload_n (i := 2) h dL_refuses_24 rfl rfl ?_
    refine en_iconst h dL_refuses_25 ?_
    refine en_iremP h dL_refuses_26 (by omega) (by omega) ?_
    refine en_if_ne (tgt := 39) h dL_refuses_27 (by decide) (by omega) (fun c_27 => ?_) (fun c_27 => ?_)
    · refine en_aload_n (i := 1) h dL_refuses_39 rfl rfl ?_
      refine en_iconst h dL_refuses_40 ?_
      refine en_iaload h dL_refuses_41 (hI _ (by omega) (by omega)) rfl (by omega) hN.2.1 ?_
      refine en_iload_n (i := 2) h dL_refuses_42 rfl rfl ?_
      refine en_bipush h dL_refuses_43 (by decide) ?_
      refine en_iremP h dL_refuses_45 (by omega) (by omega) ?_
      refine en_iadd h dL_refuses_46 ?_
      refine en_istore (i := 4) h dL_refuses_47 (by decide) ?_
      refine en_iload_n (i := 2) h dL_refuses_49 rfl rfl ?_
      refine en_iconst h dL_refuses_50 ?_
      refine en_iremP h dL_refuses_51 (by omega) (by omega) ?_
      refine en_if_ne (tgt := 64) h dL_refuses_52 (by decide) (by omega) (fun c_52 => ?_) (fun c_52 => ?_)
      · refine en_aload_n (i := 1) h dL_refuses_64 rfl rfl ?_
        refine en_iconst h dL_refuses_65 ?_
        refine en_iaload h dL_refuses_66 (hI _ (by omega) (by omega)) rfl (by omega) hN.2.2 ?_
        refine en_iload_n (i := 2) h dL_refuses_67 rfl rfl ?_
        refine en_bipush h dL_refuses_68 (by decide) ?_
        refine en_iremP h dL_refuses_70 (by omega) (by omega) ?_
        refine en_iadd h dL_refuses_71 ?_
        refine en_istore (i := 5) h dL_refuses_72 (by decide) ?_
        refine en_iload_n (i := 2) h dL_refuses_74 rfl rfl ?_
        refine en_aload_n (i := 1) h dL_refuses_75 rfl rfl ?_
        refine en_iconst h dL_refuses_76 ?_
        refine en_iaload h dL_refuses_77 (hI _ (by omega) (by omega)) rfl (by omega) hN.1 ?_
        refine en_iremP h dL_refuses_78 (by omega) (by omega) ?_
        refine en_istore (i := 6) h dL_refuses_79 (by decide) ?_
        exact fin _ _ _ ⟨by unfold pB; omega, by unfold pL; omega, by unfold pM; omega⟩ (by omega) (by omega) (by omega)
      · exact absurd c_52 (by omega)
    · exact absurd c_27 (by omega)
  · refine en_iconst h dL_refuses_6 ?_
    refine en_iload_n (i := 2) h dL_refuses_7 rfl rfl ?_
    refine en_bipush h dL_refuses_8 (by decide) ?_
    refine en_iremP h dL_refuses_10 (by omega) (by omega) ?_
    refine en_isub h dL_refuses_11 ?_
    refine en_goto (tgt := 23) h dL_refuses_12 (by decide) ?_
    refine en_istore_n (i := 3) h dL_refuses_23 rfl (by decide) ?_
    refine en_iload_n (i := 2) h dL_refuses_24 rfl rfl ?_
    refine en_iconst h dL_refuses_25 ?_
    refine en_iremP h dL_refuses_26 (by omega) (by omega) ?_
    refine en_if_ne (tgt := 39) h dL_refuses_27 (by decide) (by omega) (fun c_27 => ?_) (fun c_27 => ?_)
    · exact absurd c_27 (by omega)
    · refine en_iconst h dL_refuses_30 ?_
      refine en_iload_n (i := 2) h dL_refuses_31 rfl rfl ?_
      refine en_bipush h dL_refuses_32 (by decide) ?_
      refine en_iremP h dL_refuses_34 (by omega) (by omega) ?_
      refine en_isub h dL_refuses_35 ?_
      refine en_goto (tgt := 47) h dL_refuses_36 (by decide) ?_
      refine en_istore (i := 4) h dL_refuses_47 (by decide) ?_
      refine en_iload_n (i := 2) h dL_refuses_49 rfl rfl ?_
      refine en_iconst h dL_refuses_50 ?_
      refine en_iremP h dL_refuses_51 (by omega) (by omega) ?_
      refine en_if_ne (tgt := 64) h dL_refuses_52 (by decide) (by omega) (fun c_52 => ?_) (fun c_52 => ?_)
      · exact absurd c_52 (by omega)
      · refine en_iconst h dL_refuses_55 ?_
        refine en_iload_n (i := 2) h dL_refuses_56 rfl rfl ?_
        refine en_bipush h dL_refuses_57 (by decide) ?_
        refine en_iremP h dL_refuses_59 (by omega) (by omega) ?_
        refine en_isub h dL_refuses_60 ?_
        refine en_goto (tgt := 72) h dL_refuses_61 (by decide) ?_
        refine en_istore (i := 5) h dL_refuses_72 (by decide) ?_
        refine en_iload_n (i := 2) h dL_refuses_74 rfl rfl ?_
        refine en_aload_n (i := 1) h dL_refuses_75 rfl rfl ?_
        refine en_iconst h dL_refuses_76 ?_
        refine en_iaload h dL_refuses_77 (hI _ (by omega) (by omega)) rfl (by omega) hN.1 ?_
        refine en_iremP h dL_refuses_78 (by omega) (by omega) ?_
        refine en_istore (i := 6) h dL_refuses_79 (by decide) ?_
        exact fin _ _ _ ⟨by unfold pB; omega, by unfold pL; omega, by unfold pM; omega⟩ (by omega) (by omega) (by omega)
