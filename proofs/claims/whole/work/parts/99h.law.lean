/-! LAW 99h: cases -/
set_option maxRecDepth 100000 in
set_option maxHeartbeats 4000000 in
theorem lc_use {κ : en_C} {L : Nat} {xs : Nat → Int32} {m : en_M} {k n : Nat} {i : Int} (hW : en_Wok (en_w κ)) (hP : en_Has (en_w κ) 0 68) (h : en_Ok κ RL cL_law 8 wsL_law room_1) (hx9 : en_Xs κ) (hs : en_Sc κ L xs) (hI : INV m) (i0 : 1 ≤ i ∧ i + 5 ≤ (L : Int)) (hk : k + 64 ≤ 654842 ∧ n + 512 ≤ 7131545) (kk : ∀ M, INV M → en_G κ 1205 [some (en_R 99), some (en_R 49), some (en_R 51), some (en_R 50), some (en_I i), none, none, none] [] M (k + 64) (n + 512)) : en_G κ 532 [some (en_R 99), some (en_R 49), some (en_R 51), some (en_R 50), some (en_I i), none, none, none] [] m k n := by
  have hI9 : ∀ j, 0 ≤ j → j < 68 → en_in κ j := hP
  have hfl := en_Xs_l hx9
  by_cases hz : en_sx xs (i + 2) = 0
  · have hc9 : (0 : Int) = 0 ∨ (0 : Int) = 1 := by decide
    refine en_aload_n (i := 1) h dL_law_532 rfl rfl ?_
    refine en_aload_n (i := 0) h dL_law_533 rfl rfl ?_
    refine en_iload (i := 4) h dL_law_534 rfl ?_
    refine en_iconst h dL_law_536 ?_
    refine en_iadd h dL_law_537 ?_
    refine en_sld h hs dL_law_538 (by omega) ?_
    refine en_aload_n (i := 0) h dL_law_539 rfl rfl ?_
    refine en_iload (i := 4) h dL_law_540 rfl ?_
    refine en_iconst h dL_law_542 ?_
    refine en_iadd h dL_law_543 ?_
    refine en_sld h hs dL_law_544 (by omega) ?_
    refine en_if_eq (tgt := 552) h dL_law_545 (by decide) (en_sx_r _ _) (fun _ => ?_) (fun q => absurd hz q)
    refine en_iconst h dL_law_552 ?_
    refine en_aload_n (i := 3) h dL_law_553 rfl rfl ?_
    refine en_callSS h hx9 (k_L_use hW hP hfl (k_X4_use hW (fun j j0 j1 => hI9 j j0 (by omega)) hfl (inv_n hI).2.2 (en_sx_r xs (i + 1)) hc9 (fun a b => (inv_mt hI _ a b).2.1)) (fun r m1 hq => ⟨_, hq.1, (inv_mt hI _ hq.2.2.1 hq.2.2.2).2.1⟩) (fun E m1 hq => hq.1)) my_L_use gL_law_L_use rfl rfl ⟨by decide, by decide⟩ ⟨show k + 1 ≤ 654842 by omega, show n + 6 ≤ 7131545 by omega⟩ (Nat.le_of_ble_eq_true rfl) dL_law_554 (fun r M1 hp1 => ?_)
    obtain ⟨c, rfl, rc, hS⟩ := s_use hp1
    obtain ⟨xl1, xm1⟩ := xo_g (g_use hS) hI
    refine en_istore (i := 5) h dL_law_557 (by decide) ?_
    refine en_aload_n (i := 2) h dL_law_559 rfl rfl ?_
    refine en_aload_n (i := 0) h dL_law_560 rfl rfl ?_
    refine en_iload (i := 4) h dL_law_561 rfl ?_
    refine en_iconst h dL_law_563 ?_
    refine en_iadd h dL_law_564 ?_
    refine en_sld h hs dL_law_565 (by omega) ?_
    refine en_aload_n (i := 0) h dL_law_566 rfl rfl ?_
    refine en_iload (i := 4) h dL_law_567 rfl ?_
    refine en_iconst h dL_law_569 ?_
    refine en_iadd h dL_law_570 ?_
    refine en_sld h hs dL_law_571 (by omega) ?_
    refine en_if_eq (tgt := 579) h dL_law_572 (by decide) (en_sx_r _ _) (fun _ => ?_) (fun q => absurd hz q)
    refine en_iconst h dL_law_579 ?_
    refine en_callV h (k_X5_use hW hP xm1.1 (fun a b => (xm1.2 _ a b).2.1) (en_sx_r xs (i + 1)) hc9) my_X5_use gL_law_X5_use (hI9 _ (by decide) (by decide)) rfl rfl rfl rfl ⟨by decide, by decide⟩ ⟨show k + 1 + 0 ≤ 654842 by omega, show n + 6 + 0 ≤ 7131545 by omega⟩ (Nat.le_of_ble_eq_true rfl) dL_law_580 (fun r2 M2 hp2 => ?_)
    obtain ⟨v, rfl, rv, f0, f50, hI2⟩ := t_use hI hc9 hS hp2
    refine en_istore (i := 6) h dL_law_583 (by decide) ?_
    refine en_aload_n (i := 2) h dL_law_585 rfl rfl ?_
    refine en_callV h (k_X5_thrown hW hP) my_X5_thrown gL_law_X5_thrown (hI9 _ (by decide) (by decide)) rfl rfl rfl rfl ⟨by decide, by decide⟩ ⟨show k + 1 + 0 + 0 ≤ 654842 by omega, show n + 6 + 0 + 0 ≤ 7131545 by omega⟩ (Nat.le_of_ble_eq_true rfl) dL_law_586 (fun r3 M3 hp3 => ?_)
    obtain ⟨rfl, e3⟩ := hp3
    subst e3
    rw [f0]
    refine en_iload (i := 5) h dL_law_589 rfl ?_
    refine en_icmp_eq (tgt := 596) h dL_law_591 (by decide) rc rc (fun _ => ?_) (fun z => absurd rfl z)
    refine en_iload (i := 5) h dL_law_596 rfl ?_
    refine en_if_ne (tgt := 620) h dL_law_598 (by decide) rc (fun c1 => ?_) (fun c1 => ?_)
    · refine en_goto (tgt := 1205) h dL_law_620 (by decide) ?_
      exact en_weak5 (en_wide (k' := k + 64) (n' := n + 512) (by show k + 1 + 0 + 0 ≤ k + 64; omega) (by show n + 6 + 0 + 0 ≤ n + 512; omega) (kk _ hI2))
    · refine en_aload_n (i := 3) h dL_law_601 rfl rfl ?_
      refine en_iconst h dL_law_602 ?_
      refine en_laload h dL_law_603 (hI9 _ (by decide) (by decide)) rfl (by decide) (f50 c1) ?_
      refine en_iload (i := 6) h dL_law_604 rfl ?_
      rcases rv with rfl | rfl
      · refine en_if_eq (tgt := 613) h dL_law_606 (by decide) (by decide) (fun _ => ?_) (fun z => absurd rfl z)
        refine en_lconst (z := 0) h dL_law_613 rfl ?_
        refine en_lcmp h dL_law_614 ?_
        refine en_if_eq (tgt := 620) h dL_law_615 (by decide) (en_cmp_r _ _) (fun _ => ?_) (fun z => absurd ((en_cmp_eq _ _).mpr rfl) z)
        refine en_goto (tgt := 1205) h dL_law_620 (by decide) ?_
        exact en_weak5 (en_wide (k' := k + 64) (n' := n + 512) (by show k + 1 + 0 + 0 ≤ k + 64; omega) (by show n + 6 + 0 + 0 ≤ n + 512; omega) (kk _ hI2))
      · refine en_if_eq (tgt := 613) h dL_law_606 (by decide) (by decide) (fun z => absurd z (by decide)) (fun _ => ?_)
        refine en_lconst (z := 1) h dL_law_609 rfl ?_
        refine en_goto (tgt := 614) h dL_law_610 (by decide) ?_
        refine en_lcmp h dL_law_614 ?_
        refine en_if_eq (tgt := 620) h dL_law_615 (by decide) (en_cmp_r _ _) (fun _ => ?_) (fun z => absurd ((en_cmp_eq _ _).mpr rfl) z)
        refine en_goto (tgt := 1205) h dL_law_620 (by decide) ?_
        exact en_weak5 (en_wide (k' := k + 64) (n' := n + 512) (by show k + 1 + 0 + 0 ≤ k + 64; omega) (by show n + 6 + 0 + 0 ≤ n + 512; omega) (kk _ hI2))
  · have hc9 : (1 : Int) = 0 ∨ (1 : Int) = 1 := by decide
    refine en_aload_n (i := 1) h dL_law_532 rfl rfl ?_
    refine en_aload_n (i := 0) h dL_law_533 rfl rfl ?_
    refine en_iload (i := 4) h dL_law_534 rfl ?_
    refine en_iconst h dL_law_536 ?_
    refine en_iadd h dL_law_537 ?_
    refine en_sld h hs dL_law_538 (by omega) ?_
    refine en_aload_n (i := 0) h dL_law_539 rfl rfl ?_
    refine en_iload (i := 4) h dL_law_540 rfl ?_
    refine en_iconst h dL_law_542 ?_
    refine en_iadd h dL_law_543 ?_
    refine en_sld h hs dL_law_544 (by omega) ?_
    refine en_if_eq (tgt := 552) h dL_law_545 (by decide) (en_sx_r _ _) (fun q => absurd q hz) (fun _ => ?_)
    refine en_iconst h dL_law_548 ?_
    refine en_goto (tgt := 553) h dL_law_549 (by decide) ?_
    refine en_aload_n (i := 3) h dL_law_553 rfl rfl ?_
    refine en_callSS h hx9 (k_L_use hW hP hfl (k_X4_use hW (fun j j0 j1 => hI9 j j0 (by omega)) hfl (inv_n hI).2.2 (en_sx_r xs (i + 1)) hc9 (fun a b => (inv_mt hI _ a b).2.1)) (fun r m1 hq => ⟨_, hq.1, (inv_mt hI _ hq.2.2.1 hq.2.2.2).2.1⟩) (fun E m1 hq => hq.1)) my_L_use gL_law_L_use rfl rfl ⟨by decide, by decide⟩ ⟨show k + 1 ≤ 654842 by omega, show n + 6 ≤ 7131545 by omega⟩ (Nat.le_of_ble_eq_true rfl) dL_law_554 (fun r M1 hp1 => ?_)
    obtain ⟨c, rfl, rc, hS⟩ := s_use hp1
    obtain ⟨xl1, xm1⟩ := xo_g (g_use hS) hI
    refine en_istore (i := 5) h dL_law_557 (by decide) ?_
    refine en_aload_n (i := 2) h dL_law_559 rfl rfl ?_
    refine en_aload_n (i := 0) h dL_law_560 rfl rfl ?_
    refine en_iload (i := 4) h dL_law_561 rfl ?_
    refine en_iconst h dL_law_563 ?_
    refine en_iadd h dL_law_564 ?_
    refine en_sld h hs dL_law_565 (by omega) ?_
    refine en_aload_n (i := 0) h dL_law_566 rfl rfl ?_
    refine en_iload (i := 4) h dL_law_567 rfl ?_
    refine en_iconst h dL_law_569 ?_
    refine en_iadd h dL_law_570 ?_
    refine en_sld h hs dL_law_571 (by omega) ?_
    refine en_if_eq (tgt := 579) h dL_law_572 (by decide) (en_sx_r _ _) (fun q => absurd q hz) (fun _ => ?_)
    refine en_iconst h dL_law_575 ?_
    refine en_goto (tgt := 580) h dL_law_576 (by decide) ?_
    refine en_callV h (k_X5_use hW hP xm1.1 (fun a b => (xm1.2 _ a b).2.1) (en_sx_r xs (i + 1)) hc9) my_X5_use gL_law_X5_use (hI9 _ (by decide) (by decide)) rfl rfl rfl rfl ⟨by decide, by decide⟩ ⟨show k + 1 + 0 ≤ 654842 by omega, show n + 6 + 0 ≤ 7131545 by omega⟩ (Nat.le_of_ble_eq_true rfl) dL_law_580 (fun r2 M2 hp2 => ?_)
    obtain ⟨v, rfl, rv, f0, f50, hI2⟩ := t_use hI hc9 hS hp2
    refine en_istore (i := 6) h dL_law_583 (by decide) ?_
    refine en_aload_n (i := 2) h dL_law_585 rfl rfl ?_
    refine en_callV h (k_X5_thrown hW hP) my_X5_thrown gL_law_X5_thrown (hI9 _ (by decide) (by decide)) rfl rfl rfl rfl ⟨by decide, by decide⟩ ⟨show k + 1 + 0 + 0 ≤ 654842 by omega, show n + 6 + 0 + 0 ≤ 7131545 by omega⟩ (Nat.le_of_ble_eq_true rfl) dL_law_586 (fun r3 M3 hp3 => ?_)
    obtain ⟨rfl, e3⟩ := hp3
    subst e3
    rw [f0]
    refine en_iload (i := 5) h dL_law_589 rfl ?_
    refine en_icmp_eq (tgt := 596) h dL_law_591 (by decide) rc rc (fun _ => ?_) (fun z => absurd rfl z)
    refine en_iload (i := 5) h dL_law_596 rfl ?_
    refine en_if_ne (tgt := 620) h dL_law_598 (by decide) rc (fun c1 => ?_) (fun c1 => ?_)
    · refine en_goto (tgt := 1205) h dL_law_620 (by decide) ?_
      exact en_weak5 (en_wide (k' := k + 64) (n' := n + 512) (by show k + 1 + 0 + 0 ≤ k + 64; omega) (by show n + 6 + 0 + 0 ≤ n + 512; omega) (kk _ hI2))
    · refine en_aload_n (i := 3) h dL_law_601 rfl rfl ?_
      refine en_iconst h dL_law_602 ?_
      refine en_laload h dL_law_603 (hI9 _ (by decide) (by decide)) rfl (by decide) (f50 c1) ?_
      refine en_iload (i := 6) h dL_law_604 rfl ?_
      rcases rv with rfl | rfl
      · refine en_if_eq (tgt := 613) h dL_law_606 (by decide) (by decide) (fun _ => ?_) (fun z => absurd rfl z)
        refine en_lconst (z := 0) h dL_law_613 rfl ?_
        refine en_lcmp h dL_law_614 ?_
        refine en_if_eq (tgt := 620) h dL_law_615 (by decide) (en_cmp_r _ _) (fun _ => ?_) (fun z => absurd ((en_cmp_eq _ _).mpr rfl) z)
        refine en_goto (tgt := 1205) h dL_law_620 (by decide) ?_
        exact en_weak5 (en_wide (k' := k + 64) (n' := n + 512) (by show k + 1 + 0 + 0 ≤ k + 64; omega) (by show n + 6 + 0 + 0 ≤ n + 512; omega) (kk _ hI2))
      · refine en_if_eq (tgt := 613) h dL_law_606 (by decide) (by decide) (fun z => absurd z (by decide)) (fun _ => ?_)
        refine en_lconst (z := 1) h dL_law_609 rfl ?_
        refine en_goto (tgt := 614) h dL_law_610 (by decide) ?_
        refine en_lcmp h dL_law_614 ?_
        refine en_if_eq (tgt := 620) h dL_law_615 (by decide) (en_cmp_r _ _) (fun _ => ?_) (fun z => absurd ((en_cmp_eq _ _).mpr rfl) z)
        refine en_goto (tgt := 1205) h dL_law_620 (by decide) ?_
        exact en_weak5 (en_wide (k' := k + 64) (n' := n + 512) (by show k + 1 + 0 + 0 ≤ k + 64; omega) (by show n + 6 + 0 + 0 ≤ n + 512; omega) (kk _ hI2))
set_option maxRecDepth 100000 in
set_option maxHeartbeats 4000000 in
theorem lc_countsIn {κ : en_C} {L : Nat} {xs : Nat → Int32} {m : en_M} {k n : Nat} {i : Int} (hW : en_Wok (en_w κ)) (hP : en_Has (en_w κ) 0 68) (h : en_Ok κ RL cL_law 8 wsL_law room_1) (hx9 : en_Xs κ) (hs : en_Sc κ L xs) (hI : INV m) (i0 : 1 ≤ i ∧ i + 5 ≤ (L : Int)) (hk : k + 64 ≤ 654842 ∧ n + 512 ≤ 7131545) (kk : ∀ M, INV M → en_G κ 1205 [some (en_R 99), some (en_R 49), some (en_R 51), some (en_R 50), some (en_I i), none, none, none] [] M (k + 64) (n + 512)) : en_G κ 623 [some (en_R 99), some (en_R 49), some (en_R 51), some (en_R 50), some (en_I i), none, none, none] [] m k n := by
  have hI9 : ∀ j, 0 ≤ j → j < 68 → en_in κ j := hP
  have hfl := en_Xs_l hx9
  refine en_aload_n (i := 1) h dL_law_623 rfl rfl ?_
  refine en_aload_n (i := 0) h dL_law_624 rfl rfl ?_
  refine en_iload (i := 4) h dL_law_625 rfl ?_
  refine en_iconst h dL_law_627 ?_
  refine en_iadd h dL_law_628 ?_
  refine en_sld h hs dL_law_629 (by omega) ?_
  refine en_aload_n (i := 3) h dL_law_630 rfl rfl ?_
  refine en_callSS h hx9 (k_L_countsIn hW hP hfl (k_X4_countsIn hW (fun j j0 j1 => hI9 j j0 (by omega)) hfl (inv_xc hI).2.2.1 (en_sx_r xs (i + 1))) (fun r m1 hq => ⟨_, hq.1, by have z := inv_io hI hq.2.2.1 hq.2.2.2; constructor <;> omega⟩) (fun E m1 hq => hq.1)) my_L_countsIn gL_law_L_countsIn rfl rfl ⟨by decide, by decide⟩ ⟨show k + 1 ≤ 654842 by omega, show n + 6 ≤ 7131545 by omega⟩ (Nat.le_of_ble_eq_true rfl) dL_law_631 (fun r M1 hp1 => ?_)
  obtain ⟨c, rfl, rc, hS⟩ := s_countsIn hI hp1
  obtain ⟨xl1, xm1⟩ := xo_g (fun j hj => hS.1.1 j (Or.inr hj)) hI
  refine en_istore (i := 5) h dL_law_634 (by decide) ?_
  refine en_aload_n (i := 2) h dL_law_636 rfl rfl ?_
  refine en_aload_n (i := 0) h dL_law_637 rfl rfl ?_
  refine en_iload (i := 4) h dL_law_638 rfl ?_
  refine en_iconst h dL_law_640 ?_
  refine en_iadd h dL_law_641 ?_
  refine en_sld h hs dL_law_642 (by omega) ?_
  refine en_callV h (k_X5_countsIn hW hP xl1 xm1 (en_sx_r xs (i + 1))) my_X5_countsIn gL_law_X5_countsIn (hI9 _ (by decide) (by decide)) rfl rfl rfl rfl ⟨by decide, by decide⟩ ⟨show k + 1 + 0 ≤ 654842 by omega, show n + 6 + 0 ≤ 7131545 by omega⟩ (Nat.le_of_ble_eq_true rfl) dL_law_643 (fun r2 M2 hp2 => ?_)
  obtain ⟨v, rfl, rv, f0, f50, hI2⟩ := t_countsIn hI hS hp2
  refine en_istore (i := 6) h dL_law_646 (by decide) ?_
  refine en_aload_n (i := 2) h dL_law_648 rfl rfl ?_
  refine en_callV h (k_X5_thrown hW hP) my_X5_thrown gL_law_X5_thrown (hI9 _ (by decide) (by decide)) rfl rfl rfl rfl ⟨by decide, by decide⟩ ⟨show k + 1 + 0 + 0 ≤ 654842 by omega, show n + 6 + 0 + 0 ≤ 7131545 by omega⟩ (Nat.le_of_ble_eq_true rfl) dL_law_649 (fun r3 M3 hp3 => ?_)
  obtain ⟨rfl, e3⟩ := hp3
  subst e3
  rw [f0]
  refine en_iload (i := 5) h dL_law_652 rfl ?_
  refine en_icmp_eq (tgt := 659) h dL_law_654 (by decide) rc rc (fun _ => ?_) (fun z => absurd rfl z)
  refine en_iload (i := 5) h dL_law_659 rfl ?_
  refine en_if_ne (tgt := 676) h dL_law_661 (by decide) rc (fun c1 => ?_) (fun c1 => ?_)
  · refine en_goto (tgt := 1205) h dL_law_676 (by decide) ?_
    exact en_weak5 (en_wide (k' := k + 64) (n' := n + 512) (by show k + 1 + 0 + 0 ≤ k + 64; omega) (by show n + 6 + 0 + 0 ≤ n + 512; omega) (kk _ hI2))
  · refine en_aload_n (i := 3) h dL_law_664 rfl rfl ?_
    refine en_iconst h dL_law_665 ?_
    refine en_laload h dL_law_666 (hI9 _ (by decide) (by decide)) rfl (by decide) (f50 c1) ?_
    refine en_iload (i := 6) h dL_law_667 rfl ?_
    refine en_i2l h dL_law_669 rv ?_
    refine en_lcmp h dL_law_670 ?_
    refine en_if_eq (tgt := 676) h dL_law_671 (by decide) (en_cmp_r _ _) (fun _ => ?_) (fun z => absurd ((en_cmp_eq _ _).mpr rfl) z)
    refine en_goto (tgt := 1205) h dL_law_676 (by decide) ?_
    exact en_weak5 (en_wide (k' := k + 64) (n' := n + 512) (by show k + 1 + 0 + 0 ≤ k + 64; omega) (by show n + 6 + 0 + 0 ≤ n + 512; omega) (kk _ hI2))
set_option maxRecDepth 100000 in
set_option maxHeartbeats 4000000 in
theorem lc_rank {κ : en_C} {L : Nat} {xs : Nat → Int32} {m : en_M} {k n : Nat} {i : Int} (hW : en_Wok (en_w κ)) (hP : en_Has (en_w κ) 0 68) (h : en_Ok κ RL cL_law 8 wsL_law room_1) (hx9 : en_Xs κ) (hs : en_Sc κ L xs) (hI : INV m) (i0 : 1 ≤ i ∧ i + 5 ≤ (L : Int)) (hk : k + 64 ≤ 654842 ∧ n + 512 ≤ 7131545) (kk : ∀ M, INV M → en_G κ 1205 [some (en_R 99), some (en_R 49), some (en_R 51), some (en_R 50), some (en_I i), none, none, none] [] M (k + 64) (n + 512)) : en_G κ 679 [some (en_R 99), some (en_R 49), some (en_R 51), some (en_R 50), some (en_I i), none, none, none] [] m k n := by
  have hI9 : ∀ j, 0 ≤ j → j < 68 → en_in κ j := hP
  have hfl := en_Xs_l hx9
  refine en_aload_n (i := 1) h dL_law_679 rfl rfl ?_
  refine en_aload_n (i := 0) h dL_law_680 rfl rfl ?_
  refine en_iload (i := 4) h dL_law_681 rfl ?_
  refine en_iconst h dL_law_683 ?_
  refine en_iadd h dL_law_684 ?_
  refine en_sld h hs dL_law_685 (by omega) ?_
  refine en_aload_n (i := 3) h dL_law_686 rfl rfl ?_
  refine en_callSS h hx9 (k_L_rank hW hP hfl (k_X4_rank hW (fun j j0 j1 => hI9 j j0 (by omega)) hfl (inv_xc hI) (en_sx_r xs (i + 1))) (fun r m1 hq => ⟨_, hq.1, rg_rank hI hq.2.2.2⟩) (fun E m1 hq => hq.1)) my_L_rank gL_law_L_rank rfl rfl ⟨by decide, by decide⟩ ⟨show k + 1 ≤ 654842 by omega, show n + 6 ≤ 7131545 by omega⟩ (Nat.le_of_ble_eq_true rfl) dL_law_687 (fun r M1 hp1 => ?_)
  obtain ⟨c, rfl, rc, hS⟩ := s_rank hI hp1
  obtain ⟨xl1, xm1⟩ := xo_g (fun j hj => hS.1.1 j (Or.inr hj)) hI
  refine en_istore (i := 5) h dL_law_690 (by decide) ?_
  refine en_aload_n (i := 2) h dL_law_692 rfl rfl ?_
  refine en_aload_n (i := 0) h dL_law_693 rfl rfl ?_
  refine en_iload (i := 4) h dL_law_694 rfl ?_
  refine en_iconst h dL_law_696 ?_
  refine en_iadd h dL_law_697 ?_
  refine en_sld h hs dL_law_698 (by omega) ?_
  refine en_callV h (k_X5_rank hW hP xl1 xm1 (en_sx_r xs (i + 1))) my_X5_rank gL_law_X5_rank (hI9 _ (by decide) (by decide)) rfl rfl rfl rfl ⟨by decide, by decide⟩ ⟨show k + 1 + 0 ≤ 654842 by omega, show n + 6 + 0 ≤ 7131545 by omega⟩ (Nat.le_of_ble_eq_true rfl) dL_law_699 (fun r2 M2 hp2 => ?_)
  obtain ⟨v, rfl, rv, f0, f50, hI2⟩ := t_rank hI hS hp2
  refine en_istore (i := 6) h dL_law_702 (by decide) ?_
  refine en_aload_n (i := 2) h dL_law_704 rfl rfl ?_
  refine en_callV h (k_X5_thrown hW hP) my_X5_thrown gL_law_X5_thrown (hI9 _ (by decide) (by decide)) rfl rfl rfl rfl ⟨by decide, by decide⟩ ⟨show k + 1 + 0 + 0 ≤ 654842 by omega, show n + 6 + 0 + 0 ≤ 7131545 by omega⟩ (Nat.le_of_ble_eq_true rfl) dL_law_705 (fun r3 M3 hp3 => ?_)
  obtain ⟨rfl, e3⟩ := hp3
  subst e3
  rw [f0]
  refine en_iload (i := 5) h dL_law_708 rfl ?_
  refine en_icmp_eq (tgt := 715) h dL_law_710 (by decide) rc rc (fun _ => ?_) (fun z => absurd rfl z)
  refine en_iload (i := 5) h dL_law_715 rfl ?_
  refine en_if_ne (tgt := 732) h dL_law_717 (by decide) rc (fun c1 => ?_) (fun c1 => ?_)
  · refine en_goto (tgt := 1205) h dL_law_732 (by decide) ?_
    exact en_weak5 (en_wide (k' := k + 64) (n' := n + 512) (by show k + 1 + 0 + 0 ≤ k + 64; omega) (by show n + 6 + 0 + 0 ≤ n + 512; omega) (kk _ hI2))
  · refine en_aload_n (i := 3) h dL_law_720 rfl rfl ?_
    refine en_iconst h dL_law_721 ?_
    refine en_laload h dL_law_722 (hI9 _ (by decide) (by decide)) rfl (by decide) (f50 c1) ?_
    refine en_iload (i := 6) h dL_law_723 rfl ?_
    refine en_i2l h dL_law_725 rv ?_
    refine en_lcmp h dL_law_726 ?_
    refine en_if_eq (tgt := 732) h dL_law_727 (by decide) (en_cmp_r _ _) (fun _ => ?_) (fun z => absurd ((en_cmp_eq _ _).mpr rfl) z)
    refine en_goto (tgt := 1205) h dL_law_732 (by decide) ?_
    exact en_weak5 (en_wide (k' := k + 64) (n' := n + 512) (by show k + 1 + 0 + 0 ≤ k + 64; omega) (by show n + 6 + 0 + 0 ≤ n + 512; omega) (kk _ hI2))
set_option maxRecDepth 100000 in
set_option maxHeartbeats 4000000 in
theorem lc_isObservable {κ : en_C} {L : Nat} {xs : Nat → Int32} {m : en_M} {k n : Nat} {i : Int} (hW : en_Wok (en_w κ)) (hP : en_Has (en_w κ) 0 68) (h : en_Ok κ RL cL_law 8 wsL_law room_1) (hx9 : en_Xs κ) (hs : en_Sc κ L xs) (hI : INV m) (i0 : 1 ≤ i ∧ i + 5 ≤ (L : Int)) (hk : k + 64 ≤ 654842 ∧ n + 512 ≤ 7131545) (kk : ∀ M, INV M → en_G κ 1205 [some (en_R 99), some (en_R 49), some (en_R 51), some (en_R 50), some (en_I i), none, none, none] [] M (k + 64) (n + 512)) : en_G κ 735 [some (en_R 99), some (en_R 49), some (en_R 51), some (en_R 50), some (en_I i), none, none, none] [] m k n := by
  have hI9 : ∀ j, 0 ≤ j → j < 68 → en_in κ j := hP
  have hfl := en_Xs_l hx9
  refine en_aload_n (i := 1) h dL_law_735 rfl rfl ?_
  refine en_aload_n (i := 0) h dL_law_736 rfl rfl ?_
  refine en_iload (i := 4) h dL_law_737 rfl ?_
  refine en_iconst h dL_law_739 ?_
  refine en_iadd h dL_law_740 ?_
  refine en_sld h hs dL_law_741 (by omega) ?_
  refine en_aload_n (i := 3) h dL_law_742 rfl rfl ?_
  refine en_callSS h hx9 (k_L_isObservable hW hP hfl (k_X4_isObservable hW (fun j j0 j1 => hI9 j j0 (by omega)) hfl (inv_xc hI) (en_sx_r xs (i + 1))) (fun r m1 hq => ⟨_, hq.1, by split <;> omega⟩) (fun E m1 hq => hq.1)) my_L_isObservable gL_law_L_isObservable rfl rfl ⟨by decide, by decide⟩ ⟨show k + 1 ≤ 654842 by omega, show n + 6 ≤ 7131545 by omega⟩ (Nat.le_of_ble_eq_true rfl) dL_law_743 (fun r M1 hp1 => ?_)
  obtain ⟨c, rfl, rc, hS⟩ := s_isObservable hI hp1
  obtain ⟨xl1, xm1⟩ := xo_g (fun j hj => hS.1.1 j (Or.inr hj)) hI
  refine en_istore (i := 5) h dL_law_746 (by decide) ?_
  refine en_aload_n (i := 2) h dL_law_748 rfl rfl ?_
  refine en_aload_n (i := 0) h dL_law_749 rfl rfl ?_
  refine en_iload (i := 4) h dL_law_750 rfl ?_
  refine en_iconst h dL_law_752 ?_
  refine en_iadd h dL_law_753 ?_
  refine en_sld h hs dL_law_754 (by omega) ?_
  refine en_callV h (k_X5_isObservable hW hP xl1 xm1 (en_sx_r xs (i + 1))) my_X5_isObservable gL_law_X5_isObservable (hI9 _ (by decide) (by decide)) rfl rfl rfl rfl ⟨by decide, by decide⟩ ⟨show k + 1 + 0 ≤ 654842 by omega, show n + 6 + 0 ≤ 7131545 by omega⟩ (Nat.le_of_ble_eq_true rfl) dL_law_755 (fun r2 M2 hp2 => ?_)
  obtain ⟨v, rfl, rv, f0, f50, hI2⟩ := t_isObservable hI hS hp2
  refine en_istore (i := 6) h dL_law_758 (by decide) ?_
  refine en_aload_n (i := 2) h dL_law_760 rfl rfl ?_
  refine en_callV h (k_X5_thrown hW hP) my_X5_thrown gL_law_X5_thrown (hI9 _ (by decide) (by decide)) rfl rfl rfl rfl ⟨by decide, by decide⟩ ⟨show k + 1 + 0 + 0 ≤ 654842 by omega, show n + 6 + 0 + 0 ≤ 7131545 by omega⟩ (Nat.le_of_ble_eq_true rfl) dL_law_761 (fun r3 M3 hp3 => ?_)
  obtain ⟨rfl, e3⟩ := hp3
  subst e3
  rw [f0]
  refine en_iload (i := 5) h dL_law_764 rfl ?_
  refine en_icmp_eq (tgt := 771) h dL_law_766 (by decide) rc rc (fun _ => ?_) (fun z => absurd rfl z)
  refine en_iload (i := 5) h dL_law_771 rfl ?_
  refine en_if_ne (tgt := 795) h dL_law_773 (by decide) rc (fun c1 => ?_) (fun c1 => ?_)
  · refine en_goto (tgt := 1205) h dL_law_795 (by decide) ?_
    exact en_weak5 (en_wide (k' := k + 64) (n' := n + 512) (by show k + 1 + 0 + 0 ≤ k + 64; omega) (by show n + 6 + 0 + 0 ≤ n + 512; omega) (kk _ hI2))
  · refine en_aload_n (i := 3) h dL_law_776 rfl rfl ?_
    refine en_iconst h dL_law_777 ?_
    refine en_laload h dL_law_778 (hI9 _ (by decide) (by decide)) rfl (by decide) (f50 c1) ?_
    refine en_iload (i := 6) h dL_law_779 rfl ?_
    rcases rv with rfl | rfl
    · refine en_if_eq (tgt := 788) h dL_law_781 (by decide) (by decide) (fun _ => ?_) (fun z => absurd rfl z)
      refine en_lconst (z := 0) h dL_law_788 rfl ?_
      refine en_lcmp h dL_law_789 ?_
      refine en_if_eq (tgt := 795) h dL_law_790 (by decide) (en_cmp_r _ _) (fun _ => ?_) (fun z => absurd ((en_cmp_eq _ _).mpr rfl) z)
      refine en_goto (tgt := 1205) h dL_law_795 (by decide) ?_
      exact en_weak5 (en_wide (k' := k + 64) (n' := n + 512) (by show k + 1 + 0 + 0 ≤ k + 64; omega) (by show n + 6 + 0 + 0 ≤ n + 512; omega) (kk _ hI2))
    · refine en_if_eq (tgt := 788) h dL_law_781 (by decide) (by decide) (fun z => absurd z (by decide)) (fun _ => ?_)
      refine en_lconst (z := 1) h dL_law_784 rfl ?_
      refine en_goto (tgt := 789) h dL_law_785 (by decide) ?_
      refine en_lcmp h dL_law_789 ?_
      refine en_if_eq (tgt := 795) h dL_law_790 (by decide) (en_cmp_r _ _) (fun _ => ?_) (fun z => absurd ((en_cmp_eq _ _).mpr rfl) z)
      refine en_goto (tgt := 1205) h dL_law_795 (by decide) ?_
      exact en_weak5 (en_wide (k' := k + 64) (n' := n + 512) (by show k + 1 + 0 + 0 ≤ k + 64; omega) (by show n + 6 + 0 + 0 ≤ n + 512; omega) (kk _ hI2))
set_option maxRecDepth 100000 in
set_option maxHeartbeats 4000000 in
theorem lc_isCritical {κ : en_C} {L : Nat} {xs : Nat → Int32} {m : en_M} {k n : Nat} {i : Int} (hW : en_Wok (en_w κ)) (hP : en_Has (en_w κ) 0 68) (h : en_Ok κ RL cL_law 8 wsL_law room_1) (hx9 : en_Xs κ) (hs : en_Sc κ L xs) (hI : INV m) (i0 : 1 ≤ i ∧ i + 5 ≤ (L : Int)) (hk : k + 64 ≤ 654842 ∧ n + 512 ≤ 7131545) (kk : ∀ M, INV M → en_G κ 1205 [some (en_R 99), some (en_R 49), some (en_R 51), some (en_R 50), some (en_I i), none, none, none] [] M (k + 64) (n + 512)) : en_G κ 798 [some (en_R 99), some (en_R 49), some (en_R 51), some (en_R 50), some (en_I i), none, none, none] [] m k n := by
  have hI9 : ∀ j, 0 ≤ j → j < 68 → en_in κ j := hP
  have hfl := en_Xs_l hx9
  refine en_aload_n (i := 1) h dL_law_798 rfl rfl ?_
  refine en_aload_n (i := 0) h dL_law_799 rfl rfl ?_
  refine en_iload (i := 4) h dL_law_800 rfl ?_
  refine en_iconst h dL_law_802 ?_
  refine en_iadd h dL_law_803 ?_
  refine en_sld h hs dL_law_804 (by omega) ?_
  refine en_aload_n (i := 3) h dL_law_805 rfl rfl ?_
  refine en_callSS h hx9 (k_L_isCritical hW hP hfl (k_X4_isCritical hW (fun j j0 j1 => hI9 j j0 (by omega)) hfl (inv_xc hI) (en_sx_r xs (i + 1))) (fun r m1 hq => ⟨_, hq.1, by split <;> omega⟩) (fun E m1 hq => hq.1)) my_L_isCritical gL_law_L_isCritical rfl rfl ⟨by decide, by decide⟩ ⟨show k + 1 ≤ 654842 by omega, show n + 6 ≤ 7131545 by omega⟩ (Nat.le_of_ble_eq_true rfl) dL_law_806 (fun r M1 hp1 => ?_)
  obtain ⟨c, rfl, rc, hS⟩ := s_isCritical hI hp1
  obtain ⟨xl1, xm1⟩ := xo_g (fun j hj => hS.1.1 j (Or.inr hj)) hI
  refine en_istore (i := 5) h dL_law_809 (by decide) ?_
  refine en_aload_n (i := 2) h dL_law_811 rfl rfl ?_
  refine en_aload_n (i := 0) h dL_law_812 rfl rfl ?_
  refine en_iload (i := 4) h dL_law_813 rfl ?_
  refine en_iconst h dL_law_815 ?_
  refine en_iadd h dL_law_816 ?_
  refine en_sld h hs dL_law_817 (by omega) ?_
  refine en_callV h (k_X5_isCritical hW hP xl1 xm1 (en_sx_r xs (i + 1))) my_X5_isCritical gL_law_X5_isCritical (hI9 _ (by decide) (by decide)) rfl rfl rfl rfl ⟨by decide, by decide⟩ ⟨show k + 1 + 0 ≤ 654842 by omega, show n + 6 + 0 ≤ 7131545 by omega⟩ (Nat.le_of_ble_eq_true rfl) dL_law_818 (fun r2 M2 hp2 => ?_)
  obtain ⟨v, rfl, rv, f0, f50, hI2⟩ := t_isCritical hI hS hp2
  refine en_istore (i := 6) h dL_law_821 (by decide) ?_
  refine en_aload_n (i := 2) h dL_law_823 rfl rfl ?_
  refine en_callV h (k_X5_thrown hW hP) my_X5_thrown gL_law_X5_thrown (hI9 _ (by decide) (by decide)) rfl rfl rfl rfl ⟨by decide, by decide⟩ ⟨show k + 1 + 0 + 0 ≤ 654842 by omega, show n + 6 + 0 + 0 ≤ 7131545 by omega⟩ (Nat.le_of_ble_eq_true rfl) dL_law_824 (fun r3 M3 hp3 => ?_)
  obtain ⟨rfl, e3⟩ := hp3
  subst e3
  rw [f0]
  refine en_iload (i := 5) h dL_law_827 rfl ?_
  refine en_icmp_eq (tgt := 834) h dL_law_829 (by decide) rc rc (fun _ => ?_) (fun z => absurd rfl z)
  refine en_iload (i := 5) h dL_law_834 rfl ?_
  refine en_if_ne (tgt := 858) h dL_law_836 (by decide) rc (fun c1 => ?_) (fun c1 => ?_)
  · refine en_goto (tgt := 1205) h dL_law_858 (by decide) ?_
    exact en_weak5 (en_wide (k' := k + 64) (n' := n + 512) (by show k + 1 + 0 + 0 ≤ k + 64; omega) (by show n + 6 + 0 + 0 ≤ n + 512; omega) (kk _ hI2))
  · refine en_aload_n (i := 3) h dL_law_839 rfl rfl ?_
    refine en_iconst h dL_law_840 ?_
    refine en_laload h dL_law_841 (hI9 _ (by decide) (by decide)) rfl (by decide) (f50 c1) ?_
    refine en_iload (i := 6) h dL_law_842 rfl ?_
    rcases rv with rfl | rfl
    · refine en_if_eq (tgt := 851) h dL_law_844 (by decide) (by decide) (fun _ => ?_) (fun z => absurd rfl z)
      refine en_lconst (z := 0) h dL_law_851 rfl ?_
      refine en_lcmp h dL_law_852 ?_
      refine en_if_eq (tgt := 858) h dL_law_853 (by decide) (en_cmp_r _ _) (fun _ => ?_) (fun z => absurd ((en_cmp_eq _ _).mpr rfl) z)
      refine en_goto (tgt := 1205) h dL_law_858 (by decide) ?_
      exact en_weak5 (en_wide (k' := k + 64) (n' := n + 512) (by show k + 1 + 0 + 0 ≤ k + 64; omega) (by show n + 6 + 0 + 0 ≤ n + 512; omega) (kk _ hI2))
    · refine en_if_eq (tgt := 851) h dL_law_844 (by decide) (by decide) (fun z => absurd z (by decide)) (fun _ => ?_)
      refine en_lconst (z := 1) h dL_law_847 rfl ?_
      refine en_goto (tgt := 852) h dL_law_848 (by decide) ?_
      refine en_lcmp h dL_law_852 ?_
      refine en_if_eq (tgt := 858) h dL_law_853 (by decide) (en_cmp_r _ _) (fun _ => ?_) (fun z => absurd ((en_cmp_eq _ _).mpr rfl) z)
      refine en_goto (tgt := 1205) h dL_law_858 (by decide) ?_
      exact en_weak5 (en_wide (k' := k + 64) (n' := n + 512) (by show k + 1 + 0 + 0 ≤ k + 64; omega) (by show n + 6 + 0 + 0 ≤ n + 512; omega) (kk _ hI2))
set_option maxRecDepth 100000 in
set_option maxHeartbeats 4000000 in
theorem lc_angleNumerator {κ : en_C} {L : Nat} {xs : Nat → Int32} {m : en_M} {k n : Nat} {i : Int} (hW : en_Wok (en_w κ)) (hP : en_Has (en_w κ) 0 68) (h : en_Ok κ RL cL_law 8 wsL_law room_1) (hx9 : en_Xs κ) (hs : en_Sc κ L xs) (hI : INV m) (i0 : 1 ≤ i ∧ i + 5 ≤ (L : Int)) (hk : k + 64 ≤ 654842 ∧ n + 512 ≤ 7131545) (kk : ∀ M, INV M → en_G κ 1205 [some (en_R 99), some (en_R 49), some (en_R 51), some (en_R 50), some (en_I i), none, none, none] [] M (k + 64) (n + 512)) : en_G κ 861 [some (en_R 99), some (en_R 49), some (en_R 51), some (en_R 50), some (en_I i), none, none, none] [] m k n := by
  have hI9 : ∀ j, 0 ≤ j → j < 68 → en_in κ j := hP
  have hfl := en_Xs_l hx9
  refine en_aload_n (i := 1) h dL_law_861 rfl rfl ?_
  refine en_aload_n (i := 0) h dL_law_862 rfl rfl ?_
  refine en_iload (i := 4) h dL_law_863 rfl ?_
  refine en_iconst h dL_law_865 ?_
  refine en_iadd h dL_law_866 ?_
  refine en_sld h hs dL_law_867 (by omega) ?_
  refine en_aload_n (i := 3) h dL_law_868 rfl rfl ?_
  refine en_callSS h hx9 (k_L_angleNumerator hW hP hfl (k_X4_angleNumerator hW (fun j j0 j1 => hI9 j j0 (by omega)) hfl (inv_xc hI) (en_sx_r xs (i + 1)) (hbx_ang hI)) (fun r m1 hq => ⟨_, hq.1⟩) (fun E m1 hq => hq.2.2.elim (fun z => Or.inl z.1) (fun z => Or.inr z.1))) my_L_angleNumerator gL_law_L_angleNumerator rfl rfl ⟨by decide, by decide⟩ ⟨show k + 2 ≤ 654842 by omega, show n + 12 ≤ 7131545 by omega⟩ (Nat.le_of_ble_eq_true rfl) dL_law_869 (fun r M1 hp1 => ?_)
  obtain ⟨c, rfl, rc, hS⟩ := s_angleNumerator hp1
  obtain ⟨xl1, xm1⟩ := xo_g (fun j hj => hS.1.1 j (Or.inr hj)) hI
  refine en_istore (i := 5) h dL_law_872 (by decide) ?_
  refine en_aload_n (i := 2) h dL_law_874 rfl rfl ?_
  refine en_aload_n (i := 0) h dL_law_875 rfl rfl ?_
  refine en_iload (i := 4) h dL_law_876 rfl ?_
  refine en_iconst h dL_law_878 ?_
  refine en_iadd h dL_law_879 ?_
  refine en_sld h hs dL_law_880 (by omega) ?_
  refine en_callV h (k_X5_angleNumerator hW hP xl1 xm1 (en_sx_r xs (i + 1)) (hb_ang (cq_f hI hS.1).1)) my_X5_angleNumerator gL_law_X5_angleNumerator (hI9 _ (by decide) (by decide)) rfl rfl rfl rfl ⟨by decide, by decide⟩ ⟨show k + 2 + 0 ≤ 654842 by omega, show n + 12 + 0 ≤ 7131545 by omega⟩ (Nat.le_of_ble_eq_true rfl) dL_law_881 (fun r2 M2 hp2 => ?_)
  obtain ⟨v, rfl, f0, f50, hI2⟩ := t_angleNumerator hI hS hp2
  refine en_lstore (i := 6) h dL_law_884 (by decide) ?_
  refine en_aload_n (i := 2) h dL_law_886 rfl rfl ?_
  refine en_callV h (k_X5_thrown hW hP) my_X5_thrown gL_law_X5_thrown (hI9 _ (by decide) (by decide)) rfl rfl rfl rfl ⟨by decide, by decide⟩ ⟨show k + 2 + 0 + 0 ≤ 654842 by omega, show n + 12 + 0 + 0 ≤ 7131545 by omega⟩ (Nat.le_of_ble_eq_true rfl) dL_law_887 (fun r3 M3 hp3 => ?_)
  obtain ⟨rfl, e3⟩ := hp3
  subst e3
  rw [f0]
  refine en_iload (i := 5) h dL_law_890 rfl ?_
  refine en_icmp_eq (tgt := 897) h dL_law_892 (by decide) rc rc (fun _ => ?_) (fun z => absurd rfl z)
  refine en_iload (i := 5) h dL_law_897 rfl ?_
  refine en_if_ne (tgt := 913) h dL_law_899 (by decide) rc (fun c1 => ?_) (fun c1 => ?_)
  · refine en_goto (tgt := 1205) h dL_law_913 (by decide) ?_
    exact en_weak5 (en_wide (k' := k + 64) (n' := n + 512) (by show k + 2 + 0 + 0 ≤ k + 64; omega) (by show n + 12 + 0 + 0 ≤ n + 512; omega) (kk _ hI2))
  · refine en_aload_n (i := 3) h dL_law_902 rfl rfl ?_
    refine en_iconst h dL_law_903 ?_
    refine en_laload h dL_law_904 (hI9 _ (by decide) (by decide)) rfl (by decide) (f50 c1) ?_
    refine en_lload (i := 6) h dL_law_905 rfl ?_
    refine en_lcmp h dL_law_907 ?_
    refine en_if_eq (tgt := 913) h dL_law_908 (by decide) (en_cmp_r _ _) (fun _ => ?_) (fun z => absurd ((en_cmp_eq _ _).mpr rfl) z)
    refine en_goto (tgt := 1205) h dL_law_913 (by decide) ?_
    exact en_weak5 (en_wide (k' := k + 64) (n' := n + 512) (by show k + 2 + 0 + 0 ≤ k + 64; omega) (by show n + 12 + 0 + 0 ≤ n + 512; omega) (kk _ hI2))
