/-! LAW 99i: cases -/
set_option maxRecDepth 100000 in
set_option maxHeartbeats 4000000 in
theorem lc_angleDenominator {κ : en_C} {L : Nat} {xs : Nat → Int32} {m : en_M} {k n : Nat} {i : Int} (hW : en_Wok (en_w κ)) (hP : en_Has (en_w κ) 0 68) (h : en_Ok κ RL cL_law 8 wsL_law room_1) (hx9 : en_Xs κ) (hs : en_Sc κ L xs) (hI : INV m) (i0 : 1 ≤ i ∧ i + 5 ≤ (L : Int)) (hk : k + 64 ≤ 654842 ∧ n + 512 ≤ 7131545) (kk : ∀ M, INV M → en_G κ 1205 [some (en_R 99), some (en_R 49), some (en_R 51), some (en_R 50), some (en_I i), none, none, none] [] M (k + 64) (n + 512)) : en_G κ 916 [some (en_R 99), some (en_R 49), some (en_R 51), some (en_R 50), some (en_I i), none, none, none] [] m k n := by
  have hI9 : ∀ j, 0 ≤ j → j < 68 → en_in κ j := hP
  have hfl := en_Xs_l hx9
  refine en_aload_n (i := 1) h dL_law_916 rfl rfl ?_
  refine en_aload_n (i := 0) h dL_law_917 rfl rfl ?_
  refine en_iload (i := 4) h dL_law_918 rfl ?_
  refine en_iconst h dL_law_920 ?_
  refine en_iadd h dL_law_921 ?_
  refine en_sld h hs dL_law_922 (by omega) ?_
  refine en_aload_n (i := 3) h dL_law_923 rfl rfl ?_
  refine en_callSS h hx9 (k_L_angleDenominator hW hP hfl (k_X4_angleDenominator hW (fun j j0 j1 => hI9 j j0 (by omega)) hfl (inv_xc hI) (en_sx_r xs (i + 1)) (hbx_ang hI)) (fun r m1 hq => ⟨_, hq.1⟩) (fun E m1 hq => hq.2.2.elim (fun z => Or.inl z.1) (fun z => Or.inr z.1))) my_L_angleDenominator gL_law_L_angleDenominator rfl rfl ⟨by decide, by decide⟩ ⟨show k + 2 ≤ 654842 by omega, show n + 12 ≤ 7131545 by omega⟩ (Nat.le_of_ble_eq_true rfl) dL_law_924 (fun r M1 hp1 => ?_)
  obtain ⟨c, rfl, rc, hS⟩ := s_angleDenominator hp1
  obtain ⟨xl1, xm1⟩ := xo_g (fun j hj => hS.1.1 j (Or.inr hj)) hI
  refine en_istore (i := 5) h dL_law_927 (by decide) ?_
  refine en_aload_n (i := 2) h dL_law_929 rfl rfl ?_
  refine en_aload_n (i := 0) h dL_law_930 rfl rfl ?_
  refine en_iload (i := 4) h dL_law_931 rfl ?_
  refine en_iconst h dL_law_933 ?_
  refine en_iadd h dL_law_934 ?_
  refine en_sld h hs dL_law_935 (by omega) ?_
  refine en_callV h (k_X5_angleDenominator hW hP xl1 xm1 (en_sx_r xs (i + 1)) (hb_ang (cq_f hI hS.1).1)) my_X5_angleDenominator gL_law_X5_angleDenominator (hI9 _ (by decide) (by decide)) rfl rfl rfl rfl ⟨by decide, by decide⟩ ⟨show k + 2 + 0 ≤ 654842 by omega, show n + 12 + 0 ≤ 7131545 by omega⟩ (Nat.le_of_ble_eq_true rfl) dL_law_936 (fun r2 M2 hp2 => ?_)
  obtain ⟨v, rfl, f0, f50, hI2⟩ := t_angleDenominator hI hS hp2
  refine en_lstore (i := 6) h dL_law_939 (by decide) ?_
  refine en_aload_n (i := 2) h dL_law_941 rfl rfl ?_
  refine en_callV h (k_X5_thrown hW hP) my_X5_thrown gL_law_X5_thrown (hI9 _ (by decide) (by decide)) rfl rfl rfl rfl ⟨by decide, by decide⟩ ⟨show k + 2 + 0 + 0 ≤ 654842 by omega, show n + 12 + 0 + 0 ≤ 7131545 by omega⟩ (Nat.le_of_ble_eq_true rfl) dL_law_942 (fun r3 M3 hp3 => ?_)
  obtain ⟨rfl, e3⟩ := hp3
  subst e3
  rw [f0]
  refine en_iload (i := 5) h dL_law_945 rfl ?_
  refine en_icmp_eq (tgt := 952) h dL_law_947 (by decide) rc rc (fun _ => ?_) (fun z => absurd rfl z)
  refine en_iload (i := 5) h dL_law_952 rfl ?_
  refine en_if_ne (tgt := 968) h dL_law_954 (by decide) rc (fun c1 => ?_) (fun c1 => ?_)
  · refine en_goto (tgt := 1205) h dL_law_968 (by decide) ?_
    exact en_weak5 (en_wide (k' := k + 64) (n' := n + 512) (by show k + 2 + 0 + 0 ≤ k + 64; omega) (by show n + 12 + 0 + 0 ≤ n + 512; omega) (kk _ hI2))
  · refine en_aload_n (i := 3) h dL_law_957 rfl rfl ?_
    refine en_iconst h dL_law_958 ?_
    refine en_laload h dL_law_959 (hI9 _ (by decide) (by decide)) rfl (by decide) (f50 c1) ?_
    refine en_lload (i := 6) h dL_law_960 rfl ?_
    refine en_lcmp h dL_law_962 ?_
    refine en_if_eq (tgt := 968) h dL_law_963 (by decide) (en_cmp_r _ _) (fun _ => ?_) (fun z => absurd ((en_cmp_eq _ _).mpr rfl) z)
    refine en_goto (tgt := 1205) h dL_law_968 (by decide) ?_
    exact en_weak5 (en_wide (k' := k + 64) (n' := n + 512) (by show k + 2 + 0 + 0 ≤ k + 64; omega) (by show n + 12 + 0 + 0 ≤ n + 512; omega) (kk _ hI2))
set_option maxRecDepth 100000 in
set_option maxHeartbeats 4000000 in
theorem lc_residualNumerator {κ : en_C} {L : Nat} {xs : Nat → Int32} {m : en_M} {k n : Nat} {i : Int} (hW : en_Wok (en_w κ)) (hP : en_Has (en_w κ) 0 68) (h : en_Ok κ RL cL_law 8 wsL_law room_1) (hx9 : en_Xs κ) (hs : en_Sc κ L xs) (hI : INV m) (i0 : 1 ≤ i ∧ i + 5 ≤ (L : Int)) (hk : k + 64 ≤ 654842 ∧ n + 512 ≤ 7131545) (kk : ∀ M, INV M → en_G κ 1205 [some (en_R 99), some (en_R 49), some (en_R 51), some (en_R 50), some (en_I i), none, none, none] [] M (k + 64) (n + 512)) : en_G κ 971 [some (en_R 99), some (en_R 49), some (en_R 51), some (en_R 50), some (en_I i), none, none, none] [] m k n := by
  have hI9 : ∀ j, 0 ≤ j → j < 68 → en_in κ j := hP
  have hfl := en_Xs_l hx9
  refine en_aload_n (i := 1) h dL_law_971 rfl rfl ?_
  refine en_aload_n (i := 0) h dL_law_972 rfl rfl ?_
  refine en_iload (i := 4) h dL_law_973 rfl ?_
  refine en_iconst h dL_law_975 ?_
  refine en_iadd h dL_law_976 ?_
  refine en_sld h hs dL_law_977 (by omega) ?_
  refine en_aload_n (i := 3) h dL_law_978 rfl rfl ?_
  refine en_callSS h hx9 (k_L_residualNumerator hW hP hfl (k_X4_residualNumerator hW (fun j j0 j1 => hI9 j j0 (by omega)) hfl (inv_xc hI) (en_sx_r xs (i + 1)) (hbx_res hI)) (fun r m1 hq => ⟨_, hq.1⟩) (fun E m1 hq => hq.2.2.elim (fun z => Or.inl z.1) (fun z => Or.inr z.1))) my_L_residualNumerator gL_law_L_residualNumerator rfl rfl ⟨by decide, by decide⟩ ⟨show k + 3 ≤ 654842 by omega, show n + 18 ≤ 7131545 by omega⟩ (Nat.le_of_ble_eq_true rfl) dL_law_979 (fun r M1 hp1 => ?_)
  obtain ⟨c, rfl, rc, hS⟩ := s_residualNumerator hp1
  obtain ⟨xl1, xm1⟩ := xo_g (fun j hj => hS.1.1 j (Or.inr hj)) hI
  refine en_istore (i := 5) h dL_law_982 (by decide) ?_
  refine en_aload_n (i := 2) h dL_law_984 rfl rfl ?_
  refine en_aload_n (i := 0) h dL_law_985 rfl rfl ?_
  refine en_iload (i := 4) h dL_law_986 rfl ?_
  refine en_iconst h dL_law_988 ?_
  refine en_iadd h dL_law_989 ?_
  refine en_sld h hs dL_law_990 (by omega) ?_
  refine en_callV h (k_X5_residualNumerator hW hP xl1 xm1 (en_sx_r xs (i + 1)) (hb_res (cq_f hI hS.1).1)) my_X5_residualNumerator gL_law_X5_residualNumerator (hI9 _ (by decide) (by decide)) rfl rfl rfl rfl ⟨by decide, by decide⟩ ⟨show k + 3 + 0 ≤ 654842 by omega, show n + 18 + 0 ≤ 7131545 by omega⟩ (Nat.le_of_ble_eq_true rfl) dL_law_991 (fun r2 M2 hp2 => ?_)
  obtain ⟨v, rfl, f0, f50, hI2⟩ := t_residualNumerator hI hS hp2
  refine en_lstore (i := 6) h dL_law_994 (by decide) ?_
  refine en_aload_n (i := 2) h dL_law_996 rfl rfl ?_
  refine en_callV h (k_X5_thrown hW hP) my_X5_thrown gL_law_X5_thrown (hI9 _ (by decide) (by decide)) rfl rfl rfl rfl ⟨by decide, by decide⟩ ⟨show k + 3 + 0 + 0 ≤ 654842 by omega, show n + 18 + 0 + 0 ≤ 7131545 by omega⟩ (Nat.le_of_ble_eq_true rfl) dL_law_997 (fun r3 M3 hp3 => ?_)
  obtain ⟨rfl, e3⟩ := hp3
  subst e3
  rw [f0]
  refine en_iload (i := 5) h dL_law_1000 rfl ?_
  refine en_icmp_eq (tgt := 1007) h dL_law_1002 (by decide) rc rc (fun _ => ?_) (fun z => absurd rfl z)
  refine en_iload (i := 5) h dL_law_1007 rfl ?_
  refine en_if_ne (tgt := 1023) h dL_law_1009 (by decide) rc (fun c1 => ?_) (fun c1 => ?_)
  · refine en_goto (tgt := 1205) h dL_law_1023 (by decide) ?_
    exact en_weak5 (en_wide (k' := k + 64) (n' := n + 512) (by show k + 3 + 0 + 0 ≤ k + 64; omega) (by show n + 18 + 0 + 0 ≤ n + 512; omega) (kk _ hI2))
  · refine en_aload_n (i := 3) h dL_law_1012 rfl rfl ?_
    refine en_iconst h dL_law_1013 ?_
    refine en_laload h dL_law_1014 (hI9 _ (by decide) (by decide)) rfl (by decide) (f50 c1) ?_
    refine en_lload (i := 6) h dL_law_1015 rfl ?_
    refine en_lcmp h dL_law_1017 ?_
    refine en_if_eq (tgt := 1023) h dL_law_1018 (by decide) (en_cmp_r _ _) (fun _ => ?_) (fun z => absurd ((en_cmp_eq _ _).mpr rfl) z)
    refine en_goto (tgt := 1205) h dL_law_1023 (by decide) ?_
    exact en_weak5 (en_wide (k' := k + 64) (n' := n + 512) (by show k + 3 + 0 + 0 ≤ k + 64; omega) (by show n + 18 + 0 + 0 ≤ n + 512; omega) (kk _ hI2))
set_option maxRecDepth 100000 in
set_option maxHeartbeats 4000000 in
theorem lc_residualDenominator {κ : en_C} {L : Nat} {xs : Nat → Int32} {m : en_M} {k n : Nat} {i : Int} (hW : en_Wok (en_w κ)) (hP : en_Has (en_w κ) 0 68) (h : en_Ok κ RL cL_law 8 wsL_law room_1) (hx9 : en_Xs κ) (hs : en_Sc κ L xs) (hI : INV m) (i0 : 1 ≤ i ∧ i + 5 ≤ (L : Int)) (hk : k + 64 ≤ 654842 ∧ n + 512 ≤ 7131545) (kk : ∀ M, INV M → en_G κ 1205 [some (en_R 99), some (en_R 49), some (en_R 51), some (en_R 50), some (en_I i), none, none, none] [] M (k + 64) (n + 512)) : en_G κ 1026 [some (en_R 99), some (en_R 49), some (en_R 51), some (en_R 50), some (en_I i), none, none, none] [] m k n := by
  have hI9 : ∀ j, 0 ≤ j → j < 68 → en_in κ j := hP
  have hfl := en_Xs_l hx9
  refine en_aload_n (i := 1) h dL_law_1026 rfl rfl ?_
  refine en_aload_n (i := 0) h dL_law_1027 rfl rfl ?_
  refine en_iload (i := 4) h dL_law_1028 rfl ?_
  refine en_iconst h dL_law_1030 ?_
  refine en_iadd h dL_law_1031 ?_
  refine en_sld h hs dL_law_1032 (by omega) ?_
  refine en_aload_n (i := 3) h dL_law_1033 rfl rfl ?_
  refine en_callSS h hx9 (k_L_residualDenominator hW hP hfl (k_X4_residualDenominator hW (fun j j0 j1 => hI9 j j0 (by omega)) hfl (inv_xc hI) (en_sx_r xs (i + 1)) (hbx_res hI)) (fun r m1 hq => ⟨_, hq.1⟩) (fun E m1 hq => hq.2.2.elim (fun z => Or.inl z.1) (fun z => Or.inr z.1))) my_L_residualDenominator gL_law_L_residualDenominator rfl rfl ⟨by decide, by decide⟩ ⟨show k + 3 ≤ 654842 by omega, show n + 18 ≤ 7131545 by omega⟩ (Nat.le_of_ble_eq_true rfl) dL_law_1034 (fun r M1 hp1 => ?_)
  obtain ⟨c, rfl, rc, hS⟩ := s_residualDenominator hp1
  obtain ⟨xl1, xm1⟩ := xo_g (fun j hj => hS.1.1 j (Or.inr hj)) hI
  refine en_istore (i := 5) h dL_law_1037 (by decide) ?_
  refine en_aload_n (i := 2) h dL_law_1039 rfl rfl ?_
  refine en_aload_n (i := 0) h dL_law_1040 rfl rfl ?_
  refine en_iload (i := 4) h dL_law_1041 rfl ?_
  refine en_iconst h dL_law_1043 ?_
  refine en_iadd h dL_law_1044 ?_
  refine en_sld h hs dL_law_1045 (by omega) ?_
  refine en_callV h (k_X5_residualDenominator hW hP xl1 xm1 (en_sx_r xs (i + 1)) (hb_res (cq_f hI hS.1).1)) my_X5_residualDenominator gL_law_X5_residualDenominator (hI9 _ (by decide) (by decide)) rfl rfl rfl rfl ⟨by decide, by decide⟩ ⟨show k + 3 + 0 ≤ 654842 by omega, show n + 18 + 0 ≤ 7131545 by omega⟩ (Nat.le_of_ble_eq_true rfl) dL_law_1046 (fun r2 M2 hp2 => ?_)
  obtain ⟨v, rfl, f0, f50, hI2⟩ := t_residualDenominator hI hS hp2
  refine en_lstore (i := 6) h dL_law_1049 (by decide) ?_
  refine en_aload_n (i := 2) h dL_law_1051 rfl rfl ?_
  refine en_callV h (k_X5_thrown hW hP) my_X5_thrown gL_law_X5_thrown (hI9 _ (by decide) (by decide)) rfl rfl rfl rfl ⟨by decide, by decide⟩ ⟨show k + 3 + 0 + 0 ≤ 654842 by omega, show n + 18 + 0 + 0 ≤ 7131545 by omega⟩ (Nat.le_of_ble_eq_true rfl) dL_law_1052 (fun r3 M3 hp3 => ?_)
  obtain ⟨rfl, e3⟩ := hp3
  subst e3
  rw [f0]
  refine en_iload (i := 5) h dL_law_1055 rfl ?_
  refine en_icmp_eq (tgt := 1062) h dL_law_1057 (by decide) rc rc (fun _ => ?_) (fun z => absurd rfl z)
  refine en_iload (i := 5) h dL_law_1062 rfl ?_
  refine en_if_ne (tgt := 1078) h dL_law_1064 (by decide) rc (fun c1 => ?_) (fun c1 => ?_)
  · refine en_goto (tgt := 1205) h dL_law_1078 (by decide) ?_
    exact en_weak5 (en_wide (k' := k + 64) (n' := n + 512) (by show k + 3 + 0 + 0 ≤ k + 64; omega) (by show n + 18 + 0 + 0 ≤ n + 512; omega) (kk _ hI2))
  · refine en_aload_n (i := 3) h dL_law_1067 rfl rfl ?_
    refine en_iconst h dL_law_1068 ?_
    refine en_laload h dL_law_1069 (hI9 _ (by decide) (by decide)) rfl (by decide) (f50 c1) ?_
    refine en_lload (i := 6) h dL_law_1070 rfl ?_
    refine en_lcmp h dL_law_1072 ?_
    refine en_if_eq (tgt := 1078) h dL_law_1073 (by decide) (en_cmp_r _ _) (fun _ => ?_) (fun z => absurd ((en_cmp_eq _ _).mpr rfl) z)
    refine en_goto (tgt := 1205) h dL_law_1078 (by decide) ?_
    exact en_weak5 (en_wide (k' := k + 64) (n' := n + 512) (by show k + 3 + 0 + 0 ≤ k + 64; omega) (by show n + 18 + 0 + 0 ≤ n + 512; omega) (kk _ hI2))
set_option maxRecDepth 100000 in
set_option maxHeartbeats 4000000 in
theorem lc_worst {κ : en_C} {L : Nat} {xs : Nat → Int32} {m : en_M} {k n : Nat} {i : Int} (hW : en_Wok (en_w κ)) (hP : en_Has (en_w κ) 0 68) (h : en_Ok κ RL cL_law 8 wsL_law room_1) (hx9 : en_Xs κ) (hs : en_Sc κ L xs) (hI : INV m) (i0 : 1 ≤ i ∧ i + 5 ≤ (L : Int)) (hk : k + 64 ≤ 654842 ∧ n + 512 ≤ 7131545) (kk : ∀ M, INV M → en_G κ 1205 [some (en_R 99), some (en_R 49), some (en_R 51), some (en_R 50), some (en_I i), none, none, none] [] M (k + 64) (n + 512)) : en_G κ 1081 [some (en_R 99), some (en_R 49), some (en_R 51), some (en_R 50), some (en_I i), none, none, none] [] m k n := by
  have hI9 : ∀ j, 0 ≤ j → j < 68 → en_in κ j := hP
  have hfl := en_Xs_l hx9
  refine en_aload_n (i := 1) h dL_law_1081 rfl rfl ?_
  refine en_aload_n (i := 0) h dL_law_1082 rfl rfl ?_
  refine en_iload (i := 4) h dL_law_1083 rfl ?_
  refine en_iconst h dL_law_1085 ?_
  refine en_iadd h dL_law_1086 ?_
  refine en_sld h hs dL_law_1087 (by omega) ?_
  refine en_aload_n (i := 3) h dL_law_1088 rfl rfl ?_
  refine en_callSS h hx9 (k_L_worst hW hP hfl (k_X4_worst hW (fun j j0 j1 => hI9 j j0 (by omega)) hfl (inv_xc hI) (en_sx_r xs (i + 1))) (fun r m1 hq => ⟨_, hq.1, by have z := xe_wm_rng (inv_xc hI).2.2.1 (m 5 (en_sx xs (i + 1))); have z2 := inv_n hI; constructor <;> omega⟩) (fun E m1 hq => hq.2.2.elim (fun z => Or.inl z.1) (fun z => Or.inr z.1))) my_L_worst gL_law_L_worst rfl rfl ⟨by decide, by decide⟩ ⟨show k + 2 ≤ 654842 by omega, show n + 12 ≤ 7131545 by omega⟩ (Nat.le_of_ble_eq_true rfl) dL_law_1089 (fun r M1 hp1 => ?_)
  obtain ⟨c, rfl, rc, hS⟩ := s_worst hp1
  obtain ⟨xl1, xm1⟩ := xo_g (fun j hj => hS.1.1 j (Or.inr hj)) hI
  refine en_istore (i := 5) h dL_law_1092 (by decide) ?_
  refine en_aload_n (i := 2) h dL_law_1094 rfl rfl ?_
  refine en_aload_n (i := 0) h dL_law_1095 rfl rfl ?_
  refine en_iload (i := 4) h dL_law_1096 rfl ?_
  refine en_iconst h dL_law_1098 ?_
  refine en_iadd h dL_law_1099 ?_
  refine en_sld h hs dL_law_1100 (by omega) ?_
  refine en_callV h (k_X5_worst hW hP xl1 xm1 (en_sx_r xs (i + 1))) my_X5_worst gL_law_X5_worst (hI9 _ (by decide) (by decide)) rfl rfl rfl rfl ⟨by decide, by decide⟩ ⟨show k + 2 + 0 ≤ 654842 by omega, show n + 12 + 0 ≤ 7131545 by omega⟩ (Nat.le_of_ble_eq_true rfl) dL_law_1101 (fun r2 M2 hp2 => ?_)
  obtain ⟨v, rfl, rv, f0, f50, hI2⟩ := t_worst hI hS hp2
  refine en_istore (i := 6) h dL_law_1104 (by decide) ?_
  refine en_aload_n (i := 2) h dL_law_1106 rfl rfl ?_
  refine en_callV h (k_X5_thrown hW hP) my_X5_thrown gL_law_X5_thrown (hI9 _ (by decide) (by decide)) rfl rfl rfl rfl ⟨by decide, by decide⟩ ⟨show k + 2 + 0 + 0 ≤ 654842 by omega, show n + 12 + 0 + 0 ≤ 7131545 by omega⟩ (Nat.le_of_ble_eq_true rfl) dL_law_1107 (fun r3 M3 hp3 => ?_)
  obtain ⟨rfl, e3⟩ := hp3
  subst e3
  rw [f0]
  refine en_iload (i := 5) h dL_law_1110 rfl ?_
  refine en_icmp_eq (tgt := 1117) h dL_law_1112 (by decide) rc rc (fun _ => ?_) (fun z => absurd rfl z)
  refine en_iload (i := 5) h dL_law_1117 rfl ?_
  refine en_if_ne (tgt := 1134) h dL_law_1119 (by decide) rc (fun c1 => ?_) (fun c1 => ?_)
  · refine en_goto (tgt := 1205) h dL_law_1134 (by decide) ?_
    exact en_weak5 (en_wide (k' := k + 64) (n' := n + 512) (by show k + 2 + 0 + 0 ≤ k + 64; omega) (by show n + 12 + 0 + 0 ≤ n + 512; omega) (kk _ hI2))
  · refine en_aload_n (i := 3) h dL_law_1122 rfl rfl ?_
    refine en_iconst h dL_law_1123 ?_
    refine en_laload h dL_law_1124 (hI9 _ (by decide) (by decide)) rfl (by decide) (f50 c1) ?_
    refine en_iload (i := 6) h dL_law_1125 rfl ?_
    refine en_i2l h dL_law_1127 rv ?_
    refine en_lcmp h dL_law_1128 ?_
    refine en_if_eq (tgt := 1134) h dL_law_1129 (by decide) (en_cmp_r _ _) (fun _ => ?_) (fun z => absurd ((en_cmp_eq _ _).mpr rfl) z)
    refine en_goto (tgt := 1205) h dL_law_1134 (by decide) ?_
    exact en_weak5 (en_wide (k' := k + 64) (n' := n + 512) (by show k + 2 + 0 + 0 ≤ k + 64; omega) (by show n + 12 + 0 + 0 ≤ n + 512; omega) (kk _ hI2))
set_option maxRecDepth 100000 in
set_option maxHeartbeats 4000000 in
theorem lc_clean {κ : en_C} {L : Nat} {xs : Nat → Int32} {m : en_M} {k n : Nat} {i : Int} (hW : en_Wok (en_w κ)) (hP : en_Has (en_w κ) 0 68) (h : en_Ok κ RL cL_law 8 wsL_law room_1) (hx9 : en_Xs κ) (hs : en_Sc κ L xs) (hI : INV m) (i0 : 1 ≤ i ∧ i + 5 ≤ (L : Int)) (hk : k + 64 ≤ 654842 ∧ n + 512 ≤ 7131545) (kk : ∀ M, INV M → en_G κ 1205 [some (en_R 99), some (en_R 49), some (en_R 51), some (en_R 50), some (en_I i), none, none, none] [] M (k + 64) (n + 512)) : en_G κ 1137 [some (en_R 99), some (en_R 49), some (en_R 51), some (en_R 50), some (en_I i), none, none, none] [] m k n := by
  have hI9 : ∀ j, 0 ≤ j → j < 68 → en_in κ j := hP
  have hfl := en_Xs_l hx9
  refine en_aload_n (i := 1) h dL_law_1137 rfl rfl ?_
  refine en_aload_n (i := 0) h dL_law_1138 rfl rfl ?_
  refine en_iload (i := 4) h dL_law_1139 rfl ?_
  refine en_iconst h dL_law_1141 ?_
  refine en_iadd h dL_law_1142 ?_
  refine en_sld h hs dL_law_1143 (by omega) ?_
  refine en_aload_n (i := 0) h dL_law_1144 rfl rfl ?_
  refine en_iload (i := 4) h dL_law_1145 rfl ?_
  refine en_iconst h dL_law_1147 ?_
  refine en_iadd h dL_law_1148 ?_
  refine en_sld h hs dL_law_1149 (by omega) ?_
  refine en_aload_n (i := 3) h dL_law_1150 rfl rfl ?_
  refine en_callSS h hx9 (k_L_clean hW hP hfl (k_X4_clean hW (fun j j0 j1 => hI9 j j0 (by omega)) hfl (inv_xc hI) (en_sx_r xs (i + 1)) (en_sx_r xs (i + 2))) (fun r m1 hq => ⟨_, hq.1, by have z := xe_cl_rng (m 5 (en_sx xs (i + 1))) (en_sx xs (i + 2)) 10 m; constructor <;> omega⟩) (fun E m1 hq => hq.2.2.elim (fun z => Or.inl z.1) (fun z => z.elim (fun z => Or.inr (Or.inl z.1)) (fun z => Or.inr (Or.inr z.1))))) my_L_clean gL_law_L_clean rfl rfl ⟨by decide, by decide⟩ ⟨show k + 3 ≤ 654842 by omega, show n + 18 ≤ 7131545 by omega⟩ (Nat.le_of_ble_eq_true rfl) dL_law_1151 (fun r M1 hp1 => ?_)
  obtain ⟨c, rfl, rc, hS⟩ := s_clean hp1
  obtain ⟨xl1, xm1⟩ := xo_g (g_clean hS) hI
  refine en_istore (i := 5) h dL_law_1154 (by decide) ?_
  refine en_aload_n (i := 2) h dL_law_1156 rfl rfl ?_
  refine en_aload_n (i := 0) h dL_law_1157 rfl rfl ?_
  refine en_iload (i := 4) h dL_law_1158 rfl ?_
  refine en_iconst h dL_law_1160 ?_
  refine en_iadd h dL_law_1161 ?_
  refine en_sld h hs dL_law_1162 (by omega) ?_
  refine en_aload_n (i := 0) h dL_law_1163 rfl rfl ?_
  refine en_iload (i := 4) h dL_law_1164 rfl ?_
  refine en_iconst h dL_law_1166 ?_
  refine en_iadd h dL_law_1167 ?_
  refine en_sld h hs dL_law_1168 (by omega) ?_
  refine en_callV h (k_X5_clean hW hP xl1 xm1 (en_sx_r xs (i + 1)) (en_sx_r xs (i + 2))) my_X5_clean gL_law_X5_clean (hI9 _ (by decide) (by decide)) rfl rfl rfl rfl ⟨by decide, by decide⟩ ⟨show k + 3 + 0 ≤ 654842 by omega, show n + 18 + 0 ≤ 7131545 by omega⟩ (Nat.le_of_ble_eq_true rfl) dL_law_1169 (fun r2 M2 hp2 => ?_)
  obtain ⟨v, rfl, rv, f0, f50, hI2⟩ := t_clean hI hS hp2
  refine en_istore (i := 6) h dL_law_1172 (by decide) ?_
  refine en_aload_n (i := 2) h dL_law_1174 rfl rfl ?_
  refine en_callV h (k_X5_thrown hW hP) my_X5_thrown gL_law_X5_thrown (hI9 _ (by decide) (by decide)) rfl rfl rfl rfl ⟨by decide, by decide⟩ ⟨show k + 3 + 0 + 0 ≤ 654842 by omega, show n + 18 + 0 + 0 ≤ 7131545 by omega⟩ (Nat.le_of_ble_eq_true rfl) dL_law_1175 (fun r3 M3 hp3 => ?_)
  obtain ⟨rfl, e3⟩ := hp3
  subst e3
  rw [f0]
  refine en_iload (i := 5) h dL_law_1178 rfl ?_
  refine en_icmp_eq (tgt := 1185) h dL_law_1180 (by decide) rc rc (fun _ => ?_) (fun z => absurd rfl z)
  refine en_iload (i := 5) h dL_law_1185 rfl ?_
  refine en_if_ne (tgt := 1202) h dL_law_1187 (by decide) rc (fun c1 => ?_) (fun c1 => ?_)
  · refine en_goto (tgt := 1205) h dL_law_1202 (by decide) ?_
    exact en_weak5 (en_wide (k' := k + 64) (n' := n + 512) (by show k + 3 + 0 + 0 ≤ k + 64; omega) (by show n + 18 + 0 + 0 ≤ n + 512; omega) (kk _ hI2))
  · refine en_aload_n (i := 3) h dL_law_1190 rfl rfl ?_
    refine en_iconst h dL_law_1191 ?_
    refine en_laload h dL_law_1192 (hI9 _ (by decide) (by decide)) rfl (by decide) (f50 c1) ?_
    refine en_iload (i := 6) h dL_law_1193 rfl ?_
    refine en_i2l h dL_law_1195 rv ?_
    refine en_lcmp h dL_law_1196 ?_
    refine en_if_eq (tgt := 1202) h dL_law_1197 (by decide) (en_cmp_r _ _) (fun _ => ?_) (fun z => absurd ((en_cmp_eq _ _).mpr rfl) z)
    refine en_goto (tgt := 1205) h dL_law_1202 (by decide) ?_
    exact en_weak5 (en_wide (k' := k + 64) (n' := n + 512) (by show k + 3 + 0 + 0 ≤ k + 64; omega) (by show n + 18 + 0 + 0 ≤ n + 512; omega) (kk _ hI2))
