/-! LAW: the loop -/
set_option maxRecDepth 100000 in
set_option maxHeartbeats 4000000 in
theorem law_body {κ : en_C} {L : Nat} {xs : Nat → Int32} {m : en_M} {k n : Nat} {i : Int} (hW : en_Wok (en_w κ)) (hP : en_Has (en_w κ) 0 68) (h : en_Ok κ RL cL_law 8 wsL_law room_1) (hx9 : en_Xs κ) (hs : en_Sc κ L xs) (hI : INV m) (i0 : 1 ≤ i ∧ i + 5 ≤ (L : Int)) (hk : k + 64 ≤ 654842 ∧ n + 512 ≤ 7131545) (kk : ∀ M, INV M → en_G κ 1205 [some (en_R 99), some (en_R 49), some (en_R 51), some (en_R 50), some (en_I i), none, none, none] [] M (k + 64) (n + 512)) : en_G κ 42 [some (en_R 99), some (en_R 49), some (en_R 51), some (en_R 50), some (en_I i), none, none, none] [] m k n := by
  refine en_aload_n (i := 0) h dL_law_42 rfl rfl ?_
  refine en_iload (i := 4) h dL_law_43 rfl ?_
  refine en_sld h hs dL_law_45 (by omega) ?_
  refine en_bipush h dL_law_46 (by decide) ?_
  refine en_iand h dL_law_48 (Int32.ofInt (en_sx xs i) &&& Int32.ofInt 31).toInt (Int32.ofInt_toInt _).symm ?_
  have rz : en_i32 (Int32.ofInt (en_sx xs i) &&& Int32.ofInt 31).toInt := by
    have h1 := Int32.le_toInt (Int32.ofInt (en_sx xs i) &&& Int32.ofInt 31)
    have h2 := Int32.toInt_lt (Int32.ofInt (en_sx xs i) &&& Int32.ofInt 31)
    constructor <;> omega
  generalize (Int32.ofInt (en_sx xs i) &&& Int32.ofInt 31).toInt = z at rz ⊢
  by_cases hz : 0 ≤ z ∧ z ≤ 16
  · have hc : z = 0 ∨ z = 1 ∨ z = 2 ∨ z = 3 ∨ z = 4 ∨ z = 5 ∨ z = 6 ∨ z = 7 ∨ z = 8 ∨ z = 9 ∨ z = 10 ∨ z = 11 ∨ z = 12 ∨ z = 13 ∨ z = 14 ∨ z = 15 ∨ z = 16 := by omega
    rcases hc with rfl | rfl | rfl | rfl | rfl | rfl | rfl | rfl | rfl | rfl | rfl | rfl | rfl | rfl | rfl | rfl | rfl
    · exact en_tin (tgt := 132) (off := 83) h dL_law_49 rz (by decide) rfl (by decide) (lc_addLine hW hP h hx9 hs hI i0 hk kk)
    · exact en_tin (tgt := 212) (off := 163) h dL_law_49 rz (by decide) rfl (by decide) (lc_setBreaker hW hP h hx9 hs hI i0 hk kk)
    · exact en_tin (tgt := 303) (off := 254) h dL_law_49 rz (by decide) rfl (by decide) (lc_islands hW hP h hx9 hs hI i0 hk kk)
    · exact en_tin (tgt := 316) (off := 267) h dL_law_49 rz (by decide) rfl (by decide) (lc_reference hW hP h hx9 hs hI i0 hk kk)
    · exact en_tin (tgt := 372) (off := 323) h dL_law_49 rz (by decide) rfl (by decide) (lc_addMeter hW hP h hx9 hs hI i0 hk kk)
    · exact en_tin (tgt := 464) (off := 415) h dL_law_49 rz (by decide) rfl (by decide) (lc_read hW hP h hx9 hs hI i0 hk kk)
    · exact en_tin (tgt := 532) (off := 483) h dL_law_49 rz (by decide) rfl (by decide) (lc_use hW hP h hx9 hs hI i0 hk kk)
    · exact en_tin (tgt := 623) (off := 574) h dL_law_49 rz (by decide) rfl (by decide) (lc_countsIn hW hP h hx9 hs hI i0 hk kk)
    · exact en_tin (tgt := 679) (off := 630) h dL_law_49 rz (by decide) rfl (by decide) (lc_rank hW hP h hx9 hs hI i0 hk kk)
    · exact en_tin (tgt := 735) (off := 686) h dL_law_49 rz (by decide) rfl (by decide) (lc_isObservable hW hP h hx9 hs hI i0 hk kk)
    · exact en_tin (tgt := 798) (off := 749) h dL_law_49 rz (by decide) rfl (by decide) (lc_isCritical hW hP h hx9 hs hI i0 hk kk)
    · exact en_tin (tgt := 861) (off := 812) h dL_law_49 rz (by decide) rfl (by decide) (lc_angleNumerator hW hP h hx9 hs hI i0 hk kk)
    · exact en_tin (tgt := 916) (off := 867) h dL_law_49 rz (by decide) rfl (by decide) (lc_angleDenominator hW hP h hx9 hs hI i0 hk kk)
    · exact en_tin (tgt := 971) (off := 922) h dL_law_49 rz (by decide) rfl (by decide) (lc_residualNumerator hW hP h hx9 hs hI i0 hk kk)
    · exact en_tin (tgt := 1026) (off := 977) h dL_law_49 rz (by decide) rfl (by decide) (lc_residualDenominator hW hP h hx9 hs hI i0 hk kk)
    · exact en_tin (tgt := 1081) (off := 1032) h dL_law_49 rz (by decide) rfl (by decide) (lc_worst hW hP h hx9 hs hI i0 hk kk)
    · exact en_tin (tgt := 1137) (off := 1088) h dL_law_49 rz (by decide) rfl (by decide) (lc_clean hW hP h hx9 hs hI i0 hk kk)
  · refine en_tout (tgt := 1205) h dL_law_49 rz (by omega) (by decide) ?_
    exact en_wide (k' := k + 64) (n' := n + 512) (by omega) (by omega) (kk _ hI)
set_option maxRecDepth 100000 in
set_option maxHeartbeats 4000000 in
theorem law_loop {κ : en_C} {L : Nat} {xs : Nat → Int32} (hW : en_Wok (en_w κ)) (hP : en_Has (en_w κ) 0 68) (h : en_Ok κ RL cL_law 8 wsL_law room_1) (hx9 : en_Xs κ) (hs : en_Sc κ L xs) (K : ∀ (M : en_M) (i : Int) (k n : Nat), k ≤ 654842 → n ≤ 7131545 → en_G κ 1211 [some (en_R 99), some (en_R 49), some (en_R 51), some (en_R 50), some (en_I i), none, none, none] [] M k n) : ∀ (f : Nat) (i : Int) (m : en_M) (k n : Nat), INV m → 1 ≤ i → (L : Int) < i + 5 + 5 * (f : Int) → i ≤ 3000 → k + 64 * f ≤ 654842 → n + 512 * f ≤ 7131545 → en_G κ 33 [some (en_R 99), some (en_R 49), some (en_R 51), some (en_R 50), some (en_I i), none, none, none] [] m k n := by
  have hL : L ≤ 2561 := by
    obtain ⟨p, l, e, R, s, mid, args, below, meth, c, Q, D, cy, ad, PL, A⟩ := κ
    exact hs.2.2.2
  have rL : en_i32 ((L : Int) - 5) := by constructor <;> omega
  intro f
  induction f with
  | zero =>
    intro i m k n hI i1 hf i3 hk hn
    have ri : en_i32 i := by constructor <;> omega
    refine en_iload (i := 4) h dL_law_33 rfl ?_
    refine en_aload_n (i := 0) h dL_law_35 rfl rfl ?_
    refine en_slen h hs dL_law_36 ?_
    refine en_iconst h dL_law_37 ?_
    refine en_isub h dL_law_38 ?_
    refine en_icmp_gt (tgt := 1211) h dL_law_39 (by decide) ri rL (fun _ => ?_) (fun z => absurd z (by omega))
    exact K m i k n (by omega) (by omega)
  | succ f ih =>
    intro i m k n hI i1 hf i3 hk hn
    have ri : en_i32 i := by constructor <;> omega
    refine en_iload (i := 4) h dL_law_33 rfl ?_
    refine en_aload_n (i := 0) h dL_law_35 rfl rfl ?_
    refine en_slen h hs dL_law_36 ?_
    refine en_iconst h dL_law_37 ?_
    refine en_isub h dL_law_38 ?_
    refine en_icmp_gt (tgt := 1211) h dL_law_39 (by decide) ri rL (fun _ => ?_) (fun c1 => ?_)
    · exact K m i k n (by omega) (by omega)
    · refine law_body hW hP h hx9 hs hI ⟨i1, by omega⟩ ⟨by omega, by omega⟩ (fun M hM => ?_)
      refine en_iinc h dL_law_1205 rfl (by decide) ?_
      refine en_goto (tgt := 33) h dL_law_1208 (by decide) ?_
      exact ih (i + 5) M (k + 64) (n + 512) hM (by omega) (by omega) (by omega) (by omega) (by omega)
