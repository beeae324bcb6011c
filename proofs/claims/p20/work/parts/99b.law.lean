/-! LAW 14: the law's own numbers kept beside the grids -/
abbrev lls (s th k x y d : Int) : List (Option en_V) := [some (en_R 99), some (en_I s), some (en_R 200), some (en_R 201), some (en_R 202), some (en_R 203), some (en_R 49), some (en_R 149), some (en_I th), some (en_I 1), some (en_I k), some (en_I x), some (en_I y), some (en_I d)]
theorem rg_cl (q lim : Int) : ∀ (n : Nat) (m : en_M), 0 ≤ (xe_cl q lim n m).1 ∧ (xe_cl q lim n m).1 ≤ n
  | 0, m => by simp [xe_cl]
  | n + 1, m => by
    have ih := rg_cl q lim n (xe_st m q lim)
    simp only [xe_cl]
    by_cases c : xe_dr m q lim
    · rw [if_pos c]
      dsimp only
      omega
    · rw [if_neg c]
      dsimp only
      omega
theorem rg_lines {m : en_M} (hI : INV m) (f s g : Int) : en_i32 (w_lines m f s g) := by
  have n := inv_n hI
  unfold w_lines
  by_cases c1 : pB m f ∧ pB m s
  · rw [if_pos c1]
    by_cases c2 : f ≠ s ∧ (1 ≤ g ∧ g ≤ 2)
    · rw [if_pos c2]
      split <;> constructor <;> omega
    · rw [if_neg c2]
      decide
  · rw [if_neg c1]
    decide
theorem rg_adds {m : en_M} (hI : INV m) (k p z a : Int) : en_i32 (w_adds m k p z a) := by
  have n := inv_n hI
  unfold w_adds
  by_cases c1 : (k = 0 ∨ k = 1) ∧ (-50 ≤ z ∧ z ≤ 50) ∧ (1 ≤ a ∧ a ≤ 2)
  · rw [if_pos c1]
    by_cases c2 : 0 ≤ p ∧ p < (if k = 0 then m 0 1 else m 0 0)
    · rw [if_pos c2]
      split <;> constructor <;> omega
    · rw [if_neg c2]
      decide
  · rw [if_neg c1]
    decide
theorem rg_ac {m : en_M} (hI : INV m) (x : Int) : en_i32 (ac_w m 0 x) := by
  have n := inv_n hI
  unfold ac_w
  by_cases c1 : x % 16 < 4
  · rw [if_pos c1]
    exact rg_lines hI _ _ _
  · rw [if_neg c1]
    by_cases c2 : x % 16 < 6
    · rw [if_pos c2]
      unfold w_breaks
      by_cases z : pL m (al m x)
      · have y := (inv_ln hI _ z.1 z.2).2.2.1
        rw [if_pos z]
        constructor <;> omega
      · rw [if_neg z]
        decide
    · rw [if_neg c2]
      by_cases c3 : x % 16 < 9
      · rw [if_pos c3]
        exact rg_adds hI _ _ _ _
      · rw [if_neg c3]
        by_cases c4 : x % 16 < 11
        · rw [if_pos c4]
          exact rg_adds hI _ _ _ _
        · rw [if_neg c4]
          by_cases c5 : x % 16 < 13
          · rw [if_pos c5]
            have s1 : asg m 0 x = 1 := by
              unfold asg
              rw [if_neg (fun z => z.1 rfl)]
            have r := rg_reads hI (am m x) (asg m 0 x * ar x)
            rw [s1] at r ⊢
            rw [Int.one_mul] at r ⊢
            rw [Int.one_mul]
            split <;> constructor <;> omega
          · rw [if_neg c5]
            by_cases c6 : x % 16 < 15
            · rw [if_pos c6]
              unfold w_uses
              by_cases z : pM m (am m x)
              · have y := (inv_mt hI _ z.1 z.2).2.1
                rw [if_pos z]
                constructor <;> omega
              · rw [if_neg z]
                decide
            · rw [if_neg c6]
              unfold w_cleans
              have r := rg_cl (m 5 (a1 m x)) (aq x) 10 m
              by_cases z1 : pB m (a1 m x)
              · rw [if_pos z1]
                by_cases z2 : 0 ≤ aq x ∧ aq x ≤ 200
                · rw [if_pos z2]
                  split <;> constructor <;> omega
                · rw [if_neg z2]
                  decide
              · rw [if_neg z1]
                decide
theorem s22 {M : en_M} {i v j k' k : Int} (h : k' ≠ k) : en_set M k i v k' j = M k' j := by rw [en_set_ne h]
theorem lw_upd {κ : en_C} {m M : en_M} {s th k x d : Int} {c : Nat} (hP : HasL (en_w κ)) (h : en_Ok κ RL cL_law 14 wsL_law room_1) (hI9 : INV m) (hA : AR m) (hx : 0 ≤ x ∧ x < 2147483648) (hlo : ∀ k, 0 ≤ k → k < 28 → M k = ac_t m 0 x k) (hhi : ∀ k, 200 ≤ k → M k = m k) (hd : d = ac_w m 0 x) (K : ∀ M4, (∀ k, k < 200 → M4 k = M k) → AR M4 → en_G κ 435 (lls s th k x (ay x) d) [] M4 c (6 * c)) : en_G κ 199 (lls s th k x (ay x) d) [] M c (6 * c) := by
  have hI : ∀ k, 200 ≤ k → k < 204 → en_in κ k := hP.2.2.1
  have n9 := inv_n hI9
  obtain ⟨ry, r1, r2, rr, rl, rm, rq⟩ := ac_rng hI9 hx
  have rd := rg_ac hI9 x
  rw [← hd] at rd
  obtain ⟨hN, hK, hPP, hQQ⟩ := id hA
  have e0 : M 200 0 = m 0 0 := by rw [hhi 200 (by decide)]; exact hN.1
  have e1 : M 200 1 = m 0 1 := by rw [hhi 200 (by decide)]; exact hN.2.1
  have e2 : M 200 2 = m 21 1 := by rw [hhi 200 (by decide)]; exact hN.2.2
  have b1 : m 0 1 ≠ 0 → 0 ≤ ay x % m 0 1 ∧ ay x % m 0 1 < m 0 1 := fun z => ⟨Int.emod_nonneg _ z, Int.emod_lt_of_pos _ (by omega)⟩
  have same : (∀ k, 0 ≤ k → k < 28 → k ≠ 24 → k ≠ 26 → ac_t m 0 x k = m k) → AR M := by
    intro z
    exact AR_same hA ((hlo 0 (by decide) (by decide)).trans (z 0 (by decide) (by decide) (by decide) (by decide))) ((hlo 1 (by decide) (by decide)).trans (z 1 (by decide) (by decide) (by decide) (by decide))) ((hlo 2 (by decide) (by decide)).trans (z 2 (by decide) (by decide) (by decide) (by decide))) ((hlo 3 (by decide) (by decide)).trans (z 3 (by decide) (by decide) (by decide) (by decide))) ((hlo 4 (by decide) (by decide)).trans (z 4 (by decide) (by decide) (by decide) (by decide))) ((hlo 21 (by decide) (by decide)).trans (z 21 (by decide) (by decide) (by decide) (by decide))) ((hlo 22 (by decide) (by decide)).trans (z 22 (by decide) (by decide) (by decide) (by decide))) ((hlo 23 (by decide) (by decide)).trans (z 23 (by decide) (by decide) (by decide) (by decide))) ((hlo 25 (by decide) (by decide)).trans (z 25 (by decide) (by decide) (by decide) (by decide))) (hhi 200 (by decide)) (hhi 201 (by decide)) (hhi 202 (by decide)) (hhi 203 (by decide))
  -- refused: nothing has changed
  have refd : x % 16 < 11 → d < 0 → ac_t m 0 x = m := by
    intro c1 c2
    rw [hd] at c2
    unfold ac_w at c2
    unfold ac_t
    by_cases c3 : x % 16 < 4
    · rw [if_pos c3, if_pos rfl, if_pos rfl] at c2
      rw [if_pos c3, if_pos rfl, if_pos rfl]
      exact ref_lines hI9 c2
    · rw [if_neg c3] at c2 ⊢
      by_cases c4 : x % 16 < 6
      · rw [if_pos c4] at c2 ⊢
        exact ref_breaks hI9 c2
      · rw [if_neg c4] at c2 ⊢
        by_cases c5 : x % 16 < 9
        · rw [if_pos c5, if_pos rfl] at c2
          rw [if_pos c5, if_pos rfl]
          exact ref_adds hI9 c2
        · rw [if_neg c5, if_pos c1] at c2
          rw [if_neg c5, if_pos c1]
          exact ref_adds hI9 c2
  -- a meter comes
  have g346 : 6 ≤ x % 16 → x % 16 < 11 → 0 ≤ d → en_G κ 346 (lls s th k x (ay x) d) [] M c (6 * c) := by
    intro c1 c2 c3
    obtain ⟨kd, pl, hkd, hpl, hkp, htt, hn10⟩ : ∃ kd pl, kd = (if x % 16 < 9 then 0 else 1) ∧ pl = (if kd = 0 then ay x % m 0 1 else ay x % m 0 0) ∧ (kd = 0 → m 0 1 ≠ 0) ∧ ac_t m 0 x = xm_am m kd pl (ar x) (1 + ay x % 2) ∧ m 21 1 < 10 := by
      rw [hd] at c3
      unfold ac_w at c3
      unfold ac_t
      rw [if_neg (by omega), if_neg (by omega)] at c3
      rw [if_neg (show ¬ x % 16 < 4 by omega), if_neg (show ¬ x % 16 < 6 by omega)]
      by_cases c5 : x % 16 < 9
      · rw [if_pos c5, if_pos rfl] at c3
        have a := acc_adds c3
        have p1 : m 0 1 ≠ 0 := by
          have z := a.2.1
          rw [if_pos rfl] at z
          omega
        refine ⟨0, ay x % m 0 1, by rw [if_pos c5], by rw [if_pos rfl], fun _ => p1, ?_, a.2.2.1⟩
        rw [if_pos c5, if_pos rfl, a.2.2.2]
        unfold al
        rw [if_neg p1]
      · rw [if_neg c5, if_pos c2] at c3
        have a := acc_adds c3
        refine ⟨1, ay x % m 0 0, by rw [if_neg c5], by rw [if_neg (by decide)], fun z => absurd z (by decide), ?_, a.2.2.1⟩
        rw [if_neg c5, if_pos c2, a.2.2.2]
        rfl
    have kd01 : kd = 0 ∨ kd = 1 := by
      rw [hkd]
      split
      · exact Or.inl rfl
      · exact Or.inr rfl
    have T : ∀ k, 0 ≤ k → k < 28 → M k = xm_am m kd pl (ar x) (1 + ay x % 2) k := fun k k0 k1 => by rw [hlo k k0 k1, htt]
    have g411 : ∀ p, p = pl → en_G κ 411 (lls s th k x (ay x) d) [en_I p, en_I (4 * m 21 1 + 1), en_R 203] (en_set (en_set M 201 (m 21 1) kd) 203 (4 * m 21 1) kd) c (6 * c) := by
      intro p hp
      subst hp
      refine en_iastore h dL_law_411 (hI _ (by omega) (by omega)) rfl (by omega) ?_
      refine en_aload (i := 5) h dL_law_412 rfl ?_
      refine en_iconst h dL_law_414 ?_
      refine en_aload_n (i := 2) h dL_law_415 rfl rfl ?_
      refine en_iconst h dL_law_416 ?_
      refine en_iaload h dL_law_417 (hI _ (by omega) (by omega)) rfl (by omega) ((s22 (by decide)).trans ((s22 (by decide)).trans ((s22 (by decide)).trans e2))) ?_
      refine en_imul h dL_law_418 ?_
      refine en_iconst h dL_law_419 ?_
      refine en_iadd h dL_law_420 ?_
      refine en_iconst h dL_law_421 ?_
      refine en_iload (i := 12) h dL_law_422 rfl ?_
      refine en_iconst h dL_law_424 ?_
      refine en_iremP h dL_law_425 (by omega) (by omega) ?_
      refine en_iadd h dL_law_426 ?_
      refine en_iastore h dL_law_427 (hI _ (by omega) (by omega)) rfl (by omega) ?_
      refine en_aload_n (i := 2) h dL_law_428 rfl rfl ?_
      refine en_iconst h dL_law_429 ?_
      refine en_dup2 h dL_law_430 ?_
      refine en_iaload h dL_law_431 (hI _ (by omega) (by omega)) rfl (by omega) ((s22 (by decide)).trans ((s22 (by decide)).trans ((s22 (by decide)).trans ((s22 (by decide)).trans e2)))) ?_
      refine en_iconst h dL_law_432 ?_
      refine en_iadd h dL_law_433 ?_
      refine en_iastore h dL_law_434 (hI _ (by omega) (by omega)) rfl (by omega) ?_
      have q1 : ∀ k : Int, k ≠ 200 → k ≠ 201 → k ≠ 203 → en_set (en_set (en_set (en_set (en_set M 201 (m 21 1) kd) 203 (4 * m 21 1) kd) 203 (4 * m 21 1 + 1) p) 203 (4 * m 21 1 + 2) (1 + ay x % 2)) 200 2 (m 21 1 + 1) k = M k := fun k a b c => by rw [en_set_ne a, en_set_ne c, en_set_ne c, en_set_ne c, en_set_ne b]
      refine K _ (fun k hk => q1 k (by omega) (by omega) (by omega)) (AR_mt (m := m) (k := kd) (p := p) (a := 1 + ay x % 2) hA n9.2.2.1 ?_ ?_ ?_ ?_ ?_ ?_ ?_ ?_ ?_ ?_ ?_ ?_ ?_)
      · rw [q1 0 (by decide) (by decide) (by decide), T 0 (by decide) (by decide), xn_k (by decide)]
      · rw [q1 1 (by decide) (by decide) (by decide), T 1 (by decide) (by decide), xn_k (by decide)]
      · rw [q1 2 (by decide) (by decide) (by decide), T 2 (by decide) (by decide), xn_k (by decide)]
      · rw [q1 3 (by decide) (by decide) (by decide), T 3 (by decide) (by decide), xn_k (by decide)]
      · rw [q1 4 (by decide) (by decide) (by decide), T 4 (by decide) (by decide), xn_k (by decide)]
      · rw [q1 21 (by decide) (by decide) (by decide), T 21 (by decide) (by decide), xn_21]
      · rw [q1 22 (by decide) (by decide) (by decide), T 22 (by decide) (by decide), xn_22]
      · rw [q1 23 (by decide) (by decide) (by decide), T 23 (by decide) (by decide), xn_23]
      · rw [q1 25 (by decide) (by decide) (by decide), T 25 (by decide) (by decide), xn_25]
      · rw [en_set_f, en_set_ne (by decide), en_set_ne (by decide), en_set_ne (by decide), en_set_ne (by decide), hhi 200 (by decide)]
      · rw [en_set_ne (by decide), en_set_ne (by decide), en_set_ne (by decide), en_set_ne (by decide), en_set_f, hhi 201 (by decide)]
      · rw [en_set_ne (by decide), en_set_ne (by decide), en_set_ne (by decide), en_set_ne (by decide), en_set_ne (by decide), hhi 202 (by decide)]
      · rw [en_set_ne (by decide), en_set_f, en_set_f, en_set_f, en_set_ne (by decide), hhi 203 (by decide)]
    have g365 : ∀ v, v = kd → en_G κ 365 (lls s th k x (ay x) d) [en_I v, en_I (m 21 1), en_R 201] M c (6 * c) := by
      intro v hv
      subst hv
      refine en_iastore h dL_law_365 (hI _ (by omega) (by omega)) rfl (by omega) ?_
      refine en_aload (i := 5) h dL_law_366 rfl ?_
      refine en_iconst h dL_law_368 ?_
      refine en_aload_n (i := 2) h dL_law_369 rfl rfl ?_
      refine en_iconst h dL_law_370 ?_
      refine en_iaload h dL_law_371 (hI _ (by omega) (by omega)) rfl (by omega) ((s22 (by decide)).trans e2) ?_
      refine en_imul h dL_law_372 ?_
      refine en_aload_n (i := 3) h dL_law_373 rfl rfl ?_
      refine en_aload_n (i := 2) h dL_law_374 rfl rfl ?_
      refine en_iconst h dL_law_375 ?_
      refine en_iaload h dL_law_376 (hI _ (by omega) (by omega)) rfl (by omega) ((s22 (by decide)).trans e2) ?_
      refine en_iaload h dL_law_377 (hI _ (by omega) (by omega)) rfl (by omega) en_set_at ?_
      refine en_iastore h dL_law_378 (hI _ (by omega) (by omega)) rfl (by omega) ?_
      refine en_aload (i := 5) h dL_law_379 rfl ?_
      refine en_iconst h dL_law_381 ?_
      refine en_aload_n (i := 2) h dL_law_382 rfl rfl ?_
      refine en_iconst h dL_law_383 ?_
      refine en_iaload h dL_law_384 (hI _ (by omega) (by omega)) rfl (by omega) ((s22 (by decide)).trans ((s22 (by decide)).trans e2)) ?_
      refine en_imul h dL_law_385 ?_
      refine en_iconst h dL_law_386 ?_
      refine en_iadd h dL_law_387 ?_
      refine en_aload_n (i := 3) h dL_law_388 rfl rfl ?_
      refine en_aload_n (i := 2) h dL_law_389 rfl rfl ?_
      refine en_iconst h dL_law_390 ?_
      refine en_iaload h dL_law_391 (hI _ (by omega) (by omega)) rfl (by omega) ((s22 (by decide)).trans ((s22 (by decide)).trans e2)) ?_
      refine en_iaload h dL_law_392 (hI _ (by omega) (by omega)) rfl (by omega) ((s22 (by decide)).trans en_set_at) ?_
      refine en_if_ne (tgt := 405) h dL_law_393 (by decide) (by omega) (fun c_393 => ?_) (fun c_393 => ?_)
      · refine en_iload (i := 12) h dL_law_405 rfl ?_
        refine en_aload_n (i := 2) h dL_law_407 rfl rfl ?_
        refine en_iconst h dL_law_408 ?_
        refine en_iaload h dL_law_409 (hI _ (by omega) (by omega)) rfl (by omega) ((s22 (by decide)).trans ((s22 (by decide)).trans e0)) ?_
        refine en_iremP h dL_law_410 (by omega) (by omega) ?_
        exact g411 _ (by rw [hpl, if_neg c_393])
      · have z := hkp c_393
        refine en_iload (i := 12) h dL_law_396 rfl ?_
        refine en_aload_n (i := 2) h dL_law_398 rfl rfl ?_
        refine en_iconst h dL_law_399 ?_
        refine en_iaload h dL_law_400 (hI _ (by omega) (by omega)) rfl (by omega) ((s22 (by decide)).trans ((s22 (by decide)).trans e1)) ?_
        refine en_iremP h dL_law_401 (by omega) (by omega) ?_
        refine en_goto (tgt := 411) h dL_law_402 (by decide) ?_
        exact g411 _ (by rw [hpl, if_pos c_393])
    refine en_aload_n (i := 3) h dL_law_346 rfl rfl ?_
    refine en_aload_n (i := 2) h dL_law_347 rfl rfl ?_
    refine en_iconst h dL_law_348 ?_
    refine en_iaload h dL_law_349 (hI _ (by omega) (by omega)) rfl (by omega) e2 ?_
    refine en_iload (i := 11) h dL_law_350 rfl ?_
    refine en_bipush h dL_law_352 (by decide) ?_
    refine en_iremP h dL_law_354 (by omega) (by omega) ?_
    refine en_bipush h dL_law_355 (by decide) ?_
    refine en_icmp_ge (tgt := 364) h dL_law_357 (by decide) (by omega) (by omega) (fun c_357 => ?_) (fun c_357 => ?_)
    · refine en_iconst h dL_law_364 ?_
      exact g365 1 (by rw [hkd, if_neg (by omega)])
    · refine en_iconst h dL_law_360 ?_
      refine en_goto (tgt := 365) h dL_law_361 (by decide) ?_
      exact g365 0 (by rw [hkd, if_pos (by omega)])
  have g331 : ¬ (x % 16 < 6 ∧ 0 ≤ d) → en_G κ 331 (lls s th k x (ay x) d) [] M c (6 * c) := by
    intro z
    refine en_iload (i := 11) h dL_law_331 rfl ?_
    refine en_bipush h dL_law_333 (by decide) ?_
    refine en_iremP h dL_law_335 (by omega) (by omega) ?_
    refine en_bipush h dL_law_336 (by decide) ?_
    refine en_icmp_ge (tgt := 435) h dL_law_338 (by decide) (by omega) (by omega) (fun c_338 => ?_) (fun c_338 => ?_)
    · exact K M (fun _ _ => rfl) (same (fun k k0 k1 k2 k3 => ac_low hI9 x (by omega) ⟨k2, k3⟩))
    · refine en_iload (i := 13) h dL_law_341 rfl ?_
      refine en_if_lt (tgt := 435) h dL_law_343 (by decide) (by omega) (fun c_343 => ?_) (fun c_343 => ?_)
      · exact K M (fun _ _ => rfl) (same (fun k k0 k1 k2 k3 => by rw [refd c_338 c_343]))
      · exact g346 (by omega) c_338 c_343
  have g285 : ¬ (x % 16 < 4 ∧ 0 ≤ d) → en_G κ 285 (lls s th k x (ay x) d) [] M c (6 * c) := by
    intro z
    refine en_iload (i := 11) h dL_law_285 rfl ?_
    refine en_bipush h dL_law_287 (by decide) ?_
    refine en_iremP h dL_law_289 (by omega) (by omega) ?_
    refine en_bipush h dL_law_290 (by decide) ?_
    refine en_icmp_ge (tgt := 331) h dL_law_292 (by decide) (by omega) (by omega) (fun c_292 => ?_) (fun c_292 => ?_)
    · exact g331 (by omega)
    · refine en_iload (i := 13) h dL_law_295 rfl ?_
      refine en_if_lt (tgt := 331) h dL_law_297 (by decide) (by omega) (fun c_297 => ?_) (fun c_297 => ?_)
      · exact g331 (by omega)
      · have c4 : ¬ x % 16 < 4 := by omega
        have a : pL m (al m x) ∧ t_breaks m (al m x) (ab x) = xm_fl (xm_sw m (al m x) (ab x)) := by
          refine acc_breaks ?_
          rw [hd] at c_297
          unfold ac_w at c_297
          rw [if_neg c4, if_pos c_292] at c_297
          exact c_297
        have tt : ac_t m 0 x = xm_fl (xm_sw m (al m x) (ab x)) := by
          unfold ac_t
          rw [if_neg c4, if_pos c_292, a.2]
        have p1 : m 0 1 ≠ 0 := by
          have := a.1
          omega
        have bb := b1 p1
        have eal : al m x = ay x % m 0 1 := by
          unfold al
          rw [if_neg p1]
        have w0 : xm_sw m (al m x) (ab x) 0 = m 0 := xw_k (by decide)
        have T : ∀ k, 0 ≤ k → k < 28 → k ≠ 5 → (k < 8 ∨ 21 ≤ k) → M k = xm_sw m (al m x) (ab x) k := fun k k0 k1 k2 k3 => by rw [hlo k k0 k1, tt, fl_k (by rw [w0]; exact n9.2.1) k2 k3]
        have g327 : ∀ v, v = ab x → en_G κ 327 (lls s th k x (ay x) d) [en_I v, en_I (4 * (ay x % m 0 1) + 3), en_R 202] M c (6 * c) := by
          intro v hv
          subst hv
          refine en_iastore h dL_law_327 (hI _ (by omega) (by omega)) rfl (by omega) ?_
          refine en_goto (tgt := 435) h dL_law_328 (by decide) ?_
          have q1 : ∀ k : Int, k ≠ 202 → en_set M 202 (4 * (ay x % m 0 1) + 3) (ab x) k = M k := fun k a => en_set_ne a
          refine K _ (fun k hk => q1 k (by omega)) (AR_sw (m := m) (i := al m x) (c := ab x) hA ?_ ?_ ?_ ?_ ?_ ?_ ?_ ?_ ?_ ?_ ?_ ?_ ?_)
          · rw [q1 0 (by decide), T 0 (by decide) (by decide) (by decide) (by decide), xw_k (by decide)]
          · rw [q1 1 (by decide), T 1 (by decide) (by decide) (by decide) (by decide), xw_k (by decide)]
          · rw [q1 2 (by decide), T 2 (by decide) (by decide) (by decide) (by decide), xw_k (by decide)]
          · rw [q1 3 (by decide), T 3 (by decide) (by decide) (by decide) (by decide), xw_k (by decide)]
          · rw [q1 4 (by decide), T 4 (by decide) (by decide) (by decide) (by decide)]
            unfold xm_sw
            rw [en_set_f]
          · rw [q1 21 (by decide), T 21 (by decide) (by decide) (by decide) (by decide), xw_k (by decide)]
          · rw [q1 22 (by decide), T 22 (by decide) (by decide) (by decide) (by decide), xw_k (by decide)]
          · rw [q1 23 (by decide), T 23 (by decide) (by decide) (by decide) (by decide), xw_k (by decide)]
          · rw [q1 25 (by decide), T 25 (by decide) (by decide) (by decide) (by decide), xw_k (by decide)]
          · rw [q1 200 (by decide), hhi 200 (by decide)]
          · rw [q1 201 (by decide), hhi 201 (by decide)]
          · rw [en_set_f, hhi 202 (by decide), eal]
          · rw [q1 203 (by decide), hhi 203 (by decide)]
        refine en_aload (i := 4) h dL_law_300 rfl ?_
        refine en_iconst h dL_law_302 ?_
        refine en_iload (i := 12) h dL_law_303 rfl ?_
        refine en_aload_n (i := 2) h dL_law_305 rfl rfl ?_
        refine en_iconst h dL_law_306 ?_
        refine en_iaload h dL_law_307 (hI _ (by omega) (by omega)) rfl (by omega) e1 ?_
        refine en_iremP h dL_law_308 (by omega) (by omega) ?_
        refine en_imul h dL_law_309 ?_
        refine en_iconst h dL_law_310 ?_
        refine en_iadd h dL_law_311 ?_
        refine en_iload (i := 12) h dL_law_312 rfl ?_
        refine en_bipush h dL_law_314 (by decide) ?_
        refine en_idivP h dL_law_316 (by omega) (by omega) ?_
        refine en_iconst h dL_law_317 ?_
        refine en_iremP h dL_law_318 (by omega) (by omega) ?_
        refine en_if_le (tgt := 326) h dL_law_319 (by decide) (by omega) (fun c_319 => ?_) (fun c_319 => ?_)
        · refine en_iconst h dL_law_326 ?_
          exact g327 _ (by unfold ab; rw [if_neg (by omega)])
        · refine en_iconst h dL_law_322 ?_
          refine en_goto (tgt := 327) h dL_law_323 (by decide) ?_
          exact g327 _ (by unfold ab; rw [if_pos (by omega)])
  refine en_iload (i := 11) h dL_law_199 rfl ?_
  refine en_bipush h dL_law_201 (by decide) ?_
  refine en_iremP h dL_law_203 (by omega) (by omega) ?_
  refine en_iconst h dL_law_204 ?_
  refine en_icmp_ge (tgt := 285) h dL_law_205 (by decide) (by omega) (by omega) (fun c_205 => ?_) (fun c_205 => ?_)
  · exact g285 (by omega)
  · refine en_iload (i := 13) h dL_law_208 rfl ?_
    refine en_if_lt (tgt := 285) h dL_law_210 (by decide) (by omega) (fun c_210 => ?_) (fun c_210 => ?_)
    · exact g285 (by omega)
    · have a : ((pB m (a1 m x) ∧ pB m (a2 m x)) ∧ (a1 m x ≠ a2 m x ∧ (1 ≤ 1 + ay x / 25 % 2 ∧ 1 + ay x / 25 % 2 ≤ 2)) ∧ (m 0 1 < 8 ∧ gs_hb (m 1) (m 2) (a1 m x) (a2 m x) (m 0 1).toNat = false)) ∧ t_lines m (a1 m x) (a2 m x) (1 + ay x / 25 % 2) = xm_fl (xm_ap m (a1 m x) (a2 m x) (1 + ay x / 25 % 2)) := by
        refine acc_lines ?_
        rw [hd] at c_210
        unfold ac_w at c_210
        rw [if_pos c_205, if_pos rfl, if_pos rfl] at c_210
        exact c_210
      have tt : ac_t m 0 x = xm_fl (xm_ap m (a1 m x) (a2 m x) (1 + ay x / 25 % 2)) := by
        unfold ac_t
        rw [if_pos c_205, if_pos rfl, if_pos rfl, a.2]
      have n8 := a.1.2.2.1
      have T : ∀ k, 0 ≤ k → k < 28 → k ≠ 5 → (k < 8 ∨ 21 ≤ k) → M k = xm_ap m (a1 m x) (a2 m x) (1 + ay x / 25 % 2) k := fun k k0 k1 k2 k3 => by rw [hlo k k0 k1, tt, fl_k (by rw [xa_0, upd1_at]; omega) k2 k3]
      refine en_aload (i := 4) h dL_law_213 rfl ?_
      refine en_iconst h dL_law_215 ?_
      refine en_aload_n (i := 2) h dL_law_216 rfl rfl ?_
      refine en_iconst h dL_law_217 ?_
      refine en_iaload h dL_law_218 (hI _ (by omega) (by omega)) rfl (by omega) e1 ?_
      refine en_imul h dL_law_219 ?_
      refine en_iload (i := 12) h dL_law_220 rfl ?_
      refine en_aload_n (i := 2) h dL_law_222 rfl rfl ?_
      refine en_iconst h dL_law_223 ?_
      refine en_iaload h dL_law_224 (hI _ (by omega) (by omega)) rfl (by omega) e0 ?_
      refine en_iremP h dL_law_225 (by omega) (by omega) ?_
      refine en_iastore h dL_law_226 (hI _ (by omega) (by omega)) rfl (by omega) ?_
      refine en_aload (i := 4) h dL_law_227 rfl ?_
      refine en_iconst h dL_law_229 ?_
      refine en_aload_n (i := 2) h dL_law_230 rfl rfl ?_
      refine en_iconst h dL_law_231 ?_
      refine en_iaload h dL_law_232 (hI _ (by omega) (by omega)) rfl (by omega) ((s22 (by decide)).trans e1) ?_
      refine en_imul h dL_law_233 ?_
      refine en_iconst h dL_law_234 ?_
      refine en_iadd h dL_law_235 ?_
      refine en_iload (i := 12) h dL_law_236 rfl ?_
      refine en_iconst h dL_law_238 ?_
      refine en_idivP h dL_law_239 (by omega) (by omega) ?_
      refine en_aload_n (i := 2) h dL_law_240 rfl rfl ?_
      refine en_iconst h dL_law_241 ?_
      refine en_iaload h dL_law_242 (hI _ (by omega) (by omega)) rfl (by omega) ((s22 (by decide)).trans e0) ?_
      refine en_iremP h dL_law_243 (by omega) (by omega) ?_
      refine en_iastore h dL_law_244 (hI _ (by omega) (by omega)) rfl (by omega) ?_
      refine en_aload (i := 4) h dL_law_245 rfl ?_
      refine en_iconst h dL_law_247 ?_
      refine en_aload_n (i := 2) h dL_law_248 rfl rfl ?_
      refine en_iconst h dL_law_249 ?_
      refine en_iaload h dL_law_250 (hI _ (by omega) (by omega)) rfl (by omega) ((s22 (by decide)).trans ((s22 (by decide)).trans e1)) ?_
      refine en_imul h dL_law_251 ?_
      refine en_iconst h dL_law_252 ?_
      refine en_iadd h dL_law_253 ?_
      refine en_iconst h dL_law_254 ?_
      refine en_iload (i := 12) h dL_law_255 rfl ?_
      refine en_bipush h dL_law_257 (by decide) ?_
      refine en_idivP h dL_law_259 (by omega) (by omega) ?_
      refine en_iconst h dL_law_260 ?_
      refine en_iremP h dL_law_261 (by omega) (by omega) ?_
      refine en_iadd h dL_law_262 ?_
      refine en_iastore h dL_law_263 (hI _ (by omega) (by omega)) rfl (by omega) ?_
      refine en_aload (i := 4) h dL_law_264 rfl ?_
      refine en_iconst h dL_law_266 ?_
      refine en_aload_n (i := 2) h dL_law_267 rfl rfl ?_
      refine en_iconst h dL_law_268 ?_
      refine en_iaload h dL_law_269 (hI _ (by omega) (by omega)) rfl (by omega) ((s22 (by decide)).trans ((s22 (by decide)).trans ((s22 (by decide)).trans e1))) ?_
      refine en_imul h dL_law_270 ?_
      refine en_iconst h dL_law_271 ?_
      refine en_iadd h dL_law_272 ?_
      refine en_iconst h dL_law_273 ?_
      refine en_iastore h dL_law_274 (hI _ (by omega) (by omega)) rfl (by omega) ?_
      refine en_aload_n (i := 2) h dL_law_275 rfl rfl ?_
      refine en_iconst h dL_law_276 ?_
      refine en_dup2 h dL_law_277 ?_
      refine en_iaload h dL_law_278 (hI _ (by omega) (by omega)) rfl (by omega) ((s22 (by decide)).trans ((s22 (by decide)).trans ((s22 (by decide)).trans ((s22 (by decide)).trans e1)))) ?_
      refine en_iconst h dL_law_279 ?_
      refine en_iadd h dL_law_280 ?_
      refine en_iastore h dL_law_281 (hI _ (by omega) (by omega)) rfl (by omega) ?_
      refine en_goto (tgt := 435) h dL_law_282 (by decide) ?_
      have q1 : ∀ k : Int, k ≠ 200 → k ≠ 202 → en_set (en_set (en_set (en_set (en_set M 202 (4 * m 0 1) (ay x % m 0 0)) 202 (4 * m 0 1 + 1) (ay x / 5 % m 0 0)) 202 (4 * m 0 1 + 2) (1 + ay x / 25 % 2)) 202 (4 * m 0 1 + 3) 1) 200 1 (m 0 1 + 1) k = M k := fun k a b => by rw [en_set_ne a, en_set_ne b, en_set_ne b, en_set_ne b, en_set_ne b]
      refine K _ (fun k hk => q1 k (by omega) (by omega)) (AR_line (m := m) (f := a1 m x) (s := a2 m x) (g := 1 + ay x / 25 % 2) hA n9.2.1.1 ?_ ?_ ?_ ?_ ?_ ?_ ?_ ?_ ?_ ?_ ?_ ?_ ?_)
      · rw [q1 0 (by decide) (by decide), T 0 (by decide) (by decide) (by decide) (by decide), xa_0]
      · rw [q1 1 (by decide) (by decide), T 1 (by decide) (by decide) (by decide) (by decide), xa_1]
      · rw [q1 2 (by decide) (by decide), T 2 (by decide) (by decide) (by decide) (by decide), xa_2]
      · rw [q1 3 (by decide) (by decide), T 3 (by decide) (by decide) (by decide) (by decide), xa_3]
      · rw [q1 4 (by decide) (by decide), T 4 (by decide) (by decide) (by decide) (by decide), xa_4]
      · rw [q1 21 (by decide) (by decide), T 21 (by decide) (by decide) (by decide) (by decide), xa_k (by decide) (by decide) (by decide) (by decide) (by decide)]
      · rw [q1 22 (by decide) (by decide), T 22 (by decide) (by decide) (by decide) (by decide), xa_k (by decide) (by decide) (by decide) (by decide) (by decide)]
      · rw [q1 23 (by decide) (by decide), T 23 (by decide) (by decide) (by decide) (by decide), xa_k (by decide) (by decide) (by decide) (by decide) (by decide)]
      · rw [q1 25 (by decide) (by decide), T 25 (by decide) (by decide) (by decide) (by decide), xa_k (by decide) (by decide) (by decide) (by decide) (by decide)]
      · rw [en_set_f, en_set_ne (by decide), en_set_ne (by decide), en_set_ne (by decide), en_set_ne (by decide), hhi 200 (by decide)]
      · rw [en_set_ne (by decide), en_set_ne (by decide), en_set_ne (by decide), en_set_ne (by decide), en_set_ne (by decide), hhi 201 (by decide)]
      · rw [en_set_ne (by decide), en_set_f, en_set_f, en_set_f, en_set_f, hhi 202 (by decide)]
        rfl
      · rw [en_set_ne (by decide), en_set_ne (by decide), en_set_ne (by decide), en_set_ne (by decide), en_set_ne (by decide), hhi 203 (by decide)]
