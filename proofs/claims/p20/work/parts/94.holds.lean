/-! LAW 9: holds: what it asks of a meter; whole -/
abbrev hms (a b c : Int) (d e f g : Option en_V) : List (Option en_V) := [some (en_R 49), some (en_R 200), some (en_R 203), some (en_I a), some (en_I b), some (en_I c), d, e, f, g]
theorem cq_back {m M : en_M} {i : Int} (hM : cq M (en_set m 26 i 0)) (h1 : m 26 i = 1) : cq (en_set M 26 i 1) m := by
  refine ⟨fun k hk => ?_, xr_ok_k (en_set_ne (by decide)) hM.2⟩
  by_cases e : k = 26
  · subst e
    rw [en_set_f, hM.1 26 (by decide), en_set_f]
    funext j
    by_cases c : j = i
    · rw [c, upd1_at, h1]
    · rw [upd1_ne c, upd1_ne c]
  · rw [en_set_ne e, hM.1 k hk, en_set_ne e]
/-- a meter of an island that is seen: dropped, and used again -/
theorem hm_2 {κ : en_C} {m : en_M} {i r3 : Int} {f g p7 : Option en_V} {c : Nat} (hW : en_Wok (en_w κ)) (hP : HasL (en_w κ)) (h : en_Ok κ RL cL_holds 10 wsL_holds rm_L_holds) (hx9 : en_Xs κ) (hI9 : INV m) (hi : pM m i) (hq0 : 0 ≤ xm_io m i) (ho : obs m (xm_io m i)) (hc : c + 20 ≤ 500) (K : ∀ M, cq M m → ∀ v, en_G κ 486 (hms r3 1 i (some (en_I (xm_io m i))) v f g) [] M (c + 6) (6 * (c + 6))) : en_G κ 402 (hms r3 1 i (some (en_I (xm_io m i))) p7 f g) [] m c (6 * c) := by
  have n := inv_n hI9
  have ri := lk_io hI9.1 hi.1 hi.2
  obtain ⟨q5, u1, iu⟩ := ri.2.2 (by omega)
  have hnd := h_nd hI9 hi (by omega) ho
  have hl := en_Xs_l hx9
  -- the rest, from 419 on
  have go : ∀ v, v = (if xm_nd m i then 1 else 0) → ∀ M, cq M m → en_G κ 419 (hms r3 1 i (some (en_I (xm_io m i))) (some (en_I v)) f g) [] M (c + 1) (6 * (c + 1)) := by
    intro v hv M hM
    have hI1 := inv_cq hI9 hM
    have pM1 : pM M i := by
      unfold pM
      rw [hM.1 21 (by decide)]
      exact hi
    have e26 : M 26 i = 1 := by rw [hM.1 26 (by decide)]; exact u1
    have hI2 := inv_us hI1 (i := i) (c := 0) (Or.inl rfl)
    have pB2 : pB (en_set M 26 i 0) (xm_io m i) := by
      unfold pB
      rw [en_set_ne (by decide), hM.1 0 (by decide)]
      omega
    have e5 : en_set M 26 i 0 5 (xm_io m i) = xm_io m i := by
      rw [en_set_ne (by decide), hM.1 5 (by decide)]
      exact q5
    have ob1 : obs (en_set M 26 i 0) (xm_io m i) ↔ ¬ xm_nd m i := by
      have z := h_nd hI1 pM1 (by rw [cq_io hM]; omega) (by rw [cq_io hM]; exact (obs_q hM hI9 _).mpr ho)
      rw [cq_io hM, xm_nd_ag (cq_ag hM) (inv_xc hI9).2.2.1] at z
      constructor
      · intro a b
        exact z.mp b a
      · intro a
        exact Classical.byContradiction (fun b => a (z.mpr b))
    have v01 : v = 0 ∨ v = 1 := by
      rw [hv]
      split
      · exact Or.inr rfl
      · exact Or.inl rfl
    have vn : v = 1 ↔ xm_nd m i := by
      rw [hv]
      by_cases z : xm_nd m i
      · rw [if_pos z]
        exact ⟨fun _ => z, fun _ => rfl⟩
      · rw [if_neg z]
        exact ⟨fun y => absurd y (by decide), fun y => absurd y z⟩
    refine en_aload_n (i := 0) h dL_holds_419 rfl rfl ?_
    refine en_iload (i := 5) h dL_holds_420 rfl ?_
    refine en_iconst h dL_holds_422 ?_
    refine en_cS (q := 1) (B := 500) h hx9 (K_uses hW hP.1 hl hI1 (by constructor <;> omega) (Or.inl rfl)) my_L_uses gL_holds_L_uses rfl rfl ⟨by decide, by decide⟩ ⟨rfl, rfl⟩ ⟨rfl, rfl⟩ (by omega) (Nat.le_of_ble_eq_true rfl) dL_holds_423 (fun r M1 hp => ?_)
    obtain ⟨rfl, e9⟩ := hp
    rw [e9, (w_uses_r pM1).1, (w_uses_r pM1).2, e26]
    refine en_iconst h dL_holds_426 ?_
    refine en_icmp_ne (tgt := 483) h dL_holds_427 (by decide) (by omega) (by omega) (fun c_427 => ?_) (fun c_427 => ?_)
    · exact absurd rfl c_427
    · refine en_aload_n (i := 0) h dL_holds_430 rfl rfl ?_
      refine en_iload (i := 6) h dL_holds_431 rfl ?_
      refine en_cS (q := 1) (B := 500) h hx9 (K_observable hW hP.1 hl hI2 (by constructor <;> omega)) my_L_observable gL_holds_L_observable rfl rfl ⟨by decide, by decide⟩ ⟨rfl, rfl⟩ ⟨rfl, rfl⟩ (by omega) (Nat.le_of_ble_eq_true rfl) dL_holds_433 (fun r M2 hp => ?_)
      obtain ⟨rfl, hq2⟩ := hp
      rw [w_observable_r pB2, e5]
      have hI3 := inv_cq hI2 hq2
      have pM3 : pM M2 i := by
        unfold pM
        rw [hq2.1 21 (by decide), en_set_ne (by decide)]
        exact pM1
      have io3 : xm_io M2 i = -1 := by
        rw [cq_io hq2]
        unfold xm_io
        rw [en_set_at, if_pos rfl]
      have e263 : M2 26 i = 0 := by rw [hq2.1 26 (by decide), en_set_at]
      -- from 449 on
      have go2 : en_G κ 449 (hms r3 1 i (some (en_I (xm_io m i))) (some (en_I v)) f g) [] M2 (c + 1 + 1 + 1) (6 * (c + 1 + 1 + 1)) := by
        refine en_aload_n (i := 0) h dL_holds_449 rfl rfl ?_
        refine en_iload (i := 5) h dL_holds_450 rfl ?_
        refine en_cS (q := 1) (B := 500) h hx9 (K_counts hW hP.1 hl hI3 (by constructor <;> omega)) my_L_counts gL_holds_L_counts rfl rfl ⟨by decide, by decide⟩ ⟨rfl, rfl⟩ ⟨rfl, rfl⟩ (by omega) (Nat.le_of_ble_eq_true rfl) dL_holds_452 (fun r M3 hp => ?_)
        obtain ⟨rfl, e9⟩ := hp
        rw [e9, w_counts_r pM3, io3]
        refine en_iconst h dL_holds_455 ?_
        refine en_icmp_ne (tgt := 483) h dL_holds_456 (by decide) (by omega) (by omega) (fun c_456 => ?_) (fun c_456 => ?_)
        · exact absurd rfl c_456
        · refine en_aload_n (i := 0) h dL_holds_459 rfl rfl ?_
          refine en_iload (i := 5) h dL_holds_460 rfl ?_
          refine en_iconst h dL_holds_462 ?_
          refine en_cS (q := 1) (B := 500) h hx9 (K_uses hW hP.1 hl hI3 (by constructor <;> omega) (Or.inr rfl)) my_L_uses gL_holds_L_uses rfl rfl ⟨by decide, by decide⟩ ⟨rfl, rfl⟩ ⟨rfl, rfl⟩ (by omega) (Nat.le_of_ble_eq_true rfl) dL_holds_463 (fun r M4 hp => ?_)
          obtain ⟨rfl, e9⟩ := hp
          rw [e9, (w_uses_r pM3).1, (w_uses_r pM3).2, e263]
          have cb := cq_back hq2 e26
          have cb2 := cq_tr cb hM
          have hI5 := inv_cq hI9 cb2
          have pB5 : pB (en_set M2 26 i 1) (xm_io m i) := by
            unfold pB
            rw [cb2.1 0 (by decide)]
            omega
          refine en_if_ne (tgt := 483) h dL_holds_466 (by decide) (by omega) (fun c_466 => ?_) (fun c_466 => ?_)
          · exact absurd rfl c_466
          · refine en_aload_n (i := 0) h dL_holds_469 rfl rfl ?_
            refine en_iload (i := 6) h dL_holds_470 rfl ?_
            refine en_cS (q := 1) (B := 500) h hx9 (K_observable hW hP.1 hl hI5 (by constructor <;> omega)) my_L_observable gL_holds_L_observable rfl rfl ⟨by decide, by decide⟩ ⟨rfl, rfl⟩ ⟨rfl, rfl⟩ (by omega) (Nat.le_of_ble_eq_true rfl) dL_holds_472 (fun r M5 hp => ?_)
            obtain ⟨rfl, hq5⟩ := hp
            have ob5 : obs (en_set M2 26 i 1) ((en_set M2 26 i 1) 5 (xm_io m i)) := by
              rw [cb2.1 5 (by decide), q5]
              exact (obs_q cb2 hI9 _).mpr ho
            rw [w_observable_r pB5, if_pos ob5]
            refine en_iconst h dL_holds_475 ?_
            refine en_icmp_ne (tgt := 483) h dL_holds_476 (by decide) (by omega) (by omega) (fun c_476 => ?_) (fun c_476 => ?_)
            · exact absurd rfl c_476
            · refine en_iconst h dL_holds_479 ?_
              refine en_goto (tgt := 484) h dL_holds_480 (by decide) ?_
              refine en_istore (i := 4) h dL_holds_484 (by decide) ?_
              exact en_upk (by omega) (K M5 (cq_tr hq5 cb2) _)
      by_cases z : xm_nd m i
      · rw [if_neg (fun y => ob1.mp y z)]
        have v1 := vn.mpr z
        subst v1
        refine en_if_ne (tgt := 443) h dL_holds_436 (by decide) (by omega) (fun c_436 => ?_) (fun c_436 => ?_)
        · exact absurd rfl c_436
        · refine en_iconst h dL_holds_439 ?_
          refine en_goto (tgt := 444) h dL_holds_440 (by decide) ?_
          refine en_iload (i := 7) h dL_holds_444 rfl ?_
          refine en_icmp_ne (tgt := 483) h dL_holds_446 (by decide) (by omega) (by omega) (fun c_446 => ?_) (fun c_446 => ?_)
          · exact absurd rfl c_446
          · exact go2
      · rw [if_pos (ob1.mpr z)]
        have v0 : v = 0 := by
          rcases v01 with y | y
          · exact y
          · exact absurd (vn.mp y) z
        subst v0
        refine en_if_ne (tgt := 443) h dL_holds_436 (by decide) (by omega) (fun c_436 => ?_) (fun c_436 => ?_)
        · refine en_iconst h dL_holds_443 ?_
          refine en_iload (i := 7) h dL_holds_444 rfl ?_
          refine en_icmp_ne (tgt := 483) h dL_holds_446 (by decide) (by omega) (by omega) (fun c_446 => ?_) (fun c_446 => ?_)
          · exact absurd rfl c_446
          · exact go2
        · exact absurd c_436 (by decide)
  refine en_aload_n (i := 0) h dL_holds_402 rfl rfl ?_
  refine en_iload (i := 5) h dL_holds_403 rfl ?_
  refine en_cS (q := 1) (B := 500) h hx9 (K_critical hW hP.1 hl hI9 (by constructor <;> omega)) my_L_critical gL_holds_L_critical rfl rfl ⟨by decide, by decide⟩ ⟨rfl, rfl⟩ ⟨rfl, rfl⟩ (by omega) (Nat.le_of_ble_eq_true rfl) dL_holds_405 (fun r M hp => ?_)
  obtain ⟨rfl, hq⟩ := hp
  rw [w_critical_r hi]
  by_cases z : xm_nd m i
  · rw [if_pos z]
    refine en_iconst h dL_holds_408 ?_
    refine en_icmp_ne (tgt := 416) h dL_holds_409 (by decide) (by omega) (by omega) (fun c_409 => ?_) (fun c_409 => ?_)
    · exact absurd rfl c_409
    · refine en_iconst h dL_holds_412 ?_
      refine en_goto (tgt := 417) h dL_holds_413 (by decide) ?_
      refine en_istore (i := 7) h dL_holds_417 (by decide) ?_
      exact go 1 (by rw [if_pos z]) M hq
  · rw [if_neg z]
    refine en_iconst h dL_holds_408 ?_
    refine en_icmp_ne (tgt := 416) h dL_holds_409 (by decide) (by omega) (by omega) (fun c_409 => ?_) (fun c_409 => ?_)
    · refine en_iconst h dL_holds_416 ?_
      refine en_istore (i := 7) h dL_holds_417 (by decide) ?_
      exact go 0 (by rw [if_neg z]) M hq
    · exact absurd c_409 (by decide)
/-- one meter -/
theorem hm_1 {κ : en_C} {m : en_M} {i r3 : Int} {p6 p7 f g : Option en_V} {c : Nat} (hW : en_Wok (en_w κ)) (hP : HasL (en_w κ)) (h : en_Ok κ RL cL_holds 10 wsL_holds rm_L_holds) (hx9 : en_Xs κ) (hI9 : INV m) (hi : pM m i) (hc : c + 40 ≤ 500) (K : ∀ M, cq M m → ∀ u v, en_G κ 486 (hms r3 1 i u v f g) [] M (c + 16) (6 * (c + 16))) : en_G κ 313 (hms r3 1 i p6 p7 f g) [] m c (6 * c) := by
  have n := inv_n hI9
  have x := inv_xc hI9
  have ri := lk_io hI9.1 hi.1 hi.2
  have hl := en_Xs_l hx9
  refine en_aload_n (i := 0) h dL_holds_313 rfl rfl ?_
  refine en_iload (i := 5) h dL_holds_314 rfl ?_
  refine en_cS (q := 1) (B := 500) h hx9 (K_counts hW hP.1 hl hI9 (by constructor <;> omega)) my_L_counts gL_holds_L_counts rfl rfl ⟨by decide, by decide⟩ ⟨rfl, rfl⟩ ⟨rfl, rfl⟩ (by omega) (Nat.le_of_ble_eq_true rfl) dL_holds_316 (fun r M hp => ?_)
  obtain ⟨rfl, e9⟩ := hp
  rw [e9, w_counts_r hi]
  have g382 : ∀ M, cq M m → en_G κ 382 (hms r3 1 i (some (en_I (xm_io m i))) p7 f g) [] M (c + 8) (6 * (c + 8)) := by
    intro M hM
    have hI1 := inv_cq hI9 hM
    have pM1 : pM M i := by
      unfold pM
      rw [hM.1 21 (by decide)]
      exact hi
    refine en_iload (i := 4) h dL_holds_382 rfl ?_
    refine en_if_eq (tgt := 486) h dL_holds_384 (by decide) (by omega) (fun c_384 => ?_) (fun c_384 => ?_)
    · exact absurd c_384 (by decide)
    · refine en_iload (i := 6) h dL_holds_387 rfl ?_
      refine en_if_lt (tgt := 486) h dL_holds_389 (by decide) (by omega) (fun c_389 => ?_) (fun c_389 => ?_)
      · exact en_upk (by omega) (K M hM _ _)
      · have pB1 : pB M (xm_io m i) := by
          unfold pB
          rw [hM.1 0 (by decide)]
          omega
        have q5 := (ri.2.2 (by omega)).1
        have e5 : M 5 (xm_io m i) = xm_io m i := by
          rw [hM.1 5 (by decide)]
          exact q5
        refine en_aload_n (i := 0) h dL_holds_392 rfl rfl ?_
        refine en_iload (i := 6) h dL_holds_393 rfl ?_
        refine en_cS (q := 1) (B := 500) h hx9 (K_observable hW hP.1 hl hI1 (by constructor <;> omega)) my_L_observable gL_holds_L_observable rfl rfl ⟨by decide, by decide⟩ ⟨rfl, rfl⟩ ⟨rfl, rfl⟩ (by omega) (Nat.le_of_ble_eq_true rfl) dL_holds_395 (fun r M1 hp => ?_)
        obtain ⟨rfl, hq1⟩ := hp
        rw [w_observable_r pB1, e5]
        have h1 := cq_tr hq1 hM
        by_cases ho : obs M (xm_io m i)
        · rw [if_pos ho]
          refine en_iconst h dL_holds_398 ?_
          refine en_icmp_ne (tgt := 486) h dL_holds_399 (by decide) (by omega) (by omega) (fun c_399 => ?_) (fun c_399 => ?_)
          · exact absurd rfl c_399
          · have ho2 : obs M1 (xm_io m i) := (obs_q hq1 hI1 _).mpr ho
            have pM2 : pM M1 i := by
              unfold pM
              rw [h1.1 21 (by decide)]
              exact hi
            have z := hm_2 (m := M1) (i := i) (r3 := r3) (f := f) (g := g) (p7 := p7) (c := c + 8 + 1) hW hP h hx9 (inv_cq hI9 h1) pM2 (by rw [cq_io h1]; exact c_389) (by rw [cq_io h1]; exact ho2) (by omega)
            rw [cq_io h1] at z
            exact z (fun M2 h2 v => en_upk (by omega) (K M2 (cq_tr h2 h1) _ _))
        · rw [if_neg ho]
          refine en_iconst h dL_holds_398 ?_
          refine en_icmp_ne (tgt := 486) h dL_holds_399 (by decide) (by omega) (by omega) (fun c_399 => ?_) (fun c_399 => ?_)
          · exact en_upk (by omega) (K M1 h1 _ _)
          · exact absurd c_399 (by decide)
  have g375 : ∀ M, cq M m → en_G κ 375 (hms r3 1 i (some (en_I (xm_io m i))) p7 f g) [] M (c + 8) (6 * (c + 8)) := by
    intro M hM
    refine en_iconst h dL_holds_375 ?_
    refine en_goto (tgt := 380) h dL_holds_376 (by decide) ?_
    refine en_istore (i := 4) h dL_holds_380 (by decide) ?_
    exact g382 M hM
  refine en_istore (i := 6) h dL_holds_319 (by decide) ?_
  refine en_iload (i := 6) h dL_holds_321 rfl ?_
  refine en_iconst h dL_holds_323 ?_
  refine en_icmp_ne (tgt := 344) h dL_holds_324 (by decide) (by constructor <;> omega) (by decide) (fun c_324 => ?_) (fun c_324 => ?_)
  · refine en_aload_n (i := 0) h dL_holds_344 rfl rfl ?_
    refine en_iload (i := 5) h dL_holds_345 rfl ?_
    refine en_cS (q := 1) (B := 500) h hx9 (K_critical hW hP.1 hl hI9 (by constructor <;> omega)) my_L_critical gL_holds_L_critical rfl rfl ⟨by decide, by decide⟩ ⟨rfl, rfl⟩ ⟨rfl, rfl⟩ (by omega) (Nat.le_of_ble_eq_true rfl) dL_holds_347 (fun r M1 hp => ?_)
    obtain ⟨rfl, hq1⟩ := hp
    rw [w_critical_r hi]
    by_cases z : xm_nd m i
    · have rs0 := nd_free hI9.1 hi.1 hi.2 z
      have q5 := ri.2.2 z.1
      have hI1 := inv_cq hI9 hq1
      have pM1 : pM M1 i := by
        unfold pM
        rw [hq1.1 21 (by decide)]
        exact hi
      have iu1 : xm_iu M1 i = xm_io m i := by rw [cq_iu hq1]; exact q5.2.2
      have ob1 : obs M1 (xm_io m i) := (obs_q hq1 hI9 _).mpr z.2.1
      have rs1 : xe_rs M1 (xm_io m i) i = 0 := by
        rw [xe_rs_ag (cq_ag hq1) x.2.2.1 (x.2.2.1.2.1 _ hi.1 hi.2).1]
        exact rs0
      rw [if_pos z]
      refine en_if_eq (tgt := 375) h dL_holds_350 (by decide) (by omega) (fun c_350 => ?_) (fun c_350 => ?_)
      · exact absurd c_350 (by decide)
      · refine en_aload_n (i := 0) h dL_holds_353 rfl rfl ?_
        refine en_iload (i := 5) h dL_holds_354 rfl ?_
        refine en_cS (q := 3) (B := 500) h hx9 (K_over hW hP.1 hl hI1 (by constructor <;> omega)) my_L_over gL_holds_L_over rfl rfl ⟨by decide, by decide⟩ ⟨rfl, rfl⟩ ⟨rfl, rfl⟩ (by omega) (Nat.le_of_ble_eq_true rfl) dL_holds_356 (fun r M2 hp => ?_)
        obtain ⟨rfl, hq2⟩ := hp
        rw [w_over_r pM1 (by rw [iu1]; exact z.1) (by rw [iu1]; exact ob1), iu1, rs1, Int.zero_tdiv]
        refine en_lconst (z := 0) h dL_holds_359 rfl ?_
        refine en_lcmpR h dL_holds_360 (by decide) (by decide) ?_
        refine en_if_ne (tgt := 379) h dL_holds_361 (by decide) (by decide) (fun c_361 => ?_) (fun c_361 => ?_)
        · exact absurd (show en_cmp _ _ = 0 by decide) c_361
        · have h2 := cq_tr hq2 hq1
          have hI2 := inv_cq hI9 h2
          have pM2 : pM M2 i := by
            unfold pM
            rw [h2.1 21 (by decide)]
            exact hi
          have iu2 : xm_iu M2 i = xm_io m i := by rw [cq_iu h2]; exact q5.2.2
          have ob2 : obs M2 (xm_io m i) := (obs_q h2 hI9 _).mpr z.2.1
          have rs2 : xe_rs M2 (xm_io m i) i = 0 := by
            rw [xe_rs_ag (cq_ag h2) x.2.2.1 (x.2.2.1.2.1 _ hi.1 hi.2).1]
            exact rs0
          refine en_aload_n (i := 0) h dL_holds_364 rfl rfl ?_
          refine en_iload (i := 5) h dL_holds_365 rfl ?_
          refine en_cS (q := 3) (B := 500) h hx9 (K_under hW hP.1 hl hI2 (by constructor <;> omega)) my_L_under gL_holds_L_under rfl rfl ⟨by decide, by decide⟩ ⟨rfl, rfl⟩ ⟨rfl, rfl⟩ (by omega) (Nat.le_of_ble_eq_true rfl) dL_holds_367 (fun r M3 hp => ?_)
          obtain ⟨rfl, hq3⟩ := hp
          have q0 : 0 ≤ xm_io m i := by
            have := z.1
            omega
          rw [w_under_r pM2 (by rw [iu2]; exact z.1) (by rw [iu2]; exact ob2), iu2, rs2, xg_0 (lk_pos hI2.1 (inv_xc hI2).2.2.2 q0 ob2)]
          refine en_lconst (z := 1) h dL_holds_370 rfl ?_
          refine en_lcmpR h dL_holds_371 (by decide) (by decide) ?_
          refine en_if_ne (tgt := 379) h dL_holds_372 (by decide) (by decide) (fun c_372 => ?_) (fun c_372 => ?_)
          · exact absurd (show en_cmp _ _ = 0 by decide) c_372
          · exact en_upk (by omega) (g375 M3 (cq_tr hq3 h2))
    · rw [if_neg z]
      refine en_if_eq (tgt := 375) h dL_holds_350 (by decide) (by omega) (fun c_350 => ?_) (fun c_350 => ?_)
      · exact en_upk (by omega) (g375 M1 hq1)
      · exact absurd rfl c_350
  · refine en_aload_n (i := 0) h dL_holds_327 rfl rfl ?_
    refine en_iload (i := 5) h dL_holds_328 rfl ?_
    refine en_cS (q := 1) (B := 500) h hx9 (K_critical hW hP.1 hl hI9 (by constructor <;> omega)) my_L_critical gL_holds_L_critical rfl rfl ⟨by decide, by decide⟩ ⟨rfl, rfl⟩ ⟨rfl, rfl⟩ (by omega) (Nat.le_of_ble_eq_true rfl) dL_holds_330 (fun r M1 hp => ?_)
    obtain ⟨rfl, hq1⟩ := hp
    rw [w_critical_r hi, if_neg (fun z => z.1 c_324)]
    refine en_if_ne (tgt := 340) h dL_holds_333 (by decide) (by omega) (fun c_333 => ?_) (fun c_333 => ?_)
    · exact absurd rfl c_333
    · refine en_iconst h dL_holds_336 ?_
      refine en_goto (tgt := 380) h dL_holds_337 (by decide) ?_
      refine en_istore (i := 4) h dL_holds_380 (by decide) ?_
      exact en_upk (by omega) (g382 M1 hq1)
theorem hm_loop {κ : en_C} {m : en_M} {r3 : Int} (hW : en_Wok (en_w κ)) (hP : HasL (en_w κ)) (h : en_Ok κ RL cL_holds 10 wsL_holds rm_L_holds) (hx9 : en_Xs κ) (hI9 : INV m) (hN : NN m) (K : ∀ M, cq M m → ∀ a b c d e, en_G κ 492 (hms r3 1 a b c d e) [] M 330 (6 * 330)) : ∀ (f k : Nat), f + k = (m 21 1).toNat → ∀ M, cq M m → ∀ a b c d, en_G κ 300 (hms r3 1 k a b c d) [] M (165 + 16 * k) (6 * (165 + 16 * k)) := by
  have hI : ∀ k, 200 ≤ k → k < 204 → en_in κ k := hP.2.2.1
  have n := inv_n hI9
  intro f
  induction f with
  | zero =>
    intro k hk M hM a b c d
    have eN : M 200 2 = m 21 1 := (NN_cq hN hM).2.2.trans (by rw [hM.1 21 (by decide)])
    refine en_iload (i := 5) h dL_holds_300 rfl ?_
    refine en_aload_n (i := 1) h dL_holds_302 rfl rfl ?_
    refine en_iconst h dL_holds_303 ?_
    refine en_iaload h dL_holds_304 (hI _ (by omega) (by omega)) rfl (by omega) eN ?_
    refine en_icmp_ge (tgt := 492) h dL_holds_305 (by decide) (by omega) (by omega) (fun c_305 => ?_) (fun c_305 => ?_)
    · exact en_upk (by omega) (K M hM _ _ _ _ _)
    · exact absurd c_305 (by omega)
  | succ f ih =>
    intro k hk M hM a b c d
    have eN : M 200 2 = m 21 1 := (NN_cq hN hM).2.2.trans (by rw [hM.1 21 (by decide)])
    have pk : pM M (k : Int) := by
      unfold pM
      rw [hM.1 21 (by decide)]
      omega
    refine en_iload (i := 5) h dL_holds_300 rfl ?_
    refine en_aload_n (i := 1) h dL_holds_302 rfl rfl ?_
    refine en_iconst h dL_holds_303 ?_
    refine en_iaload h dL_holds_304 (hI _ (by omega) (by omega)) rfl (by omega) eN ?_
    refine en_icmp_ge (tgt := 492) h dL_holds_305 (by decide) (by omega) (by omega) (fun c_305 => ?_) (fun c_305 => ?_)
    · exact absurd c_305 (by omega)
    · refine en_iload (i := 4) h dL_holds_308 rfl ?_
      refine en_if_eq (tgt := 492) h dL_holds_310 (by decide) (by omega) (fun c_310 => ?_) (fun c_310 => ?_)
      · exact absurd c_310 (by decide)
      · refine hm_1 hW hP h hx9 (inv_cq hI9 hM) pk (by omega) (fun M1 h1 u v => ?_)
        refine en_iinc h dL_holds_486 rfl (by decide) ?_
        refine en_goto (tgt := 300) h dL_holds_489 (by decide) ?_
        exact ih (k + 1) (by omega) M1 (cq_tr h1 hM) u v c d
theorem hb_loop {κ : en_C} {m : en_M} (hW : en_Wok (en_w κ)) (hP : HasL (en_w κ)) (h : en_Ok κ RL cL_holds 10 wsL_holds rm_L_holds) (hx9 : en_Xs κ) (hI9 : INV m) (hN : NN m) (K : ∀ M, cq M m → ∀ a b c d e, en_G κ 297 (hms (gs_is (m 5) (m 0 0).toNat) 1 a b c d e) [] M 165 (6 * 165)) : ∀ (f k : Nat), f + k = (m 0 0).toNat → ∀ M, cq M m → ∀ a b c d, en_G κ 8 (hms (gs_is (m 5) k) 1 k a b c d) [] M (33 * k) (6 * (33 * k)) := by
  have hI : ∀ k, 200 ≤ k → k < 204 → en_in κ k := hP.2.2.1
  have n := inv_n hI9
  intro f
  induction f with
  | zero =>
    intro k hk M hM a b c d
    have eN : M 200 0 = m 0 0 := (NN_cq hN hM).1.trans (by rw [hM.1 0 (by decide)])
    refine en_iload (i := 5) h dL_holds_8 rfl ?_
    refine en_aload_n (i := 1) h dL_holds_10 rfl rfl ?_
    refine en_iconst h dL_holds_11 ?_
    refine en_iaload h dL_holds_12 (hI _ (by omega) (by omega)) rfl (by omega) eN ?_
    refine en_icmp_ge (tgt := 297) h dL_holds_13 (by decide) (by omega) (by omega) (fun c_13 => ?_) (fun c_13 => ?_)
    · rw [show k = (m 0 0).toNat by omega]
      exact en_upk (by omega) (K M hM _ _ _ _ _)
    · exact absurd c_13 (by omega)
  | succ f ih =>
    intro k hk M hM a b c d
    have eN : M 200 0 = m 0 0 := (NN_cq hN hM).1.trans (by rw [hM.1 0 (by decide)])
    have pk : pB m (k : Int) := by omega
    have pk1 : pB M (k : Int) := by
      unfold pB
      rw [hM.1 0 (by decide)]
      exact pk
    have r := lk_rng hI9.1 (k : Int) (by omega) (by omega)
    refine en_iload (i := 5) h dL_holds_8 rfl ?_
    refine en_aload_n (i := 1) h dL_holds_10 rfl rfl ?_
    refine en_iconst h dL_holds_11 ?_
    refine en_iaload h dL_holds_12 (hI _ (by omega) (by omega)) rfl (by omega) eN ?_
    refine en_icmp_ge (tgt := 297) h dL_holds_13 (by decide) (by omega) (by omega) (fun c_13 => ?_) (fun c_13 => ?_)
    · exact absurd c_13 (by omega)
    · refine en_iload (i := 4) h dL_holds_16 rfl ?_
      refine en_if_eq (tgt := 297) h dL_holds_18 (by decide) (by omega) (fun c_18 => ?_) (fun c_18 => ?_)
      · exact absurd c_18 (by decide)
      · refine en_aload_n (i := 0) h dL_holds_21 rfl rfl ?_
        refine en_iload (i := 5) h dL_holds_22 rfl ?_
        refine en_cS (q := 1) (B := 500) h hx9 (K_reference hW hP.1 (en_Xs_l hx9) (inv_cq hI9 hM) (by constructor <;> omega)) my_L_reference gL_holds_L_reference rfl rfl ⟨by decide, by decide⟩ ⟨rfl, rfl⟩ ⟨rfl, rfl⟩ (by omega) (Nat.le_of_ble_eq_true rfl) dL_holds_24 (fun r M1 hp => ?_)
        obtain ⟨rfl, e9⟩ := hp
        rw [e9, w_reference_r pk1, hM.1 5 (by decide)]
        refine en_istore (i := 6) h dL_holds_27 (by decide) ?_
        refine en_iconst h dL_holds_29 ?_
        refine en_istore (i := 7) h dL_holds_30 (by decide) ?_
        refine en_iconst h dL_holds_32 ?_
        refine en_istore (i := 8) h dL_holds_33 (by decide) ?_
        refine en_iconst h dL_holds_35 ?_
        refine en_istore (i := 9) h dL_holds_36 (by decide) ?_
        refine hl_size (c := 33 * k + 1) hW hP h hx9 hI9 hN pk (by omega) (fun M2 h2 => ?_) (m 0 0).toNat 0 (by omega) M hM
        refine en_iconst h dL_holds_73 ?_
        refine en_istore (i := 9) h dL_holds_74 (by decide) ?_
        refine hl_many (c := 33 * k + 1 + 5) hW hP h hx9 hI9 hN (by constructor <;> omega) (by omega) (fun M3 h3 => ?_) (m 21 1).toNat 0 (by omega) M2 h2
        have z := hk_all (m := M3) (b := (k : Int)) (r3 := gs_is (m 5) k) (x9 := m 21 1) (c := 33 * k + 1 + 5 + 10) hW hP h hx9 (inv_cq hI9 h3) (NN_cq hN h3) (by unfold pB; rw [h3.1 0 (by decide)]; exact pk) (by omega)
        rw [h3.1 5 (by decide), h3.1 0 (by decide), h3.1 21 (by decide), cq_io h3] at z
        refine z (fun M4 h4 => ?_)
        refine en_iinc h dL_holds_291 rfl (by decide) ?_
        refine en_goto (tgt := 8) h dL_holds_294 (by decide) ?_
        exact ih (k + 1) (by omega) M4 (cq_tr h4 h3) _ _ _ _
set_option maxRecDepth 100000 in
set_option maxHeartbeats 4000000 in
theorem k_L_holds {l : Launch} {w : en_W} {m : en_M} (hw : en_Wok w) (hp : HasL w) (hl : l.stackTraces = false) (hI9 : INV m) (hN : NN m) : en_MetS l w yL_holds wsL_holds rm_L_holds [en_R 49, en_R 200, en_R 203] m (fun r m' => r = some (en_I 1) ∧ cq m' m) := by
  refine en_metP my_L_holds hw hl (Nat.le_of_ble_eq_true rfl) ?_
  intro κ hl9 hw9 h hf hx9
  subst hw9
  subst hl9
  have hI : ∀ k, 200 ≤ k → k < 204 → en_in κ k := hp.2.2.1
  have n := inv_n hI9
  refine en_iconst h dL_holds_0 ?_
  refine en_istore_n (i := 3) h dL_holds_1 rfl (by decide) ?_
  refine en_iconst h dL_holds_2 ?_
  refine en_istore (i := 4) h dL_holds_3 (by decide) ?_
  refine en_iconst h dL_holds_5 ?_
  refine en_istore (i := 5) h dL_holds_6 (by decide) ?_
  refine hb_loop hw hp h hx9 hI9 hN (fun M hM a b c d e => ?_) (m 0 0).toNat 0 (by omega) m (cq_rf hI9.2.2.2) _ _ _ _
  refine en_iconst h dL_holds_297 ?_
  refine en_istore (i := 5) h dL_holds_298 (by decide) ?_
  refine hm_loop hw hp h hx9 hI9 hN (fun M2 h2 a b c d e => ?_) (m 21 1).toNat 0 (by omega) M hM _ _ _ _
  refine en_iload (i := 4) h dL_holds_492 rfl ?_
  refine en_if_eq (tgt := 509) h dL_holds_494 (by decide) (by omega) (fun c_494 => ?_) (fun c_494 => ?_)
  · exact absurd c_494 (by decide)
  · refine en_aload_n (i := 0) h dL_holds_497 rfl rfl ?_
    have hI2 := inv_cq hI9 h2
    have n2 := inv_n hI2
    refine en_callV h (k_X4_islands hw hp.1 n2.1 (fun b b0 b1 => by have z := inv_rng hI2 b b0 b1; constructor <;> omega)) my_X4_islands gL_holds_X4_islands (hp.1 49 (by decide) (by decide)) rfl rfl rfl rfl ⟨by decide, by decide⟩ ⟨by decide, by decide⟩ (Nat.le_of_ble_eq_true rfl) dL_holds_498 (fun r m' hp => ?_)
    obtain ⟨rfl, e9⟩ := hp
    have is := gs_is_rng (m 5) (m 0 0).toNat
    rw [e9, h2.1 5 (by decide), h2.1 0 (by decide)]
    refine en_iload_n (i := 3) h dL_holds_501 rfl rfl ?_
    refine en_icmp_ne (tgt := 509) h dL_holds_502 (by decide) (by omega) (by omega) (fun c_502 => ?_) (fun c_502 => ?_)
    · exact absurd rfl c_502
    · refine en_iconst h dL_holds_505 ?_
      refine en_goto (tgt := 510) h dL_holds_506 (by decide) ?_
      exact en_zret h hf dL_holds_510 ⟨by decide, by decide⟩ (by omega) ⟨rfl, h2⟩
