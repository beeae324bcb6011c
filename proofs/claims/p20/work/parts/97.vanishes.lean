/-! LAW 11: vanishes: meters, buses, whole -/
theorem tmd_0 {s P : Int} (hP : 0 < P) (h : P ∣ s) : tmd s P = 0 := by
  have b := tmd_b s hP
  have d : P ∣ tmd s P := by
    have z := Int.dvd_add (tmd_d s P) h
    rw [show tmd s P - s + s = tmd s P by omega] at z
    exact z
  obtain ⟨j, hj⟩ := d
  rw [hj] at b ⊢
  have j0 : j = 0 := by
    rcases Int.lt_trichotomy j 0 with c | c | c
    · have z := Int.mul_le_mul_of_nonneg_left (show j ≤ -1 by omega) (show 0 ≤ P by omega)
      omega
    · exact c
    · have z := Int.mul_le_mul_of_nonneg_left (show 1 ≤ j by omega) (show 0 ≤ P by omega)
      omega
  rw [j0, Int.mul_zero]
def vtm (m : en_M) (b P i : Int) : Int := va9 m b i * (w_over m i * pwf P (w_under m i))
def Vst (m : en_M) (b P : Int) (k : Nat) (w s : Int) : Prop := (w = 0 ∨ w = 1) ∧ (-(1000000007 * (k : Int)) ≤ s ∧ s ≤ 1000000007 * (k : Int)) ∧ (w = 1 → obs m (m 5 b) ∧ (∀ i, 0 ≤ i → i < (k : Int) → xm_io m i = m 5 b → w_under m i % P ≠ 0) ∧ P ∣ s - sm (von m (m 5 b)) (vtm m b P) k)
theorem hv_meter {κ : en_C} {m : en_M} {P b s : Int} {c k : Nat} (hW : en_Wok (en_w κ)) (hP : HasL (en_w κ)) (h : en_Ok κ RL cL_vanishes 18 wsL_vanishes rm_L_vanishes) (hx9 : en_Xs κ) (hI9 : INV m) (hN : NN m) (hPP : PP m) (hQQ : QQ m) (hPr : 2 ≤ P ∧ P ≤ 1000000007) (hb : pB m b) (hk : pM m (k : Int)) (hv : Vst m b P k 1 s) (hc : c + 8 ≤ 600) (K : ∀ M, cq M m → ∀ w s', Vst m b P (k + 1) w s' → ∀ a d e f g j, en_G κ 324 (vls P 1 b s' w k a d e f g j) [] M (c + 8) (6 * (c + 8))) : ∀ M, cq M m → ∀ a d e f g j, en_G κ 55 (vls P 1 b s 1 k a d e f g j) [] M c (6 * c) := by
  have hI : ∀ k, 200 ≤ k → k < 204 → en_in κ k := hP.2.2.1
  intro M hM a d e f g j
  have n := inv_n hI9
  have x := inv_xc hI9
  have hl := en_Xs_l hx9
  have hI1 := inv_cq hI9 hM
  have rb := lk_rng hI9.1 b hb.1 (by omega)
  have ri := lk_io hI9.1 hk.1 hk.2
  have pk1 : pM M (k : Int) := by
    unfold pM
    rw [hM.1 21 (by decide)]
    exact hk
  have pb1 : pB M b := by
    unfold pB
    rw [hM.1 0 (by decide)]
    exact hb
  obtain ⟨-, sb, hv1⟩ := hv
  obtain ⟨ho, hu, hd⟩ := hv1 rfl
  refine en_aload_n (i := 0) h dL_vanishes_55 rfl rfl ?_
  refine en_iload (i := 11) h dL_vanishes_56 rfl ?_
  refine en_cS (q := 1) (B := 600) h hx9 (K_counts hW hP.1 hl hI1 (by constructor <;> omega)) my_L_counts gL_vanishes_L_counts rfl rfl ⟨by decide, by decide⟩ ⟨rfl, rfl⟩ ⟨rfl, rfl⟩ (by omega) (Nat.le_of_ble_eq_true rfl) dL_vanishes_58 (fun r M1 hp => ?_)
  obtain ⟨rfl, e9⟩ := hp
  rw [e9, w_counts_r pk1, cq_io hM]
  refine en_aload_n (i := 0) h dL_vanishes_61 rfl rfl ?_
  refine en_iload (i := 7) h dL_vanishes_62 rfl ?_
  refine en_cS (q := 1) (B := 600) h hx9 (K_reference hW hP.1 hl hI1 (by constructor <;> omega)) my_L_reference gL_vanishes_L_reference rfl rfl ⟨by decide, by decide⟩ ⟨rfl, rfl⟩ ⟨rfl, rfl⟩ (by omega) (Nat.le_of_ble_eq_true rfl) dL_vanishes_64 (fun r M2 hp => ?_)
  obtain ⟨rfl, e9⟩ := hp
  rw [e9, w_reference_r pb1, hM.1 5 (by decide)]
  refine en_icmp_ne (tgt := 324) h dL_vanishes_67 (by decide) (by constructor <;> omega) (by constructor <;> omega) (fun c_67 => ?_) (fun c_67 => ?_)
  · refine en_upk (by omega) (K M hM 1 s ⟨Or.inr rfl, by omega, fun _ => ⟨ho, fun i i0 i1 hi => ?_, ?_⟩⟩ _ _ _ _ _ _)
    · by_cases ei : i = (k : Int)
      · rw [ei] at hi
        exact absurd hi c_67
      · exact hu i i0 (by omega) hi
    · simp only [sm]
      rw [if_neg (show ¬ von m (m 5 b) (k : Int) = true from fun z => c_67 (of_decide_eq_true z))]
      exact hd
  · have q5 := ri.2.2 (by omega)
    have iu : xm_iu m (k : Int) = m 5 b := by rw [q5.2.2, c_67]
    have D := lk_pos hI9.1 x.2.2.2 rb.1 ho
    have u0 : 1 ≤ w_under m (k : Int) := by
      rw [w_under_r hk (by rw [iu]; omega) (by rw [iu]; exact ho), iu]
      exact xg_1 D
    have u1 : w_under m (k : Int) ≤ 6442450944000000 := by
      rw [w_under_r hk (by rw [iu]; omega) (by rw [iu]; exact ho), iu]
      exact (tdv_b (xg_pos _ _) (bd_D hI9.1 x.2.2.1 x.2.2.2 (m 5 b) (-1) (by decide)) (by decide)).2
    refine en_iconst h dL_vanishes_70 ?_
    refine en_istore (i := 12) h dL_vanishes_71 (by decide) ?_
    refine en_iconst h dL_vanishes_73 ?_
    refine en_istore (i := 13) h dL_vanishes_74 (by decide) ?_
    refine hv_line hP h hI1 (NN_cq hN hM) (PP_cq hPP hM) (QQ_cq hQQ hM) pb1 pk1 (fun d e f g j => ?_) (M 0 1).toNat 0 (by omega) _ _ _ _
    rw [xm_gr_ag (cq_ag hM) (x.2.2.1.2.1 _ hk.1 hk.2).1]
    refine en_aload_n (i := 0) h dL_vanishes_249 rfl rfl ?_
    refine en_iload (i := 11) h dL_vanishes_250 rfl ?_
    refine en_cS (q := 3) (B := 600) h hx9 (K_under hW hP.1 hl hI1 (by constructor <;> omega)) my_L_under gL_vanishes_L_under rfl rfl ⟨by decide, by decide⟩ ⟨rfl, rfl⟩ ⟨rfl, rfl⟩ (by omega) (Nat.le_of_ble_eq_true rfl) dL_vanishes_252 (fun r M3 hp => ?_)
    obtain ⟨rfl, hq3⟩ := hp
    rw [q_under hM hI9 hk]
    have h3 := cq_tr hq3 hM
    have hI3 := inv_cq hI9 h3
    have pk3 : pM M3 (k : Int) := by
      unfold pM
      rw [h3.1 21 (by decide)]
      exact hk
    have qk := QQ_cq hQQ h3 (k : Int) pk3.1 pk3.2
    have wk := (inv_mt hI9 (k : Int) hk.1 hk.2).2.2.2
    have gk := (x.2.2.1.2.1 _ hk.1 hk.2).2.2.2 b hb.1 (by omega)
    have e25 : M3 25 (k : Int) = m 25 (k : Int) := by rw [h3.1 25 (by decide)]
    have ab : -32 ≤ va9 m b (k : Int) ∧ va9 m b (k : Int) ≤ 32 := by
      have p1 := mb_mul (x := m 25 (k : Int)) (y := m 25 (k : Int)) (A := 2) (B := 2) (by omega) (by omega)
      have p2 := mb_mul (x := m 25 (k : Int) * m 25 (k : Int)) (y := xm_gr m (k : Int) b) (A := 4) (B := 8) (by omega) (by omega)
      unfold va9
      omega
    have ro := rg_over hI9 (k : Int)
    have t1 := tmd_b (w_over m (k : Int)) (show 0 < P by omega)
    have pw1 : 0 ≤ pwf P (w_under m (k : Int)) ∧ pwf P (w_under m (k : Int)) < P := ⟨Int.emod_nonneg _ (by omega), Int.emod_lt_of_pos _ (by omega)⟩
    have p3 := mb_mul (x := tmd (w_over m (k : Int)) P) (y := pwf P (w_under m (k : Int))) (A := 1000000007) (B := 1000000007) (by omega) (by omega)
    have t2 := tmd_b (tmd (w_over m (k : Int)) P * pwf P (w_under m (k : Int))) (show 0 < P by omega)
    have p4 := mb_mul (x := va9 m b (k : Int)) (y := tmd (tmd (w_over m (k : Int)) P * pwf P (w_under m (k : Int))) P) (A := 32) (B := 1000000007) (by omega) (by omega)
    have t3 := tmd_b (va9 m b (k : Int) * tmd (tmd (w_over m (k : Int)) P * pwf P (w_under m (k : Int))) P) (show 0 < P by omega)
    have r316 : en_i64 (tmd (w_over m (k : Int)) P * pwf P (w_under m (k : Int))) := ⟨by omega, by omega⟩
    have r320 : en_i64 (va9 m b (k : Int) * tmd (tmd (w_over m (k : Int)) P * pwf P (w_under m (k : Int))) P) := ⟨by omega, by omega⟩
    have sb2 : -(1000000007 * ((k + 1 : Nat) : Int)) ≤ s + tmd (va9 m b (k : Int) * tmd (tmd (w_over m (k : Int)) P * pwf P (w_under m (k : Int))) P) P ∧ s + tmd (va9 m b (k : Int) * tmd (tmd (w_over m (k : Int)) P * pwf P (w_under m (k : Int))) P) P ≤ 1000000007 * ((k + 1 : Nat) : Int) := by
      generalize tmd (va9 m b (k : Int) * tmd (tmd (w_over m (k : Int)) P * pwf P (w_under m (k : Int))) P) P = t9 at t3
      omega
    -- from 274 on, the flag set
    have go : ∀ w, (w = 0 ∨ w = 1) → (w = 1 → w_under m (k : Int) % P ≠ 0) → ∀ f g j, en_G κ 274 (vls P 1 b s w k (some (en_I (xm_gr m (k : Int) b))) (some (en_L (w_under m (k : Int)))) none f g j) [] M3 (c + 1 + 1 + 3) (6 * (c + 1 + 1 + 3)) := by
      intro w w01 hw f g j
      refine en_lload (i := 8) h dL_vanishes_274 rfl ?_
      refine en_aload_n (i := 3) h dL_vanishes_276 rfl rfl ?_
      refine en_iconst h dL_vanishes_277 ?_
      refine en_iload (i := 11) h dL_vanishes_278 rfl ?_
      refine en_imul h dL_vanishes_280 ?_
      refine en_iconst h dL_vanishes_281 ?_
      refine en_iadd h dL_vanishes_282 ?_
      refine en_iaload h dL_vanishes_283 (hI _ (by omega) (by omega)) rfl (by omega) (qk.2.2.trans e25) ?_
      refine en_aload_n (i := 3) h dL_vanishes_284 rfl rfl ?_
      refine en_iconst h dL_vanishes_285 ?_
      refine en_iload (i := 11) h dL_vanishes_286 rfl ?_
      refine en_imul h dL_vanishes_288 ?_
      refine en_iconst h dL_vanishes_289 ?_
      refine en_iadd h dL_vanishes_290 ?_
      refine en_iaload h dL_vanishes_291 (hI _ (by omega) (by omega)) rfl (by omega) (qk.2.2.trans e25) ?_
      refine en_imul h dL_vanishes_292 ?_
      refine en_iload (i := 12) h dL_vanishes_293 rfl ?_
      refine en_imul h dL_vanishes_295 ?_
      refine en_i2l h dL_vanishes_296 (by unfold va9 at ab; constructor <;> omega) ?_
      refine en_aload_n (i := 0) h dL_vanishes_297 rfl rfl ?_
      refine en_iload (i := 11) h dL_vanishes_298 rfl ?_
      refine en_cS (q := 3) (B := 600) h hx9 (K_over hW hP.1 hl hI3 (by constructor <;> omega)) my_L_over gL_vanishes_L_over rfl rfl ⟨by decide, by decide⟩ ⟨rfl, rfl⟩ ⟨rfl, rfl⟩ (by omega) (Nat.le_of_ble_eq_true rfl) dL_vanishes_300 (fun r M4 hp => ?_)
      obtain ⟨rfl, hq4⟩ := hp
      rw [q_over h3 hI9 hk]
      refine en_lload (i := 4) h dL_vanishes_303 rfl ?_
      refine en_lrem h dL_vanishes_305 ro.1 ⟨by omega, by omega⟩ ?_
      refine en_lload (i := 13) h dL_vanishes_306 rfl ?_
      refine en_lload (i := 4) h dL_vanishes_308 rfl ?_
      refine en_callS h (k_L_power hW (u := w_under m (k : Int)) (P := P) (by omega) hPr) my_L_power gL_vanishes_L_power rfl rfl ⟨by decide, by decide⟩ ⟨show _ + 0 ≤ 600 by omega, show _ + 0 ≤ 3600 by omega⟩ (Nat.le_of_ble_eq_true rfl) dL_vanishes_310 (fun r M5 hp => ?_)
      obtain ⟨rfl, e9⟩ := hp
      rw [e9]
      refine en_lmul h dL_vanishes_313 ?_
      refine en_lload (i := 4) h dL_vanishes_314 rfl ?_
      refine en_lrem h dL_vanishes_316 r316 ⟨by omega, by omega⟩ ?_
      refine en_lmul h dL_vanishes_317 ?_
      refine en_lload (i := 4) h dL_vanishes_318 rfl ?_
      refine en_lrem h dL_vanishes_320 r320 ⟨by omega, by omega⟩ ?_
      refine en_ladd h dL_vanishes_321 ?_
      refine en_lstore (i := 8) h dL_vanishes_322 (by decide) ?_
      refine K M4 (cq_tr hq4 h3) w _ ⟨w01, sb2, fun hw1 => ⟨ho, fun i i0 i1 hi => ?_, ?_⟩⟩ _ _ _ _ _ _
      · by_cases ei : i = (k : Int)
        · rw [ei]
          exact hw hw1
        · exact hu i i0 (by omega) hi
      · simp only [sm]
        rw [if_pos (show von m (m 5 b) (k : Int) = true from decide_eq_true c_67)]
        have z := Int.dvd_add hd (v_term (va9 m b (k : Int)) (w_over m (k : Int)) (pwf P (w_under m (k : Int))) P)
        have e1 : s + tmd (va9 m b (k : Int) * tmd (tmd (w_over m (k : Int)) P * pwf P (w_under m (k : Int))) P) P - (sm (von m (m 5 b)) (vtm m b P) k + vtm m b P (k : Int)) = s - sm (von m (m 5 b)) (vtm m b P) k + (tmd (va9 m b (k : Int) * tmd (tmd (w_over m (k : Int)) P * pwf P (w_under m (k : Int))) P) P - va9 m b (k : Int) * (w_over m (k : Int) * pwf P (w_under m (k : Int)))) := by
          unfold vtm
          omega
        rw [← e1] at z
        exact z
    have em0 := Int.emod_nonneg (w_under m (k : Int)) (show P ≠ 0 by omega)
    have em1 := Int.emod_lt_of_pos (w_under m (k : Int)) (show 0 < P by omega)
    refine en_lstore (i := 13) h dL_vanishes_255 (by decide) ?_
    refine en_lload (i := 13) h dL_vanishes_257 rfl ?_
    refine en_lload (i := 4) h dL_vanishes_259 rfl ?_
    refine en_lremP h dL_vanishes_261 ⟨by omega, by omega⟩ ⟨by omega, by omega⟩ ?_
    refine en_lconst (z := 0) h dL_vanishes_262 rfl ?_
    refine en_lcmpR h dL_vanishes_263 ⟨by omega, by omega⟩ (by decide) ?_
    refine en_if_eq (tgt := 271) h dL_vanishes_264 (by decide) (en_cmp_r _ _) (fun c_264 => ?_) (fun c_264 => ?_)
    · refine en_iconst h dL_vanishes_271 ?_
      refine en_istore (i := 10) h dL_vanishes_272 (by decide) ?_
      exact go 0 (Or.inl rfl) (fun z => absurd z (by decide)) _ _ _
    · refine en_iconst h dL_vanishes_267 ?_
      refine en_goto (tgt := 272) h dL_vanishes_268 (by decide) ?_
      refine en_istore (i := 10) h dL_vanishes_272 (by decide) ?_
      exact go 1 (Or.inr rfl) (fun _ z => c_264 ((en_cmp_eq _ _).mpr z)) _ _ _
theorem hv_kloop {κ : en_C} {m : en_M} {P b : Int} {c : Nat} (hW : en_Wok (en_w κ)) (hP : HasL (en_w κ)) (h : en_Ok κ RL cL_vanishes 18 wsL_vanishes rm_L_vanishes) (hx9 : en_Xs κ) (hI9 : INV m) (hN : NN m) (hPP : PP m) (hQQ : QQ m) (hPr : 2 ≤ P ∧ P ≤ 1000000007) (hb : pB m b) (hc : c + 80 ≤ 600) (K : ∀ M, cq M m → ∀ w s i, (w = 0 ∨ w = 1) → (-(1000000007 * 10) ≤ s ∧ s ≤ 1000000007 * 10) → (w = 1 → Vst m b P (m 21 1).toNat 1 s) → ∀ a d e f g j, en_G κ 330 (vls P 1 b s w i a d e f g j) [] M (c + 80) (6 * (c + 80))) : ∀ (f k : Nat), f + k = (m 21 1).toNat → ∀ M, cq M m → ∀ w s, Vst m b P k w s → ∀ a d e f g j, en_G κ 42 (vls P 1 b s w k a d e f g j) [] M (c + 8 * k) (6 * (c + 8 * k)) := by
  have hI : ∀ k, 200 ≤ k → k < 204 → en_in κ k := hP.2.2.1
  have n := inv_n hI9
  intro f
  induction f with
  | zero =>
    intro k hk M hM w s hv a d e f g j
    have eN : M 200 2 = m 21 1 := (NN_cq hN hM).2.2.trans (by rw [hM.1 21 (by decide)])
    obtain ⟨w01, sb, hv1⟩ := id hv
    refine en_iload (i := 11) h dL_vanishes_42 rfl ?_
    refine en_aload_n (i := 1) h dL_vanishes_44 rfl rfl ?_
    refine en_iconst h dL_vanishes_45 ?_
    refine en_iaload h dL_vanishes_46 (hI _ (by omega) (by omega)) rfl (by omega) eN ?_
    refine en_icmp_ge (tgt := 330) h dL_vanishes_47 (by decide) (by omega) (by omega) (fun c_47 => ?_) (fun c_47 => ?_)
    · refine en_upk (by omega) (K M hM w s _ w01 (by omega) (fun hw => ?_) _ _ _ _ _ _)
      rw [show (m 21 1).toNat = k by omega]
      rw [hw] at hv
      exact hv
    · exact absurd c_47 (by omega)
  | succ f ih =>
    intro k hk M hM w s hv a d e f9 g j
    have eN : M 200 2 = m 21 1 := (NN_cq hN hM).2.2.trans (by rw [hM.1 21 (by decide)])
    obtain ⟨w01, sb, hv1⟩ := id hv
    refine en_iload (i := 11) h dL_vanishes_42 rfl ?_
    refine en_aload_n (i := 1) h dL_vanishes_44 rfl rfl ?_
    refine en_iconst h dL_vanishes_45 ?_
    refine en_iaload h dL_vanishes_46 (hI _ (by omega) (by omega)) rfl (by omega) eN ?_
    refine en_icmp_ge (tgt := 330) h dL_vanishes_47 (by decide) (by omega) (by omega) (fun c_47 => ?_) (fun c_47 => ?_)
    · exact absurd c_47 (by omega)
    · refine en_iload (i := 10) h dL_vanishes_50 rfl ?_
      refine en_if_eq (tgt := 330) h dL_vanishes_52 (by decide) (by omega) (fun c_52 => ?_) (fun c_52 => ?_)
      · refine en_upk (by omega) (K M hM w s _ w01 (by omega) (fun hw => absurd (hw.symm.trans c_52) (by decide)) _ _ _ _ _ _)
      · have w1 : w = 1 := by omega
        subst w1
        refine hv_meter (k := k) hW hP h hx9 hI9 hN hPP hQQ hPr hb ⟨by omega, by omega⟩ hv (by omega) (fun M1 h1 w' s' hv' a d e f9 g j => ?_) M hM _ _ _ _ _ _
        refine en_iinc h dL_vanishes_324 rfl (by decide) ?_
        refine en_goto (tgt := 42) h dL_vanishes_327 (by decide) ?_
        exact ih (k + 1) (by omega) M1 h1 w' s' hv' _ _ _ _ _ _
abbrev vbs (P b : Int) (p q r t a d e f g j : Option en_V) : List (Option en_V) := [some (en_R 49), some (en_R 200), some (en_R 202), some (en_R 203), some (en_L P), none, some (en_I 1), some (en_I b), p, q, r, t, a, d, e, f, g, j]
theorem hv_bus {κ : en_C} {m : en_M} {P : Int} (hW : en_Wok (en_w κ)) (hP : HasL (en_w κ)) (h : en_Ok κ RL cL_vanishes 18 wsL_vanishes rm_L_vanishes) (hf : en_fin κ rm_L_vanishes (some .boolean) (fun r m' => r = some (en_I 1) ∧ cq m' m)) (hx9 : en_Xs κ) (hI9 : INV m) (hN : NN m) (hPP : PP m) (hQQ : QQ m) (hPr : 2 ≤ P ∧ P ≤ 1000000007) (hpr : pr P.toNat) : ∀ (f k : Nat), f + k = (m 0 0).toNat → ∀ M, cq M m → ∀ p q r t a d e f g j, en_G κ 6 (vbs P k p q r t a d e f g j) [] M (82 * k) (6 * (82 * k)) := by
  have hI : ∀ k, 200 ≤ k → k < 204 → en_in κ k := hP.2.2.1
  have n := inv_n hI9
  have hl := en_Xs_l hx9
  intro f
  induction f with
  | zero =>
    intro k hk M hM p q r t a d e f g j
    have eN : M 200 0 = m 0 0 := (NN_cq hN hM).1.trans (by rw [hM.1 0 (by decide)])
    refine en_upk (c' := 600) (by omega) ?_
    refine en_iload (i := 7) h dL_vanishes_6 rfl ?_
    refine en_aload_n (i := 1) h dL_vanishes_8 rfl rfl ?_
    refine en_iconst h dL_vanishes_9 ?_
    refine en_iaload h dL_vanishes_10 (hI _ (by omega) (by omega)) rfl (by omega) eN ?_
    refine en_icmp_ge (tgt := 369) h dL_vanishes_11 (by decide) (by omega) (by omega) (fun c_11 => ?_) (fun c_11 => ?_)
    · refine en_iload (i := 6) h dL_vanishes_369 rfl ?_
      exact en_zret h hf dL_vanishes_371 ⟨by decide, by decide⟩ (by omega) ⟨rfl, hM⟩
    · exact absurd c_11 (by omega)
  | succ f ih =>
    intro k hk M hM p q r t a d e f9 g j
    have eN : M 200 0 = m 0 0 := (NN_cq hN hM).1.trans (by rw [hM.1 0 (by decide)])
    have pk : pB m (k : Int) := by omega
    have pk1 : pB M (k : Int) := by
      unfold pB
      rw [hM.1 0 (by decide)]
      exact pk
    have rk := lk_rng hI9.1 (k : Int) (by omega) (by omega)
    -- from 356 on
    have g356 : ∀ M, cq M m → ∀ p q r t a d e f9 g j, en_G κ 356 (vbs P k p q r t a d e f9 g j) [] M (82 * (k + 1)) (6 * (82 * (k + 1))) := by
      intro M hM p q r t a d e f9 g j
      refine en_iconst h dL_vanishes_356 ?_
      refine en_goto (tgt := 361) h dL_vanishes_357 (by decide) ?_
      refine en_istore (i := 6) h dL_vanishes_361 (by decide) ?_
      refine en_iinc h dL_vanishes_363 rfl (by decide) ?_
      refine en_goto (tgt := 6) h dL_vanishes_366 (by decide) ?_
      exact ih (k + 1) (by omega) M hM _ _ _ _ _ _ _ _ _ _
    -- from 39 on
    have g39 : ∀ w, (w = 0 ∨ w = 1) → (w = 1 → obs m (m 5 (k : Int))) → ∀ M, cq M m → ∀ t a d e f9 g j, en_G κ 39 (vbs P k (some (en_L 0)) none (some (en_I w)) t a d e f9 g j) [] M (82 * k + 1) (6 * (82 * k + 1)) := by
      intro w w01 hw M hM t a d e f9 g j
      refine en_iconst h dL_vanishes_39 ?_
      refine en_istore (i := 11) h dL_vanishes_40 (by decide) ?_
      refine hv_kloop (c := 82 * k + 1) hW hP h hx9 hI9 hN hPP hQQ hPr pk (by omega) (fun M1 h1 w s i w01 sb hv a d e f9 g j => ?_) (m 21 1).toNat 0 (by omega) M hM w 0 ⟨w01, by omega, fun z => ⟨hw z, fun i i0 i1 => absurd i1 (by omega), by simp [sm]⟩⟩ _ _ _ _ _ _
      have hI1 := inv_cq hI9 h1
      have pk2 : pB M1 (k : Int) := by
        unfold pB
        rw [h1.1 0 (by decide)]
        exact pk
      refine en_iload (i := 10) h dL_vanishes_330 rfl ?_
      refine en_if_eq (tgt := 356) h dL_vanishes_332 (by decide) (by omega) (fun c_332 => ?_) (fun c_332 => ?_)
      · exact en_upk (by omega) (g356 M1 h1 _ _ _ _ _ _ _ _ _ _)
      · have w1 : w = 1 := by omega
        subst w1
        obtain ⟨-, -, hv1⟩ := hv rfl
        obtain ⟨ho, hu, hd⟩ := hv1 rfl
        refine en_aload_n (i := 0) h dL_vanishes_335 rfl rfl ?_
        refine en_iload (i := 7) h dL_vanishes_336 rfl ?_
        refine en_cS (q := 1) (B := 600) h hx9 (K_reference hW hP.1 hl hI1 (by constructor <;> omega)) my_L_reference gL_vanishes_L_reference rfl rfl ⟨by decide, by decide⟩ ⟨rfl, rfl⟩ ⟨rfl, rfl⟩ (by omega) (Nat.le_of_ble_eq_true rfl) dL_vanishes_338 (fun r M2 hp => ?_)
        obtain ⟨rfl, e9⟩ := hp
        rw [e9, w_reference_r pk2, h1.1 5 (by decide)]
        refine en_iload (i := 7) h dL_vanishes_341 rfl ?_
        refine en_icmp_eq (tgt := 356) h dL_vanishes_343 (by decide) (by omega) (by omega) (fun c_343 => ?_) (fun c_343 => ?_)
        · exact en_upk (by omega) (g356 M1 h1 _ _ _ _ _ _ _ _ _ _)
        · have z := v_zero hI9 hpr pk c_343 ho (fun i i0 i1 => hu i i0 (by omega))
          have ds : P ∣ s := by
            have y := Int.dvd_add hd z
            have e1 : s - sm (von m (m 5 (k : Int))) (vtm m (k : Int) P) (m 21 1).toNat + sm (von m (m 5 (k : Int))) (fun i => va9 m (k : Int) i * (w_over m i * pwf P (w_under m i))) (m 21 1).toNat = s := by
              have e2 : sm (von m (m 5 (k : Int))) (fun i => va9 m (k : Int) i * (w_over m i * pwf P (w_under m i))) (m 21 1).toNat = sm (von m (m 5 (k : Int))) (vtm m (k : Int) P) (m 21 1).toNat := rfl
              omega
            rw [e1] at y
            exact y
          have t0 : s - s.tdiv P * P = 0 := tmd_0 (by omega) ds
          refine en_lload (i := 8) h dL_vanishes_346 rfl ?_
          refine en_lload (i := 4) h dL_vanishes_348 rfl ?_
          refine en_lrem h dL_vanishes_350 ⟨by omega, by omega⟩ ⟨by omega, by omega⟩ ?_
          rw [t0]
          refine en_lconst (z := 0) h dL_vanishes_351 rfl ?_
          refine en_lcmpR h dL_vanishes_352 (by decide) (by decide) ?_
          refine en_if_ne (tgt := 360) h dL_vanishes_353 (by decide) (by decide) (fun c_353 => ?_) (fun c_353 => ?_)
          · exact absurd (show en_cmp _ _ = 0 by decide) c_353
          · exact en_upk (by omega) (g356 M1 h1 _ _ _ _ _ _ _ _ _ _)
    refine en_iload (i := 7) h dL_vanishes_6 rfl ?_
    refine en_aload_n (i := 1) h dL_vanishes_8 rfl rfl ?_
    refine en_iconst h dL_vanishes_9 ?_
    refine en_iaload h dL_vanishes_10 (hI _ (by omega) (by omega)) rfl (by omega) eN ?_
    refine en_icmp_ge (tgt := 369) h dL_vanishes_11 (by decide) (by omega) (by omega) (fun c_11 => ?_) (fun c_11 => ?_)
    · exact absurd c_11 (by omega)
    · refine en_iload (i := 6) h dL_vanishes_14 rfl ?_
      refine en_if_eq (tgt := 369) h dL_vanishes_16 (by decide) (by omega) (fun c_16 => ?_) (fun c_16 => ?_)
      · exact absurd c_16 (by decide)
      · refine en_lconst (z := 0) h dL_vanishes_19 rfl ?_
        refine en_lstore (i := 8) h dL_vanishes_20 (by decide) ?_
        refine en_aload_n (i := 0) h dL_vanishes_22 rfl rfl ?_
        refine en_iload (i := 7) h dL_vanishes_23 rfl ?_
        refine en_cS (q := 1) (B := 600) h hx9 (K_observable hW hP.1 hl (inv_cq hI9 hM) (by constructor <;> omega)) my_L_observable gL_vanishes_L_observable rfl rfl ⟨by decide, by decide⟩ ⟨rfl, rfl⟩ ⟨rfl, rfl⟩ (by omega) (Nat.le_of_ble_eq_true rfl) dL_vanishes_25 (fun r M1 hp => ?_)
        obtain ⟨rfl, hq⟩ := hp
        have e5 : M 5 (k : Int) = m 5 (k : Int) := by rw [hM.1 5 (by decide)]
        rw [w_observable_r pk1, e5]
        by_cases ho : obs M (m 5 (k : Int))
        · rw [if_pos ho]
          refine en_iconst h dL_vanishes_28 ?_
          refine en_icmp_ne (tgt := 36) h dL_vanishes_29 (by decide) (by omega) (by omega) (fun c_29 => ?_) (fun c_29 => ?_)
          · exact absurd rfl c_29
          · refine en_iconst h dL_vanishes_32 ?_
            refine en_goto (tgt := 37) h dL_vanishes_33 (by decide) ?_
            refine en_istore (i := 10) h dL_vanishes_37 (by decide) ?_
            exact g39 1 (Or.inr rfl) (fun _ => (obs_q hM hI9 _).mp ho) M1 (cq_tr hq hM) _ _ _ _ _ _ _
        · rw [if_neg ho]
          refine en_iconst h dL_vanishes_28 ?_
          refine en_icmp_ne (tgt := 36) h dL_vanishes_29 (by decide) (by omega) (by omega) (fun c_29 => ?_) (fun c_29 => ?_)
          · refine en_iconst h dL_vanishes_36 ?_
            refine en_istore (i := 10) h dL_vanishes_37 (by decide) ?_
            exact g39 0 (Or.inl rfl) (fun z => absurd z (by decide)) M1 (cq_tr hq hM) _ _ _ _ _ _ _
          · exact absurd c_29 (by decide)
set_option maxRecDepth 100000 in
set_option maxHeartbeats 4000000 in
theorem k_L_vanishes {l : Launch} {w : en_W} {m : en_M} {P : Int} (hw : en_Wok w) (hp : HasL w) (hl : l.stackTraces = false) (hI9 : INV m) (hN : NN m) (hPP : PP m) (hQQ : QQ m) (hPr : 2 ≤ P ∧ P ≤ 1000000007) (hpr : pr P.toNat) : en_MetS l w yL_vanishes wsL_vanishes rm_L_vanishes [en_R 49, en_R 200, en_R 202, en_R 203, en_L P] m (fun r m' => r = some (en_I 1) ∧ cq m' m) := by
  refine en_metP my_L_vanishes hw hl (Nat.le_of_ble_eq_true rfl) ?_
  intro κ hl9 hw9 h hf hx9
  subst hw9
  subst hl9
  have hI : ∀ k, 200 ≤ k → k < 204 → en_in κ k := hp.2.2.1
  have n := inv_n hI9
  refine en_iconst h dL_vanishes_0 ?_
  refine en_istore (i := 6) h dL_vanishes_1 (by decide) ?_
  refine en_iconst h dL_vanishes_3 ?_
  refine en_istore (i := 7) h dL_vanishes_4 (by decide) ?_
  exact hv_bus hw hp h hf hx9 hI9 hN hPP hQQ hPr hpr (m 0 0).toNat 0 (by omega) m (cq_rf hI9.2.2.2) _ _ _ _ _ _ _ _ _ _
