/-! LAW 12: alike: both grids -/
abbrev rm_L_alike : Room := { frames := 10, cells := 400, slots := 2400, locals := 201 }
theorem my_L_alike : en_MY yL_alike RL cL_alike 8 (some .boolean) wsL_alike 4 := ⟨⟨_, rfl⟩, rfl, by decide, by decide, by decide +kernel, by decide +kernel⟩
set_option maxRecDepth 20000 in
theorem cn_L_alike_60 : Cond.constantLong RL 60 (-4000000000000000003) ∈ wsL_alike := by decide +kernel
theorem q_reference {M m : en_M} (h : cq M m) (b : Int) : w_reference M b = w_reference m b := by
  unfold w_reference
  rw [h.1 5 (by decide)]
  exact ite_c (by unfold pB; rw [h.1 0 (by decide)]) (fun _ => rfl) (fun _ => rfl)
theorem q_pB {M m : en_M} (h : cq M m) (b : Int) : pB M b ↔ pB m b := by
  unfold pB
  rw [h.1 0 (by decide)]
theorem q_pM {M m : en_M} (h : cq M m) (b : Int) : pM M b ↔ pM m b := by
  unfold pM
  rw [h.1 21 (by decide)]
theorem q_rank {M m : en_M} (h : cq M m) (hI : INV m) (b : Int) : w_rank M b = w_rank m b := by
  unfold w_rank
  refine ite_c (q_pB h b) (fun _ => ?_) (fun _ => rfl)
  rw [h.1 5 (by decide), xm_rk_ag (cq_ag h) (inv_xc hI).2.2.1]
theorem q_obs {M m : en_M} (h : cq M m) (hI : INV m) (b : Int) : obs M (M 5 b) ↔ obs m (m 5 b) := obs_cq h hI b
theorem q_top {M m : en_M} (h : cq M m) (hI : INV m) (b : Int) : w_top M b = w_top m b := by
  unfold w_top
  refine ite_c (q_pB h b) (fun _ => ite_c (q_obs h hI b) (fun _ => ?_) (fun _ => rfl)) (fun _ => rfl)
  rw [h.1 5 (by decide), gl_D_ag (cq_ag h) (inv_xc hI).2.2.1, gl_D_ag (cq_ag h) (inv_xc hI).2.2.1]
theorem q_bottom {M m : en_M} (h : cq M m) (hI : INV m) (b : Int) : w_bottom M b = w_bottom m b := by
  unfold w_bottom
  refine ite_c (q_pB h b) (fun _ => ite_c (q_obs h hI b) (fun _ => ?_) (fun _ => rfl)) (fun _ => rfl)
  rw [h.1 5 (by decide), gl_D_ag (cq_ag h) (inv_xc hI).2.2.1, gl_D_ag (cq_ag h) (inv_xc hI).2.2.1]
theorem q_wm {M m : en_M} (h : cq M m) (hI : INV m) (q : Int) : xe_wm M q = xe_wm m q := by
  have x := inv_xc hI
  have n := inv_n hI
  unfold xe_wm
  rw [h.1 21 (by decide), gm_wm_cong2 (io' := xm_io m) (ws' := xe_ws m q) (m 21 1).toNat (fun i i0 i1 => ⟨by rw [cq_io h], by unfold xe_ws; rw [h.1 25 (by decide), xe_rs_ag (cq_ag h) x.2.2.1 (x.2.2.1.2.1 i i0 (by omega)).1]⟩)]
theorem q_worst {M m : en_M} (h : cq M m) (hI : INV m) (b : Int) : w_worst M b = w_worst m b := by
  unfold w_worst
  refine ite_c (q_pB h b) (fun _ => ite_c (q_obs h hI b) (fun _ => ?_) (fun _ => rfl)) (fun _ => rfl)
  rw [h.1 5 (by decide), q_wm h hI]
theorem q_counts {M m : en_M} (h : cq M m) (i : Int) : w_counts M i = w_counts m i := by
  unfold w_counts
  rw [cq_io h]
  exact ite_c (q_pM h i) (fun _ => rfl) (fun _ => rfl)
theorem q_critical {M m : en_M} (h : cq M m) (hI : INV m) (i : Int) : w_critical M i = w_critical m i := by
  unfold w_critical
  exact ite_c (q_pM h i) (fun _ => ite_c (xm_nd_ag (cq_ag h) (inv_xc hI).2.2.1 i) (fun _ => rfl) (fun _ => rfl)) (fun _ => rfl)
/-- only scratch of both grids has changed -/
def cqb (M m : en_M) : Prop := (∀ k, (¬ (28 ≤ k ∧ k < 49) ∧ ¬ (128 ≤ k ∧ k < 149)) → M k = m k) ∧ xr_ok M ∧ xr_ok (rnM M)
theorem cqb_rf {m : en_M} (h : xr_ok m) (h2 : xr_ok (rnM m)) : cqb m m := ⟨fun _ _ => rfl, h, h2⟩
theorem cqb_tr {M m m0 : en_M} (h : cqb M m) (h2 : cqb m m0) : cqb M m0 := ⟨fun k hk => (h.1 k hk).trans (h2.1 k hk), h.2⟩
theorem rnM_28 {M m : en_M} (h : M 128 = m 128) : rnM M 28 = rnM m 28 := by
  funext j
  unfold rnM
  rw [if_pos (Or.inl rfl), if_pos (Or.inl rfl), show rn 28 = 128 by decide]
  show rn (M 128 j) = rn (m 128 j)
  rw [h]
theorem cqb_1 {M m : en_M} (h : cq M m) (h2 : xr_ok (rnM m)) : cqb M m := ⟨fun k hk => h.1 k (by omega), h.2, xr_ok_k (rnM_28 (h.1 128 (by decide))) h2⟩
theorem rnM_inj {M m : en_M} {k : Int} (h : rnM M (rn k) = rnM m (rn k)) : M k = m k := by
  funext j
  have z := congrFun h j
  unfold rnM at z
  rw [rn_rn] at z
  by_cases c : rn k = 28 ∨ rn k = 128
  · rw [if_pos c, if_pos c] at z
    rw [← rn_rn (M k j), z, rn_rn]
  · rw [if_neg c, if_neg c] at z
    exact z
theorem cqb_2 {M m : en_M} (h : cq (rnM M) (rnM m)) (h2 : xr_ok m) : cqb M m := by
  have key : ∀ k, ¬ (128 ≤ k ∧ k < 149) → M k = m k := by
    intro k hk
    refine rnM_inj (h.1 (rn k) ?_)
    unfold rn
    split
    · omega
    · split <;> omega
  exact ⟨fun k hk => key k hk.2, xr_ok_k (key 28 (by decide)) h2, h.2⟩
theorem qb_over {M m : en_M} (hb : cqb M m) (hI : INV m) {i : Int} (hi : pM m i) : w_over M i = w_over m i := by
  have x := inv_xc hI
  have ag : en_ag M m := fun k hk => hb.1 k (by omega)
  have pM1 : pM M i := by
    unfold pM
    rw [ag 21 (by decide)]
    exact hi
  unfold w_over
  rw [if_pos hi, if_pos pM1, xm_iu_ag ag]
  refine ite_c (and_congr Iff.rfl (xm_ob_ag ag x.2.2.1)) (fun _ => ?_) (fun _ => rfl)
  rw [xe_rs_ag ag x.2.2.1 (x.2.2.1.2.1 _ hi.1 hi.2).1, gl_D_ag ag x.2.2.1]
theorem cqb_cq {M m : en_M} (h : cqb M m) : (∀ k, (k < 28 ∨ k = 49) → M k = m k) ∧ ∀ k, 200 ≤ k → M k = m k := ⟨fun k hk => h.1 k (by omega), fun k hk => h.1 k (by omega)⟩
theorem rnM_eq {M m : en_M} (h : cqb M m) {k : Int} (hk : k < 28 ∧ 0 ≤ k) : rnM M k = rnM m k := by
  rw [rnM_k (by omega), rnM_k (by omega), rn_lo (by omega)]
  exact h.1 _ (by omega)
abbrev KK (m : en_M) : Prop := ∀ i, 0 ≤ i → i < m 21 1 → m 201 i = m 22 i
/-- what holds of both grids and the law's counts and kinds -/
def LB (m : en_M) : Prop := INV m ∧ INV (rnM m) ∧ tw (rnM m) m ∧ NN m ∧ KK m
theorem inv_lo {M m : en_M} (h : INV m) (hc : ∀ k, 0 ≤ k → k < 28 → M k = m k) (ho : xr_ok M) : INV M := by
  obtain ⟨⟨⟨n0, n1, hl⟩, hm, h5, hg⟩, hu, hz, -⟩ := h
  have e := fun (k : Int) (k0 : 0 ≤ k) (k1 : k < 28) => hc k k0 k1
  refine ⟨⟨?_, ?_, ?_, ⟨fun j b j0 j1 b0 b1 => ?_, fun p b p0 p1 b0 b1 => ?_⟩⟩, ?_, fun j b j0 j1 b0 b1 => ?_, ho⟩
  · unfold xi_ln
    rw [e 0 (by decide) (by decide), e 1 (by decide) (by decide), e 2 (by decide) (by decide), e 3 (by decide) (by decide), e 4 (by decide) (by decide)]
    exact ⟨n0, n1, hl⟩
  · unfold xi_mt
    rw [e 0 (by decide) (by decide), e 21 (by decide) (by decide), e 22 (by decide) (by decide), e 23 (by decide) (by decide), e 24 (by decide) (by decide), e 25 (by decide) (by decide), e 26 (by decide) (by decide)]
    exact hm
  · unfold xl_r
    rw [e 0 (by decide) (by decide), e 1 (by decide) (by decide), e 2 (by decide) (by decide), e 4 (by decide) (by decide), e 5 (by decide) (by decide)]
    exact h5
  · rw [e 0 (by decide) (by decide)] at j1
    rw [e 1 (by decide) (by decide), e 2 (by decide) (by decide), e 3 (by decide) (by decide), e 4 (by decide) (by decide), e (8 + j) (by omega) (by omega)]
    exact hg.1 j b j0 j1 b0 b1
  · rw [e 0 (by decide) (by decide), e 1 (by decide) (by decide), e 2 (by decide) (by decide), e 3 (by decide) (by decide), e 4 (by decide) (by decide), e (16 + p) (by omega) (by omega)]
    exact hg.2 p b p0 p1 b0 b1
  · unfold xl_u
    rw [e 0 (by decide) (by decide), e 1 (by decide) (by decide), e 2 (by decide) (by decide)]
    exact hu
  · rw [e 0 (by decide) (by decide)] at j0
    rw [e (8 + j) (by omega) (by omega)]
    exact hz j b j0 j1 b0 b1
theorem LB_cqb {M m : en_M} (h : LB m) (hc : cqb M m) : LB M := by
  obtain ⟨h1, h2, h3, h4, h5⟩ := h
  refine ⟨inv_lo h1 (fun k k0 k1 => hc.1 k (by omega)) hc.2.1, inv_lo h2 (fun k k0 k1 => rnM_eq hc ⟨k1, k0⟩) hc.2.2, ?_, ?_, ?_⟩
  · unfold tw
    rw [rnM_eq hc (k := 0) (by decide), rnM_eq hc (k := 1) (by decide), rnM_eq hc (k := 2) (by decide), rnM_eq hc (k := 3) (by decide), rnM_eq hc (k := 4) (by decide), rnM_eq hc (k := 21) (by decide), rnM_eq hc (k := 22) (by decide), rnM_eq hc (k := 23) (by decide), rnM_eq hc (k := 24) (by decide), rnM_eq hc (k := 25) (by decide), rnM_eq hc (k := 26) (by decide), hc.1 0 (by decide), hc.1 1 (by decide), hc.1 2 (by decide), hc.1 3 (by decide), hc.1 4 (by decide), hc.1 21 (by decide), hc.1 22 (by decide), hc.1 23 (by decide), hc.1 24 (by decide), hc.1 25 (by decide), hc.1 26 (by decide)]
    exact h3
  · unfold NN
    rw [hc.1 200 (by decide), hc.1 0 (by decide), hc.1 21 (by decide)]
    exact h4
  · unfold KK
    rw [hc.1 201 (by decide), hc.1 22 (by decide), hc.1 21 (by decide)]
    exact h5
/-- a contract for the other grid -/
theorem rn_C {l : Launch} {w : en_W} {y : MethodName} {ws : List Cond} {rm : Room} {Is : List en_V} {m : en_M} {v : en_V} {S : en_M → Prop} (h : HasL w) (hIs : Is.map rnV = Is) (hv : rnV v = v) (hM : en_MetS l (rnW w) y ws rm (en_R 49 :: Is) (rnM m) (fun r m' => r = some v ∧ S m')) : en_MetS l w y ws rm (en_R 149 :: Is) m (fun r m' => r = some v ∧ S (rnM m')) := by
  have e : (en_R 149 :: Is).map rnV = en_R 49 :: Is := by
    rw [List.map_cons, hIs]
    show en_R (rn 149) :: Is = _
    rw [rn_mid (by decide)]
    rfl
  rw [← e] at hM
  refine en_MetS_imp (rn_use h.2.2.2 hM) (fun r m' hq => ⟨?_, hq.2⟩)
  have z := congrArg (Option.map rnV) hq.1
  rw [rn_ro] at z
  rw [z]
  show some (rnV v) = some v
  rw [hv]
abbrev als (g b : Int) (p q : Option en_V) : List (Option en_V) := [some (en_R 49), some (en_R 149), some (en_R 200), some (en_R 201), some (en_I g), some (en_I b), p, q]

theorem al_reference {κ : en_C} {m : en_M} {b : Int} {p q : Option en_V} {c : Nat} (hW : en_Wok (en_w κ)) (hP : HasL (en_w κ)) (h : en_Ok κ RL cL_alike 8 wsL_alike rm_L_alike) (hx9 : en_Xs κ) (hR : LB m) (hb : pB m b) (hc : c + 2 ≤ 400) (K : ∀ M, cqb M m → en_G κ 49 (als 1 b p q) [] M (c + 2) (6 * (c + 2))) : en_G κ 34 (als 1 b p q) [] m c (6 * c) := by
  have n := inv_n hR.1
  have hl := en_Xs_l hx9
  refine en_aload_n (i := 0) h dL_alike_34 rfl rfl ?_
  refine en_iload (i := 5) h dL_alike_35 rfl ?_
  refine en_cS (q := 1) (B := 400) h hx9 (K_reference hW hP.1 hl hR.1 (by constructor <;> omega)) my_L_reference gL_alike_L_reference rfl rfl ⟨by decide, by decide⟩ ⟨rfl, rfl⟩ ⟨rfl, rfl⟩ (by omega) (Nat.le_of_ble_eq_true rfl) dL_alike_37 (fun r M1 hp => ?_)
  obtain ⟨rfl, hq⟩ := hp
  have hq : cq M1 m := by rw [hq]; exact cq_rf hR.1.2.2.2
  have h1 := cqb_1 hq hR.2.1.2.2.2
  have hR1 := LB_cqb hR h1
  have e1 : w_reference (rnM M1) b = w_reference m b := (a_reference hR1.2.2.1 hR1.2.1 hR1.1 b).trans (q_reference hq b)
  refine en_aload_n (i := 1) h dL_alike_40 rfl rfl ?_
  refine en_iload (i := 5) h dL_alike_41 rfl ?_
  refine en_cS (q := 1) (B := 400) h hx9 (rn_C hP rfl rfl (K_reference (rn_Wok hW) (rn_HasL hP).1 hl hR1.2.1 (by constructor <;> omega))) my_L_reference gL_alike_L_reference rfl rfl ⟨by decide, by decide⟩ ⟨rfl, rfl⟩ ⟨rfl, rfl⟩ (by omega) (Nat.le_of_ble_eq_true rfl) dL_alike_43 (fun r M2 hp => ?_)
  obtain ⟨rfl, hq2⟩ := hp
  have hq2 : cq (rnM M2) (rnM M1) := by rw [hq2]; exact cq_rf hR1.2.1.2.2.2
  have h2 := cqb_tr (cqb_2 hq2 hR1.1.2.2.2) h1
  rw [e1]
  have rg := (show en_i32 (w_reference m b) from by have z := lk_rng hR.1.1 b hb.1 (by omega); rw [w_reference_r hb]; constructor <;> omega)
  refine en_icmp_ne (tgt := 115) h dL_alike_46 (by decide) rg rg (fun c_46 => ?_) (fun c_46 => ?_)
  · exact absurd rfl c_46
  · exact K M2 h2
theorem al_rank {κ : en_C} {m : en_M} {b : Int} {p q : Option en_V} {c : Nat} (hW : en_Wok (en_w κ)) (hP : HasL (en_w κ)) (h : en_Ok κ RL cL_alike 8 wsL_alike rm_L_alike) (hx9 : en_Xs κ) (hR : LB m) (hb : pB m b) (hc : c + 2 ≤ 400) (K : ∀ M, cqb M m → en_G κ 64 (als 1 b p q) [] M (c + 2) (6 * (c + 2))) : en_G κ 49 (als 1 b p q) [] m c (6 * c) := by
  have n := inv_n hR.1
  have hl := en_Xs_l hx9
  refine en_aload_n (i := 0) h dL_alike_49 rfl rfl ?_
  refine en_iload (i := 5) h dL_alike_50 rfl ?_
  refine en_cS (q := 1) (B := 400) h hx9 (K_rank hW hP.1 hl hR.1 (by constructor <;> omega)) my_L_rank gL_alike_L_rank rfl rfl ⟨by decide, by decide⟩ ⟨rfl, rfl⟩ ⟨rfl, rfl⟩ (by omega) (Nat.le_of_ble_eq_true rfl) dL_alike_52 (fun r M1 hp => ?_)
  obtain ⟨rfl, hq⟩ := hp
  have h1 := cqb_1 hq hR.2.1.2.2.2
  have hR1 := LB_cqb hR h1
  have e1 : w_rank (rnM M1) b = w_rank m b := (a_rank hR1.2.2.1 hR1.2.1 hR1.1 b).trans (q_rank hq hR.1 b)
  refine en_aload_n (i := 1) h dL_alike_55 rfl rfl ?_
  refine en_iload (i := 5) h dL_alike_56 rfl ?_
  refine en_cS (q := 1) (B := 400) h hx9 (rn_C hP rfl rfl (K_rank (rn_Wok hW) (rn_HasL hP).1 hl hR1.2.1 (by constructor <;> omega))) my_L_rank gL_alike_L_rank rfl rfl ⟨by decide, by decide⟩ ⟨rfl, rfl⟩ ⟨rfl, rfl⟩ (by omega) (Nat.le_of_ble_eq_true rfl) dL_alike_58 (fun r M2 hp => ?_)
  obtain ⟨rfl, hq2⟩ := hp
  have h2 := cqb_tr (cqb_2 hq2 hR1.1.2.2.2) h1
  rw [e1]
  have rg := rg_rank hR.1 b
  refine en_icmp_ne (tgt := 115) h dL_alike_61 (by decide) rg rg (fun c_61 => ?_) (fun c_61 => ?_)
  · exact absurd rfl c_61
  · exact K M2 h2
theorem al_top {κ : en_C} {m : en_M} {b : Int} {p q : Option en_V} {c : Nat} (hW : en_Wok (en_w κ)) (hP : HasL (en_w κ)) (h : en_Ok κ RL cL_alike 8 wsL_alike rm_L_alike) (hx9 : en_Xs κ) (hR : LB m) (hb : pB m b) (hc : c + 4 ≤ 400) (K : ∀ M, cqb M m → en_G κ 80 (als 1 b p q) [] M (c + 4) (6 * (c + 4))) : en_G κ 64 (als 1 b p q) [] m c (6 * c) := by
  have n := inv_n hR.1
  have hl := en_Xs_l hx9
  refine en_aload_n (i := 0) h dL_alike_64 rfl rfl ?_
  refine en_iload (i := 5) h dL_alike_65 rfl ?_
  refine en_cS (q := 2) (B := 400) h hx9 (K_top hW hP.1 hl hR.1 (by constructor <;> omega)) my_L_top gL_alike_L_top rfl rfl ⟨by decide, by decide⟩ ⟨rfl, rfl⟩ ⟨rfl, rfl⟩ (by omega) (Nat.le_of_ble_eq_true rfl) dL_alike_67 (fun r M1 hp => ?_)
  obtain ⟨rfl, hq⟩ := hp
  have h1 := cqb_1 hq hR.2.1.2.2.2
  have hR1 := LB_cqb hR h1
  have e1 : w_top (rnM M1) b = w_top m b := (a_top hR1.2.2.1 hR1.2.1 hR1.1 b).trans (q_top hq hR.1 b)
  refine en_aload_n (i := 1) h dL_alike_70 rfl rfl ?_
  refine en_iload (i := 5) h dL_alike_71 rfl ?_
  refine en_cS (q := 2) (B := 400) h hx9 (rn_C hP rfl rfl (K_top (rn_Wok hW) (rn_HasL hP).1 hl hR1.2.1 (by constructor <;> omega))) my_L_top gL_alike_L_top rfl rfl ⟨by decide, by decide⟩ ⟨rfl, rfl⟩ ⟨rfl, rfl⟩ (by omega) (Nat.le_of_ble_eq_true rfl) dL_alike_73 (fun r M2 hp => ?_)
  obtain ⟨rfl, hq2⟩ := hp
  have h2 := cqb_tr (cqb_2 hq2 hR1.1.2.2.2) h1
  rw [e1]
  have rg := rg_top hR.1 b
  refine en_lcmpR h dL_alike_76 rg rg ?_
  refine en_if_ne (tgt := 115) h dL_alike_77 (by decide) (en_cmp_r _ _) (fun c_77 => ?_) (fun c_77 => ?_)
  · exact absurd ((en_cmp_eq _ _).mpr rfl) c_77
  · exact K M2 h2
theorem al_bottom {κ : en_C} {m : en_M} {b : Int} {p q : Option en_V} {c : Nat} (hW : en_Wok (en_w κ)) (hP : HasL (en_w κ)) (h : en_Ok κ RL cL_alike 8 wsL_alike rm_L_alike) (hx9 : en_Xs κ) (hR : LB m) (hb : pB m b) (hc : c + 4 ≤ 400) (K : ∀ M, cqb M m → en_G κ 96 (als 1 b p q) [] M (c + 4) (6 * (c + 4))) : en_G κ 80 (als 1 b p q) [] m c (6 * c) := by
  have n := inv_n hR.1
  have hl := en_Xs_l hx9
  refine en_aload_n (i := 0) h dL_alike_80 rfl rfl ?_
  refine en_iload (i := 5) h dL_alike_81 rfl ?_
  refine en_cS (q := 2) (B := 400) h hx9 (K_bottom hW hP.1 hl hR.1 (by constructor <;> omega)) my_L_bottom gL_alike_L_bottom rfl rfl ⟨by decide, by decide⟩ ⟨rfl, rfl⟩ ⟨rfl, rfl⟩ (by omega) (Nat.le_of_ble_eq_true rfl) dL_alike_83 (fun r M1 hp => ?_)
  obtain ⟨rfl, hq⟩ := hp
  have h1 := cqb_1 hq hR.2.1.2.2.2
  have hR1 := LB_cqb hR h1
  have e1 : w_bottom (rnM M1) b = w_bottom m b := (a_bottom hR1.2.2.1 hR1.2.1 hR1.1 b).trans (q_bottom hq hR.1 b)
  refine en_aload_n (i := 1) h dL_alike_86 rfl rfl ?_
  refine en_iload (i := 5) h dL_alike_87 rfl ?_
  refine en_cS (q := 2) (B := 400) h hx9 (rn_C hP rfl rfl (K_bottom (rn_Wok hW) (rn_HasL hP).1 hl hR1.2.1 (by constructor <;> omega))) my_L_bottom gL_alike_L_bottom rfl rfl ⟨by decide, by decide⟩ ⟨rfl, rfl⟩ ⟨rfl, rfl⟩ (by omega) (Nat.le_of_ble_eq_true rfl) dL_alike_89 (fun r M2 hp => ?_)
  obtain ⟨rfl, hq2⟩ := hp
  have h2 := cqb_tr (cqb_2 hq2 hR1.1.2.2.2) h1
  rw [e1]
  have rg := rg_bottom hR.1 b
  refine en_lcmpR h dL_alike_92 rg rg ?_
  refine en_if_ne (tgt := 115) h dL_alike_93 (by decide) (en_cmp_r _ _) (fun c_93 => ?_) (fun c_93 => ?_)
  · exact absurd ((en_cmp_eq _ _).mpr rfl) c_93
  · exact K M2 h2
theorem al_worst {κ : en_C} {m : en_M} {b : Int} {p q : Option en_V} {c : Nat} (hW : en_Wok (en_w κ)) (hP : HasL (en_w κ)) (h : en_Ok κ RL cL_alike 8 wsL_alike rm_L_alike) (hx9 : en_Xs κ) (hR : LB m) (hb : pB m b) (hc : c + 4 ≤ 400) (K : ∀ M, cqb M m → en_G κ 111 (als 1 b p q) [] M (c + 4) (6 * (c + 4))) : en_G κ 96 (als 1 b p q) [] m c (6 * c) := by
  have n := inv_n hR.1
  have hl := en_Xs_l hx9
  refine en_aload_n (i := 0) h dL_alike_96 rfl rfl ?_
  refine en_iload (i := 5) h dL_alike_97 rfl ?_
  refine en_cS (q := 2) (B := 400) h hx9 (K_worst hW hP.1 hl hR.1 (by constructor <;> omega)) my_L_worst gL_alike_L_worst rfl rfl ⟨by decide, by decide⟩ ⟨rfl, rfl⟩ ⟨rfl, rfl⟩ (by omega) (Nat.le_of_ble_eq_true rfl) dL_alike_99 (fun r M1 hp => ?_)
  obtain ⟨rfl, hq⟩ := hp
  have h1 := cqb_1 hq hR.2.1.2.2.2
  have hR1 := LB_cqb hR h1
  have e1 : w_worst (rnM M1) b = w_worst m b := (a_worst hR1.2.2.1 hR1.2.1 hR1.1 b).trans (q_worst hq hR.1 b)
  refine en_aload_n (i := 1) h dL_alike_102 rfl rfl ?_
  refine en_iload (i := 5) h dL_alike_103 rfl ?_
  refine en_cS (q := 2) (B := 400) h hx9 (rn_C hP rfl rfl (K_worst (rn_Wok hW) (rn_HasL hP).1 hl hR1.2.1 (by constructor <;> omega))) my_L_worst gL_alike_L_worst rfl rfl ⟨by decide, by decide⟩ ⟨rfl, rfl⟩ ⟨rfl, rfl⟩ (by omega) (Nat.le_of_ble_eq_true rfl) dL_alike_105 (fun r M2 hp => ?_)
  obtain ⟨rfl, hq2⟩ := hp
  have h2 := cqb_tr (cqb_2 hq2 hR1.1.2.2.2) h1
  rw [e1]
  have rg := rg_worst hR.1 b
  refine en_icmp_ne (tgt := 115) h dL_alike_108 (by decide) rg rg (fun c_108 => ?_) (fun c_108 => ?_)
  · exact absurd rfl c_108
  · exact K M2 h2
theorem al_counts {κ : en_C} {m : en_M} {b : Int} {p q : Option en_V} {c : Nat} (hW : en_Wok (en_w κ)) (hP : HasL (en_w κ)) (h : en_Ok κ RL cL_alike 8 wsL_alike rm_L_alike) (hx9 : en_Xs κ) (hR : LB m) (hb : pM m b) (hc : c + 2 ≤ 400) (K : ∀ M, cqb M m → en_G κ 163 (als 1 b p q) [] M (c + 2) (6 * (c + 2))) : en_G κ 148 (als 1 b p q) [] m c (6 * c) := by
  have n := inv_n hR.1
  have hl := en_Xs_l hx9
  refine en_aload_n (i := 0) h dL_alike_148 rfl rfl ?_
  refine en_iload (i := 5) h dL_alike_149 rfl ?_
  refine en_cS (q := 1) (B := 400) h hx9 (K_counts hW hP.1 hl hR.1 (by constructor <;> omega)) my_L_counts gL_alike_L_counts rfl rfl ⟨by decide, by decide⟩ ⟨rfl, rfl⟩ ⟨rfl, rfl⟩ (by omega) (Nat.le_of_ble_eq_true rfl) dL_alike_151 (fun r M1 hp => ?_)
  obtain ⟨rfl, hq⟩ := hp
  have hq : cq M1 m := by rw [hq]; exact cq_rf hR.1.2.2.2
  have h1 := cqb_1 hq hR.2.1.2.2.2
  have hR1 := LB_cqb hR h1
  have e1 : w_counts (rnM M1) b = w_counts m b := (a_counts hR1.2.2.1 hR1.2.1 hR1.1 b).trans (q_counts hq b)
  refine en_aload_n (i := 1) h dL_alike_154 rfl rfl ?_
  refine en_iload (i := 5) h dL_alike_155 rfl ?_
  refine en_cS (q := 1) (B := 400) h hx9 (rn_C hP rfl rfl (K_counts (rn_Wok hW) (rn_HasL hP).1 hl hR1.2.1 (by constructor <;> omega))) my_L_counts gL_alike_L_counts rfl rfl ⟨by decide, by decide⟩ ⟨rfl, rfl⟩ ⟨rfl, rfl⟩ (by omega) (Nat.le_of_ble_eq_true rfl) dL_alike_157 (fun r M2 hp => ?_)
  obtain ⟨rfl, hq2⟩ := hp
  have hq2 : cq (rnM M2) (rnM M1) := by rw [hq2]; exact cq_rf hR1.2.1.2.2.2
  have h2 := cqb_tr (cqb_2 hq2 hR1.1.2.2.2) h1
  rw [e1]
  have rg := (show en_i32 (w_counts m b) from by have z := lk_io hR.1.1 hb.1 hb.2; rw [w_counts_r hb]; constructor <;> omega)
  refine en_icmp_ne (tgt := 232) h dL_alike_160 (by decide) rg rg (fun c_160 => ?_) (fun c_160 => ?_)
  · exact absurd rfl c_160
  · exact K M2 h2
theorem al_critical {κ : en_C} {m : en_M} {b : Int} {p q : Option en_V} {c : Nat} (hW : en_Wok (en_w κ)) (hP : HasL (en_w κ)) (h : en_Ok κ RL cL_alike 8 wsL_alike rm_L_alike) (hx9 : en_Xs κ) (hR : LB m) (hb : pM m b) (hc : c + 2 ≤ 400) (K : ∀ M, cqb M m → en_G κ 178 (als 1 b p q) [] M (c + 2) (6 * (c + 2))) : en_G κ 163 (als 1 b p q) [] m c (6 * c) := by
  have n := inv_n hR.1
  have hl := en_Xs_l hx9
  refine en_aload_n (i := 0) h dL_alike_163 rfl rfl ?_
  refine en_iload (i := 5) h dL_alike_164 rfl ?_
  refine en_cS (q := 1) (B := 400) h hx9 (K_critical hW hP.1 hl hR.1 (by constructor <;> omega)) my_L_critical gL_alike_L_critical rfl rfl ⟨by decide, by decide⟩ ⟨rfl, rfl⟩ ⟨rfl, rfl⟩ (by omega) (Nat.le_of_ble_eq_true rfl) dL_alike_166 (fun r M1 hp => ?_)
  obtain ⟨rfl, hq⟩ := hp
  have h1 := cqb_1 hq hR.2.1.2.2.2
  have hR1 := LB_cqb hR h1
  have e1 : w_critical (rnM M1) b = w_critical m b := (a_critical hR1.2.2.1 hR1.2.1 hR1.1 b).trans (q_critical hq hR.1 b)
  refine en_aload_n (i := 1) h dL_alike_169 rfl rfl ?_
  refine en_iload (i := 5) h dL_alike_170 rfl ?_
  refine en_cS (q := 1) (B := 400) h hx9 (rn_C hP rfl rfl (K_critical (rn_Wok hW) (rn_HasL hP).1 hl hR1.2.1 (by constructor <;> omega))) my_L_critical gL_alike_L_critical rfl rfl ⟨by decide, by decide⟩ ⟨rfl, rfl⟩ ⟨rfl, rfl⟩ (by omega) (Nat.le_of_ble_eq_true rfl) dL_alike_172 (fun r M2 hp => ?_)
  obtain ⟨rfl, hq2⟩ := hp
  have h2 := cqb_tr (cqb_2 hq2 hR1.1.2.2.2) h1
  rw [e1]
  have rg := (show en_i32 (w_critical m b) from by rw [w_critical_r hb]; split <;> decide)
  refine en_icmp_ne (tgt := 232) h dL_alike_175 (by decide) rg rg (fun c_175 => ?_) (fun c_175 => ?_)
  · exact absurd rfl c_175
  · exact K M2 h2
theorem al_under {κ : en_C} {m : en_M} {b : Int} {p q : Option en_V} {c : Nat} (hW : en_Wok (en_w κ)) (hP : HasL (en_w κ)) (h : en_Ok κ RL cL_alike 8 wsL_alike rm_L_alike) (hx9 : en_Xs κ) (hR : LB m) (hb : pM m b) (hc : c + 6 ≤ 400) (K : ∀ M, cqb M m → en_G κ 194 (als 1 b p q) [] M (c + 6) (6 * (c + 6))) : en_G κ 178 (als 1 b p q) [] m c (6 * c) := by
  have n := inv_n hR.1
  have hl := en_Xs_l hx9
  refine en_aload_n (i := 0) h dL_alike_178 rfl rfl ?_
  refine en_iload (i := 5) h dL_alike_179 rfl ?_
  refine en_cS (q := 3) (B := 400) h hx9 (K_under hW hP.1 hl hR.1 (by constructor <;> omega)) my_L_under gL_alike_L_under rfl rfl ⟨by decide, by decide⟩ ⟨rfl, rfl⟩ ⟨rfl, rfl⟩ (by omega) (Nat.le_of_ble_eq_true rfl) dL_alike_181 (fun r M1 hp => ?_)
  obtain ⟨rfl, hq⟩ := hp
  have h1 := cqb_1 hq hR.2.1.2.2.2
  have hR1 := LB_cqb hR h1
  have e1 : w_under (rnM M1) b = w_under m b := (a_under hR1.2.2.1 hR1.2.1 hR1.1 b).trans (q_under hq hR.1 hb)
  refine en_aload_n (i := 1) h dL_alike_184 rfl rfl ?_
  refine en_iload (i := 5) h dL_alike_185 rfl ?_
  refine en_cS (q := 3) (B := 400) h hx9 (rn_C hP rfl rfl (K_under (rn_Wok hW) (rn_HasL hP).1 hl hR1.2.1 (by constructor <;> omega))) my_L_under gL_alike_L_under rfl rfl ⟨by decide, by decide⟩ ⟨rfl, rfl⟩ ⟨rfl, rfl⟩ (by omega) (Nat.le_of_ble_eq_true rfl) dL_alike_187 (fun r M2 hp => ?_)
  obtain ⟨rfl, hq2⟩ := hp
  have h2 := cqb_tr (cqb_2 hq2 hR1.1.2.2.2) h1
  rw [e1]
  have rg := rg_under hR.1 b
  refine en_lcmpR h dL_alike_190 rg rg ?_
  refine en_if_ne (tgt := 232) h dL_alike_191 (by decide) (en_cmp_r _ _) (fun c_191 => ?_) (fun c_191 => ?_)
  · exact absurd ((en_cmp_eq _ _).mpr rfl) c_191
  · exact K M2 h2
theorem al_over {κ : en_C} {m : en_M} {b o : Int} {c : Nat} (hW : en_Wok (en_w κ)) (hP : HasL (en_w κ)) (h : en_Ok κ RL cL_alike 8 wsL_alike rm_L_alike) (hx9 : en_Xs κ) (hR : LB m) (hb : pM m b) (eo : o = w_over m b) (hc : c + 3 ≤ 400) (K : ∀ M, cqb M m → en_G κ 228 (als 1 b (some (en_L o)) none) [] M (c + 3) (6 * (c + 3))) : en_G κ 194 (als 1 b (some (en_L o)) none) [] m c (6 * c) := by
  have n := inv_n hR.1
  have hl := en_Xs_l hx9
  have hI : ∀ k, 200 ≤ k → k < 204 → en_in κ k := hP.2.2.1
  have av := a_over hR.2.2.1 hR.2.1 hR.1 hb
  have rg := rg_over hR.1 b
  have kd := (inv_mt hR.1 b hb.1 hb.2).1
  refine en_aload_n (i := 1) h dL_alike_194 rfl rfl ?_
  refine en_iload (i := 5) h dL_alike_195 rfl ?_
  refine en_cS (q := 3) (B := 400) h hx9 (rn_C hP rfl rfl (K_over (rn_Wok hW) (rn_HasL hP).1 hl hR.2.1 (by constructor <;> omega))) my_L_over gL_alike_L_over rfl rfl ⟨by decide, by decide⟩ ⟨rfl, rfl⟩ ⟨rfl, rfl⟩ (by omega) (Nat.le_of_ble_eq_true rfl) dL_alike_197 (fun r M1 hp => ?_)
  obtain ⟨rfl, hq⟩ := hp
  have h1 := cqb_2 hq hR.1.2.2.2
  have hR1 := LB_cqb hR h1
  have k201 : M1 201 b = m 22 b := by rw [h1.1 201 (by decide)]; exact hR.2.2.2.2 b hb.1 hb.2
  subst eo
  -- out of range: refused
  have ref : w_over m b = (-4000000000000000003) → ¬ (xm_iu m b ≠ -1 ∧ obs m (xm_iu m b)) := by
    intro e z
    have x := inv_xc hR.1
    have d := bd_rs hR.1.1 x.2.2.1 x.2.2.2 (xm_iu m b) hb.1 hb.2
    have t := tdv_b (xg_pos (xe_rs m (xm_iu m b) b) (gl_D m (xm_iu m b) (-1))) d (by decide)
    rw [w_over_r hb z.1 z.2] at e
    omega
  have fin : ∀ v, v = w_over (rnM m) b → en_i64 v → en_G κ 224 (als 1 b (some (en_L (w_over m b))) none) [en_L v, en_L (w_over (rnM m) b)] M1 (c + 3) (6 * (c + 3)) := by
    intro v hv rv
    subst hv
    refine en_lcmpR h dL_alike_224 rv rv ?_
    refine en_if_ne (tgt := 232) h dL_alike_225 (by decide) (en_cmp_r _ _) (fun c_225 => ?_) (fun c_225 => ?_)
    · exact absurd ((en_cmp_eq _ _).mpr rfl) c_225
    · exact K M1 h1
  refine en_aload_n (i := 3) h dL_alike_200 rfl rfl ?_
  refine en_iload (i := 5) h dL_alike_201 rfl ?_
  refine en_iaload h dL_alike_203 (hI _ (by omega) (by omega)) rfl (by omega) k201 ?_
  refine en_if_ne (tgt := 222) h dL_alike_204 (by decide) (by omega) (fun c_204 => ?_) (fun c_204 => ?_)
  · have s1 : sgk (m 22 b) = 1 := by unfold sgk; exact if_neg c_204
    refine en_lload (i := 6) h dL_alike_222 rfl ?_
    refine fin _ ?_ rg.1
    rw [av, s1, Int.one_mul]
    split <;> rfl
  · have s1 : sgk (m 22 b) = -1 := by unfold sgk; exact if_pos c_204
    refine en_lload (i := 6) h dL_alike_207 rfl ?_
    refine en_ldc2 (z := -4000000000000000003) h dL_alike_209 cn_L_alike_60 (by decide) ?_
    refine en_lcmpR h dL_alike_212 rg.1 (by decide) ?_
    refine en_if_eq (tgt := 222) h dL_alike_213 (by decide) (en_cmp_r _ _) (fun c_213 => ?_) (fun c_213 => ?_)
    · have e := (en_cmp_eq _ _).mp c_213
      refine en_lload (i := 6) h dL_alike_222 rfl ?_
      refine fin _ ?_ rg.1
      rw [av, if_pos ⟨e, ref e⟩]
    · have ne : ¬ w_over m b = (-4000000000000000003) := fun z => c_213 ((en_cmp_eq _ _).mpr z)
      refine en_lload (i := 6) h dL_alike_216 rfl ?_
      refine en_lneg h dL_alike_218 ?_
      refine en_goto (tgt := 224) h dL_alike_219 (by decide) ?_
      refine fin _ ?_ (by constructor <;> omega)
      rw [av, if_neg (fun z => ne z.1), s1]
      omega
theorem al_bus {κ : en_C} {m : en_M} (hW : en_Wok (en_w κ)) (hP : HasL (en_w κ)) (h : en_Ok κ RL cL_alike 8 wsL_alike rm_L_alike) (hx9 : en_Xs κ) (hR : LB m) (K : ∀ M, cqb M m → ∀ p q r, en_G κ 124 (als 1 r p q) [] M 80 (6 * 80)) : ∀ (f k : Nat), f + k = (m 0 0).toNat → ∀ M, cqb M m → ∀ p q, en_G κ 21 (als 1 k p q) [] M (16 * k) (6 * (16 * k)) := by
  have hI : ∀ k, 200 ≤ k → k < 204 → en_in κ k := hP.2.2.1
  have n := inv_n hR.1
  intro f
  induction f with
  | zero =>
    intro k hk M hM p q
    have eN : M 200 0 = m 0 0 := by rw [hM.1 200 (by decide)]; exact hR.2.2.2.1.1
    refine en_iload (i := 5) h dL_alike_21 rfl ?_
    refine en_aload_n (i := 2) h dL_alike_23 rfl rfl ?_
    refine en_iconst h dL_alike_24 ?_
    refine en_iaload h dL_alike_25 (hI _ (by omega) (by omega)) rfl (by omega) eN ?_
    refine en_icmp_ge (tgt := 124) h dL_alike_26 (by decide) (by omega) (by omega) (fun c_26 => ?_) (fun c_26 => ?_)
    · exact en_upk (by omega) (K M hM _ _ _)
    · exact absurd c_26 (by omega)
  | succ f ih =>
    intro k hk M hM p q
    have eN : M 200 0 = m 0 0 := by rw [hM.1 200 (by decide)]; exact hR.2.2.2.1.1
    have pk : ∀ M, cqb M m → pB M (k : Int) := by
      intro M hM
      unfold pB
      rw [hM.1 0 (by decide)]
      omega
    refine en_iload (i := 5) h dL_alike_21 rfl ?_
    refine en_aload_n (i := 2) h dL_alike_23 rfl rfl ?_
    refine en_iconst h dL_alike_24 ?_
    refine en_iaload h dL_alike_25 (hI _ (by omega) (by omega)) rfl (by omega) eN ?_
    refine en_icmp_ge (tgt := 124) h dL_alike_26 (by decide) (by omega) (by omega) (fun c_26 => ?_) (fun c_26 => ?_)
    · exact absurd c_26 (by omega)
    · refine en_iload (i := 4) h dL_alike_29 rfl ?_
      refine en_if_eq (tgt := 124) h dL_alike_31 (by decide) (by omega) (fun c_31 => ?_) (fun c_31 => ?_)
      · exact absurd c_31 (by decide)
      · refine al_reference hW hP h hx9 (LB_cqb hR hM) (pk M hM) (by omega) (fun M1 h1 => ?_)
        have h1 := cqb_tr h1 hM
        refine al_rank hW hP h hx9 (LB_cqb hR h1) (pk M1 h1) (by omega) (fun M2 h2 => ?_)
        have h2 := cqb_tr h2 h1
        refine al_top hW hP h hx9 (LB_cqb hR h2) (pk M2 h2) (by omega) (fun M3 h3 => ?_)
        have h3 := cqb_tr h3 h2
        refine al_bottom hW hP h hx9 (LB_cqb hR h3) (pk M3 h3) (by omega) (fun M4 h4 => ?_)
        have h4 := cqb_tr h4 h3
        refine al_worst hW hP h hx9 (LB_cqb hR h4) (pk M4 h4) (by omega) (fun M5 h5 => ?_)
        have h5 := cqb_tr h5 h4
        refine en_iconst h dL_alike_111 ?_
        refine en_goto (tgt := 116) h dL_alike_112 (by decide) ?_
        refine en_istore (i := 4) h dL_alike_116 (by decide) ?_
        refine en_iinc h dL_alike_118 rfl (by decide) ?_
        refine en_goto (tgt := 21) h dL_alike_121 (by decide) ?_
        exact en_upk (by omega) (ih (k + 1) (by omega) M5 h5 p q)
theorem al_meter {κ : en_C} {m : en_M} (hW : en_Wok (en_w κ)) (hP : HasL (en_w κ)) (h : en_Ok κ RL cL_alike 8 wsL_alike rm_L_alike) (hx9 : en_Xs κ) (hR : LB m) (K : ∀ M, cqb M m → ∀ p q r, en_G κ 241 (als 1 r p q) [] M 240 (6 * 240)) : ∀ (f k : Nat), f + k = (m 21 1).toNat → ∀ M, cqb M m → ∀ p q, en_G κ 127 (als 1 k p q) [] M (80 + 16 * k) (6 * (80 + 16 * k)) := by
  have hI : ∀ k, 200 ≤ k → k < 204 → en_in κ k := hP.2.2.1
  have n := inv_n hR.1
  have hl := en_Xs_l hx9
  intro f
  induction f with
  | zero =>
    intro k hk M hM p q
    have eN : M 200 2 = m 21 1 := by rw [hM.1 200 (by decide)]; exact hR.2.2.2.1.2.2
    refine en_iload (i := 5) h dL_alike_127 rfl ?_
    refine en_aload_n (i := 2) h dL_alike_129 rfl rfl ?_
    refine en_iconst h dL_alike_130 ?_
    refine en_iaload h dL_alike_131 (hI _ (by omega) (by omega)) rfl (by omega) eN ?_
    refine en_icmp_ge (tgt := 241) h dL_alike_132 (by decide) (by omega) (by omega) (fun c_132 => ?_) (fun c_132 => ?_)
    · exact en_upk (by omega) (K M hM _ _ _)
    · exact absurd c_132 (by omega)
  | succ f ih =>
    intro k hk M hM p q
    have eN : M 200 2 = m 21 1 := by rw [hM.1 200 (by decide)]; exact hR.2.2.2.1.2.2
    have pk : ∀ M, cqb M m → pM M (k : Int) := by
      intro M hM
      unfold pM
      rw [hM.1 21 (by decide)]
      omega
    have hR0 := LB_cqb hR hM
    refine en_iload (i := 5) h dL_alike_127 rfl ?_
    refine en_aload_n (i := 2) h dL_alike_129 rfl rfl ?_
    refine en_iconst h dL_alike_130 ?_
    refine en_iaload h dL_alike_131 (hI _ (by omega) (by omega)) rfl (by omega) eN ?_
    refine en_icmp_ge (tgt := 241) h dL_alike_132 (by decide) (by omega) (by omega) (fun c_132 => ?_) (fun c_132 => ?_)
    · exact absurd c_132 (by omega)
    · refine en_iload (i := 4) h dL_alike_135 rfl ?_
      refine en_if_eq (tgt := 241) h dL_alike_137 (by decide) (by omega) (fun c_137 => ?_) (fun c_137 => ?_)
      · exact absurd c_137 (by decide)
      · refine en_aload_n (i := 0) h dL_alike_140 rfl rfl ?_
        refine en_iload (i := 5) h dL_alike_141 rfl ?_
        refine en_cS (q := 3) (B := 400) h hx9 (K_over hW hP.1 hl hR0.1 (by constructor <;> omega)) my_L_over gL_alike_L_over rfl rfl ⟨by decide, by decide⟩ ⟨rfl, rfl⟩ ⟨rfl, rfl⟩ (by omega) (Nat.le_of_ble_eq_true rfl) dL_alike_143 (fun r M1 hp => ?_)
        obtain ⟨rfl, hq⟩ := hp
        have h1 := cqb_tr (cqb_1 hq hR0.2.1.2.2.2) hM
        have o1 := q_over hq hR0.1 (pk M hM)
        refine en_lstore (i := 6) h dL_alike_146 (by decide) ?_
        refine al_counts hW hP h hx9 (LB_cqb hR h1) (pk M1 h1) (by omega) (fun M2 h2 => ?_)
        have g2 := cqb_tr h2 h1
        refine al_critical hW hP h hx9 (LB_cqb hR g2) (pk M2 g2) (by omega) (fun M3 h3 => ?_)
        have g3 := cqb_tr h3 g2
        refine al_under hW hP h hx9 (LB_cqb hR g3) (pk M3 g3) (by omega) (fun M4 h4 => ?_)
        have g4 := cqb_tr h4 g3
        have o4 : w_over M (k : Int) = w_over M4 (k : Int) := by
          rw [← o1]
          exact (qb_over (cqb_tr h4 (cqb_tr h3 h2)) (LB_cqb hR h1).1 (pk M1 h1)).symm
        refine al_over hW hP h hx9 (LB_cqb hR g4) (pk M4 g4) o4 (by omega) (fun M5 h5 => ?_)
        have g5 := cqb_tr h5 g4
        refine en_iconst h dL_alike_228 ?_
        refine en_goto (tgt := 233) h dL_alike_229 (by decide) ?_
        refine en_istore (i := 4) h dL_alike_233 (by decide) ?_
        refine en_iinc h dL_alike_235 rfl (by decide) ?_
        refine en_goto (tgt := 127) h dL_alike_238 (by decide) ?_
        exact en_upk (by omega) (ih (k + 1) (by omega) M5 g5 _ _)
set_option maxRecDepth 100000 in
set_option maxHeartbeats 4000000 in
theorem k_L_alike {l : Launch} {w : en_W} {m : en_M} (hw : en_Wok w) (hp : HasL w) (hl : l.stackTraces = false) (hR : LB m) : en_MetS l w yL_alike wsL_alike rm_L_alike [en_R 49, en_R 149, en_R 200, en_R 201] m (fun r m' => r = some (en_I 1) ∧ cqb m' m) := by
  refine en_metP my_L_alike hw hl (Nat.le_of_ble_eq_true rfl) ?_
  intro κ hl9 hw9 h hf hx9
  subst hw9
  subst hl9
  have hI : ∀ k, 200 ≤ k → k < 204 → en_in κ k := hp.2.2.1
  have n := inv_n hR.1
  have n2 := inv_n hR.2.1
  have c0 := cqb_rf hR.1.2.2.2 hR.2.1.2.2.2
  refine en_aload_n (i := 0) h dL_alike_0 rfl rfl ?_
  refine en_callV h (k_X4_islands hw hp.1 n.1 (fun b b0 b1 => by have z := inv_rng hR.1 b b0 b1; constructor <;> omega)) my_X4_islands gL_alike_X4_islands (hp.1 49 (by decide) (by decide)) rfl rfl rfl rfl ⟨by decide, by decide⟩ ⟨by decide, by decide⟩ (Nat.le_of_ble_eq_true rfl) dL_alike_1 (fun r m' hp1 => ?_)
  obtain ⟨rfl, e9⟩ := hp1
  rw [e9]
  refine en_aload_n (i := 1) h dL_alike_4 rfl rfl ?_
  have k2 : en_Met (en_l κ) (en_w κ) yX4_islands wsX4_islands rm_X4_islands [en_R 149] m (fun r m' => r.map rnV = some (en_I (gs_is ((rnM m) 5) ((rnM m) 0 0).toNat)) ∧ rnM m' = rnM m) := by
    have z := rn_Met hp.2.2.2 (k_X4_islands (l := en_l κ) (w := rnW (en_w κ)) (m := rnM m) (rn_Wok hw) (rn_HasL hp).1 n2.1 (fun b b0 b1 => by have z := inv_rng hR.2.1 b b0 b1; constructor <;> omega))
    rw [rnM_rnM] at z
    have e : ([en_R 49].map rnV) = [en_R 149] := by
      show [en_R (rn 49)] = _
      rw [rn_lo (by decide)]
      rfl
    rw [e] at z
    exact z
  refine en_callV h k2 my_X4_islands gL_alike_X4_islands (hp.2.1 149 (by decide) (by decide)) rfl rfl rfl rfl ⟨by decide, by decide⟩ ⟨by decide, by decide⟩ (Nat.le_of_ble_eq_true rfl) dL_alike_5 (fun r M2 hp1 => ?_)
  obtain ⟨hr, e9⟩ := hp1
  have eM : M2 = m := by rw [← rnM_rnM M2, e9, rnM_rnM]
  have er : r = some (en_I (gs_is (m 5) (m 0 0).toNat)) := by
    have z := congrArg (Option.map rnV) hr
    rw [rn_ro] at z
    rw [z, a_islands hR.2.2.1 hR.2.1 hR.1]
    rfl
  subst er
  rw [eM]
  have is := gs_is_rng (m 5) (m 0 0).toNat
  refine en_icmp_ne (tgt := 15) h dL_alike_8 (by decide) (by omega) (by omega) (fun c_8 => ?_) (fun c_8 => ?_)
  · exact absurd rfl c_8
  · refine en_iconst h dL_alike_11 ?_
    refine en_goto (tgt := 16) h dL_alike_12 (by decide) ?_
    refine en_istore (i := 4) h dL_alike_16 (by decide) ?_
    refine en_iconst h dL_alike_18 ?_
    refine en_istore (i := 5) h dL_alike_19 (by decide) ?_
    refine al_bus hw hp h hx9 hR (fun M hM p q r => ?_) (m 0 0).toNat 0 (by omega) m c0 _ _
    refine en_iconst h dL_alike_124 ?_
    refine en_istore (i := 5) h dL_alike_125 (by decide) ?_
    refine al_meter hw hp h hx9 hR (fun M3 h3 p q r => ?_) (m 21 1).toNat 0 (by omega) M hM _ _
    refine en_upk (c' := 400) (by decide) ?_
    refine en_iload (i := 4) h dL_alike_241 rfl ?_
    exact en_zret h hf dL_alike_243 ⟨by decide, by decide⟩ (by omega) ⟨rfl, h3⟩

