/-! LAW 15: the law's loop -/
def LI (m : en_M) : Prop := INV m ∧ INV (rnM m) ∧ tw (rnM m) m ∧ AR m
theorem rn_low {M m : en_M} (h : ∀ k, 100 ≤ k → k < 150 → M k = m k) {k : Int} (k0 : 0 ≤ k) (k1 : k < 50) : rnM M k = rnM m k := by
  funext j
  unfold rnM
  rw [rn_lo ⟨k0, k1⟩, h (k + 100) (by omega) (by omega)]
theorem rn_200 (M : en_M) {k : Int} (h : 200 ≤ k) : rnM M k = M k := by
  rw [rnM_k (by omega), rn_hi (by omega)]
/-- a call on the other grid leaves this one -/
theorem rn_keep {M' M X : en_M} (h : cq (rnM M') X) (hX : ∀ k, 49 ≤ k → X k = rnM M k) {k : Int} (hk : (0 ≤ k ∧ k < 50) ∨ 200 ≤ k) : M' k = M k := by
  refine rnM_inj ?_
  have r : 49 ≤ rn k := by
    rcases hk with hk | hk
    · rw [rn_lo hk]
      omega
    · rw [rn_hi (by omega)]
      omega
  rw [h.1 (rn k) (Or.inr r)]
  exact hX (rn k) r
theorem tw_lo {M m M' m' : en_M} (h : tw M' m') (hM : ∀ k, 0 ≤ k → k < 28 → M k = M' k) (hm : ∀ k, 0 ≤ k → k < 28 → m k = m' k) : tw M m := by
  unfold tw
  rw [hM 0 (by decide) (by decide), hM 1 (by decide) (by decide), hM 2 (by decide) (by decide), hM 3 (by decide) (by decide), hM 4 (by decide) (by decide), hM 21 (by decide) (by decide), hM 22 (by decide) (by decide), hM 23 (by decide) (by decide), hM 24 (by decide) (by decide), hM 25 (by decide) (by decide), hM 26 (by decide) (by decide), hm 0 (by decide) (by decide), hm 1 (by decide) (by decide), hm 2 (by decide) (by decide), hm 3 (by decide) (by decide), hm 4 (by decide) (by decide), hm 21 (by decide) (by decide), hm 22 (by decide) (by decide), hm 23 (by decide) (by decide), hm 24 (by decide) (by decide), hm 25 (by decide) (by decide), hm 26 (by decide) (by decide)]
  exact h
theorem NN_o {M m : en_M} (h : tw M m) (hN : NN m) (h200 : M 200 = m 200) : NN M := by
  unfold NN
  rw [h200, h.1.1, h.1.2.1, h.1.2.2]
  exact hN
theorem KK_o {M m : en_M} (h : tw M m) (hK : KK m) (h201 : M 201 = m 201) : KK M := by
  intro i i0 i1
  rw [h.1.2.2] at i1
  rw [h201, (h.2.2 i i0 i1).1]
  exact hK i i0 i1
theorem LI_cqb {M m : en_M} (h : LI m) (hc : cqb M m) : LI M := by
  obtain ⟨h1, h2, h3, h4⟩ := h
  have z := LB_cqb ⟨h1, h2, h3, h4.1, h4.2.1⟩ hc
  exact ⟨z.1, z.2.1, z.2.2.1, AR_same h4 (hc.1 0 (by decide)) (hc.1 1 (by decide)) (hc.1 2 (by decide)) (hc.1 3 (by decide)) (hc.1 4 (by decide)) (hc.1 21 (by decide)) (hc.1 22 (by decide)) (hc.1 23 (by decide)) (hc.1 25 (by decide)) (hc.1 200 (by decide)) (hc.1 201 (by decide)) (hc.1 202 (by decide)) (hc.1 203 (by decide))⟩
theorem LI_1 {M m : en_M} (h : LI m) (hc : cq M m) : LI M := LI_cqb h (cqb_1 hc h.2.1.2.2.2)
theorem LI_2 {M m : en_M} (h : LI m) (hc : cq (rnM M) (rnM m)) : LI M := LI_cqb h (cqb_2 hc h.1.2.2.2)
theorem rnI2 (z : Int) : [en_R 200, en_I z].map rnV = [en_R 200, en_I z] := by
  show [en_R (rn 200), en_I z] = _
  rw [rn_hi (by decide)]
theorem rnI2h : [en_R 200, en_R 203].map rnV = [en_R 200, en_R 203] := by
  show [en_R (rn 200), en_R (rn 203)] = _
  rw [rn_hi (by decide), rn_hi (by decide)]
theorem rnI4 (x t : Int) : [en_R 200, en_R 201, en_I x, en_I t].map rnV = [en_R 200, en_R 201, en_I x, en_I t] := by
  show [en_R (rn 200), en_R (rn 201), en_I x, en_I t] = _
  rw [rn_hi (by decide), rn_hi (by decide)]
set_option maxRecDepth 20000 in
theorem cn_L_law_165 : Cond.constantLong RL 165 1000003 ∈ wsL_law := by decide +kernel
set_option maxRecDepth 20000 in
theorem cn_L_law_171 : Cond.constantLong RL 171 998244353 ∈ wsL_law := by decide +kernel
/-- from 435 on: what is asked behind each act -/
theorem lw_ask {κ : en_C} {m : en_M} {s th k x d : Int} {c : Nat} (hW : en_Wok (en_w κ)) (hP : HasL (en_w κ)) (h : en_Ok κ RL cL_law 14 wsL_law room_1) (hx9 : en_Xs κ) (hL : LI m) (hx : 0 ≤ x ∧ x < 2147483648) (hk : 0 ≤ k ∧ k < 100) (hc : c + 1619 ≤ 100000) (K : ∀ M, LI M → en_G κ 508 (lls s th k x (ay x) d) [] M (c + 1619) (6 * (c + 1619))) : en_G κ 435 (lls s th k x (ay x) d) [] m c (6 * c) := by
  have hl := en_Xs_l hx9
  have g501 : ∀ M, LI M → en_G κ 501 (lls s th k x (ay x) d) [] M (c + 1619) (6 * (c + 1619)) := by
    intro M hM
    refine en_iconst h dL_law_501 ?_
    refine en_goto (tgt := 506) h dL_law_502 (by decide) ?_
    refine en_istore (i := 9) h dL_law_506 (by decide) ?_
    exact K M hM
  refine en_iload (i := 9) h dL_law_435 rfl ?_
  refine en_if_eq (tgt := 505) h dL_law_437 (by decide) (by omega) (fun c_437 => ?_) (fun c_437 => ?_)
  · exact absurd c_437 (by decide)
  · refine en_aload (i := 7) h dL_law_440 rfl ?_
    refine en_aload_n (i := 2) h dL_law_442 rfl rfl ?_
    refine en_iload (i := 11) h dL_law_443 rfl ?_
    refine en_sipush h dL_law_445 (by decide) ?_
    refine en_iremP h dL_law_448 (by omega) (by omega) ?_
    refine en_dP (q := 119) (B := 100000) h hx9 (rn_C hP (rnI2 (x % 499)) rfl (k_L_refuses (x := x % 499) (rn_Wok hW) (rn_HasL hP) hl hL.2.1 (NN_o hL.2.2.1 hL.2.2.2.1 (rn_200 m (by decide))) (by omega))) my_L_refuses gL_law_L_refuses rfl rfl ⟨by decide, by decide⟩ ⟨rfl, rfl⟩ ⟨Nat.le_of_ble_eq_true rfl, Nat.le_of_ble_eq_true rfl⟩ (by omega) (Nat.le_of_ble_eq_true rfl) dL_law_449 (fun r M1 hp => ?_)
    obtain ⟨rfl, hq1⟩ := hp
    have h1 := LI_2 hL hq1
    refine en_if_eq (tgt := 505) h dL_law_452 (by decide) (by omega) (fun c_452 => ?_) (fun c_452 => ?_)
    · exact absurd c_452 (by decide)
    · refine en_aload (i := 6) h dL_law_455 rfl ?_
      refine en_aload (i := 7) h dL_law_457 rfl ?_
      refine en_aload_n (i := 2) h dL_law_459 rfl rfl ?_
      refine en_aload_n (i := 3) h dL_law_460 rfl rfl ?_
      refine en_dP (q := 400) (B := 100000) h hx9 (k_L_alike hW hP hl ⟨h1.1, h1.2.1, h1.2.2.1, h1.2.2.2.1, h1.2.2.2.2.1⟩) my_L_alike gL_law_L_alike rfl rfl ⟨by decide, by decide⟩ ⟨rfl, rfl⟩ ⟨Nat.le_of_ble_eq_true rfl, Nat.le_of_ble_eq_true rfl⟩ (by omega) (Nat.le_of_ble_eq_true rfl) dL_law_461 (fun r M2 hp => ?_)
      obtain ⟨rfl, hq2⟩ := hp
      have h2 := LI_cqb h1 hq2
      refine en_if_eq (tgt := 505) h dL_law_464 (by decide) (by omega) (fun c_464 => ?_) (fun c_464 => ?_)
      · exact absurd c_464 (by decide)
      · refine en_iload (i := 10) h dL_law_467 rfl ?_
        refine en_iconst h dL_law_469 ?_
        refine en_iremP h dL_law_470 (by omega) (by omega) ?_
        refine en_if_gt (tgt := 501) h dL_law_471 (by decide) (by omega) (fun c_471 => ?_) (fun c_471 => ?_)
        · exact en_upk (by omega) (g501 M2 h2)
        · refine en_aload (i := 7) h dL_law_474 rfl ?_
          refine en_aload_n (i := 2) h dL_law_476 rfl rfl ?_
          refine en_aload (i := 5) h dL_law_477 rfl ?_
          refine en_dP (q := 500) (B := 100000) h hx9 (rn_C hP rnI2h rfl (k_L_holds (rn_Wok hW) (rn_HasL hP) hl h2.2.1 (NN_o h2.2.2.1 h2.2.2.2.1 (rn_200 M2 (by decide))))) my_L_holds gL_law_L_holds rfl rfl ⟨by decide, by decide⟩ ⟨rfl, rfl⟩ ⟨Nat.le_of_ble_eq_true rfl, Nat.le_of_ble_eq_true rfl⟩ (by omega) (Nat.le_of_ble_eq_true rfl) dL_law_479 (fun r M3 hp => ?_)
          obtain ⟨rfl, hq3⟩ := hp
          have h3 := LI_2 h2 hq3
          refine en_if_eq (tgt := 505) h dL_law_482 (by decide) (by omega) (fun c_482 => ?_) (fun c_482 => ?_)
          · exact absurd c_482 (by decide)
          · refine en_aload (i := 6) h dL_law_485 rfl ?_
            refine en_aload_n (i := 2) h dL_law_487 rfl rfl ?_
            refine en_aload (i := 4) h dL_law_488 rfl ?_
            refine en_aload (i := 5) h dL_law_490 rfl ?_
            refine en_ldc2 (z := 1000003) h dL_law_492 cn_L_law_165 (by decide) ?_
            refine en_dP (q := 600) (B := 100000) h hx9 (k_L_vanishes (P := 1000003) hW hP hl h3.1 h3.2.2.2.1 h3.2.2.2.2.2.1 h3.2.2.2.2.2.2 (by decide) pr_1) my_L_vanishes gL_law_L_vanishes rfl rfl ⟨by decide, by decide⟩ ⟨rfl, rfl⟩ ⟨Nat.le_of_ble_eq_true rfl, Nat.le_of_ble_eq_true rfl⟩ (by omega) (Nat.le_of_ble_eq_true rfl) dL_law_495 (fun r M4 hp => ?_)
            obtain ⟨rfl, hq4⟩ := hp
            have h4 := LI_1 h3 hq4
            refine en_if_eq (tgt := 505) h dL_law_498 (by decide) (by omega) (fun c_498 => ?_) (fun c_498 => ?_)
            · exact absurd c_498 (by decide)
            · exact en_upk (by omega) (g501 M4 h4)
/-- one act of both, from 143 on -/
theorem lw_step {κ : en_C} {m : en_M} {s th k x : Int} {p12 p13 : Option en_V} {c : Nat} (hW : en_Wok (en_w κ)) (hP : HasL (en_w κ)) (h : en_Ok κ RL cL_law 14 wsL_law room_1) (hx9 : en_Xs κ) (hL : LI m) (hx : 0 ≤ x ∧ x < 2147483648) (hk : 0 ≤ k ∧ k < 100) (hc : c + 1784 ≤ 100000) (K : ∀ M, LI M → ∀ d, en_G κ 508 (lls s th k x (ay x) d) [] M (c + 1784) (6 * (c + 1784))) : en_G κ 143 [some (en_R 99), some (en_I s), some (en_R 200), some (en_R 201), some (en_R 202), some (en_R 203), some (en_R 49), some (en_R 149), some (en_I th), some (en_I 1), some (en_I k), some (en_I x), p12, p13] [] m c (6 * c) := by
  have hl := en_Xs_l hx9
  obtain ⟨hI9, hJ, hT, hA⟩ := id hL
  obtain ⟨hN, hK, hPP, hQQ⟩ := id hA
  have hIt := ac_inv hI9 0 x
  have rd := rg_ac hI9 x
  refine en_iload (i := 11) h dL_law_143 rfl ?_
  refine en_bipush h dL_law_145 (by decide) ?_
  refine en_idivP h dL_law_147 (by omega) (by omega) ?_
  refine en_istore (i := 12) h dL_law_148 (by decide) ?_
  refine en_aload (i := 6) h dL_law_150 rfl ?_
  refine en_aload_n (i := 2) h dL_law_152 rfl rfl ?_
  refine en_aload_n (i := 3) h dL_law_153 rfl rfl ?_
  refine en_iload (i := 11) h dL_law_154 rfl ?_
  refine en_iconst h dL_law_156 ?_
  refine en_dP (q := 23) (B := 100000) h hx9 (k_L_act hW hP hl hI9 hN hK hx (Or.inl rfl)) my_L_act gL_law_L_act rfl rfl ⟨by decide, by decide⟩ ⟨rfl, rfl⟩ ⟨Nat.le_of_ble_eq_true rfl, Nat.le_of_ble_eq_true rfl⟩ (by omega) (Nat.le_of_ble_eq_true rfl) dL_law_157 (fun r M1 hp => ?_)
  obtain ⟨rfl, hq1⟩ := hp
  have so1 : ∀ k, 49 ≤ k → M1 k = m k := fun k hk => (hq1.1 k (Or.inr hk)).trans (ac_hi hI9 0 x (by omega))
  have lo1 : ∀ k, 0 ≤ k → k < 50 → rnM M1 k = rnM m k := fun k k0 k1 => rn_low (fun k k0 k1 => so1 k (by omega)) k0 k1
  have hJ1 : INV (rnM M1) := inv_lo hJ (fun k k0 k1 => lo1 k k0 (by omega)) (xr_ok_k (lo1 28 (by decide) (by decide)) hJ.2.2.2)
  have tw1 : tw (rnM M1) m := tw_lo hT (fun k k0 k1 => lo1 k k0 (by omega)) (fun _ _ _ => rfl)
  have hN1 : NN (rnM M1) := NN_o tw1 hN ((rn_200 M1 (by decide)).trans (so1 200 (by decide)))
  have hK1 : KK (rnM M1) := KK_o tw1 hK ((rn_200 M1 (by decide)).trans (so1 201 (by decide)))
  refine en_istore (i := 13) h dL_law_160 (by decide) ?_
  refine en_aload (i := 7) h dL_law_162 rfl ?_
  refine en_aload_n (i := 2) h dL_law_164 rfl rfl ?_
  refine en_iload (i := 11) h dL_law_165 rfl ?_
  refine en_sipush h dL_law_167 (by decide) ?_
  refine en_iremP h dL_law_170 (by omega) (by omega) ?_
  refine en_dP (q := 119) (B := 100000) h hx9 (rn_C hP (rnI2 (x % 9973)) rfl (k_L_refuses (x := x % 9973) (rn_Wok hW) (rn_HasL hP) hl hJ1 hN1 (by omega))) my_L_refuses gL_law_L_refuses rfl rfl ⟨by decide, by decide⟩ ⟨rfl, rfl⟩ ⟨Nat.le_of_ble_eq_true rfl, Nat.le_of_ble_eq_true rfl⟩ (by omega) (Nat.le_of_ble_eq_true rfl) dL_law_171 (fun r M2 hp => ?_)
  obtain ⟨rfl, hq2⟩ := hp
  have hJ2 := inv_cq hJ1 hq2
  have hN2 := NN_cq hN1 hq2
  have hK2 : KK (rnM M2) := by
    unfold KK
    rw [hq2.1 201 (by decide), hq2.1 22 (by decide), hq2.1 21 (by decide)]
    exact hK1
  have tw2 : tw (rnM M2) m := tw_lo tw1 (fun k k0 k1 => hq2.1 k (by omega)) (fun _ _ _ => rfl)
  obtain ⟨sa1, sa2⟩ := s_act tw2 hJ2 hI9 hx
  have hI2 := ac_inv hJ2 1 x
  refine en_if_eq (tgt := 196) h dL_law_174 (by decide) (by omega) (fun c_174 => ?_) (fun c_174 => ?_)
  · exact absurd c_174 (by decide)
  · refine en_aload (i := 7) h dL_law_177 rfl ?_
    refine en_aload_n (i := 2) h dL_law_179 rfl rfl ?_
    refine en_aload_n (i := 3) h dL_law_180 rfl rfl ?_
    refine en_iload (i := 11) h dL_law_181 rfl ?_
    refine en_iconst h dL_law_183 ?_
    refine en_dP (q := 23) (B := 100000) h hx9 (rn_C hP (rnI4 x 1) rfl (k_L_act (rn_Wok hW) (rn_HasL hP) hl hJ2 hN2 hK2 hx (Or.inr rfl))) my_L_act gL_law_L_act rfl rfl ⟨by decide, by decide⟩ ⟨rfl, rfl⟩ ⟨Nat.le_of_ble_eq_true rfl, Nat.le_of_ble_eq_true rfl⟩ (by omega) (Nat.le_of_ble_eq_true rfl) dL_law_184 (fun r M3 hp => ?_)
    obtain ⟨rfl, hq3⟩ := hp
    rw [sa1]
    have e32 : ∀ k, (0 ≤ k ∧ k < 50) ∨ 200 ≤ k → M3 k = M2 k := fun k hk => rn_keep hq3 (fun j hj => ac_hi hJ2 1 x (by omega)) hk
    have e21 : ∀ k, (0 ≤ k ∧ k < 50) ∨ 200 ≤ k → M2 k = M1 k := fun k hk => rn_keep hq2 (fun _ _ => rfl) hk
    have hlo : ∀ k, 0 ≤ k → k < 28 → M3 k = ac_t m 0 x k := fun k k0 k1 => by rw [e32 k (Or.inl ⟨k0, by omega⟩), e21 k (Or.inl ⟨k0, by omega⟩), hq1.1 k (Or.inl k1)]
    have hhi : ∀ k, 200 ≤ k → M3 k = m k := fun k hk => by rw [e32 k (Or.inr hk), e21 k (Or.inr hk), so1 k (by omega)]
    have x3 : xr_ok M3 := xr_ok_k (by rw [e32 28 (Or.inl (by decide)), e21 28 (Or.inl (by decide))]) hq1.2
    refine en_iload (i := 13) h dL_law_187 rfl ?_
    refine en_icmp_ne (tgt := 196) h dL_law_189 (by decide) rd rd (fun c_189 => ?_) (fun c_189 => ?_)
    · exact absurd rfl c_189
    · refine en_iconst h dL_law_192 ?_
      refine en_goto (tgt := 197) h dL_law_193 (by decide) ?_
      refine en_istore (i := 9) h dL_law_197 (by decide) ?_
      refine lw_upd hP h hI9 hA hx hlo hhi rfl (fun M4 h4 hA4 => ?_)
      have lo4 : ∀ k, 0 ≤ k → k < 28 → M4 k = ac_t m 0 x k := fun k k0 k1 => by rw [h4 k (by omega), hlo k k0 k1]
      have rl4 : ∀ k, 0 ≤ k → k < 50 → rnM M4 k = rnM M3 k := fun k k0 k1 => rn_low (fun k k0 k1 => h4 k (by omega)) k0 k1
      have ro4 : ∀ k, 0 ≤ k → k < 28 → rnM M4 k = ac_t (rnM M2) 1 x k := fun k k0 k1 => by rw [rl4 k k0 (by omega), hq3.1 k (Or.inl k1)]
      have hL4 : LI M4 := ⟨inv_lo hIt lo4 (xr_ok_k (h4 28 (by decide)) x3), inv_lo hI2 ro4 (xr_ok_k (rl4 28 (by decide) (by decide)) hq3.2), tw_lo sa2 ro4 lo4, hA4⟩
      exact lw_ask hW hP h hx9 hL4 hx hk (by omega) (fun M5 h5 => en_upk (by omega) (K M5 h5 _))
theorem law_loop {κ : en_C} {L : Nat} {xs : Nat → Int32} {s th : Int} (hW : en_Wok (en_w κ)) (hP : HasL (en_w κ)) (h : en_Ok κ RL cL_law 14 wsL_law room_1) (hx9 : en_Xs κ) (hs : en_Sc κ L xs) (ht : 0 ≤ th ∧ th ≤ 44) (K : ∀ M ls c, c ≤ 100000 → en_G κ 551 ls [en_I 1] M c (6 * c)) : ∀ (f k : Nat), f + k = th.toNat → ∀ M, LI M → ∀ p q r, en_G κ 100 [some (en_R 99), some (en_I s), some (en_R 200), some (en_R 201), some (en_R 202), some (en_R 203), some (en_R 49), some (en_R 149), some (en_I th), some (en_I 1), some (en_I (k : Int)), p, q, r] [] M (2000 + 1784 * k) (6 * (2000 + 1784 * k)) := by
  have hl := en_Xs_l hx9
  intro f
  induction f with
  | zero =>
    intro k hk M hM p q r
    refine en_iload (i := 10) h dL_law_100 rfl ?_
    refine en_iload (i := 8) h dL_law_102 rfl ?_
    refine en_icmp_ge (tgt := 514) h dL_law_104 (by decide) (by omega) (by omega) (fun c_104 => ?_) (fun c_104 => ?_)
    · refine en_iload (i := 9) h dL_law_514 rfl ?_
      refine en_if_eq (tgt := 550) h dL_law_516 (by decide) (by omega) (fun c_516 => ?_) (fun c_516 => ?_)
      · exact absurd c_516 (by decide)
      · refine en_aload (i := 6) h dL_law_519 rfl ?_
        refine en_aload_n (i := 2) h dL_law_521 rfl rfl ?_
        refine en_aload (i := 5) h dL_law_522 rfl ?_
        refine en_dP (q := 500) (B := 100000) h hx9 (k_L_holds hW hP hl hM.1 hM.2.2.2.1) my_L_holds gL_law_L_holds rfl rfl ⟨by decide, by decide⟩ ⟨rfl, rfl⟩ ⟨Nat.le_of_ble_eq_true rfl, Nat.le_of_ble_eq_true rfl⟩ (by omega) (Nat.le_of_ble_eq_true rfl) dL_law_524 (fun r M1 hp => ?_)
        obtain ⟨rfl, hq1⟩ := hp
        have h1 := LI_1 hM hq1
        refine en_if_eq (tgt := 550) h dL_law_527 (by decide) (by omega) (fun c_527 => ?_) (fun c_527 => ?_)
        · exact absurd c_527 (by decide)
        · refine en_aload (i := 6) h dL_law_530 rfl ?_
          refine en_aload_n (i := 2) h dL_law_532 rfl rfl ?_
          refine en_aload (i := 4) h dL_law_533 rfl ?_
          refine en_aload (i := 5) h dL_law_535 rfl ?_
          refine en_ldc2 (z := 998244353) h dL_law_537 cn_L_law_171 (by decide) ?_
          refine en_dP (q := 600) (B := 100000) h hx9 (k_L_vanishes (P := 998244353) hW hP hl h1.1 h1.2.2.2.1 h1.2.2.2.2.2.1 h1.2.2.2.2.2.2 (by decide) pr_2) my_L_vanishes gL_law_L_vanishes rfl rfl ⟨by decide, by decide⟩ ⟨rfl, rfl⟩ ⟨Nat.le_of_ble_eq_true rfl, Nat.le_of_ble_eq_true rfl⟩ (by omega) (Nat.le_of_ble_eq_true rfl) dL_law_540 (fun r M2 hp => ?_)
          obtain ⟨rfl, hq2⟩ := hp
          refine en_if_eq (tgt := 550) h dL_law_543 (by decide) (by omega) (fun c_543 => ?_) (fun c_543 => ?_)
          · exact absurd c_543 (by decide)
          · refine en_iconst h dL_law_546 ?_
            refine en_goto (tgt := 551) h dL_law_547 (by decide) ?_
            exact K _ _ _ (by omega)
    · exact absurd c_104 (by omega)
  | succ f ih =>
    intro k hk M hM p q r
    have rx := dw_rng L xs (1 + (k : Int))
    have g141 : ∀ x, 0 ≤ x ∧ x < 2147483648 → ∀ p, en_G κ 141 [some (en_R 99), some (en_I s), some (en_R 200), some (en_R 201), some (en_R 202), some (en_R 203), some (en_R 49), some (en_R 149), some (en_I th), some (en_I 1), some (en_I (k : Int)), p, q, r] [en_I x] M (2000 + 1784 * k) (6 * (2000 + 1784 * k)) := by
      intro x hx p
      refine en_istore (i := 11) h dL_law_141 (by decide) ?_
      refine lw_step hW hP h hx9 hM hx (by omega) (by omega) (fun M1 h1 d => ?_)
      refine en_iinc h dL_law_508 rfl (by decide) ?_
      refine en_goto (tgt := 100) h dL_law_511 (by decide) ?_
      exact en_upk (by omega) (ih (k + 1) (by omega) M1 h1 _ _ _)
    refine en_iload (i := 10) h dL_law_100 rfl ?_
    refine en_iload (i := 8) h dL_law_102 rfl ?_
    refine en_icmp_ge (tgt := 514) h dL_law_104 (by decide) (by omega) (by omega) (fun c_104 => ?_) (fun c_104 => ?_)
    · exact absurd c_104 (by omega)
    · refine en_iload (i := 9) h dL_law_107 rfl ?_
      refine en_if_eq (tgt := 514) h dL_law_109 (by decide) (by omega) (fun c_109 => ?_) (fun c_109 => ?_)
      · exact absurd c_109 (by decide)
      · refine en_aload_n (i := 0) h dL_law_112 rfl rfl ?_
        refine en_iconst h dL_law_113 ?_
        refine en_iload (i := 10) h dL_law_114 rfl ?_
        refine en_iadd h dL_law_116 ?_
        refine en_callSD h hs (k_L_drawn (m := M) (L := L) (xs := xs) (k := 1 + (k : Int)) hW (by omega)) my_L_drawn gL_law_L_drawn rfl rfl ⟨by decide, by decide⟩ ⟨Nat.le_trans (show _ + 0 ≤ 100000 by omega) (Nat.le_of_ble_eq_true rfl), Nat.le_trans (show _ + 0 ≤ 600000 by omega) (Nat.le_of_ble_eq_true rfl)⟩ (Nat.le_of_ble_eq_true rfl) dL_law_117 (fun r9 M1 hp => ?_)
        obtain ⟨rfl, e9⟩ := hp
        rw [e9]
        refine en_istore (i := 11) h dL_law_120 (by decide) ?_
        refine en_iload (i := 10) h dL_law_122 rfl ?_
        refine en_iconst h dL_law_124 ?_
        refine en_icmp_ge (tgt := 139) h dL_law_125 (by decide) (by omega) (by omega) (fun c_125 => ?_) (fun c_125 => ?_)
        · refine en_iload (i := 11) h dL_law_139 rfl ?_
          exact g141 _ rx _
        · refine en_iload (i := 11) h dL_law_128 rfl ?_
          refine en_bipush h dL_law_130 (by decide) ?_
          refine en_idivP h dL_law_132 (by omega) (by omega) ?_
          refine en_bipush h dL_law_133 (by decide) ?_
          refine en_imul h dL_law_135 ?_
          refine en_goto (tgt := 141) h dL_law_136 (by decide) ?_
          exact g141 _ (by omega) _
