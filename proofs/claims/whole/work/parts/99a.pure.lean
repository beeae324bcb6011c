/-! PURE 28: the model reads its own cells alone -/
section MG
variable {M m : en_M}
def mg_ag (M m : en_M) : Prop := ∀ k, 51 ≤ k → M k = m k
theorem ml_row_g (h : mg_ag M m) (ao : Int → Int) (i : Int) : ∀ n : Nat, ml_row M ao i n = ml_row m ao i n
  | 0 => rfl
  | n + 1 => by
    have es : ml_sg M i n = ml_sg m i n := by
      unfold ml_sg
      rw [h 55 (by decide), h 56 (by decide), h 57 (by decide), h 52 (by decide), h 53 (by decide)]
    simp only [ml_row]
    rw [ml_row_g h ao i n, es, h 52 (by decide), h 53 (by decide), h 54 (by decide)]
theorem mg_row_g (h : mg_ag M m) (q i : Int) : mg_row M q i = mg_row m q i := by
  unfold mg_row
  rw [ml_row_g h, h 61 (by decide), h 51 (by decide)]
theorem mo_iu_g (h : mg_ag M m) (i : Int) : mo_iu M i = mo_iu m i := by
  unfold mo_iu
  rw [h 56 (by decide), h 57 (by decide), h 61 (by decide), h 55 (by decide), h 52 (by decide)]
theorem mo_io_g (h : mg_ag M m) (i : Int) : mo_io M i = mo_io m i := by
  unfold mo_io
  rw [mo_iu_g h, h 60 (by decide)]
theorem mg_P_g (h : mg_ag M m) (q ex : Int) : ∀ n : Nat, mg_P M q ex n = mg_P m q ex n
  | 0 => by
    simp only [mg_P]
    rw [h 61 (by decide), h 51 (by decide)]
  | n + 1 => by
    simp only [mg_P]
    rw [mg_P_g h q ex n, mo_io_g h, mg_row_g h, h 59 (by decide)]
theorem mg_S_g (h : mg_ag M m) (q ex : Int) : ∀ n : Nat, mg_S M q ex n = mg_S m q ex n
  | 0 => rfl
  | n + 1 => by
    simp only [mg_S]
    rw [mg_S_g h q ex n, mo_io_g h, mg_row_g h, h 59 (by decide), h 58 (by decide)]
theorem mg_D_g (h : mg_ag M m) (q ex : Int) : mg_D M q ex = mg_D m q ex := by
  unfold mg_D
  rw [mg_P_g h, h 51 (by decide)]
theorem mg_T_g (h : mg_ag M m) (q a : Int) : mg_T M q a = mg_T m q a := by
  unfold mg_T
  rw [mg_P_g h, mg_S_g h, h 51 (by decide)]
theorem mg_rs_g (h : mg_ag M m) (q i : Int) : mg_rs M q i = mg_rs m q i := by
  unfold mg_rs
  rw [h 58 (by decide), mg_D_g h, mg_row_g h, show mg_T M q = mg_T m q from funext (mg_T_g h q)]
theorem mg_ws_g (h : mg_ag M m) (q i : Int) : mg_ws M q i = mg_ws m q i := by
  unfold mg_ws
  rw [h 59 (by decide), mg_rs_g h]
theorem mg_wm_g (h : mg_ag M m) (q : Int) : mg_wm M q = mg_wm m q := by
  unfold mg_wm
  rw [show mo_io M = mo_io m from funext (mo_io_g h), show mg_ws M q = mg_ws m q from funext (mg_ws_g h q), h 51 (by decide)]
theorem mo_nd_g (h : mg_ag M m) (i : Int) : mo_nd M i ↔ mo_nd m i := by
  unfold mo_nd
  rw [mo_io_g h, mg_D_g h, mg_D_g h]
theorem mc_dr_g (h : mg_ag M m) (q lim : Int) : mc_dr M q lim ↔ mc_dr m q lim := by
  have e := mo_nd_g h (mg_wm m q)
  unfold mc_dr
  rw [mg_wm_g h, mg_D_g h, mg_ws_g h, e]
theorem mg_ag_set (h : mg_ag M m) (k j v : Int) : mg_ag (en_set M k j v) (en_set m k j v) := by
  intro k' hk
  by_cases e : k' = k
  · subst e
    funext j'
    unfold en_set
    rw [h k' hk]
  · rw [en_set_ne e, en_set_ne e, h k' hk]
theorem mc_st_g (h : mg_ag M m) (q lim : Int) : mg_ag (mc_st M q lim) (mc_st m q lim) := by
  unfold mc_st
  by_cases c : mc_dr m q lim
  · rw [if_pos c, if_pos ((mc_dr_g h q lim).mpr c), mg_wm_g h]
    exact mg_ag_set h _ _ _
  · rw [if_neg c, if_neg (fun z => c ((mc_dr_g h q lim).mp z))]
    exact h
end MG
theorem mc_cl_g (q lim : Int) : ∀ (n : Nat) (M m : en_M), mg_ag M m → (mc_cl q lim n M).1 = (mc_cl q lim n m).1 ∧ mg_ag (mc_cl q lim n M).2 (mc_cl q lim n m).2
  | 0, M, m, h => ⟨rfl, h⟩
  | n + 1, M, m, h => by
    have ih := mc_cl_g q lim n _ _ (mc_st_g h q lim)
    simp only [mc_cl]
    by_cases c : mc_dr m q lim
    · rw [if_pos c, if_pos ((mc_dr_g h q lim).mpr c)]
      exact ⟨by rw [ih.1], ih.2⟩
    · rw [if_neg c, if_neg (fun z => c ((mc_dr_g h q lim).mp z))]
      exact ⟨rfl, h⟩
theorem mc_cl_k (q lim : Int) : ∀ (n : Nat) (m : en_M) (k : Int), k ≠ 60 → (mc_cl q lim n m).2 k = m k
  | 0, m, k, h => rfl
  | n + 1, m, k, h => by
    simp only [mc_cl]
    by_cases c : mc_dr m q lim
    · rw [if_pos c]
      show (mc_cl q lim n (mc_st m q lim)).2 k = m k
      rw [mc_cl_k q lim n _ k h]
      unfold mc_st
      rw [if_pos c, en_set_ne h]
    · rw [if_neg c]
theorem mo_dv_g {M m : en_M} (h : mg_ag M m) : mg_ag (mo_dv M) (mo_dv m) := by
  intro k hk
  by_cases e : k = 61
  · subst e
    funext j
    unfold mo_dv
    rw [h 51 (by decide), h 52 (by decide), h 53 (by decide), h 55 (by decide)]
    unfold en_ar
    rw [h 61 (by decide)]
  · rw [mo_dv_k e, mo_dv_k e, h k hk]
theorem mo_qm_g {M m : en_M} (h : mg_ag M m) (c : Int) : mg_ag (mo_qm M c) (mo_qm m c) := mg_ag_set (mo_dv_g h) 51 0 c
/-! PURE 29: cleaning, alike -/
theorem xe_ws_ag {M m : en_M} (h : en_ag M m) (hv : xv_all m) {q i : Int} (hi : xv_m m i) : xe_ws M q i = xe_ws m q i := by
  unfold xe_ws
  rw [h 25 (by decide), xe_rs_ag h hv hi]
theorem xe_wm_ag {M m : en_M} (h : en_ag M m) (hv : xv_all m) (q : Int) : xe_wm M q = xe_wm m q := by
  unfold xe_wm
  have n9 := hv.1
  rw [h 21 (by decide), gm_wm_cong2 (m 21 1).toNat (fun i i0 i1 => ⟨xm_io_ag h i, xe_ws_ag h hv (hv.2.1 i i0 (by omega)).1⟩)]
theorem xe_dr_ag {M m : en_M} (h : en_ag M m) (hv : xv_all m) (q lim : Int) : xe_dr M q lim ↔ xe_dr m q lim := by
  have w := xe_wm_rng hv q
  have e := xm_nd_ag h hv (xe_wm m q)
  unfold xe_dr
  rw [xe_wm_ag h hv, gl_D_ag h hv, e]
  by_cases c : xe_wm m q = -1
  · exact ⟨fun z => absurd c z.1, fun z => absurd c z.1⟩
  · rw [xe_ws_ag h hv (hv.2.1 _ (by omega) w.2).1]
theorem xe_st_ag {M m : en_M} (h : en_ag M m) (hv : xv_all m) (q lim : Int) : en_ag (xe_st M q lim) (xe_st m q lim) := by
  unfold xe_st
  by_cases c : xe_dr m q lim
  · rw [if_pos c, if_pos ((xe_dr_ag h hv q lim).mpr c), xe_wm_ag h hv]
    intro k hk
    by_cases e : k = 26
    · subst e
      funext j
      unfold en_set
      rw [h 26 (by decide)]
    · rw [en_set_ne e, en_set_ne e, h k hk]
  · rw [if_neg c, if_neg (fun z => c ((xe_dr_ag h hv q lim).mp z))]
    exact h
theorem xe_cl_ag (q lim : Int) : ∀ (n : Nat) (M m : en_M), en_ag M m → xv_all m → xv_rd m → (xe_cl q lim n M).1 = (xe_cl q lim n m).1 ∧ en_ag (xe_cl q lim n M).2 (xe_cl q lim n m).2
  | 0, M, m, h, _, _ => ⟨rfl, h⟩
  | n + 1, M, m, h, hv, hd => by
    obtain ⟨s1, s2⟩ := xe_st_ok hv hd q lim
    have ih := xe_cl_ag q lim n _ _ (xe_st_ag h hv q lim) s1 s2
    simp only [xe_cl]
    by_cases c : xe_dr m q lim
    · rw [if_pos c, if_pos ((xe_dr_ag h hv q lim).mpr c)]
      exact ⟨by rw [ih.1], ih.2⟩
    · rw [if_neg c, if_neg (fun z => c ((xe_dr_ag h hv q lim).mp z))]
      exact ⟨rfl, h⟩
theorem xe_cl_k (q lim : Int) : ∀ (n : Nat) (m : en_M) (k : Int), k ≠ 26 → (xe_cl q lim n m).2 k = m k
  | 0, m, k, h => rfl
  | n + 1, m, k, h => by
    simp only [xe_cl]
    by_cases c : xe_dr m q lim
    · rw [if_pos c]
      show (xe_cl q lim n (xe_st m q lim)).2 k = m k
      rw [xe_cl_k q lim n _ k h]
      unfold xe_st
      rw [if_pos c, en_set_ne h]
    · rw [if_neg c]
theorem lk_dr {m : en_M} (h : INV m) (q lim : Int) : mc_dr (mo_qm m 0) q lim ↔ xe_dr m q lim := by
  have hx := inv_xc h
  have hv := hx.2.2.1
  have hd := hx.2.2.2
  have w := xe_wm_rng hv q
  unfold mc_dr xe_dr
  rw [lk_wm h.1 hv hd, lk_D h.1]
  by_cases c : xe_wm m q = -1
  · exact ⟨fun z => absurd c z.1, fun z => absurd c z.1⟩
  · rw [lk_ws h.1 hv hd (by omega) w.2, lk_nd h.1 hv hd (by omega) w.2]
theorem inv_same {M m : en_M} (h : INV m) (hc : ∀ k, k < 28 → M k = m k) (ho : xr_ok M) (h1 : ∀ k, 52 ≤ k → k ≤ 60 → M k = m k) (h2 : ∀ j, (j = 1 ∨ j = 2 ∨ j = 7) → M 51 j = m 51 j) : INV M := by
  refine inv_keep h (fun k hk => hc k (by omega)) ho ?_ ?_ ?_
  · have hk := h.1.1
    unfold xl_k at hk ⊢
    rw [h2 1 (by decide), h2 2 (by decide), h2 7 (by decide), hc 0 (by decide), hc 21 (by decide), h1 52 (by decide) (by decide), h1 53 (by decide) (by decide), h1 54 (by decide) (by decide), h1 55 (by decide) (by decide), h1 56 (by decide) (by decide), h1 57 (by decide) (by decide), h1 58 (by decide) (by decide), h1 59 (by decide) (by decide), h1 60 (by decide) (by decide), hc 1 (by decide), hc 2 (by decide), hc 3 (by decide), hc 4 (by decide), hc 22 (by decide), hc 23 (by decide), hc 24 (by decide), hc 25 (by decide), hc 26 (by decide)]
    exact hk
  · exact xo_ln_k (fun k hk => h1 k (by omega) (by omega)) (h2 1 (by decide)) (h2 2 (by decide)) h.1.2.1
  · exact xo_mt_k (fun k hk => h1 k (by omega) (by omega)) (h2 1 (by decide)) (h2 2 (by decide)) (h2 7 (by decide)) h.1.2.2.1
/-- a meter used or dropped on both sides -/
theorem inv_use {m : en_M} (h : INV m) {i c : Int} (hc : c = 0 ∨ c = 1) : INV (en_set (en_set m 26 i c) 60 i c) := by
  refine inv_keep h (fun k hk => by rw [en_set_ne (by omega), en_set_ne (by omega)]) (xr_ok_k (by rw [en_set_ne (by decide), en_set_ne (by decide)]) h.2.2.2) ?_ ?_ ?_
  · have hk := h.1.1
    unfold xl_k at hk ⊢
    obtain ⟨k1, k2, k3, k4, k5, k6, k7, k8, k9, k10, k11, k12⟩ := hk
    have e : ∀ k : Int, k ≠ 26 → k ≠ 60 → en_set (en_set m 26 i c) 60 i c k = m k := fun k a b => by rw [en_set_ne b, en_set_ne a]
    rw [e 51 (by decide) (by decide), e 0 (by decide) (by decide), e 21 (by decide) (by decide), e 52 (by decide) (by decide), e 53 (by decide) (by decide), e 54 (by decide) (by decide), e 55 (by decide) (by decide), e 56 (by decide) (by decide), e 57 (by decide) (by decide), e 58 (by decide) (by decide), e 59 (by decide) (by decide), e 1 (by decide) (by decide), e 2 (by decide) (by decide), e 3 (by decide) (by decide), e 4 (by decide) (by decide), e 22 (by decide) (by decide), e 23 (by decide) (by decide), e 24 (by decide) (by decide), e 25 (by decide) (by decide)]
    refine ⟨k1, k2, k3, k4, k5, k6, k7, k8, k9, k10, k11, ?_⟩
    funext j
    unfold en_set
    rw [k12]
    by_cases e2 : j = i <;> simp [e2]
  · exact xo_ln_k (fun k hk => by rw [en_set_ne (by omega), en_set_ne (by omega)]) (by rw [en_set_ne (by decide), en_set_ne (by decide)]) (by rw [en_set_ne (by decide), en_set_ne (by decide)]) h.1.2.1
  · have e : ∀ k : Int, k ≠ 26 → k ≠ 60 → en_set (en_set m 26 i c) 60 i c k = m k := fun k a b => by rw [en_set_ne b, en_set_ne a]
    obtain ⟨n, hm⟩ := h.1.2.2.1
    unfold xo_mt xo_m
    rw [e 51 (by decide) (by decide), e 56 (by decide) (by decide), e 57 (by decide) (by decide), e 58 (by decide) (by decide), e 59 (by decide) (by decide)]
    refine ⟨n, fun j j0 j1 => ?_⟩
    obtain ⟨a, b, d⟩ := hm j j0 j1
    refine ⟨a, ?_, d⟩
    by_cases e2 : j = i
    · rw [e2, en_set_at]
      exact hc
    · rw [en_set_nj e2, en_set_ne (by decide)]
      exact b
theorem cl_all (q lim : Int) : ∀ (n : Nat) (m : en_M), INV m → (xe_cl q lim n m).1 = (mc_cl q lim n (mo_qm m 0)).1 ∧ ∃ m' : en_M, INV m' ∧ (∀ k, k < 27 → (xe_cl q lim n m).2 k = m' k) ∧ (∀ k, 51 ≤ k → k ≠ 61 → (mc_cl q lim n (mo_qm m 0)).2 k = mo_qm m' 0 k) ∧ ∀ k, k ≠ 26 → k ≠ 60 → m' k = m k
  | 0, m, h => ⟨rfl, m, h, fun _ _ => rfl, fun _ _ _ => rfl, fun _ _ _ => rfl⟩
  | n + 1, m, h => by
    have hx := inv_xc h
    have hv := hx.2.2.1
    have hd := hx.2.2.2
    simp only [xe_cl, mc_cl]
    by_cases c : xe_dr m q lim
    · have c' := (lk_dr h q lim).mpr c
      rw [if_pos c, if_pos c']
      have h2 := inv_use h (i := xe_wm m q) (c := 0) (Or.inl rfl)
      obtain ⟨i1, m', i2, i3, i4, i5⟩ := cl_all q lim n _ h2
      have hx2 := inv_xc h2
      have a1 : en_ag (xe_st m q lim) (en_set (en_set m 26 (xe_wm m q) 0) 60 (xe_wm m q) 0) := by
        intro k hk
        unfold xe_st
        rw [if_pos c, en_set_ne (k := 60) (by omega)]
      have a2 : mg_ag (mc_st (mo_qm m 0) q lim) (mo_qm (en_set (en_set m 26 (xe_wm m q) 0) 60 (xe_wm m q) 0) 0) := by
        intro k hk
        unfold mc_st
        rw [if_pos c', lk_wm h.1 hv hd]
        by_cases e60 : k = 60
        · subst e60
          rw [mo_qm_kk (by decide) (by decide)]
          funext j
          unfold en_set
          rw [mo_qm_kk (k := 60) (by decide) (by decide)]
          by_cases e2 : j = xe_wm m q <;> simp [e2]
        · rw [en_set_ne e60]
          by_cases e51 : k = 51
          · subst e51
            funext j
            by_cases e2 : j = 0
            · subst e2
              rw [mo_qm_0, mo_qm_0]
            · rw [mo_qm_j e2, mo_qm_j e2, en_set_ne (by decide), en_set_ne (by decide)]
          · by_cases e61 : k = 61
            · subst e61
              rw [mo_qm_k (by decide), mo_qm_k (by decide)]
              funext j
              unfold mo_dv
              rw [en_set_ne (k' := 51) (by decide), en_set_ne (k' := 51) (by decide), en_set_ne (k' := 52) (by decide), en_set_ne (k' := 52) (by decide), en_set_ne (k' := 53) (by decide), en_set_ne (k' := 53) (by decide), en_set_ne (k' := 55) (by decide), en_set_ne (k' := 55) (by decide)]
              unfold en_ar
              rw [en_set_ne (k' := 61) (by decide), en_set_ne (k' := 61) (by decide)]
            · rw [mo_qm_kk e51 e61, mo_qm_kk e51 e61, en_set_ne e60, en_set_ne (by omega)]
      have b1 := xe_cl_ag q lim n _ _ a1 hx2.2.2.1 hx2.2.2.2
      have b2 := mc_cl_g q lim n _ _ a2
      refine ⟨by rw [b1.1, b2.1, i1], m', i2, fun k hk => (b1.2 k hk).trans (i3 k hk), fun k k0 k1 => (b2.2 k k0).trans (i4 k k0 k1), fun k k0 k1 => by rw [i5 k k0 k1, en_set_ne k1, en_set_ne k0]⟩
    · have c' : ¬ mc_dr (mo_qm m 0) q lim := fun z => c ((lk_dr h q lim).mp z)
      rw [if_neg c, if_neg c']
      exact ⟨rfl, m, h, fun _ _ => rfl, fun _ _ _ => rfl, fun _ _ _ => rfl⟩
