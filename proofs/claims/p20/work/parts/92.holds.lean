/-! LAW 7: holds: its loops over buses and meters -/
abbrev rm_L_holds : Room := { frames := 10, cells := 500, slots := 3000, locals := 201 }
theorem my_L_holds : en_MY yL_holds RL cL_holds 10 (some .boolean) wsL_holds 3 := ⟨⟨_, rfl⟩, rfl, by decide, by decide, by decide +kernel, by decide +kernel⟩
abbrev hls (a b c d e f g : Int) : List (Option en_V) := [some (en_R 49), some (en_R 200), some (en_R 203), some (en_I a), some (en_I b), some (en_I c), some (en_I d), some (en_I e), some (en_I f), some (en_I g)]
abbrev NN (m : en_M) : Prop := m 200 0 = m 0 0 ∧ m 200 1 = m 0 1 ∧ m 200 2 = m 21 1
theorem NN_cq {M m : en_M} (h : NN m) (hc : cq M m) : NN M := by
  unfold NN
  rw [hc.1 200 (by decide), hc.1 0 (by decide), hc.1 21 (by decide)]
  exact h
theorem w_reference_r {m : en_M} {b : Int} (hb : pB m b) : w_reference m b = m 5 b := by
  unfold w_reference
  exact if_pos hb
theorem w_rank_r {m : en_M} {b : Int} (hb : pB m b) : w_rank m b = xm_rk m (-1) (m 5 b) := by
  unfold w_rank
  exact if_pos hb
theorem w_observable_r {m : en_M} {b : Int} (hb : pB m b) : w_observable m b = if obs m (m 5 b) then 1 else 0 := by
  unfold w_observable
  exact if_pos hb
theorem w_counts_r {m : en_M} {i : Int} (hi : pM m i) : w_counts m i = xm_io m i := by
  unfold w_counts
  exact if_pos hi
theorem w_critical_r {m : en_M} {i : Int} (hi : pM m i) : w_critical m i = if xm_nd m i then 1 else 0 := by
  unfold w_critical
  exact if_pos hi
theorem w_uses_r {m : en_M} {i c : Int} (hi : pM m i) : w_uses m i c = m 26 i ∧ t_uses m i c = en_set m 26 i c := by
  unfold w_uses t_uses
  exact ⟨if_pos hi, if_pos hi⟩
theorem w_bottom_r {m : en_M} {b : Int} (hb : pB m b) (ho : obs m (m 5 b)) : w_bottom m b = (gl_D m (m 5 b) (-1)).tdiv (xg (gl_D m (m 5 b) b) (gl_D m (m 5 b) (-1))) := by
  unfold w_bottom
  rw [if_pos hb]
  exact if_pos ho
theorem w_top_r {m : en_M} {b : Int} (hb : pB m b) (ho : obs m (m 5 b)) : w_top m b = (gl_D m (m 5 b) b).tdiv (xg (gl_D m (m 5 b) b) (gl_D m (m 5 b) (-1))) := by
  unfold w_top
  rw [if_pos hb]
  exact if_pos ho
theorem w_worst_r {m : en_M} {b : Int} (hb : pB m b) (ho : obs m (m 5 b)) : w_worst m b = xe_wm m (m 5 b) := by
  unfold w_worst
  rw [if_pos hb]
  exact if_pos ho
theorem w_over_r {m : en_M} {i : Int} (hi : pM m i) (hn : xm_iu m i ≠ -1) (ho : obs m (xm_iu m i)) : w_over m i = (xe_rs m (xm_iu m i) i).tdiv (xg (xe_rs m (xm_iu m i) i) (gl_D m (xm_iu m i) (-1))) := by
  unfold w_over
  rw [if_pos hi]
  exact if_pos ⟨hn, ho⟩
theorem w_under_r {m : en_M} {i : Int} (hi : pM m i) (hn : xm_iu m i ≠ -1) (ho : obs m (xm_iu m i)) : w_under m i = (gl_D m (xm_iu m i) (-1)).tdiv (xg (xe_rs m (xm_iu m i) i) (gl_D m (xm_iu m i) (-1))) := by
  unfold w_under
  rw [if_pos hi]
  exact if_pos ⟨hn, ho⟩
theorem tdv_b {x g B : Int} (hg : 0 < g) (hx : -B ≤ x ∧ x ≤ B) (hB : 0 ≤ B) : -B ≤ x.tdiv g ∧ x.tdiv g ≤ B := by
  have h1 := Int.natAbs_tdiv_le_natAbs x g
  omega
theorem rg_top {m : en_M} (hI : INV m) (b : Int) : en_i64 (w_top m b) := by
  have x := inv_xc hI
  unfold w_top
  by_cases c : pB m b
  · have n := inv_n hI
    have d := bd_D hI.1 x.2.2.1 x.2.2.2 (m 5 b) b (by omega)
    have t := tdv_b (xg_pos (gl_D m (m 5 b) b) (gl_D m (m 5 b) (-1))) d (by decide)
    rw [if_pos c]
    split <;> constructor <;> omega
  · rw [if_neg c]
    decide
theorem rg_bottom {m : en_M} (hI : INV m) (b : Int) : en_i64 (w_bottom m b) := by
  have x := inv_xc hI
  unfold w_bottom
  by_cases c : pB m b
  · have d := bd_D hI.1 x.2.2.1 x.2.2.2 (m 5 b) (-1) (by decide)
    have t := tdv_b (xg_pos (gl_D m (m 5 b) b) (gl_D m (m 5 b) (-1))) d (by decide)
    rw [if_pos c]
    split <;> constructor <;> omega
  · rw [if_neg c]
    decide
theorem rg_over {m : en_M} (hI : INV m) (i : Int) : en_i64 (w_over m i) ∧ -4000000000000000003 ≤ w_over m i ∧ w_over m i ≤ 4000000000000000003 := by
  have x := inv_xc hI
  unfold w_over
  by_cases c : pM m i
  · have d := bd_rs hI.1 x.2.2.1 x.2.2.2 (xm_iu m i) c.1 c.2
    have t := tdv_b (xg_pos (xe_rs m (xm_iu m i) i) (gl_D m (xm_iu m i) (-1))) d (by decide)
    rw [if_pos c]
    split
    · exact ⟨by constructor <;> omega, by omega⟩
    · decide
  · rw [if_neg c]
    decide
theorem rg_under {m : en_M} (hI : INV m) (i : Int) : en_i64 (w_under m i) := by
  have x := inv_xc hI
  unfold w_under
  by_cases c : pM m i
  · have d := bd_D hI.1 x.2.2.1 x.2.2.2 (xm_iu m i) (-1) (by decide)
    have t := tdv_b (xg_pos (xe_rs m (xm_iu m i) i) (gl_D m (xm_iu m i) (-1))) d (by decide)
    rw [if_pos c]
    split <;> constructor <;> omega
  · rw [if_neg c]
    decide
theorem rg_worst {m : en_M} (hI : INV m) (b : Int) : en_i32 (w_worst m b) := by
  have n := inv_n hI
  have r := wm_rng m (m 5 b) n.2.2.1
  unfold w_worst
  split
  · split <;> constructor <;> omega
  · decide
theorem rg_rank {m : en_M} (hI : INV m) (b : Int) : en_i32 (w_rank m b) := by
  have n := inv_n hI
  unfold w_rank
  by_cases c : pB m b
  · have r := lk_rng hI.1 b c.1 (by omega)
    have k := rk_le hI.1 r.1 (-1)
    have u := gs_cu_rng (m 5) (m 5 b) 5
    rw [if_pos c]
    constructor <;> omega
  · rw [if_neg c]
    decide
theorem hl_size {κ : en_C} {m : en_M} {b r3 : Int} {c : Nat} (hW : en_Wok (en_w κ)) (hP : HasL (en_w κ)) (h : en_Ok κ RL cL_holds 10 wsL_holds rm_L_holds) (hx9 : en_Xs κ) (hI9 : INV m) (hN : NN m) (hb : pB m b) (hc : c + 5 ≤ 500) (K : ∀ M, cq M m → en_G κ 73 (hls r3 1 b (m 5 b) (szc (m 5) (m 5 b) (m 0 0).toNat) 0 (m 0 0)) [] M (c + 5) (6 * (c + 5))) : ∀ (f k : Nat), f + k = (m 0 0).toNat → ∀ M, cq M m → en_G κ 38 (hls r3 1 b (m 5 b) (szc (m 5) (m 5 b) k) 0 k) [] M (c + k) (6 * (c + k)) := by
  have hI : ∀ k, 200 ≤ k → k < 204 → en_in κ k := hP.2.2.1
  have n := inv_n hI9
  have rb := lk_rng hI9.1 b hb.1 (by omega)
  intro f
  induction f with
  | zero =>
    intro k hk M hM
    have eN : M 200 0 = m 0 0 := (NN_cq hN hM).1.trans (by rw [hM.1 0 (by decide)])
    refine en_iload (i := 9) h dL_holds_38 rfl ?_
    refine en_aload_n (i := 1) h dL_holds_40 rfl rfl ?_
    refine en_iconst h dL_holds_41 ?_
    refine en_iaload h dL_holds_42 (hI _ (by omega) (by omega)) rfl (by omega) eN ?_
    refine en_icmp_ge (tgt := 73) h dL_holds_43 (by decide) (by omega) (by omega) (fun c_43 => ?_) (fun c_43 => ?_)
    · rw [show k = (m 0 0).toNat by omega, show (((m 0 0).toNat : Nat) : Int) = m 0 0 by omega]
      exact en_upk (by omega) (K M hM)
    · exact absurd c_43 (by omega)
  | succ f ih =>
    intro k hk M hM
    have eN : M 200 0 = m 0 0 := (NN_cq hN hM).1.trans (by rw [hM.1 0 (by decide)])
    have pk : pB M (k : Int) := by
      unfold pB
      rw [hM.1 0 (by decide)]
      omega
    have rk := lk_rng hI9.1 (k : Int) (by omega) (by omega)
    have z := ih (k + 1) (by omega) M hM
    simp only [szc] at z
    refine en_iload (i := 9) h dL_holds_38 rfl ?_
    refine en_aload_n (i := 1) h dL_holds_40 rfl rfl ?_
    refine en_iconst h dL_holds_41 ?_
    refine en_iaload h dL_holds_42 (hI _ (by omega) (by omega)) rfl (by omega) eN ?_
    refine en_icmp_ge (tgt := 73) h dL_holds_43 (by decide) (by omega) (by omega) (fun c_43 => ?_) (fun c_43 => ?_)
    · exact absurd c_43 (by omega)
    · refine en_iload (i := 7) h dL_holds_46 rfl ?_
      refine en_aload_n (i := 0) h dL_holds_48 rfl rfl ?_
      refine en_iload (i := 9) h dL_holds_49 rfl ?_
      refine en_cS (q := 1) (B := 500) h hx9 (K_reference hW hP.1 (en_Xs_l hx9) (inv_cq hI9 hM) (by constructor <;> omega)) my_L_reference gL_holds_L_reference rfl rfl ⟨by decide, by decide⟩ ⟨rfl, rfl⟩ ⟨rfl, rfl⟩ (by omega) (Nat.le_of_ble_eq_true rfl) dL_holds_51 (fun r m' hp => ?_)
      obtain ⟨rfl, e9⟩ := hp
      rw [e9, w_reference_r pk, hM.1 5 (by decide)]
      refine en_iload (i := 6) h dL_holds_54 rfl ?_
      refine en_icmp_ne (tgt := 63) h dL_holds_56 (by decide) (by omega) (by omega) (fun c_56 => ?_) (fun c_56 => ?_)
      · rw [if_neg c_56] at z
        refine en_iconst h dL_holds_63 ?_
        refine en_iadd h dL_holds_64 ?_
        refine en_istore (i := 7) h dL_holds_65 (by decide) ?_
        refine en_iinc h dL_holds_67 rfl (by decide) ?_
        refine en_goto (tgt := 38) h dL_holds_70 (by decide) ?_
        exact z
      · rw [if_pos c_56] at z
        refine en_iconst h dL_holds_59 ?_
        refine en_goto (tgt := 64) h dL_holds_60 (by decide) ?_
        refine en_iadd h dL_holds_64 ?_
        refine en_istore (i := 7) h dL_holds_65 (by decide) ?_
        refine en_iinc h dL_holds_67 rfl (by decide) ?_
        refine en_goto (tgt := 38) h dL_holds_70 (by decide) ?_
        exact z
theorem hl_many {κ : en_C} {m : en_M} {b r3 own sz : Int} {c : Nat} (hW : en_Wok (en_w κ)) (hP : HasL (en_w κ)) (h : en_Ok κ RL cL_holds 10 wsL_holds rm_L_holds) (hx9 : en_Xs κ) (hI9 : INV m) (hN : NN m) (ho : en_i32 own) (hc : c + 10 ≤ 500) (K : ∀ M, cq M m → en_G κ 111 (hls r3 1 b own sz (myc (xm_io m) own (m 21 1).toNat) (m 21 1)) [] M (c + 10) (6 * (c + 10))) : ∀ (f k : Nat), f + k = (m 21 1).toNat → ∀ M, cq M m → en_G κ 76 (hls r3 1 b own sz (myc (xm_io m) own k) k) [] M (c + k) (6 * (c + k)) := by
  have hI : ∀ k, 200 ≤ k → k < 204 → en_in κ k := hP.2.2.1
  have n := inv_n hI9
  intro f
  induction f with
  | zero =>
    intro k hk M hM
    have eN : M 200 2 = m 21 1 := (NN_cq hN hM).2.2.trans (by rw [hM.1 21 (by decide)])
    refine en_iload (i := 9) h dL_holds_76 rfl ?_
    refine en_aload_n (i := 1) h dL_holds_78 rfl rfl ?_
    refine en_iconst h dL_holds_79 ?_
    refine en_iaload h dL_holds_80 (hI _ (by omega) (by omega)) rfl (by omega) eN ?_
    refine en_icmp_ge (tgt := 111) h dL_holds_81 (by decide) (by omega) (by omega) (fun c_81 => ?_) (fun c_81 => ?_)
    · rw [show k = (m 21 1).toNat by omega, show (((m 21 1).toNat : Nat) : Int) = m 21 1 by omega]
      exact en_upk (by omega) (K M hM)
    · exact absurd c_81 (by omega)
  | succ f ih =>
    intro k hk M hM
    have eN : M 200 2 = m 21 1 := (NN_cq hN hM).2.2.trans (by rw [hM.1 21 (by decide)])
    have pk : pM M (k : Int) := by
      unfold pM
      rw [hM.1 21 (by decide)]
      omega
    have rk := lk_io hI9.1 (i := (k : Int)) (by omega) (by omega)
    have z := ih (k + 1) (by omega) M hM
    simp only [myc] at z
    refine en_iload (i := 9) h dL_holds_76 rfl ?_
    refine en_aload_n (i := 1) h dL_holds_78 rfl rfl ?_
    refine en_iconst h dL_holds_79 ?_
    refine en_iaload h dL_holds_80 (hI _ (by omega) (by omega)) rfl (by omega) eN ?_
    refine en_icmp_ge (tgt := 111) h dL_holds_81 (by decide) (by omega) (by omega) (fun c_81 => ?_) (fun c_81 => ?_)
    · exact absurd c_81 (by omega)
    · refine en_iload (i := 8) h dL_holds_84 rfl ?_
      refine en_aload_n (i := 0) h dL_holds_86 rfl rfl ?_
      refine en_iload (i := 9) h dL_holds_87 rfl ?_
      refine en_cS (q := 1) (B := 500) h hx9 (K_counts hW hP.1 (en_Xs_l hx9) (inv_cq hI9 hM) (by constructor <;> omega)) my_L_counts gL_holds_L_counts rfl rfl ⟨by decide, by decide⟩ ⟨rfl, rfl⟩ ⟨rfl, rfl⟩ (by omega) (Nat.le_of_ble_eq_true rfl) dL_holds_89 (fun r m' hp => ?_)
      obtain ⟨rfl, e9⟩ := hp
      rw [e9, w_counts_r pk, cq_io hM]
      refine en_iload (i := 6) h dL_holds_92 rfl ?_
      refine en_icmp_ne (tgt := 101) h dL_holds_94 (by decide) (by constructor <;> omega) ho (fun c_94 => ?_) (fun c_94 => ?_)
      · rw [if_neg c_94] at z
        refine en_iconst h dL_holds_101 ?_
        refine en_iadd h dL_holds_102 ?_
        refine en_istore (i := 8) h dL_holds_103 (by decide) ?_
        refine en_iinc h dL_holds_105 rfl (by decide) ?_
        refine en_goto (tgt := 76) h dL_holds_108 (by decide) ?_
        exact z
      · rw [if_pos c_94] at z
        refine en_iconst h dL_holds_97 ?_
        refine en_goto (tgt := 102) h dL_holds_98 (by decide) ?_
        refine en_iadd h dL_holds_102 ?_
        refine en_istore (i := 8) h dL_holds_103 (by decide) ?_
        refine en_iinc h dL_holds_105 rfl (by decide) ?_
        refine en_goto (tgt := 76) h dL_holds_108 (by decide) ?_
        exact z
