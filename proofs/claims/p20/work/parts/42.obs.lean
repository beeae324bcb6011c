/-! OBSERVATION 2: the rank, and whether it suffices -/
theorem xm_rp_28 (M : en_M) (p t i : Int) : xm_rp M p t 28 i = if i = t then M 28 p else if i = p then M 28 t else M 28 i := by
  unfold xm_rp en_set
  by_cases e1 : i = t
  · rw [if_pos ⟨rfl, e1⟩, if_pos e1]
  · rw [if_neg (fun q => e1 q.2), if_neg e1]
    by_cases e2 : i = p
    · rw [if_pos ⟨rfl, e2⟩, if_pos e2]
    · rw [if_neg (fun q => e2 q.2), if_neg e2]
theorem xm_rp_k (M : en_M) {p t k : Int} (h : k ≠ 28) : xm_rp M p t k = M k := by
  unfold xm_rp
  rw [en_set_ne h, en_set_ne h]
theorem xm_rp_ok {M : en_M} {p t : Int} (h : xr_ok M) (hp : 0 ≤ p ∧ p < 10) (ht : 0 ≤ t ∧ t < 10) : xr_ok (xm_rp M p t) := by
  refine ⟨fun i i0 i1 => ?_, fun i j i0 i1 j0 j1 => ?_⟩
  · rw [xm_rp_28]
    by_cases e1 : i = t
    · rw [if_pos e1]; exact h.1 p hp.1 hp.2
    · rw [if_neg e1]
      by_cases e2 : i = p
      · rw [if_pos e2]; exact h.1 t ht.1 ht.2
      · rw [if_neg e2]; exact h.1 i i0 i1
  · have key : ∀ i, 0 ≤ i → i < 10 → ∃ k, 0 ≤ k ∧ k < 10 ∧ xm_rp M p t 28 i = M 28 k ∧ k = (if i = t then p else if i = p then t else i) := by
      intro i i0 i1
      rw [xm_rp_28]
      by_cases e1 : i = t
      · exact ⟨p, hp.1, hp.2, by rw [if_pos e1], by rw [if_pos e1]⟩
      · by_cases e2 : i = p
        · exact ⟨t, ht.1, ht.2, by rw [if_neg e1, if_pos e2], by rw [if_neg e1, if_pos e2]⟩
        · exact ⟨i, i0, i1, by rw [if_neg e1, if_neg e2], by rw [if_neg e1, if_neg e2]⟩
    obtain ⟨k, k0, k1, k2, k3⟩ := key i i0 i1
    obtain ⟨k', k0', k1', k2', k3'⟩ := key j j0 j1
    intro e
    rw [k2, k2'] at e
    have e3 := h.2 k k' k0 k1 k0' k1' e
    rw [k3, k3'] at e3
    split at e3 <;> split at e3 <;> (try split at e3) <;> (try split at e3) <;> omega
theorem xm_rp_E {M : en_M} {p t i c : Int} (h : xr_ok M) (hp : 0 ≤ p ∧ p < 10) (ht : 0 ≤ t ∧ t < 10) (i0 : 0 ≤ i) (i1 : i < 10) : xr_E (xm_rp M p t) i c = la_sw (xr_E M) p t i c := by
  have h1 := (xm_rp_ok h hp ht).1 i i0 i1
  unfold xr_E la_sw
  rw [xm_rp_k M (k := xm_rp M p t 28 i) (by omega), xm_rp_28]
  by_cases e1 : i = t
  · rw [if_pos e1]
    by_cases e2 : i = p
    · rw [if_pos e2, ← e1, e2]
    · rw [if_neg e2, if_pos e1]
  · rw [if_neg e1]
    by_cases e2 : i = p
    · rw [if_pos e2, if_pos e2]
    · rw [if_neg e2, if_neg e2, if_neg e1]
abbrev rm_X3_rankWithout : Room := { frames := 4, cells := 0, slots := 0, locals := 68 }
theorem my_X3_rankWithout : en_MY yX3_rankWithout RX3 cX3_rankWithout 5 (some .int) wsX3_rankWithout 2 := ⟨⟨_, rfl⟩, rfl, by decide, by decide, by decide +kernel, by decide +kernel⟩
set_option maxRecDepth 100000 in
set_option maxHeartbeats 4000000 in
theorem lp_X3_rankWithout {κ : en_C} {m : en_M} {lo q : Int} {A : Int → Int → Int} (hW : en_Wok (en_w κ)) (hP : en_Has (en_w κ) 0 39) (h : en_Ok κ RX3 cX3_rankWithout 5 wsX3_rankWithout rm_X3_rankWithout) (hf : en_fin κ rm_X3_rankWithout (some .int) (fun r m' => r = some (en_I (la_el A 5).1) ∧ en_of m' m ∧ xr_ok m')) (hA : ∀ i c, 0 ≤ i → i < 10 → 0 ≤ c → c < 5 → -8 ≤ A i c ∧ A i c ≤ 8) : ∀ (f n : Nat), f + n = 5 → ∀ (M : en_M), en_of M m → xr_ok M → (∀ i c, 0 ≤ i → i < 10 → 0 ≤ c → c < 5 → xr_E M i c = (la_el A n).2 i c) → en_G κ 11 [some (en_R 27), some (en_I lo), some (en_I q), some (en_I (la_el A n).1), some (en_I (n : Int))] [] M 0 0 := by
  have hI : ∀ k, 0 ≤ k → k < 39 → en_in κ k := hP
  intro f
  induction f with
  | zero =>
    intro n hn M h1 h2 h3
    refine en_iload (i := 4) h dX3_rankWithout_11 rfl ?_
    refine en_iconst h dX3_rankWithout_13 ?_
    refine en_icmp_ge (tgt := 43) h dX3_rankWithout_14 (by decide) (by omega) (by omega) (fun c_14 => ?_) (fun c_14 => ?_)
    · refine en_iload_n (i := 3) h dX3_rankWithout_43 rfl rfl ?_
      exact en_iret h hf dX3_rankWithout_44 ⟨by decide, by decide⟩ ⟨by rw [show n = 5 by omega], h1, h2⟩
    · exact absurd c_14 (by omega)
  | succ f ih =>
    intro n hn M h1 h2 h3
    obtain ⟨b0, b1, b2⟩ := la_el_bd hA n (by omega)
    have hB := la_B_le (la_el A n).1
    have hnx : la_el A (n + 1) = la_st (la_el A n) (n : Int) := rfl
    have ih9 := ih (n + 1) (by omega)
    rw [hnx] at ih9
    generalize la_el A n = s at b0 b1 b2 hB h3 ih9 ⊢
    obtain ⟨g, E⟩ := s
    simp only [] at b0 b1 b2 hB h3 ih9 ⊢
    have hfd : la_fd (xr_E M) (n : Int) (10 - g).toNat g = la_fd E (n : Int) (10 - g).toNat g := la_fd_cong _ _ (by omega) (fun j j0 j1 => h3 j n (by omega) j1 (by omega) (by omega))
    have hsp := la_fd_spec E (n : Int) (10 - g).toNat g (by omega)
    refine en_iload (i := 4) h dX3_rankWithout_11 rfl ?_
    refine en_iconst h dX3_rankWithout_13 ?_
    refine en_icmp_ge (tgt := 43) h dX3_rankWithout_14 (by decide) (by omega) (by omega) (fun c_14 => ?_) (fun c_14 => ?_)
    · exact absurd c_14 (by omega)
    · refine en_aload_n (i := 0) h dX3_rankWithout_17 rfl rfl ?_
      refine en_iload_n (i := 3) h dX3_rankWithout_18 rfl rfl ?_
      refine en_iload (i := 4) h dX3_rankWithout_19 rfl ?_
      refine en_callV h (k_X3_raisePivot hW hP h2 ⟨b0, by omega⟩ ⟨by omega, by omega⟩ (fun r r0 r1 => by have e := h3 r n (by omega) r1 (by omega) (by omega); have q := b2 r n (by omega) r1 (by omega) (by omega); unfold xr_E at e; rw [e]; omega)) my_X3_raisePivot gX3_rankWithout_X3_raisePivot (hI _ (by omega) (by omega)) rfl rfl rfl rfl ⟨by decide, by decide⟩ ⟨by decide, by decide⟩ (Nat.le_of_ble_eq_true rfl) dX3_rankWithout_21 (fun r m' hp => ?_)
      obtain ⟨rfl, rfl⟩ := hp
      rw [hfd]
      generalize hpe : la_fd E (n : Int) (10 - g).toNat g = p at hsp
      by_cases hp : p < 10
      · rw [if_pos hp, if_pos hp]
        have ok1 := xm_rp_ok h2 (p := p) (t := g) ⟨by omega, hp⟩ ⟨b0, by omega⟩
        refine en_if_eq (tgt := 37) h dX3_rankWithout_24 (by decide) (by omega) (fun c_24 => ?_) (fun c_24 => ?_)
        · exact absurd c_24 (by decide)
        · refine en_aload_n (i := 0) h dX3_rankWithout_27 rfl rfl ?_
          refine en_iload_n (i := 3) h dX3_rankWithout_28 rfl rfl ?_
          refine en_iload (i := 4) h dX3_rankWithout_29 rfl ?_
          refine en_callV h (k_X3_clearBelow hW hP ok1 ⟨b0, by omega⟩ ⟨by omega, by omega⟩) my_X3_clearBelow gX3_rankWithout_X3_clearBelow (hI _ (by omega) (by omega)) rfl rfl rfl rfl ⟨by decide, by decide⟩ ⟨by decide, by decide⟩ (Nat.le_of_ble_eq_true rfl) dX3_rankWithout_31 (fun r m' hp => ?_)
          obtain ⟨rfl, q1, q2, q3⟩ := hp
          have hst : la_st (g, E) (n : Int) = (g + 1, la_cb (la_sw E p g) g (n : Int)) := by
            unfold la_st
            simp only []
            rw [hpe, if_pos (by omega)]
          rw [hst] at ih9
          refine en_iinc h dX3_rankWithout_34 rfl (by decide) ?_
          refine en_iinc h dX3_rankWithout_37 rfl (by decide) ?_
          refine en_goto (tgt := 11) h dX3_rankWithout_40 (by decide) ?_
          refine ih9 m' (en_of_tr q1 (fun k hk => by rw [xm_rp_k M (by omega)]; exact h1 k hk)) ⟨fun i i0 i1 => by rw [q2]; exact ok1.1 i i0 i1, fun i j i0 i1 j0 j1 e => by rw [q2] at e; exact ok1.2 i j i0 i1 j0 j1 e⟩ (fun i c i0 i1 c0 c1 => ?_)
          unfold xr_E
          rw [q2, q3 i c i0 i1 c0 c1]
          have key : ∀ i c, 0 ≤ i → i < 10 → 0 ≤ c → c < 5 → xr_E (xm_rp M p g) i c = la_sw E p g i c := by
            intro i c i0 i1 c0 c1
            rw [xm_rp_E h2 ⟨by omega, by omega⟩ ⟨b0, by omega⟩ i0 i1]
            unfold la_sw
            by_cases e1 : i = p
            · rw [if_pos e1, if_pos e1]; exact h3 g c b0 (by omega) c0 c1
            · rw [if_neg e1, if_neg e1]
              by_cases e2 : i = g
              · rw [if_pos e2, if_pos e2]; exact h3 p c (by omega) (by omega) c0 c1
              · rw [if_neg e2, if_neg e2]; exact h3 i c i0 i1 c0 c1
          show la_cb _ _ _ _ _ = la_cb _ _ _ _ _
          unfold la_cb
          by_cases e : g < i
          · rw [if_pos e, if_pos e]
            rw [key g (n : Int) b0 (by omega) (by omega) (by omega), key i c i0 i1 c0 c1, key i (n : Int) i0 i1 (by omega) (by omega), key g c b0 (by omega) c0 c1]
          · rw [if_neg e, if_neg e]
            exact key i c i0 i1 c0 c1
      · rw [if_neg hp, if_neg hp]
        have hst : la_st (g, E) (n : Int) = (g, E) := by
          unfold la_st
          simp only []
          rw [hpe, if_neg hp]
        rw [hst] at ih9
        refine en_if_eq (tgt := 37) h dX3_rankWithout_24 (by decide) (by omega) (fun c_24 => ?_) (fun c_24 => ?_)
        · refine en_iinc h dX3_rankWithout_37 rfl (by decide) ?_
          refine en_goto (tgt := 11) h dX3_rankWithout_40 (by decide) ?_
          exact ih9 M h1 h2 h3
        · exact absurd rfl c_24
/-- what the meters must be for their rows -/
def xv_all (m : en_M) : Prop := (0 ≤ m 21 1 ∧ m 21 1 ≤ 10) ∧ (∀ i, 0 ≤ i → i < m 21 1 → xv_m m i ∧ (m 26 i = 0 ∨ m 26 i = 1) ∧ en_i32 (xm_iu m i) ∧ ∀ b, 0 ≤ b → b < 5 → -8 ≤ xm_gr m i b ∧ xm_gr m i b ≤ 8) ∧ ∀ b, 0 ≤ b → b < 5 → en_i32 (m 5 b)
theorem xv_all_ag {M m : en_M} (h : en_ag M m) (hv : xv_all m) : xv_all M := by
  refine ⟨by rw [h 21 (by decide)]; exact hv.1, fun i i0 i1 => ?_, fun b b0 b1 => by rw [h 5 (by decide)]; exact hv.2.2 b b0 b1⟩
  rw [h 21 (by decide)] at i1
  have q := hv.2.1 i i0 i1
  exact ⟨xv_m_ag h q.1, by rw [h 26 (by decide)]; exact q.2.1, by rw [xm_iu_ag h]; exact q.2.2.1, fun b b0 b1 => by rw [xm_gr_ag h q.1]; exact q.2.2.2 b b0 b1⟩
theorem xm_io_32 {m : en_M} (hv : xv_all m) {i : Int} (i0 : 0 ≤ i) (i1 : i < m 21 1) : en_i32 (xm_io m i) := by
  unfold xm_io
  split
  · exact ⟨by decide, by decide⟩
  · exact (hv.2.1 i i0 i1).2.2.1
theorem xm_row_bd {m : en_M} (hv : xv_all m) (lo q : Int) : ∀ i c, 0 ≤ i → i < 10 → 0 ≤ c → c < 5 → -8 ≤ xm_row m lo q i c ∧ xm_row m lo q i c ≤ 8 := by
  intro i c i0 i1 c0 c1
  unfold xm_row
  by_cases e : (i < m 21 1 ∧ i ≠ lo ∧ xm_io m i = q) ∧ c ≠ q
  · rw [if_pos e]; exact (hv.2.1 i i0 e.1.1).2.2.2 c c0 c1
  · rw [if_neg e]; omega
theorem xm_row_ag {M m : en_M} (h : en_ag M m) (hv : xv_all m) {lo q i c : Int} (i0 : 0 ≤ i) : xm_row M lo q i c = xm_row m lo q i c := by
  unfold xm_row
  rw [h 21 (by decide), xm_io_ag h]
  by_cases e : (i < m 21 1 ∧ i ≠ lo ∧ xm_io m i = q) ∧ c ≠ q
  · rw [if_pos e, if_pos e, xm_gr_ag h (hv.2.1 i i0 e.1.1).1]
  · rw [if_neg e, if_neg e]
/-- the rank of the rows of an island's meters, but for one -/
def xm_rk (m : en_M) (lo q : Int) : Int := (la_el (xm_row m lo q) 5).1
theorem xm_rk_ag {M m : en_M} (h : en_ag M m) (hv : xv_all m) {lo q : Int} : xm_rk M lo q = xm_rk m lo q := by
  unfold xm_rk
  exact (la_el_cong (fun i c i0 i1 c0 c1 => xm_row_ag h hv i0) 5 (Nat.le_refl _)).1
set_option maxRecDepth 100000 in
set_option maxHeartbeats 4000000 in
theorem k_X3_rankWithout {l : Launch} {w : en_W} {m : en_M} {lo q : Int} (hw : en_Wok w) (hp : en_Has w 0 39) (ho : xr_ok m) (hlo : en_i32 lo) (hq : en_i32 q) (hv : xv_all m) : en_Met l w yX3_rankWithout wsX3_rankWithout rm_X3_rankWithout [en_R 27, en_I lo, en_I q] m (fun r m' => r = some (en_I (xm_rk m lo q)) ∧ en_of m' m ∧ xr_ok m') := by
  refine en_met my_X3_rankWithout hw (Nat.le_of_ble_eq_true rfl) ?_
  intro κ hl9 hw9 h hf
  subst hw9
  subst hl9
  have hI : ∀ k, 0 ≤ k → k < 39 → en_in κ k := hp
  refine en_aload_n (i := 0) h dX3_rankWithout_0 rfl rfl ?_
  refine en_iload_n (i := 1) h dX3_rankWithout_1 rfl rfl ?_
  refine en_iload_n (i := 2) h dX3_rankWithout_2 rfl rfl ?_
  refine en_callV h (k_X3_fillRows hw hI ho hlo hq hv.1 (fun i i0 i1 => ⟨(hv.2.1 i i0 i1).1, (hv.2.1 i i0 i1).2.1, xm_io_32 hv i0 i1, fun b b0 b1 => by have z := (hv.2.1 i i0 i1).2.2.2 b b0 b1; omega⟩)) my_X3_fillRows gX3_rankWithout_X3_fillRows (hI _ (by omega) (by omega)) rfl rfl rfl rfl ⟨by decide, by decide⟩ ⟨by decide, by decide⟩ (Nat.le_of_ble_eq_true rfl) dX3_rankWithout_3 (fun r m' hp => ?_)
  obtain ⟨rfl, q1, q2, q3⟩ := hp
  refine en_iconst h dX3_rankWithout_6 ?_
  refine en_istore_n (i := 3) h dX3_rankWithout_7 rfl (by decide) ?_
  refine en_iconst h dX3_rankWithout_8 ?_
  refine en_istore (i := 4) h dX3_rankWithout_9 (by decide) ?_
  exact lp_X3_rankWithout hw hI h hf (xm_row_bd hv lo q) 5 0 rfl m' q1 ⟨fun i i0 i1 => by rw [q2]; exact ho.1 i i0 i1, fun i j i0 i1 j0 j1 e => by rw [q2] at e; exact ho.2 i j i0 i1 j0 j1 e⟩ (fun i c i0 i1 c0 c1 => by unfold xr_E; rw [q2]; exact q3 i c i0 i1 c0 c1)
theorem la_el_rng {A : Int → Int → Int} : 0 ≤ (la_el A 5).1 ∧ (la_el A 5).1 ≤ 5 := by
  obtain ⟨P, h0, h1, -⟩ := la_el_inv A 5 (Nat.le_refl _)
  exact ⟨h0, h1⟩
abbrev rm_X3_suffices : Room := { frames := 5, cells := 0, slots := 0, locals := 92 }
theorem my_X3_suffices : en_MY yX3_suffices RX3 cX3_suffices 2 (some .boolean) wsX3_suffices 1 := ⟨⟨_, rfl⟩, rfl, by decide, by decide, by decide +kernel, by decide +kernel⟩
set_option maxRecDepth 20000 in
theorem fl_X3_suffices_16 : en_FL wsX3_suffices RX3 16 3 0 := ⟨_, _, _, rfl, by decide, by decide +kernel, Or.inl (by decide +kernel)⟩
set_option maxRecDepth 100000 in
set_option maxHeartbeats 4000000 in
theorem k_X3_suffices {l : Launch} {w : en_W} {m : en_M} {q : Int} (hw : en_Wok w) (hp : en_Has w 0 39) (ho : xr_ok m) (hq : en_i32 q) (hv : xv_all m) : en_Met l w yX3_suffices wsX3_suffices rm_X3_suffices [en_R 27, en_I q] m (fun r m' => r = some (en_I (if xm_rk m (-1) q = gs_cu (m 5) q 5 then 1 else 0)) ∧ en_of m' m ∧ xr_ok m') := by
  refine en_met my_X3_suffices hw (Nat.le_of_ble_eq_true rfl) ?_
  intro κ hl9 hw9 h hf
  subst hw9
  subst hl9
  have hI : ∀ k, 0 ≤ k → k < 39 → en_in κ k := hp
  refine en_aload_n (i := 0) h dX3_suffices_0 rfl rfl ?_
  refine en_iconst h dX3_suffices_1 ?_
  refine en_iload_n (i := 1) h dX3_suffices_2 rfl rfl ?_
  refine en_callV h (k_X3_rankWithout hw hI ho (by decide) hq hv) my_X3_rankWithout gX3_suffices_X3_rankWithout (hI _ (by omega) (by omega)) rfl rfl rfl rfl ⟨by decide, by decide⟩ ⟨by decide, by decide⟩ (Nat.le_of_ble_eq_true rfl) dX3_suffices_3 (fun r m' hp => ?_)
  obtain ⟨rfl, q1, q2⟩ := hp
  have e5 : m' 5 = m 5 := q1 5 (by decide)
  refine en_aload_n (i := 0) h dX3_suffices_6 rfl rfl ?_
  refine en_getR h dX3_suffices_7 fl_X3_suffices_16 (hI _ (by omega) (by omega)) rfl rfl ?_
  refine en_iload_n (i := 1) h dX3_suffices_10 rfl rfl ?_
  refine en_callV h (k_X1_countUnknown hw (fun k k0 k1 => hI k k0 (by omega)) (fun b b0 b1 => by rw [e5]; exact hv.2.2 b b0 b1) hq) my_X1_countUnknown gX3_suffices_X1_countUnknown (hI _ (by omega) (by omega)) rfl rfl rfl rfl ⟨by decide, by decide⟩ ⟨by decide, by decide⟩ (Nat.le_of_ble_eq_true rfl) dX3_suffices_11 (fun r m' hp => ?_)
  obtain ⟨rfl, rfl⟩ := hp
  rw [e5]
  have r1 := la_el_rng (A := xm_row m (-1) q)
  have r2 := gs_cu_rng (m 5) q 5
  have r3 : xm_rk m (-1) q = (la_el (xm_row m (-1) q) 5).1 := rfl
  refine en_icmp_ne (tgt := 21) h dX3_suffices_14 (by decide) (by omega) (by omega) (fun c_14 => ?_) (fun c_14 => ?_)
  · refine en_iconst h dX3_suffices_21 ?_
    exact en_zret h hf dX3_suffices_22 ⟨by decide, by decide⟩ (by omega) ⟨by rw [if_neg c_14], q1, q2⟩
  · refine en_iconst h dX3_suffices_17 ?_
    refine en_goto (tgt := 22) h dX3_suffices_18 (by decide) ?_
    exact en_zret h hf dX3_suffices_22 ⟨by decide, by decide⟩ (by omega) ⟨by rw [if_pos c_14], q1, q2⟩
abbrev rm_X3_needs : Room := { frames := 5, cells := 0, slots := 0, locals := 92 }
theorem my_X3_needs : en_MY yX3_needs RX3 cX3_needs 4 (some .boolean) wsX3_needs 1 := ⟨⟨_, rfl⟩, rfl, by decide, by decide, by decide +kernel, by decide +kernel⟩
set_option maxRecDepth 20000 in
theorem fl_X3_needs_16 : en_FL wsX3_needs RX3 16 3 0 := ⟨_, _, _, rfl, by decide, by decide +kernel, Or.inl (by decide +kernel)⟩
set_option maxRecDepth 20000 in
theorem fl_X3_needs_20 : en_FL wsX3_needs RX3 20 3 1 := ⟨_, _, _, rfl, by decide, by decide +kernel, Or.inl (by decide +kernel)⟩
set_option maxRecDepth 100000 in
set_option maxHeartbeats 4000000 in
theorem k_X3_needs {l : Launch} {w : en_W} {m : en_M} {i : Int} (hw : en_Wok w) (hp : en_Has w 0 39) (ho : xr_ok m) (hv : xv_all m) (i0 : 0 ≤ i ∧ i < m 21 1) : en_Met l w yX3_needs wsX3_needs rm_X3_needs [en_R 27, en_I i] m (fun r m' => r = some (en_I (if xm_io m i ≠ -1 ∧ xm_rk m (-1) (xm_io m i) = gs_cu (m 5) (xm_io m i) 5 ∧ xm_rk m i (xm_io m i) < gs_cu (m 5) (xm_io m i) 5 then 1 else 0)) ∧ en_of m' m ∧ xr_ok m') := by
  refine en_met my_X3_needs hw (Nat.le_of_ble_eq_true rfl) ?_
  intro κ hl9 hw9 h hf
  subst hw9
  subst hl9
  have hI : ∀ k, 0 ≤ k → k < 39 → en_in κ k := hp
  have v := hv.2.1 i i0.1 i0.2
  have n9 := hv.1
  have io9 := xm_io_32 hv i0.1 i0.2
  refine en_aload_n (i := 0) h dX3_needs_0 rfl rfl ?_
  refine en_getR h dX3_needs_1 fl_X3_needs_20 (hI _ (by omega) (by omega)) rfl rfl ?_
  refine en_iload_n (i := 1) h dX3_needs_4 rfl rfl ?_
  refine en_callV h (k_X2_islandOf hw (fun k k0 k1 => hI k k0 (by omega)) ⟨i0.1, by omega⟩ v.1 v.2.1) my_X2_islandOf gX3_needs_X2_islandOf (hI _ (by omega) (by omega)) rfl rfl rfl rfl ⟨by decide, by decide⟩ ⟨by decide, by decide⟩ (Nat.le_of_ble_eq_true rfl) dX3_needs_5 (fun r M0 hp => ?_)
  obtain ⟨rfl, e0⟩ := hp
  subst e0
  refine en_istore_n (i := 2) h dX3_needs_8 rfl (by decide) ?_
  refine en_iload_n (i := 2) h dX3_needs_9 rfl rfl ?_
  refine en_iconst h dX3_needs_10 ?_
  refine en_icmp_ne (tgt := 16) h dX3_needs_11 (by decide) (by omega) (by omega) (fun c_11 => ?_) (fun c_11 => ?_)
  · refine en_aload_n (i := 0) h dX3_needs_16 rfl rfl ?_
    refine en_getR h dX3_needs_17 fl_X3_needs_16 (hI _ (by omega) (by omega)) rfl rfl ?_
    refine en_iload_n (i := 2) h dX3_needs_20 rfl rfl ?_
    refine en_callV h (k_X1_countUnknown hw (fun k k0 k1 => hI k k0 (by omega)) hv.2.2 io9) my_X1_countUnknown gX3_needs_X1_countUnknown (hI _ (by omega) (by omega)) rfl rfl rfl rfl ⟨by decide, by decide⟩ ⟨by decide, by decide⟩ (Nat.le_of_ble_eq_true rfl) dX3_needs_21 (fun r M1 hp => ?_)
    obtain ⟨rfl, e1⟩ := hp
    subst e1
    have r2 := gs_cu_rng (M1 5) (xm_io M1 i) 5
    refine en_istore_n (i := 3) h dX3_needs_24 rfl (by decide) ?_
    refine en_aload_n (i := 0) h dX3_needs_25 rfl rfl ?_
    refine en_iconst h dX3_needs_26 ?_
    refine en_iload_n (i := 2) h dX3_needs_27 rfl rfl ?_
    refine en_callV h (k_X3_rankWithout hw hI ho (by decide) io9 hv) my_X3_rankWithout gX3_needs_X3_rankWithout (hI _ (by omega) (by omega)) rfl rfl rfl rfl ⟨by decide, by decide⟩ ⟨by decide, by decide⟩ (Nat.le_of_ble_eq_true rfl) dX3_needs_28 (fun r M2 hp => ?_)
    obtain ⟨rfl, q1, q2⟩ := hp
    have r1 := la_el_rng (A := xm_row M1 (-1) (xm_io M1 i))
    have r3 : xm_rk M1 (-1) (xm_io M1 i) = (la_el (xm_row M1 (-1) (xm_io M1 i)) 5).1 := rfl
    refine en_iload_n (i := 3) h dX3_needs_31 rfl rfl ?_
    refine en_icmp_ne (tgt := 49) h dX3_needs_32 (by decide) (by omega) (by omega) (fun c_32 => ?_) (fun c_32 => ?_)
    · refine en_iconst h dX3_needs_49 ?_
      exact en_zret h hf dX3_needs_50 ⟨by decide, by decide⟩ (by omega) ⟨by rw [if_neg (fun z => c_32 z.2.1)], q1, q2⟩
    · refine en_aload_n (i := 0) h dX3_needs_35 rfl rfl ?_
      refine en_iload_n (i := 1) h dX3_needs_36 rfl rfl ?_
      refine en_iload_n (i := 2) h dX3_needs_37 rfl rfl ?_
      refine en_callV h (k_X3_rankWithout hw hI q2 (by omega) io9 (xv_all_ag (en_of_ag q1) hv)) my_X3_rankWithout gX3_needs_X3_rankWithout (hI _ (by omega) (by omega)) rfl rfl rfl rfl ⟨by decide, by decide⟩ ⟨by decide, by decide⟩ (Nat.le_of_ble_eq_true rfl) dX3_needs_38 (fun r M3 hp => ?_)
      obtain ⟨rfl, q3, q4⟩ := hp
      have r4 := la_el_rng (A := xm_row M2 i (xm_io M1 i))
      have r5 : xm_rk M2 i (xm_io M1 i) = (la_el (xm_row M2 i (xm_io M1 i)) 5).1 := rfl
      have e9 : xm_rk M2 i (xm_io M1 i) = xm_rk M1 i (xm_io M1 i) := xm_rk_ag (en_of_ag q1) hv
      refine en_iload_n (i := 3) h dX3_needs_41 rfl rfl ?_
      refine en_icmp_ge (tgt := 49) h dX3_needs_42 (by decide) (by omega) (by omega) (fun c_42 => ?_) (fun c_42 => ?_)
      · refine en_iconst h dX3_needs_49 ?_
        exact en_zret h hf dX3_needs_50 ⟨by decide, by decide⟩ (by omega) ⟨by rw [if_neg (fun z => by omega)], en_of_tr q3 q1, q4⟩
      · refine en_iconst h dX3_needs_45 ?_
        refine en_goto (tgt := 50) h dX3_needs_46 (by decide) ?_
        exact en_zret h hf dX3_needs_50 ⟨by decide, by decide⟩ (by omega) ⟨by rw [if_pos ⟨c_11, c_32, by omega⟩], en_of_tr q3 q1, q4⟩
  · refine en_iconst h dX3_needs_14 ?_
    exact en_zret h hf dX3_needs_15 ⟨by decide, by decide⟩ (by omega) ⟨by rw [if_neg (fun z => z.1 c_11)], fun k _ => rfl, ho⟩
