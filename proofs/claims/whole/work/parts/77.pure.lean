/-! PURE 9: references and islands of meters, alike -/
def xl_r (m : en_M) : Prop := ∀ b, 0 ≤ b → b < 5 → m 5 b = gs_it (m 0 1).toNat (m 1) (m 2) (m 4) 4 b
theorem lk_ref {m : en_M} (hk : xl_k m) (hl : xo_ln m) (h5 : xl_r m) {b : Int} (b0 : 0 ≤ b) (b1 : b < m 0 0) : mo_qm m 0 61 b = m 5 b := by
  obtain ⟨k1, k2, k3, k4, k5, k6, k7, -⟩ := hk
  obtain ⟨n0, n1, hr⟩ := hl
  rw [mo_qm_k (by decide), mo_dv_at b0 (by rw [k1]; exact b1), h5 b b0 (by omega), k1, k2, k4, k5, k7]
  rw [k1] at n0 hr
  rw [k2] at n1 hr
  rw [k4, k5] at hr
  exact gs_it_4 (fun j j0 j1 => by have z := hr j j0 (by omega); omega) (by omega) (by omega) b0 (by omega)
theorem lk_iu {m : en_M} (hk : xl_k m) (hl : xo_ln m) (hm : xo_mt m) (h5 : xl_r m) {i : Int} (i0 : 0 ≤ i) (i1 : i < m 21 1) : mo_iu (mo_qm m 0) i = xm_iu m i := by
  have v := (hm.2 i i0 (by rw [hk.2.2.1]; exact i1)).1
  have rf := fun b b0 b1 => lk_ref hk hl h5 (b := b) b0 b1
  obtain ⟨k1, k2, k3, k4, k5, k6, k7, k8, k9, k10, k11, k12⟩ := hk
  obtain ⟨n0, n1, hr⟩ := hl
  unfold mo_iu xm_iu
  rw [mo_qm_kk (k := 56) (by decide) (by decide), mo_qm_kk (k := 57) (by decide) (by decide), mo_qm_kk (k := 55) (by decide) (by decide), mo_qm_kk (k := 52) (by decide) (by decide)]
  rcases v with ⟨v1, v2, v3⟩ | ⟨v1, v2, v3⟩
  · rw [if_pos v1, if_pos (by rw [← k8]; exact v1), rf _ v2 (by rw [← k1]; exact v3), k9]
  · have r := hr _ v2 v3
    rw [if_neg (show ¬ m 56 i = 1 by omega), if_neg (show ¬ m 22 i = 1 by rw [← k8]; omega), k7, k9, k4]
    rw [k9, k4, k1] at r
    split
    · rfl
    · rw [rf _ r.1.1 r.1.2]
theorem lk_io {m : en_M} (hk : xl_k m) (hl : xo_ln m) (hm : xo_mt m) (h5 : xl_r m) {i : Int} (i0 : 0 ≤ i) (i1 : i < m 21 1) : mo_io (mo_qm m 0) i = xm_io m i := by
  unfold mo_io xm_io
  rw [lk_iu hk hl hm h5 i0 i1, mo_qm_kk (k := 60) (by decide) (by decide), hk.2.2.2.2.2.2.2.2.2.2.2]
/-- the growths are laid as the lines are -/
def xl_g (m : en_M) : Prop := (∀ j b, 0 ≤ j → j < m 0 1 → 0 ≤ b → b < 5 → m (8 + j) b = gs_fg (m 1) (m 2) (m 3) (m 4) j b) ∧ ∀ p b, 0 ≤ p → p < 5 → 0 ≤ b → b < 5 → m (16 + p) b = gs_ig (m 1) (m 2) (gs_fg (m 1) (m 2) (m 3) (m 4)) (m 0 1).toNat p b
theorem lk_gr {m : en_M} (hk : xl_k m) (hl : xo_ln m) (hm : xo_mt m) (hg : xl_g m) (hne : ∀ j, 0 ≤ j → j < m 0 1 → m 1 j ≠ m 2 j) {i b : Int} (i0 : 0 ≤ i) (i1 : i < m 21 1) (b0 : 0 ≤ b) (b1 : b < 5) : ml_full (mo_qm m 0) i (m 0 1).toNat b = xm_gr m i b := by
  have v := (hm.2 i i0 (by rw [hk.2.2.1]; exact i1)).1
  obtain ⟨k1, k2, k3, k4, k5, k6, k7, k8, k9, k10, k11, k12⟩ := hk
  obtain ⟨n0, n1, hr⟩ := hl
  have q : ∀ k, 52 ≤ k → k < 60 → mo_qm m 0 k = m k := fun k h1 h2 => mo_qm_kk (by omega) (by omega)
  unfold xm_gr
  rcases v with ⟨v1, v2, v3⟩ | ⟨v1, v2, v3⟩
  · rw [if_pos (by rw [← k8]; exact v1), ml_full_inj (p := m 23 i) (by rw [q 56 (by decide) (by decide)]; exact v1) (by rw [q 57 (by decide) (by decide), k9]) b _ (fun j j0 j1 => by rw [q 52 (by decide) (by decide), q 53 (by decide) (by decide), k4, k5]; exact hne j j0 (by omega))]
    rw [q 52 (by decide) (by decide), q 53 (by decide) (by decide), q 54 (by decide) (by decide), q 55 (by decide) (by decide), k4, k5, k6, k7]
    rw [k9] at v2 v3
    exact (hg.2 _ b v2 (by omega) b0 b1).symm
  · rw [if_neg (by rw [← k8]; omega)]
    rw [k9] at v2 v3
    rw [k2] at v3
    rw [ml_full_flow (j := m 23 i) (by rw [q 56 (by decide) (by decide)]; exact v1) (by rw [q 57 (by decide) (by decide), k9]) v2 (by rw [q 52 (by decide) (by decide), q 53 (by decide) (by decide), k4, k5]; exact hne _ v2 v3), if_pos (by omega)]
    rw [q 52 (by decide) (by decide), q 53 (by decide) (by decide), q 54 (by decide) (by decide), q 55 (by decide) (by decide), k4, k5, k6, k7]
    exact (hg.1 _ b v2 v3 b0 b1).symm
