/-! PURE 14: the determinant of an island, alike -/
/-- all that class and model keep alike -/
def xl (m : en_M) : Prop := xl_k m ∧ xo_ln m ∧ xo_mt m ∧ xl_r m ∧ xl_g m ∧ ∀ j, 0 ≤ j → j < m 0 1 → m 1 j ≠ m 2 j
theorem lk_cnt {m : en_M} (h : xl m) (q : Int) : gs_cu (mo_qm m 0 61) q (m 0 0).toNat = gs_cu (m 5) q 5 := by
  obtain ⟨hk, hl, hm, h5, hg, hne⟩ := h
  have n0 := hl.1
  rw [hk.1] at n0
  rw [gs_cu_cong (R := mo_qm m 0 61) (R' := m 5) (m 0 0).toNat (fun b b0 b1 => lk_ref hk hl h5 b0 (by omega))]
  have e := gs_cu_beyond (R := m 5) (q := q) (a := (m 0 0).toNat) (5 - (m 0 0).toNat) (fun b b0 b1 => lk_off hk hl h5 (by omega) (by omega))
  rw [show (m 0 0).toNat + (5 - (m 0 0).toNat) = 5 by omega] at e
  exact e.symm
theorem lk_un {m : en_M} (h : xl m) {q r : Int} (r0 : 0 ≤ r) (r1 : r < 5) (hu : m 5 r = q ∧ r ≠ q) : r < m 0 0 ∧ (mo_qm m 0 61 r = q ∧ r ≠ q) ∧ ma_ao (mo_qm m 0 61) q r = dt_a (dt_u (m 5) q) r := by
  obtain ⟨hk, hl, hm, h5, hg, hne⟩ := h
  have n0 := hl.1
  rw [hk.1] at n0
  have hr : r < m 0 0 := by
    apply Decidable.byContradiction
    intro c
    have e := lk_off hk hl h5 (b := r) (by omega) r1
    exact hu.2 (by rw [← hu.1, e])
  have hq : mo_qm m 0 61 r = q ∧ r ≠ q := by rw [lk_ref hk hl h5 r0 hr]; exact hu
  refine ⟨hr, hq, ?_⟩
  have e := dt_a_cu (R := m 5) (q := q) (lk_0 hk hl h5) r.toNat (by omega)
  rw [show ((r.toNat : Nat) : Int) = r by omega] at e
  rw [ma_ao_of hq, e]
  exact gs_cu_cong _ (fun b b0 b1 => lk_ref hk hl h5 b0 (by omega))
theorem mg_P_pad {m : en_M} (hl : xo_ln m) {q ex k : Int} (k0 : 0 ≤ k) (k1 : k < 16) (hc : gs_cu (m 61) q (m 51 1).toNat ≤ k / 4 ∨ gs_cu (m 61) q (m 51 1).toNat ≤ k % 4) : ∀ n : Nat, mg_P m q ex n k = if k % 5 = 0 then 1 else 0
  | 0 => by
    simp only [mg_P, mg_B]
    by_cases e : k % 5 = 0
    · rw [if_pos e, if_pos ⟨e, by omega⟩]
    · rw [if_neg e, if_neg (fun z => e z.1)]
  | n + 1 => by
    have ih := mg_P_pad (ex := ex) hl k0 k1 hc n
    simp only [mg_P]
    split
    · dsimp only
      rw [ih]
      rcases hc with hc | hc
      · rw [mg_row_off hl q _ hc, Int.mul_zero, Int.zero_mul, Int.add_zero]
      · rw [mg_row_off hl q _ hc, Int.mul_zero, Int.add_zero]
    · exact ih
theorem lk_D {m : en_M} (h : xl m) (q : Int) : mg_D (mo_qm m 0) q (-1) = gl_D m q (-1) := by
  obtain ⟨hk, hl, hm, h5, hg, hne⟩ := id h
  have n7 := hm.1
  have e7 : (mo_qm m 0 51 7) = m 21 1 := by rw [mo_qm_j (by decide), hk.2.2.1]
  have e1 : (mo_qm m 0 51 1) = m 0 0 := by rw [mo_qm_j (by decide), hk.1]
  rw [hk.2.2.1] at n7
  rw [gl_D_4 (lk_0 hk hl h5) (by decide)]
  unfold mg_D
  rw [md_cong (c := mp_c (mg_P (mo_qm m 0) q (-1) (mo_qm m 0 51 7).toNat) 15) (c' := mg_P (mo_qm m 0) q (-1) (m 21 1).toNat) (fun k k0 k1 => by rw [mp_c_15 k0 k1, e7])]
  refine (dt_all (S := fun b o => gq_S m q b o (m 21 1).toNat) (u := dt_u (m 5) q) (fun r c r0 r1 c0 c1 => ?_) ⟨fun r c r0 r1 c0 c1 ur uc => ?_, fun k k0 k1 hc => ?_⟩).symm
  · unfold gl_E
    rw [if_neg (by omega)]
    by_cases u : dt_u (m 5) q r = true ∧ dt_u (m 5) q c = true
    · rw [if_pos u, gl_L_un (dt_u_iff.mp u.1) (dt_u_iff.mp u.2)]
    · rw [if_neg u, gl_L_kn (fun z => u ⟨dt_u_iff.mpr z.1, dt_u_iff.mpr z.2⟩)]
  · obtain ⟨g1, g2, g3⟩ := lk_un h (by omega) (by omega) (dt_u_iff.mp ur)
    obtain ⟨f1, f2, f3⟩ := lk_un h (by omega) (by omega) (dt_u_iff.mp uc)
    rw [← g3, ← f3]
    exact lk_P hk hl hm h5 hg hne (by omega) g1 g2 (by omega) f1 f2 _ (by omega)
  · have e5 := dt_a_cu (R := m 5) (q := q) (lk_0 hk hl h5) 5 (Nat.le_refl _)
    rw [show ((5 : Nat) : Int) = 5 from rfl] at e5
    rw [e5, ← lk_cnt h q] at hc
    exact mg_P_pad (mo_qm_ln hl) k0 k1 (by rw [e1]; exact hc) _
