/-! PURE 15: the tops, alike -/
theorem mg_S_pad {m : en_M} (hl : xo_ln m) {q ex k : Int} (hc : gs_cu (m 61) q (m 51 1).toNat ≤ k) : ∀ n : Nat, mg_S m q ex n k = 0
  | 0 => rfl
  | n + 1 => by
    have ih := mg_S_pad (ex := ex) hl hc n
    simp only [mg_S]
    split
    · dsimp only
      rw [ih, mg_row_off hl q _ hc, Int.mul_zero, Int.zero_mul, Int.add_zero]
    · exact ih
theorem lk_T {m : en_M} (h : xl m) {q b : Int} (b0 : 0 ≤ b) (b1 : b < 5) (hb : m 5 b = q ∧ b ≠ q) : mg_T (mo_qm m 0) q (ma_ao (mo_qm m 0 61) q b) = gl_D m q b := by
  obtain ⟨hk, hl, hm, h5, hg, hne⟩ := id h
  have n7 := hm.1
  have e7 : (mo_qm m 0 51 7) = m 21 1 := by rw [mo_qm_j (by decide), hk.2.2.1]
  have e1 : (mo_qm m 0 51 1) = m 0 0 := by rw [mo_qm_j (by decide), hk.1]
  rw [hk.2.2.1] at n7
  have z0 := lk_0 hk hl h5
  have bne : b ≠ 0 := fun e => hb.2 (by rw [← hb.1, e, z0])
  rw [gl_D_4 z0 bne]
  obtain ⟨d1, d2, d3⟩ := lk_un h b0 b1 hb
  unfold mg_T
  rw [e7]
  refine (dt_all (S := fun r c => if c = b then gq_R m q r (m 21 1).toNat else gq_S m q r c (m 21 1).toNat) (u := dt_u (m 5) q) (fun r c r0 r1 c0 c1 => ?_) ⟨fun r c r0 r1 c0 c1 ur uc => ?_, fun k k0 k1 hc => ?_⟩).symm
  · unfold gl_E
    dsimp only
    by_cases ec : c = b
    · rw [if_pos ec]
      by_cases u : dt_u (m 5) q r = true
      · rw [if_pos ⟨u, by rw [ec]; exact dt_u_iff.mpr hb⟩, if_pos ec, gl_R_un (dt_u_iff.mp u)]
      · rw [if_neg (fun z => u z.1), gl_R_kn (fun z => u (dt_u_iff.mpr z)), if_neg (fun z => u (by rw [z, ec]; exact dt_u_iff.mpr hb))]
    · rw [if_neg ec]
      by_cases u : dt_u (m 5) q r = true ∧ dt_u (m 5) q c = true
      · rw [if_pos u, if_neg ec, gl_L_un (dt_u_iff.mp u.1) (dt_u_iff.mp u.2)]
      · rw [if_neg u, gl_L_kn (fun z => u ⟨dt_u_iff.mpr z.1, dt_u_iff.mpr z.2⟩)]
  · obtain ⟨g1, g2, g3⟩ := lk_un h (by omega) (by omega) (dt_u_iff.mp ur)
    obtain ⟨f1, f2, f3⟩ := lk_un h (by omega) (by omega) (dt_u_iff.mp uc)
    rw [← g3, ← f3]
    have lr := ma_ao_lt (R := mo_qm m 0 61) (q := q) (b := r) (by omega) (by omega) (mo_qm_rf hl r (by omega) (by omega))
    have lc := ma_ao_lt (R := mo_qm m 0 61) (q := q) (b := c) (by omega) (by omega) (mo_qm_rf hl c (by omega) (by omega))
    have gr := gs_cu_rng (mo_qm m 0 61) q r.toNat
    have gc := gs_cu_rng (mo_qm m 0 61) q c.toNat
    have ar := ma_ao_of g2
    have ac := ma_ao_of f2
    unfold me_c
    dsimp only
    by_cases ec : c = b
    · rw [if_pos ec, if_pos (by rw [← ec]; omega), show (4 * ma_ao (mo_qm m 0 61) q r + ma_ao (mo_qm m 0 61) q c) / 4 = ma_ao (mo_qm m 0 61) q r by omega]
      exact lk_S hk hl hm h5 hg hne (by omega) g1 g2 _ (by omega)
    · rw [if_neg ec, if_neg (fun z => ec (ma_ao_inj (mo_qm m 0 61) q (m 0 0) c b (by omega) f1 b0 d1 (by omega) (by omega)))]
      exact lk_P hk hl hm h5 hg hne (by omega) g1 g2 (by omega) f1 f2 _ (by omega)
  · have e5 := dt_a_cu (R := m 5) (q := q) z0 5 (Nat.le_refl _)
    rw [show ((5 : Nat) : Int) = 5 from rfl] at e5
    rw [e5, ← lk_cnt h q] at hc
    have tb := ma_ao_top (R := mo_qm m 0 61) (q := q) (n := (m 0 0).toNat) b0 (by omega)
    unfold me_c
    by_cases ek : k % 4 = ma_ao (mo_qm m 0 61) q b
    · rw [if_pos ek, mg_S_pad (mo_qm_ln hl) (by rw [e1]; omega), if_neg (by omega)]
    · rw [if_neg ek]
      exact mg_P_pad (mo_qm_ln hl) k0 k1 (by rw [e1]; exact hc) _
