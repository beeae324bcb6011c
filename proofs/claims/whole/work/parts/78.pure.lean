/-! PURE 10: the sums of products, alike -/
theorem lk_row {m : en_M} (hk : xl_k m) (hl : xo_ln m) (hm : xo_mt m) (hg : xl_g m) (hne : ∀ j, 0 ≤ j → j < m 0 1 → m 1 j ≠ m 2 j) {q i b : Int} (i0 : 0 ≤ i) (i1 : i < m 21 1) (b0 : 0 ≤ b) (b1 : b < m 0 0) (hb : mo_qm m 0 61 b = q ∧ b ≠ q) : mg_row (mo_qm m 0) q i (ma_ao (mo_qm m 0 61) q b) = xm_gr m i b := by
  have n0 := hl.1
  have e1 : mo_qm m 0 51 1 = m 0 0 := by rw [mo_qm_j (by decide), hk.1]
  have e2 : mo_qm m 0 51 2 = m 0 1 := by rw [mo_qm_j (by decide), hk.2.1]
  rw [mg_row_at (mo_qm_ln hl) q i b0 (by omega) hb, e2]
  exact lk_gr hk hl hm hg hne i0 i1 b0 (by rw [hk.1] at n0; omega)
theorem lk_P {m : en_M} (hk : xl_k m) (hl : xo_ln m) (hm : xo_mt m) (h5 : xl_r m) (hg : xl_g m) (hne : ∀ j, 0 ≤ j → j < m 0 1 → m 1 j ≠ m 2 j) {q b o : Int} (b0 : 0 ≤ b) (b1 : b < m 0 0) (hb : mo_qm m 0 61 b = q ∧ b ≠ q) (o0 : 0 ≤ o) (o1 : o < m 0 0) (ho : mo_qm m 0 61 o = q ∧ o ≠ q) : ∀ n : Nat, (n : Int) ≤ m 21 1 → mg_P (mo_qm m 0) q (-1) n (4 * ma_ao (mo_qm m 0 61) q b + ma_ao (mo_qm m 0 61) q o) = gq_S m q b o n := by
  have n0 := hl.1
  have e1 : mo_qm m 0 51 1 = m 0 0 := by rw [mo_qm_j (by decide), hk.1]
  rw [hk.1] at n0
  have rb := mo_qm_rf (c := 0) hl b b0 (by omega)
  have ro := mo_qm_rf (c := 0) hl o o0 (by omega)
  have lb := ma_ao_lt (q := q) b0 (by omega) rb
  have lo := ma_ao_lt (q := q) o0 (by omega) ro
  have tb := ma_ao_top (R := mo_qm m 0 61) (q := q) (n := (m 0 0).toNat) b0 (by omega)
  have gb := gs_cu_rng (mo_qm m 0 61) q b.toNat
  have go := gs_cu_rng (mo_qm m 0 61) q o.toNat
  have ab := ma_ao_of hb
  have ao := ma_ao_of ho
  intro n
  induction n with
  | zero =>
    intro _
    simp only [mg_P, mg_B, gq_S]
    rw [e1, if_neg (by omega)]
  | succ n ih =>
    intro hn
    have ih := ih (by omega)
    simp only [mg_P, gq_S]
    rw [lk_io hk hl hm h5 (by omega) (by omega)]
    by_cases c : xm_io m (n : Int) = q
    · rw [if_pos c, if_pos ⟨by omega, c⟩]
      rw [ih, show (4 * ma_ao (mo_qm m 0 61) q b + ma_ao (mo_qm m 0 61) q o) / 4 = ma_ao (mo_qm m 0 61) q b by omega, show (4 * ma_ao (mo_qm m 0 61) q b + ma_ao (mo_qm m 0 61) q o) % 4 = ma_ao (mo_qm m 0 61) q o by omega, lk_row hk hl hm hg hne (by omega) (by omega) b0 b1 hb, lk_row hk hl hm hg hne (by omega) (by omega) o0 o1 ho, mo_qm_kk (k := 59) (by decide) (by decide), hk.2.2.2.2.2.2.2.2.2.2.1]
    · rw [if_neg c, if_neg (fun z => c z.2)]
      exact ih
theorem lk_S {m : en_M} (hk : xl_k m) (hl : xo_ln m) (hm : xo_mt m) (h5 : xl_r m) (hg : xl_g m) (hne : ∀ j, 0 ≤ j → j < m 0 1 → m 1 j ≠ m 2 j) {q b : Int} (b0 : 0 ≤ b) (b1 : b < m 0 0) (hb : mo_qm m 0 61 b = q ∧ b ≠ q) : ∀ n : Nat, (n : Int) ≤ m 21 1 → mg_S (mo_qm m 0) q (-1) n (ma_ao (mo_qm m 0 61) q b) = gq_R m q b n := by
  intro n
  induction n with
  | zero => intro _; rfl
  | succ n ih =>
    intro hn
    have ih := ih (by omega)
    simp only [mg_S, gq_R]
    rw [lk_io hk hl hm h5 (by omega) (by omega)]
    by_cases c : xm_io m (n : Int) = q
    · rw [if_pos c, if_pos ⟨by omega, c⟩]
      rw [ih, lk_row hk hl hm hg hne (by omega) (by omega) b0 b1 hb, mo_qm_kk (k := 59) (by decide) (by decide), mo_qm_kk (k := 58) (by decide) (by decide), hk.2.2.2.2.2.2.2.2.2.2.1, hk.2.2.2.2.2.2.2.2.2.1]
    · rw [if_neg c, if_neg (fun z => c z.2)]
      exact ih
