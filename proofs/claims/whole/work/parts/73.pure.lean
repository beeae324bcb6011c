/-! PURE 5: the angles of an island in their order -/
theorem gs_cu_mono (R : Int → Int) (q : Int) (a : Nat) : ∀ n : Nat, gs_cu R q a ≤ gs_cu R q (a + n)
  | 0 => Int.le_refl _
  | n + 1 => by
    have h := gs_cu_mono R q a n
    show gs_cu R q a ≤ gs_cu R q (a + n) + _
    split <;> omega
theorem gs_cu_step {R : Int → Int} {q : Int} {a : Nat} (h : R (a : Int) = q ∧ (a : Int) ≠ q) {n : Nat} (hn : a < n) : gs_cu R q a + 1 ≤ gs_cu R q n := by
  have m := gs_cu_mono R q (a + 1) (n - (a + 1))
  rw [show a + 1 + (n - (a + 1)) = n by omega] at m
  have e : gs_cu R q (a + 1) = gs_cu R q a + 1 := by
    simp only [gs_cu]
    rw [if_pos h]
  omega
theorem ma_ao_un {R : Int → Int} {q b : Int} (h : ma_ao R q b ≠ -1) : R b = q ∧ b ≠ q := by
  unfold ma_ao at h
  apply Decidable.byContradiction
  intro c
  rw [if_neg c] at h
  exact h rfl
theorem ma_ao_of {R : Int → Int} {q b : Int} (h : R b = q ∧ b ≠ q) : ma_ao R q b = gs_cu R q b.toNat := by
  unfold ma_ao
  rw [if_pos h]
theorem ma_ao_inj (R : Int → Int) (q nb : Int) : ∀ c c', 0 ≤ c → c < nb → 0 ≤ c' → c' < nb → ma_ao R q c ≠ -1 → ma_ao R q c = ma_ao R q c' → c = c' := by
  intro c c' h0 h1 h2 h3 h4 h5
  have u := ma_ao_un h4
  have u' := ma_ao_un (by rw [← h5]; exact h4)
  rw [ma_ao_of u, ma_ao_of u'] at h5
  have ec : ((c.toNat : Nat) : Int) = c := by omega
  have ec' : ((c'.toNat : Nat) : Int) = c' := by omega
  rcases Int.lt_trichotomy c c' with g | g | g
  · have z := gs_cu_step (R := R) (q := q) (a := c.toNat) (by rw [ec]; exact u) (n := c'.toNat) (by omega)
    omega
  · exact g
  · have z := gs_cu_step (R := R) (q := q) (a := c'.toNat) (by rw [ec']; exact u') (n := c.toNat) (by omega)
    omega
theorem gs_cu_sur {R : Int → Int} {q : Int} : ∀ (n : Nat) (k : Int), 0 ≤ k → k < gs_cu R q n → ∃ b : Nat, b < n ∧ (R (b : Int) = q ∧ (b : Int) ≠ q) ∧ gs_cu R q b = k
  | 0, k, h0, h1 => by simp [gs_cu] at h1; omega
  | n + 1, k, h0, h1 => by
    simp only [gs_cu] at h1
    by_cases c : R (n : Int) = q ∧ (n : Int) ≠ q
    · rw [if_pos c] at h1
      by_cases e : gs_cu R q n = k
      · exact ⟨n, by omega, c, e⟩
      · obtain ⟨b, g1, g2, g3⟩ := gs_cu_sur (R := R) (q := q) n k h0 (by omega)
        exact ⟨b, by omega, g2, g3⟩
    · rw [if_neg c] at h1
      obtain ⟨b, g1, g2, g3⟩ := gs_cu_sur (R := R) (q := q) n k h0 (by omega)
      exact ⟨b, by omega, g2, g3⟩
/-- every angle of an island is some bus's -/
theorem ma_ao_sur {R : Int → Int} {q : Int} {n : Nat} {k : Int} (h0 : 0 ≤ k) (h1 : k < gs_cu R q n) : ∃ b, 0 ≤ b ∧ b < (n : Int) ∧ (R b = q ∧ b ≠ q) ∧ ma_ao R q b = k := by
  obtain ⟨b, g1, g2, g3⟩ := gs_cu_sur n k h0 h1
  exact ⟨(b : Int), by omega, by omega, g2, by rw [ma_ao_of g2]; exact g3⟩
/-- beyond the last angle there is none -/
theorem ma_ao_top {R : Int → Int} {q : Int} {n : Nat} {b : Int} (b0 : 0 ≤ b) (b1 : b < (n : Int)) : ma_ao R q b < gs_cu R q n := by
  by_cases u : R b = q ∧ b ≠ q
  · rw [ma_ao_of u]
    have z := gs_cu_step (R := R) (q := q) (a := b.toNat) (by rw [show ((b.toNat : Nat) : Int) = b by omega]; exact u) (n := n) (by omega)
    omega
  · have z := gs_cu_rng R q n
    unfold ma_ao
    rw [if_neg u]
    omega
/-- a row of the model: at an angle's place the meter's growth with that angle, beyond the angles 0 -/
theorem mg_row_at {m : en_M} (hl : xo_ln m) (q i : Int) {b : Int} (b0 : 0 ≤ b) (b1 : b < m 51 1) (hb : m 61 b = q ∧ b ≠ q) : mg_row m q i (ma_ao (m 61) q b) = ml_full m i (m 51 2).toNat b := by
  obtain ⟨n0, n1, hr⟩ := hl
  have g := gs_cu_rng (m 61) q b.toNat
  exact ml_row_at (ma_ao_inj (m 61) q (m 51 1)) ⟨b0, b1⟩ (by rw [ma_ao_of hb]; omega) _ (fun j j0 j1 => ⟨(hr j j0 (by omega)).1, (hr j j0 (by omega)).2.1⟩)
theorem mg_row_off {m : en_M} (hl : xo_ln m) (q i : Int) {k : Int} (hk : gs_cu (m 61) q (m 51 1).toNat ≤ k) : mg_row m q i k = 0 := by
  obtain ⟨n0, n1, hr⟩ := hl
  exact ml_row_off (nb := m 51 1) (fun c c0 c1 e => by have z := ma_ao_top (R := m 61) (q := q) (n := (m 51 1).toNat) c0 (by omega); omega) _ (fun j j0 j1 => ⟨(hr j j0 (by omega)).1, (hr j j0 (by omega)).2.1⟩)
