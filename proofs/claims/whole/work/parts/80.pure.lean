/-! PURE 12: the determinant of an island, alike -/
theorem gs_ln_off {fi se cl R : Int → Int} {j b : Int} (h : b ≠ fi j ∧ b ≠ se j) : gs_ln fi se cl R j b = R b := by
  unfold gs_ln
  by_cases c : cl j = 0
  · rw [if_pos c]
  · rw [if_neg c, if_neg h.2, if_neg h.1]
theorem gs_rd_off {fi se cl R : Int → Int} {b : Int} : ∀ n : Nat, (∀ j, 0 ≤ j → j < (n : Int) → b ≠ fi j ∧ b ≠ se j) → gs_rd fi se cl R n b = R b
  | 0, _ => rfl
  | n + 1, h => by
    have ih := gs_rd_off (fi := fi) (se := se) (cl := cl) (R := R) (b := b) n (fun j j0 j1 => h j j0 (by omega))
    simp only [gs_rd]
    rw [gs_ln_off (h n (by omega) (by omega)), ih]
theorem gs_it_off {fi se cl : Int → Int} {nl : Nat} {b : Int} (h : ∀ j, 0 ≤ j → j < (nl : Int) → b ≠ fi j ∧ b ≠ se j) : ∀ t : Nat, gs_it nl fi se cl t b = b
  | 0 => rfl
  | t + 1 => by
    simp only [gs_it]
    rw [gs_rd_off nl h, gs_it_off h t]
/-- a place beyond the last bus keeps its number; bus 0 is its own reference -/
theorem lk_off {m : en_M} (hk : xl_k m) (hl : xo_ln m) (h5 : xl_r m) {b : Int} (b0 : m 0 0 ≤ b) (b1 : b < 5) : m 5 b = b := by
  obtain ⟨k1, k2, k3, k4, k5, -⟩ := hk
  obtain ⟨n0, n1, hr⟩ := hl
  rw [h5 b (by omega) b1]
  refine gs_it_off (fun j j0 j1 => ?_) 4
  have z := hr j j0 (by omega)
  rw [k4, k5, k1] at z
  omega
theorem lk_0 {m : en_M} (hk : xl_k m) (hl : xo_ln m) (h5 : xl_r m) : m 5 0 = 0 := by
  obtain ⟨k1, k2, k3, k4, k5, -⟩ := hk
  obtain ⟨n0, n1, hr⟩ := hl
  rw [h5 0 (by decide) (by decide)]
  have z := gs_it_rng (nl := (m 0 1).toNat) (fi := m 1) (se := m 2) (cl := m 4) (fun j j0 j1 => by have z := hr j j0 (by omega); rw [k4, k5] at z; omega) 4 0 (by decide)
  omega
theorem mp_c_15 {P : Int → Int} {k : Int} (h0 : 0 ≤ k) (h1 : k < 16) : mp_c P 15 k = P k := by
  have e : ∀ c : Int, 0 ≤ c → c < 4 → gm_tb 15 c = true := by
    intro c c0 c1
    have hc : c = 0 ∨ c = 1 ∨ c = 2 ∨ c = 3 := by omega
    rcases hc with rfl | rfl | rfl | rfl <;> decide
  unfold mp_c
  rw [if_pos ⟨e _ (by omega) (by omega), e _ (by omega) (by omega)⟩]
