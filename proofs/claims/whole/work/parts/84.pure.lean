/-! PURE 16: a bus that is not looked for has angle 0 -/
theorem gm_go_M0 {E : Int → Int → Int} {M : Int → Int} {row s : Int} (h : ∀ s, M s = 0) : ∀ (f : Nat) (sum sg : Int), gm_go E M row s f sum sg = sum
  | 0, _, _ => rfl
  | f + 1, sum, sg => by
    simp only [gm_go]
    split
    · rw [gm_go_M0 h f, h, Int.mul_zero, Int.add_zero]
    · rw [gm_go_M0 h f]
theorem gm_go_E0 {E : Int → Int → Int} {M : Int → Int} {row s : Int} (h : ∀ c, E row c = 0) : ∀ (f : Nat) (sum sg : Int), gm_go E M row s f sum sg = sum
  | 0, _, _ => rfl
  | f + 1, sum, sg => by
    simp only [gm_go]
    split
    · rw [gm_go_E0 h f, h, Int.mul_zero, Int.zero_mul, Int.add_zero]
    · rw [gm_go_E0 h f]
theorem gm_D_row0 {E : Int → Int → Int} (h : ∀ c, E 0 c = 0) : ∀ (p : Nat) (s : Int), gm_D E (p + 1) s = 0
  | 0, s => gm_go_E0 (row := ((0 : Nat) : Int)) h 5 0 1
  | p + 1, s => gm_go_M0 (fun s => gm_D_row0 h p s) 5 0 1
theorem lk_T0 {m : en_M} (h : xl m) {q b : Int} (b0 : 0 ≤ b) (b1 : b < 5) (hb : ¬ (m 5 b = q ∧ b ≠ q)) : gl_D m q b = 0 := by
  obtain ⟨hk, hl, hm, h5, hg, hne⟩ := h
  have e : ∀ c, gl_E m q b b c = 0 := by
    intro c
    unfold gl_E
    by_cases ec : c = b
    · rw [if_pos ec, gl_R_kn hb]
    · rw [if_neg ec, gl_L_kn (fun z => hb z.1), if_neg (fun z => ec z.symm)]
  by_cases z : b = 0
  · subst z
    exact gm_D_row0 e 4 31
  · rw [gl_D_4 (lk_0 hk hl h5) z]
    have hc : b = 1 ∨ b = 2 ∨ b = 3 ∨ b = 4 := by omega
    unfold gm_4
    rcases hc with rfl | rfl | rfl | rfl
    · simp [e]
    · simp [e]
    · simp [e]
    · simp [e]
