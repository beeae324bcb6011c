/-! PURE 17: residuals alike, by 16 cases -/
section RS
variable {x y : Int} {g D row T : Int → Int} {u : Int → Bool}
def rs_H (g D row T : Int → Int) (u : Int → Bool) : Prop := D 0 = 0 ∧ (∀ r, 1 ≤ r → r ≤ 4 → u r = false → D r = 0) ∧ (∀ r, 1 ≤ r → r ≤ 4 → u r = true → row (dt_a u r) = g r ∧ T (dt_a u r) = D r) ∧ ∀ k, 0 ≤ k → k < 4 → dt_a u 5 ≤ k → row k = 0
theorem rs_0 (h : rs_H g D row T u) (h1 : u 1 = false) (h2 : u 2 = false) (h3 : u 3 = false) (h4 : u 4 = false) : gm_rs x y g D 5 = gm_rs x y row T 4 := by
  have a1 : dt_a u 1 = 0 := by simp [dt_a, h1, h2, h3, h4]
  have a2 : dt_a u 2 = 0 := by simp [dt_a, h1, h2, h3, h4]
  have a3 : dt_a u 3 = 0 := by simp [dt_a, h1, h2, h3, h4]
  have a4 : dt_a u 4 = 0 := by simp [dt_a, h1, h2, h3, h4]
  have a5 : dt_a u 5 = 0 := by simp [dt_a, h1, h2, h3, h4]
  have d1 := h.2.1 1 (by decide) (by decide) h1
  have d2 := h.2.1 2 (by decide) (by decide) h2
  have d3 := h.2.1 3 (by decide) (by decide) h3
  have d4 := h.2.1 4 (by decide) (by decide) h4
  have r0 := h.2.2.2 0 (by decide) (by decide) (by rw [a5]; decide)
  have r1 := h.2.2.2 1 (by decide) (by decide) (by rw [a5]; decide)
  have r2 := h.2.2.2 2 (by decide) (by decide) (by rw [a5]; decide)
  have r3 := h.2.2.2 3 (by decide) (by decide) (by rw [a5]; decide)
  show ((((x * y - g 0 * D 0) - g 1 * D 1) - g 2 * D 2) - g 3 * D 3) - g 4 * D 4 = (((x * y - row 0 * T 0) - row 1 * T 1) - row 2 * T 2) - row 3 * T 3
  rw [h.1, d1, d2, d3, d4, r0, r1, r2, r3]
  simp
theorem rs_1 (h : rs_H g D row T u) (h1 : u 1 = true) (h2 : u 2 = false) (h3 : u 3 = false) (h4 : u 4 = false) : gm_rs x y g D 5 = gm_rs x y row T 4 := by
  have a1 : dt_a u 1 = 0 := by simp [dt_a, h1, h2, h3, h4]
  have a2 : dt_a u 2 = 1 := by simp [dt_a, h1, h2, h3, h4]
  have a3 : dt_a u 3 = 1 := by simp [dt_a, h1, h2, h3, h4]
  have a4 : dt_a u 4 = 1 := by simp [dt_a, h1, h2, h3, h4]
  have a5 : dt_a u 5 = 1 := by simp [dt_a, h1, h2, h3, h4]
  have g1 := h.2.2.1 1 (by decide) (by decide) h1
  rw [a1] at g1
  have d2 := h.2.1 2 (by decide) (by decide) h2
  have d3 := h.2.1 3 (by decide) (by decide) h3
  have d4 := h.2.1 4 (by decide) (by decide) h4
  have r1 := h.2.2.2 1 (by decide) (by decide) (by rw [a5]; decide)
  have r2 := h.2.2.2 2 (by decide) (by decide) (by rw [a5]; decide)
  have r3 := h.2.2.2 3 (by decide) (by decide) (by rw [a5]; decide)
  show ((((x * y - g 0 * D 0) - g 1 * D 1) - g 2 * D 2) - g 3 * D 3) - g 4 * D 4 = (((x * y - row 0 * T 0) - row 1 * T 1) - row 2 * T 2) - row 3 * T 3
  rw [h.1, ← g1.1, ← g1.2, d2, d3, d4, r1, r2, r3]
  simp
theorem rs_2 (h : rs_H g D row T u) (h1 : u 1 = false) (h2 : u 2 = true) (h3 : u 3 = false) (h4 : u 4 = false) : gm_rs x y g D 5 = gm_rs x y row T 4 := by
  have a1 : dt_a u 1 = 0 := by simp [dt_a, h1, h2, h3, h4]
  have a2 : dt_a u 2 = 0 := by simp [dt_a, h1, h2, h3, h4]
  have a3 : dt_a u 3 = 1 := by simp [dt_a, h1, h2, h3, h4]
  have a4 : dt_a u 4 = 1 := by simp [dt_a, h1, h2, h3, h4]
  have a5 : dt_a u 5 = 1 := by simp [dt_a, h1, h2, h3, h4]
  have d1 := h.2.1 1 (by decide) (by decide) h1
  have g2 := h.2.2.1 2 (by decide) (by decide) h2
  rw [a2] at g2
  have d3 := h.2.1 3 (by decide) (by decide) h3
  have d4 := h.2.1 4 (by decide) (by decide) h4
  have r1 := h.2.2.2 1 (by decide) (by decide) (by rw [a5]; decide)
  have r2 := h.2.2.2 2 (by decide) (by decide) (by rw [a5]; decide)
  have r3 := h.2.2.2 3 (by decide) (by decide) (by rw [a5]; decide)
  show ((((x * y - g 0 * D 0) - g 1 * D 1) - g 2 * D 2) - g 3 * D 3) - g 4 * D 4 = (((x * y - row 0 * T 0) - row 1 * T 1) - row 2 * T 2) - row 3 * T 3
  rw [h.1, d1, ← g2.1, ← g2.2, d3, d4, r1, r2, r3]
  simp
theorem rs_3 (h : rs_H g D row T u) (h1 : u 1 = true) (h2 : u 2 = true) (h3 : u 3 = false) (h4 : u 4 = false) : gm_rs x y g D 5 = gm_rs x y row T 4 := by
  have a1 : dt_a u 1 = 0 := by simp [dt_a, h1, h2, h3, h4]
  have a2 : dt_a u 2 = 1 := by simp [dt_a, h1, h2, h3, h4]
  have a3 : dt_a u 3 = 2 := by simp [dt_a, h1, h2, h3, h4]
  have a4 : dt_a u 4 = 2 := by simp [dt_a, h1, h2, h3, h4]
  have a5 : dt_a u 5 = 2 := by simp [dt_a, h1, h2, h3, h4]
  have g1 := h.2.2.1 1 (by decide) (by decide) h1
  rw [a1] at g1
  have g2 := h.2.2.1 2 (by decide) (by decide) h2
  rw [a2] at g2
  have d3 := h.2.1 3 (by decide) (by decide) h3
  have d4 := h.2.1 4 (by decide) (by decide) h4
  have r2 := h.2.2.2 2 (by decide) (by decide) (by rw [a5]; decide)
  have r3 := h.2.2.2 3 (by decide) (by decide) (by rw [a5]; decide)
  show ((((x * y - g 0 * D 0) - g 1 * D 1) - g 2 * D 2) - g 3 * D 3) - g 4 * D 4 = (((x * y - row 0 * T 0) - row 1 * T 1) - row 2 * T 2) - row 3 * T 3
  rw [h.1, ← g1.1, ← g1.2, ← g2.1, ← g2.2, d3, d4, r2, r3]
  simp
theorem rs_4 (h : rs_H g D row T u) (h1 : u 1 = false) (h2 : u 2 = false) (h3 : u 3 = true) (h4 : u 4 = false) : gm_rs x y g D 5 = gm_rs x y row T 4 := by
  have a1 : dt_a u 1 = 0 := by simp [dt_a, h1, h2, h3, h4]
  have a2 : dt_a u 2 = 0 := by simp [dt_a, h1, h2, h3, h4]
  have a3 : dt_a u 3 = 0 := by simp [dt_a, h1, h2, h3, h4]
  have a4 : dt_a u 4 = 1 := by simp [dt_a, h1, h2, h3, h4]
  have a5 : dt_a u 5 = 1 := by simp [dt_a, h1, h2, h3, h4]
  have d1 := h.2.1 1 (by decide) (by decide) h1
  have d2 := h.2.1 2 (by decide) (by decide) h2
  have g3 := h.2.2.1 3 (by decide) (by decide) h3
  rw [a3] at g3
  have d4 := h.2.1 4 (by decide) (by decide) h4
  have r1 := h.2.2.2 1 (by decide) (by decide) (by rw [a5]; decide)
  have r2 := h.2.2.2 2 (by decide) (by decide) (by rw [a5]; decide)
  have r3 := h.2.2.2 3 (by decide) (by decide) (by rw [a5]; decide)
  show ((((x * y - g 0 * D 0) - g 1 * D 1) - g 2 * D 2) - g 3 * D 3) - g 4 * D 4 = (((x * y - row 0 * T 0) - row 1 * T 1) - row 2 * T 2) - row 3 * T 3
  rw [h.1, d1, d2, ← g3.1, ← g3.2, d4, r1, r2, r3]
  simp
theorem rs_5 (h : rs_H g D row T u) (h1 : u 1 = true) (h2 : u 2 = false) (h3 : u 3 = true) (h4 : u 4 = false) : gm_rs x y g D 5 = gm_rs x y row T 4 := by
  have a1 : dt_a u 1 = 0 := by simp [dt_a, h1, h2, h3, h4]
  have a2 : dt_a u 2 = 1 := by simp [dt_a, h1, h2, h3, h4]
  have a3 : dt_a u 3 = 1 := by simp [dt_a, h1, h2, h3, h4]
  have a4 : dt_a u 4 = 2 := by simp [dt_a, h1, h2, h3, h4]
  have a5 : dt_a u 5 = 2 := by simp [dt_a, h1, h2, h3, h4]
  have g1 := h.2.2.1 1 (by decide) (by decide) h1
  rw [a1] at g1
  have d2 := h.2.1 2 (by decide) (by decide) h2
  have g3 := h.2.2.1 3 (by decide) (by decide) h3
  rw [a3] at g3
  have d4 := h.2.1 4 (by decide) (by decide) h4
  have r2 := h.2.2.2 2 (by decide) (by decide) (by rw [a5]; decide)
  have r3 := h.2.2.2 3 (by decide) (by decide) (by rw [a5]; decide)
  show ((((x * y - g 0 * D 0) - g 1 * D 1) - g 2 * D 2) - g 3 * D 3) - g 4 * D 4 = (((x * y - row 0 * T 0) - row 1 * T 1) - row 2 * T 2) - row 3 * T 3
  rw [h.1, ← g1.1, ← g1.2, d2, ← g3.1, ← g3.2, d4, r2, r3]
  simp
theorem rs_6 (h : rs_H g D row T u) (h1 : u 1 = false) (h2 : u 2 = true) (h3 : u 3 = true) (h4 : u 4 = false) : gm_rs x y g D 5 = gm_rs x y row T 4 := by
  have a1 : dt_a u 1 = 0 := by simp [dt_a, h1, h2, h3, h4]
  have a2 : dt_a u 2 = 0 := by simp [dt_a, h1, h2, h3, h4]
  have a3 : dt_a u 3 = 1 := by simp [dt_a, h1, h2, h3, h4]
  have a4 : dt_a u 4 = 2 := by simp [dt_a, h1, h2, h3, h4]
  have a5 : dt_a u 5 = 2 := by simp [dt_a, h1, h2, h3, h4]
  have d1 := h.2.1 1 (by decide) (by decide) h1
  have g2 := h.2.2.1 2 (by decide) (by decide) h2
  rw [a2] at g2
  have g3 := h.2.2.1 3 (by decide) (by decide) h3
  rw [a3] at g3
  have d4 := h.2.1 4 (by decide) (by decide) h4
  have r2 := h.2.2.2 2 (by decide) (by decide) (by rw [a5]; decide)
  have r3 := h.2.2.2 3 (by decide) (by decide) (by rw [a5]; decide)
  show ((((x * y - g 0 * D 0) - g 1 * D 1) - g 2 * D 2) - g 3 * D 3) - g 4 * D 4 = (((x * y - row 0 * T 0) - row 1 * T 1) - row 2 * T 2) - row 3 * T 3
  rw [h.1, d1, ← g2.1, ← g2.2, ← g3.1, ← g3.2, d4, r2, r3]
  simp
theorem rs_7 (h : rs_H g D row T u) (h1 : u 1 = true) (h2 : u 2 = true) (h3 : u 3 = true) (h4 : u 4 = false) : gm_rs x y g D 5 = gm_rs x y row T 4 := by
  have a1 : dt_a u 1 = 0 := by simp [dt_a, h1, h2, h3, h4]
  have a2 : dt_a u 2 = 1 := by simp [dt_a, h1, h2, h3, h4]
  have a3 : dt_a u 3 = 2 := by simp [dt_a, h1, h2, h3, h4]
  have a4 : dt_a u 4 = 3 := by simp [dt_a, h1, h2, h3, h4]
  have a5 : dt_a u 5 = 3 := by simp [dt_a, h1, h2, h3, h4]
  have g1 := h.2.2.1 1 (by decide) (by decide) h1
  rw [a1] at g1
  have g2 := h.2.2.1 2 (by decide) (by decide) h2
  rw [a2] at g2
  have g3 := h.2.2.1 3 (by decide) (by decide) h3
  rw [a3] at g3
  have d4 := h.2.1 4 (by decide) (by decide) h4
  have r3 := h.2.2.2 3 (by decide) (by decide) (by rw [a5]; decide)
  show ((((x * y - g 0 * D 0) - g 1 * D 1) - g 2 * D 2) - g 3 * D 3) - g 4 * D 4 = (((x * y - row 0 * T 0) - row 1 * T 1) - row 2 * T 2) - row 3 * T 3
  rw [h.1, ← g1.1, ← g1.2, ← g2.1, ← g2.2, ← g3.1, ← g3.2, d4, r3]
  simp
theorem rs_8 (h : rs_H g D row T u) (h1 : u 1 = false) (h2 : u 2 = false) (h3 : u 3 = false) (h4 : u 4 = true) : gm_rs x y g D 5 = gm_rs x y row T 4 := by
  have a1 : dt_a u 1 = 0 := by simp [dt_a, h1, h2, h3, h4]
  have a2 : dt_a u 2 = 0 := by simp [dt_a, h1, h2, h3, h4]
  have a3 : dt_a u 3 = 0 := by simp [dt_a, h1, h2, h3, h4]
  have a4 : dt_a u 4 = 0 := by simp [dt_a, h1, h2, h3, h4]
  have a5 : dt_a u 5 = 1 := by simp [dt_a, h1, h2, h3, h4]
  have d1 := h.2.1 1 (by decide) (by decide) h1
  have d2 := h.2.1 2 (by decide) (by decide) h2
  have d3 := h.2.1 3 (by decide) (by decide) h3
  have g4 := h.2.2.1 4 (by decide) (by decide) h4
  rw [a4] at g4
  have r1 := h.2.2.2 1 (by decide) (by decide) (by rw [a5]; decide)
  have r2 := h.2.2.2 2 (by decide) (by decide) (by rw [a5]; decide)
  have r3 := h.2.2.2 3 (by decide) (by decide) (by rw [a5]; decide)
  show ((((x * y - g 0 * D 0) - g 1 * D 1) - g 2 * D 2) - g 3 * D 3) - g 4 * D 4 = (((x * y - row 0 * T 0) - row 1 * T 1) - row 2 * T 2) - row 3 * T 3
  rw [h.1, d1, d2, d3, ← g4.1, ← g4.2, r1, r2, r3]
  simp
theorem rs_9 (h : rs_H g D row T u) (h1 : u 1 = true) (h2 : u 2 = false) (h3 : u 3 = false) (h4 : u 4 = true) : gm_rs x y g D 5 = gm_rs x y row T 4 := by
  have a1 : dt_a u 1 = 0 := by simp [dt_a, h1, h2, h3, h4]
  have a2 : dt_a u 2 = 1 := by simp [dt_a, h1, h2, h3, h4]
  have a3 : dt_a u 3 = 1 := by simp [dt_a, h1, h2, h3, h4]
  have a4 : dt_a u 4 = 1 := by simp [dt_a, h1, h2, h3, h4]
  have a5 : dt_a u 5 = 2 := by simp [dt_a, h1, h2, h3, h4]
  have g1 := h.2.2.1 1 (by decide) (by decide) h1
  rw [a1] at g1
  have d2 := h.2.1 2 (by decide) (by decide) h2
  have d3 := h.2.1 3 (by decide) (by decide) h3
  have g4 := h.2.2.1 4 (by decide) (by decide) h4
  rw [a4] at g4
  have r2 := h.2.2.2 2 (by decide) (by decide) (by rw [a5]; decide)
  have r3 := h.2.2.2 3 (by decide) (by decide) (by rw [a5]; decide)
  show ((((x * y - g 0 * D 0) - g 1 * D 1) - g 2 * D 2) - g 3 * D 3) - g 4 * D 4 = (((x * y - row 0 * T 0) - row 1 * T 1) - row 2 * T 2) - row 3 * T 3
  rw [h.1, ← g1.1, ← g1.2, d2, d3, ← g4.1, ← g4.2, r2, r3]
  simp
theorem rs_10 (h : rs_H g D row T u) (h1 : u 1 = false) (h2 : u 2 = true) (h3 : u 3 = false) (h4 : u 4 = true) : gm_rs x y g D 5 = gm_rs x y row T 4 := by
  have a1 : dt_a u 1 = 0 := by simp [dt_a, h1, h2, h3, h4]
  have a2 : dt_a u 2 = 0 := by simp [dt_a, h1, h2, h3, h4]
  have a3 : dt_a u 3 = 1 := by simp [dt_a, h1, h2, h3, h4]
  have a4 : dt_a u 4 = 1 := by simp [dt_a, h1, h2, h3, h4]
  have a5 : dt_a u 5 = 2 := by simp [dt_a, h1, h2, h3, h4]
  have d1 := h.2.1 1 (by decide) (by decide) h1
  have g2 := h.2.2.1 2 (by decide) (by decide) h2
  rw [a2] at g2
  have d3 := h.2.1 3 (by decide) (by decide) h3
  have g4 := h.2.2.1 4 (by decide) (by decide) h4
  rw [a4] at g4
  have r2 := h.2.2.2 2 (by decide) (by decide) (by rw [a5]; decide)
  have r3 := h.2.2.2 3 (by decide) (by decide) (by rw [a5]; decide)
  show ((((x * y - g 0 * D 0) - g 1 * D 1) - g 2 * D 2) - g 3 * D 3) - g 4 * D 4 = (((x * y - row 0 * T 0) - row 1 * T 1) - row 2 * T 2) - row 3 * T 3
  rw [h.1, d1, ← g2.1, ← g2.2, d3, ← g4.1, ← g4.2, r2, r3]
  simp
theorem rs_11 (h : rs_H g D row T u) (h1 : u 1 = true) (h2 : u 2 = true) (h3 : u 3 = false) (h4 : u 4 = true) : gm_rs x y g D 5 = gm_rs x y row T 4 := by
  have a1 : dt_a u 1 = 0 := by simp [dt_a, h1, h2, h3, h4]
  have a2 : dt_a u 2 = 1 := by simp [dt_a, h1, h2, h3, h4]
  have a3 : dt_a u 3 = 2 := by simp [dt_a, h1, h2, h3, h4]
  have a4 : dt_a u 4 = 2 := by simp [dt_a, h1, h2, h3, h4]
  have a5 : dt_a u 5 = 3 := by simp [dt_a, h1, h2, h3, h4]
  have g1 := h.2.2.1 1 (by decide) (by decide) h1
  rw [a1] at g1
  have g2 := h.2.2.1 2 (by decide) (by decide) h2
  rw [a2] at g2
  have d3 := h.2.1 3 (by decide) (by decide) h3
  have g4 := h.2.2.1 4 (by decide) (by decide) h4
  rw [a4] at g4
  have r3 := h.2.2.2 3 (by decide) (by decide) (by rw [a5]; decide)
  show ((((x * y - g 0 * D 0) - g 1 * D 1) - g 2 * D 2) - g 3 * D 3) - g 4 * D 4 = (((x * y - row 0 * T 0) - row 1 * T 1) - row 2 * T 2) - row 3 * T 3
  rw [h.1, ← g1.1, ← g1.2, ← g2.1, ← g2.2, d3, ← g4.1, ← g4.2, r3]
  simp
theorem rs_12 (h : rs_H g D row T u) (h1 : u 1 = false) (h2 : u 2 = false) (h3 : u 3 = true) (h4 : u 4 = true) : gm_rs x y g D 5 = gm_rs x y row T 4 := by
  have a1 : dt_a u 1 = 0 := by simp [dt_a, h1, h2, h3, h4]
  have a2 : dt_a u 2 = 0 := by simp [dt_a, h1, h2, h3, h4]
  have a3 : dt_a u 3 = 0 := by simp [dt_a, h1, h2, h3, h4]
  have a4 : dt_a u 4 = 1 := by simp [dt_a, h1, h2, h3, h4]
  have a5 : dt_a u 5 = 2 := by simp [dt_a, h1, h2, h3, h4]
  have d1 := h.2.1 1 (by decide) (by decide) h1
  have d2 := h.2.1 2 (by decide) (by decide) h2
  have g3 := h.2.2.1 3 (by decide) (by decide) h3
  rw [a3] at g3
  have g4 := h.2.2.1 4 (by decide) (by decide) h4
  rw [a4] at g4
  have r2 := h.2.2.2 2 (by decide) (by decide) (by rw [a5]; decide)
  have r3 := h.2.2.2 3 (by decide) (by decide) (by rw [a5]; decide)
  show ((((x * y - g 0 * D 0) - g 1 * D 1) - g 2 * D 2) - g 3 * D 3) - g 4 * D 4 = (((x * y - row 0 * T 0) - row 1 * T 1) - row 2 * T 2) - row 3 * T 3
  rw [h.1, d1, d2, ← g3.1, ← g3.2, ← g4.1, ← g4.2, r2, r3]
  simp
theorem rs_13 (h : rs_H g D row T u) (h1 : u 1 = true) (h2 : u 2 = false) (h3 : u 3 = true) (h4 : u 4 = true) : gm_rs x y g D 5 = gm_rs x y row T 4 := by
  have a1 : dt_a u 1 = 0 := by simp [dt_a, h1, h2, h3, h4]
  have a2 : dt_a u 2 = 1 := by simp [dt_a, h1, h2, h3, h4]
  have a3 : dt_a u 3 = 1 := by simp [dt_a, h1, h2, h3, h4]
  have a4 : dt_a u 4 = 2 := by simp [dt_a, h1, h2, h3, h4]
  have a5 : dt_a u 5 = 3 := by simp [dt_a, h1, h2, h3, h4]
  have g1 := h.2.2.1 1 (by decide) (by decide) h1
  rw [a1] at g1
  have d2 := h.2.1 2 (by decide) (by decide) h2
  have g3 := h.2.2.1 3 (by decide) (by decide) h3
  rw [a3] at g3
  have g4 := h.2.2.1 4 (by decide) (by decide) h4
  rw [a4] at g4
  have r3 := h.2.2.2 3 (by decide) (by decide) (by rw [a5]; decide)
  show ((((x * y - g 0 * D 0) - g 1 * D 1) - g 2 * D 2) - g 3 * D 3) - g 4 * D 4 = (((x * y - row 0 * T 0) - row 1 * T 1) - row 2 * T 2) - row 3 * T 3
  rw [h.1, ← g1.1, ← g1.2, d2, ← g3.1, ← g3.2, ← g4.1, ← g4.2, r3]
  simp
theorem rs_14 (h : rs_H g D row T u) (h1 : u 1 = false) (h2 : u 2 = true) (h3 : u 3 = true) (h4 : u 4 = true) : gm_rs x y g D 5 = gm_rs x y row T 4 := by
  have a1 : dt_a u 1 = 0 := by simp [dt_a, h1, h2, h3, h4]
  have a2 : dt_a u 2 = 0 := by simp [dt_a, h1, h2, h3, h4]
  have a3 : dt_a u 3 = 1 := by simp [dt_a, h1, h2, h3, h4]
  have a4 : dt_a u 4 = 2 := by simp [dt_a, h1, h2, h3, h4]
  have a5 : dt_a u 5 = 3 := by simp [dt_a, h1, h2, h3, h4]
  have d1 := h.2.1 1 (by decide) (by decide) h1
  have g2 := h.2.2.1 2 (by decide) (by decide) h2
  rw [a2] at g2
  have g3 := h.2.2.1 3 (by decide) (by decide) h3
  rw [a3] at g3
  have g4 := h.2.2.1 4 (by decide) (by decide) h4
  rw [a4] at g4
  have r3 := h.2.2.2 3 (by decide) (by decide) (by rw [a5]; decide)
  show ((((x * y - g 0 * D 0) - g 1 * D 1) - g 2 * D 2) - g 3 * D 3) - g 4 * D 4 = (((x * y - row 0 * T 0) - row 1 * T 1) - row 2 * T 2) - row 3 * T 3
  rw [h.1, d1, ← g2.1, ← g2.2, ← g3.1, ← g3.2, ← g4.1, ← g4.2, r3]
  simp
theorem rs_15 (h : rs_H g D row T u) (h1 : u 1 = true) (h2 : u 2 = true) (h3 : u 3 = true) (h4 : u 4 = true) : gm_rs x y g D 5 = gm_rs x y row T 4 := by
  have a1 : dt_a u 1 = 0 := by simp [dt_a, h1, h2, h3, h4]
  have a2 : dt_a u 2 = 1 := by simp [dt_a, h1, h2, h3, h4]
  have a3 : dt_a u 3 = 2 := by simp [dt_a, h1, h2, h3, h4]
  have a4 : dt_a u 4 = 3 := by simp [dt_a, h1, h2, h3, h4]
  have a5 : dt_a u 5 = 4 := by simp [dt_a, h1, h2, h3, h4]
  have g1 := h.2.2.1 1 (by decide) (by decide) h1
  rw [a1] at g1
  have g2 := h.2.2.1 2 (by decide) (by decide) h2
  rw [a2] at g2
  have g3 := h.2.2.1 3 (by decide) (by decide) h3
  rw [a3] at g3
  have g4 := h.2.2.1 4 (by decide) (by decide) h4
  rw [a4] at g4
  show ((((x * y - g 0 * D 0) - g 1 * D 1) - g 2 * D 2) - g 3 * D 3) - g 4 * D 4 = (((x * y - row 0 * T 0) - row 1 * T 1) - row 2 * T 2) - row 3 * T 3
  rw [h.1, ← g1.1, ← g1.2, ← g2.1, ← g2.2, ← g3.1, ← g3.2, ← g4.1, ← g4.2]
  simp
theorem rs_all (h : rs_H g D row T u) : gm_rs x y g D 5 = gm_rs x y row T 4 := by
  cases h1 : u 1 <;> cases h2 : u 2 <;> cases h3 : u 3 <;> cases h4 : u 4
  · exact rs_0 h h1 h2 h3 h4
  · exact rs_8 h h1 h2 h3 h4
  · exact rs_4 h h1 h2 h3 h4
  · exact rs_12 h h1 h2 h3 h4
  · exact rs_2 h h1 h2 h3 h4
  · exact rs_10 h h1 h2 h3 h4
  · exact rs_6 h h1 h2 h3 h4
  · exact rs_14 h h1 h2 h3 h4
  · exact rs_1 h h1 h2 h3 h4
  · exact rs_9 h h1 h2 h3 h4
  · exact rs_5 h h1 h2 h3 h4
  · exact rs_13 h h1 h2 h3 h4
  · exact rs_3 h h1 h2 h3 h4
  · exact rs_11 h h1 h2 h3 h4
  · exact rs_7 h h1 h2 h3 h4
  · exact rs_15 h h1 h2 h3 h4
end RS
theorem lk_rs {m : en_M} (h : xl m) {q i : Int} (i0 : 0 ≤ i) (i1 : i < m 21 1) : mg_rs (mo_qm m 0) q i = xe_rs m q i := by
  obtain ⟨hk, hl, hm, h5, hg, hne⟩ := id h
  have z0 := lk_0 hk hl h5
  have e1 : (mo_qm m 0 51 1) = m 0 0 := by rw [mo_qm_j (by decide), hk.1]
  unfold mg_rs xe_rs
  rw [lk_D h q, mo_qm_kk (k := 58) (by decide) (by decide), hk.2.2.2.2.2.2.2.2.2.1]
  refine (rs_all (u := dt_u (m 5) q) ⟨lk_T0 h (by decide) (by decide) (fun z => z.2 (by rw [← z.1, z0])), fun r r0 r1 hu => lk_T0 h (by omega) (by omega) (fun z => by rw [dt_u_iff.mpr z] at hu; cases hu), fun r r0 r1 hu => ?_, fun k k0 k1 hc => ?_⟩).symm
  · obtain ⟨g1, g2, g3⟩ := lk_un h (by omega) (by omega) (dt_u_iff.mp hu)
    rw [← g3]
    exact ⟨lk_row hk hl hm hg hne i0 i1 (by omega) g1 g2, lk_T h (by omega) (by omega) (dt_u_iff.mp hu)⟩
  · have e5 := dt_a_cu (R := m 5) (q := q) z0 5 (Nat.le_refl _)
    rw [show ((5 : Nat) : Int) = 5 from rfl] at e5
    rw [e5, ← lk_cnt h q] at hc
    exact mg_row_off (mo_qm_ln hl) q i (by rw [e1]; exact hc)
