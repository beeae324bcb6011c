/-! PURE 7: minors of a matrix whose first row is 1, 0, 0, 0, 0 -/
section MIN
variable {E : Int → Int → Int}
def gm_r0 (E : Int → Int → Int) : Prop := E 0 0 = 1 ∧ E 0 1 = 0 ∧ E 0 2 = 0 ∧ E 0 3 = 0 ∧ E 0 4 = 0
theorem gm_e1_1 (h : gm_r0 E) : gm_D E 1 1 = 1 := by
  show gm_go E (gm_D E 0) 0 1 5 0 1 = _
  have e : gm_go E (gm_D E 0) 0 1 5 0 1 = (0 + 1 * E 0 0 * gm_D E 0 0) := rfl
  rw [e]
  simp [h.1, h.2.1, h.2.2.1, h.2.2.2.1, h.2.2.2.2, gm_D]
theorem gm_e1_2 (h : gm_r0 E) : gm_D E 1 2 = 0 := by
  show gm_go E (gm_D E 0) 0 2 5 0 1 = _
  have e : gm_go E (gm_D E 0) 0 2 5 0 1 = (0 + 1 * E 0 1 * gm_D E 0 0) := rfl
  rw [e]
  simp [h.1, h.2.1, h.2.2.1, h.2.2.2.1, h.2.2.2.2, gm_D]
theorem gm_e1_4 (h : gm_r0 E) : gm_D E 1 4 = 0 := by
  show gm_go E (gm_D E 0) 0 4 5 0 1 = _
  have e : gm_go E (gm_D E 0) 0 4 5 0 1 = (0 + 1 * E 0 2 * gm_D E 0 0) := rfl
  rw [e]
  simp [h.1, h.2.1, h.2.2.1, h.2.2.2.1, h.2.2.2.2, gm_D]
theorem gm_e1_8 (h : gm_r0 E) : gm_D E 1 8 = 0 := by
  show gm_go E (gm_D E 0) 0 8 5 0 1 = _
  have e : gm_go E (gm_D E 0) 0 8 5 0 1 = (0 + 1 * E 0 3 * gm_D E 0 0) := rfl
  rw [e]
  simp [h.1, h.2.1, h.2.2.1, h.2.2.2.1, h.2.2.2.2, gm_D]
theorem gm_e1_16 (h : gm_r0 E) : gm_D E 1 16 = 0 := by
  show gm_go E (gm_D E 0) 0 16 5 0 1 = _
  have e : gm_go E (gm_D E 0) 0 16 5 0 1 = (0 + 1 * E 0 4 * gm_D E 0 0) := rfl
  rw [e]
  simp [h.1, h.2.1, h.2.2.1, h.2.2.2.1, h.2.2.2.2, gm_D]
theorem gm_e2_3 (h : gm_r0 E) : gm_D E 2 3 = E 1 1 * gm_D E 1 1 := by
  show gm_go E (gm_D E 1) 1 3 5 0 1 = _
  have e : gm_go E (gm_D E 1) 1 3 5 0 1 = ((0 + 1 * E 1 1 * gm_D E 1 1) + (-1) * E 1 0 * gm_D E 1 2) := rfl
  rw [e]
  simp [gm_e1_2 h] <;> try omega
theorem gm_e2_5 (h : gm_r0 E) : gm_D E 2 5 = E 1 2 * gm_D E 1 1 := by
  show gm_go E (gm_D E 1) 1 5 5 0 1 = _
  have e : gm_go E (gm_D E 1) 1 5 5 0 1 = ((0 + 1 * E 1 2 * gm_D E 1 1) + (-1) * E 1 0 * gm_D E 1 4) := rfl
  rw [e]
  simp [gm_e1_4 h] <;> try omega
theorem gm_e2_6 (h : gm_r0 E) : gm_D E 2 6 = 0 := by
  show gm_go E (gm_D E 1) 1 6 5 0 1 = _
  have e : gm_go E (gm_D E 1) 1 6 5 0 1 = ((0 + 1 * E 1 2 * gm_D E 1 2) + (-1) * E 1 1 * gm_D E 1 4) := rfl
  rw [e]
  simp [gm_e1_2 h, gm_e1_4 h]
theorem gm_e2_9 (h : gm_r0 E) : gm_D E 2 9 = E 1 3 * gm_D E 1 1 := by
  show gm_go E (gm_D E 1) 1 9 5 0 1 = _
  have e : gm_go E (gm_D E 1) 1 9 5 0 1 = ((0 + 1 * E 1 3 * gm_D E 1 1) + (-1) * E 1 0 * gm_D E 1 8) := rfl
  rw [e]
  simp [gm_e1_8 h] <;> try omega
theorem gm_e2_10 (h : gm_r0 E) : gm_D E 2 10 = 0 := by
  show gm_go E (gm_D E 1) 1 10 5 0 1 = _
  have e : gm_go E (gm_D E 1) 1 10 5 0 1 = ((0 + 1 * E 1 3 * gm_D E 1 2) + (-1) * E 1 1 * gm_D E 1 8) := rfl
  rw [e]
  simp [gm_e1_2 h, gm_e1_8 h]
theorem gm_e2_12 (h : gm_r0 E) : gm_D E 2 12 = 0 := by
  show gm_go E (gm_D E 1) 1 12 5 0 1 = _
  have e : gm_go E (gm_D E 1) 1 12 5 0 1 = ((0 + 1 * E 1 3 * gm_D E 1 4) + (-1) * E 1 2 * gm_D E 1 8) := rfl
  rw [e]
  simp [gm_e1_4 h, gm_e1_8 h]
theorem gm_e2_17 (h : gm_r0 E) : gm_D E 2 17 = E 1 4 * gm_D E 1 1 := by
  show gm_go E (gm_D E 1) 1 17 5 0 1 = _
  have e : gm_go E (gm_D E 1) 1 17 5 0 1 = ((0 + 1 * E 1 4 * gm_D E 1 1) + (-1) * E 1 0 * gm_D E 1 16) := rfl
  rw [e]
  simp [gm_e1_16 h] <;> try omega
theorem gm_e2_18 (h : gm_r0 E) : gm_D E 2 18 = 0 := by
  show gm_go E (gm_D E 1) 1 18 5 0 1 = _
  have e : gm_go E (gm_D E 1) 1 18 5 0 1 = ((0 + 1 * E 1 4 * gm_D E 1 2) + (-1) * E 1 1 * gm_D E 1 16) := rfl
  rw [e]
  simp [gm_e1_2 h, gm_e1_16 h]
theorem gm_e2_20 (h : gm_r0 E) : gm_D E 2 20 = 0 := by
  show gm_go E (gm_D E 1) 1 20 5 0 1 = _
  have e : gm_go E (gm_D E 1) 1 20 5 0 1 = ((0 + 1 * E 1 4 * gm_D E 1 4) + (-1) * E 1 2 * gm_D E 1 16) := rfl
  rw [e]
  simp [gm_e1_4 h, gm_e1_16 h]
theorem gm_e2_24 (h : gm_r0 E) : gm_D E 2 24 = 0 := by
  show gm_go E (gm_D E 1) 1 24 5 0 1 = _
  have e : gm_go E (gm_D E 1) 1 24 5 0 1 = ((0 + 1 * E 1 4 * gm_D E 1 8) + (-1) * E 1 3 * gm_D E 1 16) := rfl
  rw [e]
  simp [gm_e1_8 h, gm_e1_16 h]
theorem gm_e3_7 (h : gm_r0 E) : gm_D E 3 7 = E 2 2 * gm_D E 2 3 - E 2 1 * gm_D E 2 5 := by
  show gm_go E (gm_D E 2) 2 7 5 0 1 = _
  have e : gm_go E (gm_D E 2) 2 7 5 0 1 = (((0 + 1 * E 2 2 * gm_D E 2 3) + (-1) * E 2 1 * gm_D E 2 5) + (-(-1)) * E 2 0 * gm_D E 2 6) := rfl
  rw [e, gm_e2_6 h]
  grind
theorem gm_e3_11 (h : gm_r0 E) : gm_D E 3 11 = E 2 3 * gm_D E 2 3 - E 2 1 * gm_D E 2 9 := by
  show gm_go E (gm_D E 2) 2 11 5 0 1 = _
  have e : gm_go E (gm_D E 2) 2 11 5 0 1 = (((0 + 1 * E 2 3 * gm_D E 2 3) + (-1) * E 2 1 * gm_D E 2 9) + (-(-1)) * E 2 0 * gm_D E 2 10) := rfl
  rw [e, gm_e2_10 h]
  grind
theorem gm_e3_13 (h : gm_r0 E) : gm_D E 3 13 = E 2 3 * gm_D E 2 5 - E 2 2 * gm_D E 2 9 := by
  show gm_go E (gm_D E 2) 2 13 5 0 1 = _
  have e : gm_go E (gm_D E 2) 2 13 5 0 1 = (((0 + 1 * E 2 3 * gm_D E 2 5) + (-1) * E 2 2 * gm_D E 2 9) + (-(-1)) * E 2 0 * gm_D E 2 12) := rfl
  rw [e, gm_e2_12 h]
  grind
theorem gm_e3_14 (h : gm_r0 E) : gm_D E 3 14 = 0 := by
  show gm_go E (gm_D E 2) 2 14 5 0 1 = _
  have e : gm_go E (gm_D E 2) 2 14 5 0 1 = (((0 + 1 * E 2 3 * gm_D E 2 6) + (-1) * E 2 2 * gm_D E 2 10) + (-(-1)) * E 2 1 * gm_D E 2 12) := rfl
  rw [e]
  simp [gm_e2_6 h, gm_e2_10 h, gm_e2_12 h]
theorem gm_e3_19 (h : gm_r0 E) : gm_D E 3 19 = E 2 4 * gm_D E 2 3 - E 2 1 * gm_D E 2 17 := by
  show gm_go E (gm_D E 2) 2 19 5 0 1 = _
  have e : gm_go E (gm_D E 2) 2 19 5 0 1 = (((0 + 1 * E 2 4 * gm_D E 2 3) + (-1) * E 2 1 * gm_D E 2 17) + (-(-1)) * E 2 0 * gm_D E 2 18) := rfl
  rw [e, gm_e2_18 h]
  grind
theorem gm_e3_21 (h : gm_r0 E) : gm_D E 3 21 = E 2 4 * gm_D E 2 5 - E 2 2 * gm_D E 2 17 := by
  show gm_go E (gm_D E 2) 2 21 5 0 1 = _
  have e : gm_go E (gm_D E 2) 2 21 5 0 1 = (((0 + 1 * E 2 4 * gm_D E 2 5) + (-1) * E 2 2 * gm_D E 2 17) + (-(-1)) * E 2 0 * gm_D E 2 20) := rfl
  rw [e, gm_e2_20 h]
  grind
theorem gm_e3_22 (h : gm_r0 E) : gm_D E 3 22 = 0 := by
  show gm_go E (gm_D E 2) 2 22 5 0 1 = _
  have e : gm_go E (gm_D E 2) 2 22 5 0 1 = (((0 + 1 * E 2 4 * gm_D E 2 6) + (-1) * E 2 2 * gm_D E 2 18) + (-(-1)) * E 2 1 * gm_D E 2 20) := rfl
  rw [e]
  simp [gm_e2_6 h, gm_e2_18 h, gm_e2_20 h]
theorem gm_e3_25 (h : gm_r0 E) : gm_D E 3 25 = E 2 4 * gm_D E 2 9 - E 2 3 * gm_D E 2 17 := by
  show gm_go E (gm_D E 2) 2 25 5 0 1 = _
  have e : gm_go E (gm_D E 2) 2 25 5 0 1 = (((0 + 1 * E 2 4 * gm_D E 2 9) + (-1) * E 2 3 * gm_D E 2 17) + (-(-1)) * E 2 0 * gm_D E 2 24) := rfl
  rw [e, gm_e2_24 h]
  grind
theorem gm_e3_26 (h : gm_r0 E) : gm_D E 3 26 = 0 := by
  show gm_go E (gm_D E 2) 2 26 5 0 1 = _
  have e : gm_go E (gm_D E 2) 2 26 5 0 1 = (((0 + 1 * E 2 4 * gm_D E 2 10) + (-1) * E 2 3 * gm_D E 2 18) + (-(-1)) * E 2 1 * gm_D E 2 24) := rfl
  rw [e]
  simp [gm_e2_10 h, gm_e2_18 h, gm_e2_24 h]
theorem gm_e3_28 (h : gm_r0 E) : gm_D E 3 28 = 0 := by
  show gm_go E (gm_D E 2) 2 28 5 0 1 = _
  have e : gm_go E (gm_D E 2) 2 28 5 0 1 = (((0 + 1 * E 2 4 * gm_D E 2 12) + (-1) * E 2 3 * gm_D E 2 20) + (-(-1)) * E 2 2 * gm_D E 2 24) := rfl
  rw [e]
  simp [gm_e2_12 h, gm_e2_20 h, gm_e2_24 h]
theorem gm_e4_15 (h : gm_r0 E) : gm_D E 4 15 = E 3 3 * gm_D E 3 7 - E 3 2 * gm_D E 3 11 + E 3 1 * gm_D E 3 13 := by
  show gm_go E (gm_D E 3) 3 15 5 0 1 = _
  have e : gm_go E (gm_D E 3) 3 15 5 0 1 = ((((0 + 1 * E 3 3 * gm_D E 3 7) + (-1) * E 3 2 * gm_D E 3 11) + (-(-1)) * E 3 1 * gm_D E 3 13) + (-(-(-1))) * E 3 0 * gm_D E 3 14) := rfl
  rw [e, gm_e3_14 h]
  grind
theorem gm_e4_23 (h : gm_r0 E) : gm_D E 4 23 = E 3 4 * gm_D E 3 7 - E 3 2 * gm_D E 3 19 + E 3 1 * gm_D E 3 21 := by
  show gm_go E (gm_D E 3) 3 23 5 0 1 = _
  have e : gm_go E (gm_D E 3) 3 23 5 0 1 = ((((0 + 1 * E 3 4 * gm_D E 3 7) + (-1) * E 3 2 * gm_D E 3 19) + (-(-1)) * E 3 1 * gm_D E 3 21) + (-(-(-1))) * E 3 0 * gm_D E 3 22) := rfl
  rw [e, gm_e3_22 h]
  grind
theorem gm_e4_27 (h : gm_r0 E) : gm_D E 4 27 = E 3 4 * gm_D E 3 11 - E 3 3 * gm_D E 3 19 + E 3 1 * gm_D E 3 25 := by
  show gm_go E (gm_D E 3) 3 27 5 0 1 = _
  have e : gm_go E (gm_D E 3) 3 27 5 0 1 = ((((0 + 1 * E 3 4 * gm_D E 3 11) + (-1) * E 3 3 * gm_D E 3 19) + (-(-1)) * E 3 1 * gm_D E 3 25) + (-(-(-1))) * E 3 0 * gm_D E 3 26) := rfl
  rw [e, gm_e3_26 h]
  grind
theorem gm_e4_29 (h : gm_r0 E) : gm_D E 4 29 = E 3 4 * gm_D E 3 13 - E 3 3 * gm_D E 3 21 + E 3 2 * gm_D E 3 25 := by
  show gm_go E (gm_D E 3) 3 29 5 0 1 = _
  have e : gm_go E (gm_D E 3) 3 29 5 0 1 = ((((0 + 1 * E 3 4 * gm_D E 3 13) + (-1) * E 3 3 * gm_D E 3 21) + (-(-1)) * E 3 2 * gm_D E 3 25) + (-(-(-1))) * E 3 0 * gm_D E 3 28) := rfl
  rw [e, gm_e3_28 h]
  grind
theorem gm_e4_30 (h : gm_r0 E) : gm_D E 4 30 = 0 := by
  show gm_go E (gm_D E 3) 3 30 5 0 1 = _
  have e : gm_go E (gm_D E 3) 3 30 5 0 1 = ((((0 + 1 * E 3 4 * gm_D E 3 14) + (-1) * E 3 3 * gm_D E 3 22) + (-(-1)) * E 3 2 * gm_D E 3 26) + (-(-(-1))) * E 3 1 * gm_D E 3 28) := rfl
  rw [e]
  simp [gm_e3_14 h, gm_e3_22 h, gm_e3_26 h, gm_e3_28 h]
theorem gm_e5_31 (h : gm_r0 E) : gm_D E 5 31 = E 4 4 * gm_D E 4 15 - E 4 3 * gm_D E 4 23 + E 4 2 * gm_D E 4 27 - E 4 1 * gm_D E 4 29 := by
  show gm_go E (gm_D E 4) 4 31 5 0 1 = _
  have e : gm_go E (gm_D E 4) 4 31 5 0 1 = (((((0 + 1 * E 4 4 * gm_D E 4 15) + (-1) * E 4 3 * gm_D E 4 23) + (-(-1)) * E 4 2 * gm_D E 4 27) + (-(-(-1))) * E 4 1 * gm_D E 4 29) + (-(-(-(-1)))) * E 4 0 * gm_D E 4 30) := rfl
  rw [e, gm_e4_30 h]
  grind
/-- so the minor of all columns is a determinant of four rows -/
def gm_4 (E : Int → Int → Int) : Int := (E 1 1 * E 2 2 - E 1 2 * E 2 1) * (E 3 3 * E 4 4 - E 3 4 * E 4 3) - (E 1 1 * E 2 3 - E 1 3 * E 2 1) * (E 3 2 * E 4 4 - E 3 4 * E 4 2) + (E 1 1 * E 2 4 - E 1 4 * E 2 1) * (E 3 2 * E 4 3 - E 3 3 * E 4 2) + (E 1 2 * E 2 3 - E 1 3 * E 2 2) * (E 3 1 * E 4 4 - E 3 4 * E 4 1) - (E 1 2 * E 2 4 - E 1 4 * E 2 2) * (E 3 1 * E 4 3 - E 3 3 * E 4 1) + (E 1 3 * E 2 4 - E 1 4 * E 2 3) * (E 3 1 * E 4 2 - E 3 2 * E 4 1)
theorem gm_D_4 (h : gm_r0 E) : gm_D E 5 31 = gm_4 E := by
  rw [gm_e5_31 h, gm_e4_15 h, gm_e4_23 h, gm_e4_27 h, gm_e4_29 h, gm_e3_7 h, gm_e3_11 h, gm_e3_13 h, gm_e3_19 h, gm_e3_21 h, gm_e3_25 h, gm_e2_3 h, gm_e2_5 h, gm_e2_9 h, gm_e2_17 h, gm_e1_1 h]
  unfold gm_4
  grind
end MIN
