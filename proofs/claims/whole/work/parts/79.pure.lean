/-! PURE 11: both determinants alike, by 16 cases -/
def dt_a (u : Int → Bool) (r : Int) : Int := (if 1 < r ∧ u 1 = true then 1 else 0) + (if 2 < r ∧ u 2 = true then 1 else 0) + (if 3 < r ∧ u 3 = true then 1 else 0) + (if 4 < r ∧ u 4 = true then 1 else 0)
section DT
variable {S E : Int → Int → Int} {P : Int → Int} {u : Int → Bool}
def dt_E (S E : Int → Int → Int) (u : Int → Bool) : Prop := ∀ r c, 1 ≤ r → r ≤ 4 → 1 ≤ c → c ≤ 4 → E r c = if u r = true ∧ u c = true then S r c else if r = c then 1 else 0
def dt_P (S : Int → Int → Int) (P : Int → Int) (u : Int → Bool) : Prop := (∀ r c, 1 ≤ r → r ≤ 4 → 1 ≤ c → c ≤ 4 → u r = true → u c = true → P (4 * dt_a u r + dt_a u c) = S r c) ∧ ∀ k, 0 ≤ k → k < 16 → (dt_a u 5 ≤ k / 4 ∨ dt_a u 5 ≤ k % 4) → P k = if k % 5 = 0 then 1 else 0
theorem dt_0 (hE : dt_E S E u) (hP : dt_P S P u) (h1 : u 1 = false) (h2 : u 2 = false) (h3 : u 3 = false) (h4 : u 4 = false) : gm_4 E = md P := by
  have a1 : dt_a u 1 = 0 := by simp [dt_a, h1, h2, h3, h4]
  have a2 : dt_a u 2 = 0 := by simp [dt_a, h1, h2, h3, h4]
  have a3 : dt_a u 3 = 0 := by simp [dt_a, h1, h2, h3, h4]
  have a4 : dt_a u 4 = 0 := by simp [dt_a, h1, h2, h3, h4]
  have a5 : dt_a u 5 = 0 := by simp [dt_a, h1, h2, h3, h4]
  have e11 : E 1 1 = 1 := by rw [hE 1 1 (by decide) (by decide) (by decide) (by decide)]; simp [h1, h2, h3, h4]
  have e12 : E 1 2 = 0 := by rw [hE 1 2 (by decide) (by decide) (by decide) (by decide)]; simp [h1, h2, h3, h4]
  have e13 : E 1 3 = 0 := by rw [hE 1 3 (by decide) (by decide) (by decide) (by decide)]; simp [h1, h2, h3, h4]
  have e14 : E 1 4 = 0 := by rw [hE 1 4 (by decide) (by decide) (by decide) (by decide)]; simp [h1, h2, h3, h4]
  have e21 : E 2 1 = 0 := by rw [hE 2 1 (by decide) (by decide) (by decide) (by decide)]; simp [h1, h2, h3, h4]
  have e22 : E 2 2 = 1 := by rw [hE 2 2 (by decide) (by decide) (by decide) (by decide)]; simp [h1, h2, h3, h4]
  have e23 : E 2 3 = 0 := by rw [hE 2 3 (by decide) (by decide) (by decide) (by decide)]; simp [h1, h2, h3, h4]
  have e24 : E 2 4 = 0 := by rw [hE 2 4 (by decide) (by decide) (by decide) (by decide)]; simp [h1, h2, h3, h4]
  have e31 : E 3 1 = 0 := by rw [hE 3 1 (by decide) (by decide) (by decide) (by decide)]; simp [h1, h2, h3, h4]
  have e32 : E 3 2 = 0 := by rw [hE 3 2 (by decide) (by decide) (by decide) (by decide)]; simp [h1, h2, h3, h4]
  have e33 : E 3 3 = 1 := by rw [hE 3 3 (by decide) (by decide) (by decide) (by decide)]; simp [h1, h2, h3, h4]
  have e34 : E 3 4 = 0 := by rw [hE 3 4 (by decide) (by decide) (by decide) (by decide)]; simp [h1, h2, h3, h4]
  have e41 : E 4 1 = 0 := by rw [hE 4 1 (by decide) (by decide) (by decide) (by decide)]; simp [h1, h2, h3, h4]
  have e42 : E 4 2 = 0 := by rw [hE 4 2 (by decide) (by decide) (by decide) (by decide)]; simp [h1, h2, h3, h4]
  have e43 : E 4 3 = 0 := by rw [hE 4 3 (by decide) (by decide) (by decide) (by decide)]; simp [h1, h2, h3, h4]
  have e44 : E 4 4 = 1 := by rw [hE 4 4 (by decide) (by decide) (by decide) (by decide)]; simp [h1, h2, h3, h4]
  have p0 : P 0 = 1 := by rw [hP.2 0 (by decide) (by decide) (by rw [a5]; decide)]; decide
  have p1 : P 1 = 0 := by rw [hP.2 1 (by decide) (by decide) (by rw [a5]; decide)]; decide
  have p2 : P 2 = 0 := by rw [hP.2 2 (by decide) (by decide) (by rw [a5]; decide)]; decide
  have p3 : P 3 = 0 := by rw [hP.2 3 (by decide) (by decide) (by rw [a5]; decide)]; decide
  have p4 : P 4 = 0 := by rw [hP.2 4 (by decide) (by decide) (by rw [a5]; decide)]; decide
  have p5 : P 5 = 1 := by rw [hP.2 5 (by decide) (by decide) (by rw [a5]; decide)]; decide
  have p6 : P 6 = 0 := by rw [hP.2 6 (by decide) (by decide) (by rw [a5]; decide)]; decide
  have p7 : P 7 = 0 := by rw [hP.2 7 (by decide) (by decide) (by rw [a5]; decide)]; decide
  have p8 : P 8 = 0 := by rw [hP.2 8 (by decide) (by decide) (by rw [a5]; decide)]; decide
  have p9 : P 9 = 0 := by rw [hP.2 9 (by decide) (by decide) (by rw [a5]; decide)]; decide
  have p10 : P 10 = 1 := by rw [hP.2 10 (by decide) (by decide) (by rw [a5]; decide)]; decide
  have p11 : P 11 = 0 := by rw [hP.2 11 (by decide) (by decide) (by rw [a5]; decide)]; decide
  have p12 : P 12 = 0 := by rw [hP.2 12 (by decide) (by decide) (by rw [a5]; decide)]; decide
  have p13 : P 13 = 0 := by rw [hP.2 13 (by decide) (by decide) (by rw [a5]; decide)]; decide
  have p14 : P 14 = 0 := by rw [hP.2 14 (by decide) (by decide) (by rw [a5]; decide)]; decide
  have p15 : P 15 = 1 := by rw [hP.2 15 (by decide) (by decide) (by rw [a5]; decide)]; decide
  show gm_4 E = (P 0 * P 5 - P 1 * P 4) * (P 10 * P 15 - P 11 * P 14) - (P 0 * P 6 - P 2 * P 4) * (P 9 * P 15 - P 11 * P 13) + (P 0 * P 7 - P 3 * P 4) * (P 9 * P 14 - P 10 * P 13) + (P 1 * P 6 - P 2 * P 5) * (P 8 * P 15 - P 11 * P 12) - (P 1 * P 7 - P 3 * P 5) * (P 8 * P 14 - P 10 * P 12) + (P 2 * P 7 - P 3 * P 6) * (P 8 * P 13 - P 9 * P 12)
  unfold gm_4
  rw [e11, e12, e13, e14, e21, e22, e23, e24, e31, e32, e33, e34, e41, e42, e43, e44, p0, p1, p2, p3, p4, p5, p6, p7, p8, p9, p10, p11, p12, p13, p14, p15]
theorem dt_1 (hE : dt_E S E u) (hP : dt_P S P u) (h1 : u 1 = true) (h2 : u 2 = false) (h3 : u 3 = false) (h4 : u 4 = false) : gm_4 E = md P := by
  have a1 : dt_a u 1 = 0 := by simp [dt_a, h1, h2, h3, h4]
  have a2 : dt_a u 2 = 1 := by simp [dt_a, h1, h2, h3, h4]
  have a3 : dt_a u 3 = 1 := by simp [dt_a, h1, h2, h3, h4]
  have a4 : dt_a u 4 = 1 := by simp [dt_a, h1, h2, h3, h4]
  have a5 : dt_a u 5 = 1 := by simp [dt_a, h1, h2, h3, h4]
  have e11 : E 1 1 = S 1 1 := by rw [hE 1 1 (by decide) (by decide) (by decide) (by decide)]; simp [h1, h2, h3, h4]
  have e12 : E 1 2 = 0 := by rw [hE 1 2 (by decide) (by decide) (by decide) (by decide)]; simp [h1, h2, h3, h4]
  have e13 : E 1 3 = 0 := by rw [hE 1 3 (by decide) (by decide) (by decide) (by decide)]; simp [h1, h2, h3, h4]
  have e14 : E 1 4 = 0 := by rw [hE 1 4 (by decide) (by decide) (by decide) (by decide)]; simp [h1, h2, h3, h4]
  have e21 : E 2 1 = 0 := by rw [hE 2 1 (by decide) (by decide) (by decide) (by decide)]; simp [h1, h2, h3, h4]
  have e22 : E 2 2 = 1 := by rw [hE 2 2 (by decide) (by decide) (by decide) (by decide)]; simp [h1, h2, h3, h4]
  have e23 : E 2 3 = 0 := by rw [hE 2 3 (by decide) (by decide) (by decide) (by decide)]; simp [h1, h2, h3, h4]
  have e24 : E 2 4 = 0 := by rw [hE 2 4 (by decide) (by decide) (by decide) (by decide)]; simp [h1, h2, h3, h4]
  have e31 : E 3 1 = 0 := by rw [hE 3 1 (by decide) (by decide) (by decide) (by decide)]; simp [h1, h2, h3, h4]
  have e32 : E 3 2 = 0 := by rw [hE 3 2 (by decide) (by decide) (by decide) (by decide)]; simp [h1, h2, h3, h4]
  have e33 : E 3 3 = 1 := by rw [hE 3 3 (by decide) (by decide) (by decide) (by decide)]; simp [h1, h2, h3, h4]
  have e34 : E 3 4 = 0 := by rw [hE 3 4 (by decide) (by decide) (by decide) (by decide)]; simp [h1, h2, h3, h4]
  have e41 : E 4 1 = 0 := by rw [hE 4 1 (by decide) (by decide) (by decide) (by decide)]; simp [h1, h2, h3, h4]
  have e42 : E 4 2 = 0 := by rw [hE 4 2 (by decide) (by decide) (by decide) (by decide)]; simp [h1, h2, h3, h4]
  have e43 : E 4 3 = 0 := by rw [hE 4 3 (by decide) (by decide) (by decide) (by decide)]; simp [h1, h2, h3, h4]
  have e44 : E 4 4 = 1 := by rw [hE 4 4 (by decide) (by decide) (by decide) (by decide)]; simp [h1, h2, h3, h4]
  have p0 : P 0 = S 1 1 := by have z := hP.1 1 1 (by decide) (by decide) (by decide) (by decide) h1 h1; rw [a1] at z; exact z
  have p1 : P 1 = 0 := by rw [hP.2 1 (by decide) (by decide) (by rw [a5]; decide)]; decide
  have p2 : P 2 = 0 := by rw [hP.2 2 (by decide) (by decide) (by rw [a5]; decide)]; decide
  have p3 : P 3 = 0 := by rw [hP.2 3 (by decide) (by decide) (by rw [a5]; decide)]; decide
  have p4 : P 4 = 0 := by rw [hP.2 4 (by decide) (by decide) (by rw [a5]; decide)]; decide
  have p5 : P 5 = 1 := by rw [hP.2 5 (by decide) (by decide) (by rw [a5]; decide)]; decide
  have p6 : P 6 = 0 := by rw [hP.2 6 (by decide) (by decide) (by rw [a5]; decide)]; decide
  have p7 : P 7 = 0 := by rw [hP.2 7 (by decide) (by decide) (by rw [a5]; decide)]; decide
  have p8 : P 8 = 0 := by rw [hP.2 8 (by decide) (by decide) (by rw [a5]; decide)]; decide
  have p9 : P 9 = 0 := by rw [hP.2 9 (by decide) (by decide) (by rw [a5]; decide)]; decide
  have p10 : P 10 = 1 := by rw [hP.2 10 (by decide) (by decide) (by rw [a5]; decide)]; decide
  have p11 : P 11 = 0 := by rw [hP.2 11 (by decide) (by decide) (by rw [a5]; decide)]; decide
  have p12 : P 12 = 0 := by rw [hP.2 12 (by decide) (by decide) (by rw [a5]; decide)]; decide
  have p13 : P 13 = 0 := by rw [hP.2 13 (by decide) (by decide) (by rw [a5]; decide)]; decide
  have p14 : P 14 = 0 := by rw [hP.2 14 (by decide) (by decide) (by rw [a5]; decide)]; decide
  have p15 : P 15 = 1 := by rw [hP.2 15 (by decide) (by decide) (by rw [a5]; decide)]; decide
  show gm_4 E = (P 0 * P 5 - P 1 * P 4) * (P 10 * P 15 - P 11 * P 14) - (P 0 * P 6 - P 2 * P 4) * (P 9 * P 15 - P 11 * P 13) + (P 0 * P 7 - P 3 * P 4) * (P 9 * P 14 - P 10 * P 13) + (P 1 * P 6 - P 2 * P 5) * (P 8 * P 15 - P 11 * P 12) - (P 1 * P 7 - P 3 * P 5) * (P 8 * P 14 - P 10 * P 12) + (P 2 * P 7 - P 3 * P 6) * (P 8 * P 13 - P 9 * P 12)
  unfold gm_4
  rw [e11, e12, e13, e14, e21, e22, e23, e24, e31, e32, e33, e34, e41, e42, e43, e44, p0, p1, p2, p3, p4, p5, p6, p7, p8, p9, p10, p11, p12, p13, p14, p15]
theorem dt_2 (hE : dt_E S E u) (hP : dt_P S P u) (h1 : u 1 = false) (h2 : u 2 = true) (h3 : u 3 = false) (h4 : u 4 = false) : gm_4 E = md P := by
  have a1 : dt_a u 1 = 0 := by simp [dt_a, h1, h2, h3, h4]
  have a2 : dt_a u 2 = 0 := by simp [dt_a, h1, h2, h3, h4]
  have a3 : dt_a u 3 = 1 := by simp [dt_a, h1, h2, h3, h4]
  have a4 : dt_a u 4 = 1 := by simp [dt_a, h1, h2, h3, h4]
  have a5 : dt_a u 5 = 1 := by simp [dt_a, h1, h2, h3, h4]
  have e11 : E 1 1 = 1 := by rw [hE 1 1 (by decide) (by decide) (by decide) (by decide)]; simp [h1, h2, h3, h4]
  have e12 : E 1 2 = 0 := by rw [hE 1 2 (by decide) (by decide) (by decide) (by decide)]; simp [h1, h2, h3, h4]
  have e13 : E 1 3 = 0 := by rw [hE 1 3 (by decide) (by decide) (by decide) (by decide)]; simp [h1, h2, h3, h4]
  have e14 : E 1 4 = 0 := by rw [hE 1 4 (by decide) (by decide) (by decide) (by decide)]; simp [h1, h2, h3, h4]
  have e21 : E 2 1 = 0 := by rw [hE 2 1 (by decide) (by decide) (by decide) (by decide)]; simp [h1, h2, h3, h4]
  have e22 : E 2 2 = S 2 2 := by rw [hE 2 2 (by decide) (by decide) (by decide) (by decide)]; simp [h1, h2, h3, h4]
  have e23 : E 2 3 = 0 := by rw [hE 2 3 (by decide) (by decide) (by decide) (by decide)]; simp [h1, h2, h3, h4]
  have e24 : E 2 4 = 0 := by rw [hE 2 4 (by decide) (by decide) (by decide) (by decide)]; simp [h1, h2, h3, h4]
  have e31 : E 3 1 = 0 := by rw [hE 3 1 (by decide) (by decide) (by decide) (by decide)]; simp [h1, h2, h3, h4]
  have e32 : E 3 2 = 0 := by rw [hE 3 2 (by decide) (by decide) (by decide) (by decide)]; simp [h1, h2, h3, h4]
  have e33 : E 3 3 = 1 := by rw [hE 3 3 (by decide) (by decide) (by decide) (by decide)]; simp [h1, h2, h3, h4]
  have e34 : E 3 4 = 0 := by rw [hE 3 4 (by decide) (by decide) (by decide) (by decide)]; simp [h1, h2, h3, h4]
  have e41 : E 4 1 = 0 := by rw [hE 4 1 (by decide) (by decide) (by decide) (by decide)]; simp [h1, h2, h3, h4]
  have e42 : E 4 2 = 0 := by rw [hE 4 2 (by decide) (by decide) (by decide) (by decide)]; simp [h1, h2, h3, h4]
  have e43 : E 4 3 = 0 := by rw [hE 4 3 (by decide) (by decide) (by decide) (by decide)]; simp [h1, h2, h3, h4]
  have e44 : E 4 4 = 1 := by rw [hE 4 4 (by decide) (by decide) (by decide) (by decide)]; simp [h1, h2, h3, h4]
  have p0 : P 0 = S 2 2 := by have z := hP.1 2 2 (by decide) (by decide) (by decide) (by decide) h2 h2; rw [a2] at z; exact z
  have p1 : P 1 = 0 := by rw [hP.2 1 (by decide) (by decide) (by rw [a5]; decide)]; decide
  have p2 : P 2 = 0 := by rw [hP.2 2 (by decide) (by decide) (by rw [a5]; decide)]; decide
  have p3 : P 3 = 0 := by rw [hP.2 3 (by decide) (by decide) (by rw [a5]; decide)]; decide
  have p4 : P 4 = 0 := by rw [hP.2 4 (by decide) (by decide) (by rw [a5]; decide)]; decide
  have p5 : P 5 = 1 := by rw [hP.2 5 (by decide) (by decide) (by rw [a5]; decide)]; decide
  have p6 : P 6 = 0 := by rw [hP.2 6 (by decide) (by decide) (by rw [a5]; decide)]; decide
  have p7 : P 7 = 0 := by rw [hP.2 7 (by decide) (by decide) (by rw [a5]; decide)]; decide
  have p8 : P 8 = 0 := by rw [hP.2 8 (by decide) (by decide) (by rw [a5]; decide)]; decide
  have p9 : P 9 = 0 := by rw [hP.2 9 (by decide) (by decide) (by rw [a5]; decide)]; decide
  have p10 : P 10 = 1 := by rw [hP.2 10 (by decide) (by decide) (by rw [a5]; decide)]; decide
  have p11 : P 11 = 0 := by rw [hP.2 11 (by decide) (by decide) (by rw [a5]; decide)]; decide
  have p12 : P 12 = 0 := by rw [hP.2 12 (by decide) (by decide) (by rw [a5]; decide)]; decide
  have p13 : P 13 = 0 := by rw [hP.2 13 (by decide) (by decide) (by rw [a5]; decide)]; decide
  have p14 : P 14 = 0 := by rw [hP.2 14 (by decide) (by decide) (by rw [a5]; decide)]; decide
  have p15 : P 15 = 1 := by rw [hP.2 15 (by decide) (by decide) (by rw [a5]; decide)]; decide
  show gm_4 E = (P 0 * P 5 - P 1 * P 4) * (P 10 * P 15 - P 11 * P 14) - (P 0 * P 6 - P 2 * P 4) * (P 9 * P 15 - P 11 * P 13) + (P 0 * P 7 - P 3 * P 4) * (P 9 * P 14 - P 10 * P 13) + (P 1 * P 6 - P 2 * P 5) * (P 8 * P 15 - P 11 * P 12) - (P 1 * P 7 - P 3 * P 5) * (P 8 * P 14 - P 10 * P 12) + (P 2 * P 7 - P 3 * P 6) * (P 8 * P 13 - P 9 * P 12)
  unfold gm_4
  rw [e11, e12, e13, e14, e21, e22, e23, e24, e31, e32, e33, e34, e41, e42, e43, e44, p0, p1, p2, p3, p4, p5, p6, p7, p8, p9, p10, p11, p12, p13, p14, p15]
  grind
theorem dt_3 (hE : dt_E S E u) (hP : dt_P S P u) (h1 : u 1 = true) (h2 : u 2 = true) (h3 : u 3 = false) (h4 : u 4 = false) : gm_4 E = md P := by
  have a1 : dt_a u 1 = 0 := by simp [dt_a, h1, h2, h3, h4]
  have a2 : dt_a u 2 = 1 := by simp [dt_a, h1, h2, h3, h4]
  have a3 : dt_a u 3 = 2 := by simp [dt_a, h1, h2, h3, h4]
  have a4 : dt_a u 4 = 2 := by simp [dt_a, h1, h2, h3, h4]
  have a5 : dt_a u 5 = 2 := by simp [dt_a, h1, h2, h3, h4]
  have e11 : E 1 1 = S 1 1 := by rw [hE 1 1 (by decide) (by decide) (by decide) (by decide)]; simp [h1, h2, h3, h4]
  have e12 : E 1 2 = S 1 2 := by rw [hE 1 2 (by decide) (by decide) (by decide) (by decide)]; simp [h1, h2, h3, h4]
  have e13 : E 1 3 = 0 := by rw [hE 1 3 (by decide) (by decide) (by decide) (by decide)]; simp [h1, h2, h3, h4]
  have e14 : E 1 4 = 0 := by rw [hE 1 4 (by decide) (by decide) (by decide) (by decide)]; simp [h1, h2, h3, h4]
  have e21 : E 2 1 = S 2 1 := by rw [hE 2 1 (by decide) (by decide) (by decide) (by decide)]; simp [h1, h2, h3, h4]
  have e22 : E 2 2 = S 2 2 := by rw [hE 2 2 (by decide) (by decide) (by decide) (by decide)]; simp [h1, h2, h3, h4]
  have e23 : E 2 3 = 0 := by rw [hE 2 3 (by decide) (by decide) (by decide) (by decide)]; simp [h1, h2, h3, h4]
  have e24 : E 2 4 = 0 := by rw [hE 2 4 (by decide) (by decide) (by decide) (by decide)]; simp [h1, h2, h3, h4]
  have e31 : E 3 1 = 0 := by rw [hE 3 1 (by decide) (by decide) (by decide) (by decide)]; simp [h1, h2, h3, h4]
  have e32 : E 3 2 = 0 := by rw [hE 3 2 (by decide) (by decide) (by decide) (by decide)]; simp [h1, h2, h3, h4]
  have e33 : E 3 3 = 1 := by rw [hE 3 3 (by decide) (by decide) (by decide) (by decide)]; simp [h1, h2, h3, h4]
  have e34 : E 3 4 = 0 := by rw [hE 3 4 (by decide) (by decide) (by decide) (by decide)]; simp [h1, h2, h3, h4]
  have e41 : E 4 1 = 0 := by rw [hE 4 1 (by decide) (by decide) (by decide) (by decide)]; simp [h1, h2, h3, h4]
  have e42 : E 4 2 = 0 := by rw [hE 4 2 (by decide) (by decide) (by decide) (by decide)]; simp [h1, h2, h3, h4]
  have e43 : E 4 3 = 0 := by rw [hE 4 3 (by decide) (by decide) (by decide) (by decide)]; simp [h1, h2, h3, h4]
  have e44 : E 4 4 = 1 := by rw [hE 4 4 (by decide) (by decide) (by decide) (by decide)]; simp [h1, h2, h3, h4]
  have p0 : P 0 = S 1 1 := by have z := hP.1 1 1 (by decide) (by decide) (by decide) (by decide) h1 h1; rw [a1] at z; exact z
  have p1 : P 1 = S 1 2 := by have z := hP.1 1 2 (by decide) (by decide) (by decide) (by decide) h1 h2; rw [a1, a2] at z; exact z
  have p2 : P 2 = 0 := by rw [hP.2 2 (by decide) (by decide) (by rw [a5]; decide)]; decide
  have p3 : P 3 = 0 := by rw [hP.2 3 (by decide) (by decide) (by rw [a5]; decide)]; decide
  have p4 : P 4 = S 2 1 := by have z := hP.1 2 1 (by decide) (by decide) (by decide) (by decide) h2 h1; rw [a2, a1] at z; exact z
  have p5 : P 5 = S 2 2 := by have z := hP.1 2 2 (by decide) (by decide) (by decide) (by decide) h2 h2; rw [a2] at z; exact z
  have p6 : P 6 = 0 := by rw [hP.2 6 (by decide) (by decide) (by rw [a5]; decide)]; decide
  have p7 : P 7 = 0 := by rw [hP.2 7 (by decide) (by decide) (by rw [a5]; decide)]; decide
  have p8 : P 8 = 0 := by rw [hP.2 8 (by decide) (by decide) (by rw [a5]; decide)]; decide
  have p9 : P 9 = 0 := by rw [hP.2 9 (by decide) (by decide) (by rw [a5]; decide)]; decide
  have p10 : P 10 = 1 := by rw [hP.2 10 (by decide) (by decide) (by rw [a5]; decide)]; decide
  have p11 : P 11 = 0 := by rw [hP.2 11 (by decide) (by decide) (by rw [a5]; decide)]; decide
  have p12 : P 12 = 0 := by rw [hP.2 12 (by decide) (by decide) (by rw [a5]; decide)]; decide
  have p13 : P 13 = 0 := by rw [hP.2 13 (by decide) (by decide) (by rw [a5]; decide)]; decide
  have p14 : P 14 = 0 := by rw [hP.2 14 (by decide) (by decide) (by rw [a5]; decide)]; decide
  have p15 : P 15 = 1 := by rw [hP.2 15 (by decide) (by decide) (by rw [a5]; decide)]; decide
  show gm_4 E = (P 0 * P 5 - P 1 * P 4) * (P 10 * P 15 - P 11 * P 14) - (P 0 * P 6 - P 2 * P 4) * (P 9 * P 15 - P 11 * P 13) + (P 0 * P 7 - P 3 * P 4) * (P 9 * P 14 - P 10 * P 13) + (P 1 * P 6 - P 2 * P 5) * (P 8 * P 15 - P 11 * P 12) - (P 1 * P 7 - P 3 * P 5) * (P 8 * P 14 - P 10 * P 12) + (P 2 * P 7 - P 3 * P 6) * (P 8 * P 13 - P 9 * P 12)
  unfold gm_4
  rw [e11, e12, e13, e14, e21, e22, e23, e24, e31, e32, e33, e34, e41, e42, e43, e44, p0, p1, p2, p3, p4, p5, p6, p7, p8, p9, p10, p11, p12, p13, p14, p15]
theorem dt_4 (hE : dt_E S E u) (hP : dt_P S P u) (h1 : u 1 = false) (h2 : u 2 = false) (h3 : u 3 = true) (h4 : u 4 = false) : gm_4 E = md P := by
  have a1 : dt_a u 1 = 0 := by simp [dt_a, h1, h2, h3, h4]
  have a2 : dt_a u 2 = 0 := by simp [dt_a, h1, h2, h3, h4]
  have a3 : dt_a u 3 = 0 := by simp [dt_a, h1, h2, h3, h4]
  have a4 : dt_a u 4 = 1 := by simp [dt_a, h1, h2, h3, h4]
  have a5 : dt_a u 5 = 1 := by simp [dt_a, h1, h2, h3, h4]
  have e11 : E 1 1 = 1 := by rw [hE 1 1 (by decide) (by decide) (by decide) (by decide)]; simp [h1, h2, h3, h4]
  have e12 : E 1 2 = 0 := by rw [hE 1 2 (by decide) (by decide) (by decide) (by decide)]; simp [h1, h2, h3, h4]
  have e13 : E 1 3 = 0 := by rw [hE 1 3 (by decide) (by decide) (by decide) (by decide)]; simp [h1, h2, h3, h4]
  have e14 : E 1 4 = 0 := by rw [hE 1 4 (by decide) (by decide) (by decide) (by decide)]; simp [h1, h2, h3, h4]
  have e21 : E 2 1 = 0 := by rw [hE 2 1 (by decide) (by decide) (by decide) (by decide)]; simp [h1, h2, h3, h4]
  have e22 : E 2 2 = 1 := by rw [hE 2 2 (by decide) (by decide) (by decide) (by decide)]; simp [h1, h2, h3, h4]
  have e23 : E 2 3 = 0 := by rw [hE 2 3 (by decide) (by decide) (by decide) (by decide)]; simp [h1, h2, h3, h4]
  have e24 : E 2 4 = 0 := by rw [hE 2 4 (by decide) (by decide) (by decide) (by decide)]; simp [h1, h2, h3, h4]
  have e31 : E 3 1 = 0 := by rw [hE 3 1 (by decide) (by decide) (by decide) (by decide)]; simp [h1, h2, h3, h4]
  have e32 : E 3 2 = 0 := by rw [hE 3 2 (by decide) (by decide) (by decide) (by decide)]; simp [h1, h2, h3, h4]
  have e33 : E 3 3 = S 3 3 := by rw [hE 3 3 (by decide) (by decide) (by decide) (by decide)]; simp [h1, h2, h3, h4]
  have e34 : E 3 4 = 0 := by rw [hE 3 4 (by decide) (by decide) (by decide) (by decide)]; simp [h1, h2, h3, h4]
  have e41 : E 4 1 = 0 := by rw [hE 4 1 (by decide) (by decide) (by decide) (by decide)]; simp [h1, h2, h3, h4]
  have e42 : E 4 2 = 0 := by rw [hE 4 2 (by decide) (by decide) (by decide) (by decide)]; simp [h1, h2, h3, h4]
  have e43 : E 4 3 = 0 := by rw [hE 4 3 (by decide) (by decide) (by decide) (by decide)]; simp [h1, h2, h3, h4]
  have e44 : E 4 4 = 1 := by rw [hE 4 4 (by decide) (by decide) (by decide) (by decide)]; simp [h1, h2, h3, h4]
  have p0 : P 0 = S 3 3 := by have z := hP.1 3 3 (by decide) (by decide) (by decide) (by decide) h3 h3; rw [a3] at z; exact z
  have p1 : P 1 = 0 := by rw [hP.2 1 (by decide) (by decide) (by rw [a5]; decide)]; decide
  have p2 : P 2 = 0 := by rw [hP.2 2 (by decide) (by decide) (by rw [a5]; decide)]; decide
  have p3 : P 3 = 0 := by rw [hP.2 3 (by decide) (by decide) (by rw [a5]; decide)]; decide
  have p4 : P 4 = 0 := by rw [hP.2 4 (by decide) (by decide) (by rw [a5]; decide)]; decide
  have p5 : P 5 = 1 := by rw [hP.2 5 (by decide) (by decide) (by rw [a5]; decide)]; decide
  have p6 : P 6 = 0 := by rw [hP.2 6 (by decide) (by decide) (by rw [a5]; decide)]; decide
  have p7 : P 7 = 0 := by rw [hP.2 7 (by decide) (by decide) (by rw [a5]; decide)]; decide
  have p8 : P 8 = 0 := by rw [hP.2 8 (by decide) (by decide) (by rw [a5]; decide)]; decide
  have p9 : P 9 = 0 := by rw [hP.2 9 (by decide) (by decide) (by rw [a5]; decide)]; decide
  have p10 : P 10 = 1 := by rw [hP.2 10 (by decide) (by decide) (by rw [a5]; decide)]; decide
  have p11 : P 11 = 0 := by rw [hP.2 11 (by decide) (by decide) (by rw [a5]; decide)]; decide
  have p12 : P 12 = 0 := by rw [hP.2 12 (by decide) (by decide) (by rw [a5]; decide)]; decide
  have p13 : P 13 = 0 := by rw [hP.2 13 (by decide) (by decide) (by rw [a5]; decide)]; decide
  have p14 : P 14 = 0 := by rw [hP.2 14 (by decide) (by decide) (by rw [a5]; decide)]; decide
  have p15 : P 15 = 1 := by rw [hP.2 15 (by decide) (by decide) (by rw [a5]; decide)]; decide
  show gm_4 E = (P 0 * P 5 - P 1 * P 4) * (P 10 * P 15 - P 11 * P 14) - (P 0 * P 6 - P 2 * P 4) * (P 9 * P 15 - P 11 * P 13) + (P 0 * P 7 - P 3 * P 4) * (P 9 * P 14 - P 10 * P 13) + (P 1 * P 6 - P 2 * P 5) * (P 8 * P 15 - P 11 * P 12) - (P 1 * P 7 - P 3 * P 5) * (P 8 * P 14 - P 10 * P 12) + (P 2 * P 7 - P 3 * P 6) * (P 8 * P 13 - P 9 * P 12)
  unfold gm_4
  rw [e11, e12, e13, e14, e21, e22, e23, e24, e31, e32, e33, e34, e41, e42, e43, e44, p0, p1, p2, p3, p4, p5, p6, p7, p8, p9, p10, p11, p12, p13, p14, p15]
  grind
theorem dt_5 (hE : dt_E S E u) (hP : dt_P S P u) (h1 : u 1 = true) (h2 : u 2 = false) (h3 : u 3 = true) (h4 : u 4 = false) : gm_4 E = md P := by
  have a1 : dt_a u 1 = 0 := by simp [dt_a, h1, h2, h3, h4]
  have a2 : dt_a u 2 = 1 := by simp [dt_a, h1, h2, h3, h4]
  have a3 : dt_a u 3 = 1 := by simp [dt_a, h1, h2, h3, h4]
  have a4 : dt_a u 4 = 2 := by simp [dt_a, h1, h2, h3, h4]
  have a5 : dt_a u 5 = 2 := by simp [dt_a, h1, h2, h3, h4]
  have e11 : E 1 1 = S 1 1 := by rw [hE 1 1 (by decide) (by decide) (by decide) (by decide)]; simp [h1, h2, h3, h4]
  have e12 : E 1 2 = 0 := by rw [hE 1 2 (by decide) (by decide) (by decide) (by decide)]; simp [h1, h2, h3, h4]
  have e13 : E 1 3 = S 1 3 := by rw [hE 1 3 (by decide) (by decide) (by decide) (by decide)]; simp [h1, h2, h3, h4]
  have e14 : E 1 4 = 0 := by rw [hE 1 4 (by decide) (by decide) (by decide) (by decide)]; simp [h1, h2, h3, h4]
  have e21 : E 2 1 = 0 := by rw [hE 2 1 (by decide) (by decide) (by decide) (by decide)]; simp [h1, h2, h3, h4]
  have e22 : E 2 2 = 1 := by rw [hE 2 2 (by decide) (by decide) (by decide) (by decide)]; simp [h1, h2, h3, h4]
  have e23 : E 2 3 = 0 := by rw [hE 2 3 (by decide) (by decide) (by decide) (by decide)]; simp [h1, h2, h3, h4]
  have e24 : E 2 4 = 0 := by rw [hE 2 4 (by decide) (by decide) (by decide) (by decide)]; simp [h1, h2, h3, h4]
  have e31 : E 3 1 = S 3 1 := by rw [hE 3 1 (by decide) (by decide) (by decide) (by decide)]; simp [h1, h2, h3, h4]
  have e32 : E 3 2 = 0 := by rw [hE 3 2 (by decide) (by decide) (by decide) (by decide)]; simp [h1, h2, h3, h4]
  have e33 : E 3 3 = S 3 3 := by rw [hE 3 3 (by decide) (by decide) (by decide) (by decide)]; simp [h1, h2, h3, h4]
  have e34 : E 3 4 = 0 := by rw [hE 3 4 (by decide) (by decide) (by decide) (by decide)]; simp [h1, h2, h3, h4]
  have e41 : E 4 1 = 0 := by rw [hE 4 1 (by decide) (by decide) (by decide) (by decide)]; simp [h1, h2, h3, h4]
  have e42 : E 4 2 = 0 := by rw [hE 4 2 (by decide) (by decide) (by decide) (by decide)]; simp [h1, h2, h3, h4]
  have e43 : E 4 3 = 0 := by rw [hE 4 3 (by decide) (by decide) (by decide) (by decide)]; simp [h1, h2, h3, h4]
  have e44 : E 4 4 = 1 := by rw [hE 4 4 (by decide) (by decide) (by decide) (by decide)]; simp [h1, h2, h3, h4]
  have p0 : P 0 = S 1 1 := by have z := hP.1 1 1 (by decide) (by decide) (by decide) (by decide) h1 h1; rw [a1] at z; exact z
  have p1 : P 1 = S 1 3 := by have z := hP.1 1 3 (by decide) (by decide) (by decide) (by decide) h1 h3; rw [a1, a3] at z; exact z
  have p2 : P 2 = 0 := by rw [hP.2 2 (by decide) (by decide) (by rw [a5]; decide)]; decide
  have p3 : P 3 = 0 := by rw [hP.2 3 (by decide) (by decide) (by rw [a5]; decide)]; decide
  have p4 : P 4 = S 3 1 := by have z := hP.1 3 1 (by decide) (by decide) (by decide) (by decide) h3 h1; rw [a3, a1] at z; exact z
  have p5 : P 5 = S 3 3 := by have z := hP.1 3 3 (by decide) (by decide) (by decide) (by decide) h3 h3; rw [a3] at z; exact z
  have p6 : P 6 = 0 := by rw [hP.2 6 (by decide) (by decide) (by rw [a5]; decide)]; decide
  have p7 : P 7 = 0 := by rw [hP.2 7 (by decide) (by decide) (by rw [a5]; decide)]; decide
  have p8 : P 8 = 0 := by rw [hP.2 8 (by decide) (by decide) (by rw [a5]; decide)]; decide
  have p9 : P 9 = 0 := by rw [hP.2 9 (by decide) (by decide) (by rw [a5]; decide)]; decide
  have p10 : P 10 = 1 := by rw [hP.2 10 (by decide) (by decide) (by rw [a5]; decide)]; decide
  have p11 : P 11 = 0 := by rw [hP.2 11 (by decide) (by decide) (by rw [a5]; decide)]; decide
  have p12 : P 12 = 0 := by rw [hP.2 12 (by decide) (by decide) (by rw [a5]; decide)]; decide
  have p13 : P 13 = 0 := by rw [hP.2 13 (by decide) (by decide) (by rw [a5]; decide)]; decide
  have p14 : P 14 = 0 := by rw [hP.2 14 (by decide) (by decide) (by rw [a5]; decide)]; decide
  have p15 : P 15 = 1 := by rw [hP.2 15 (by decide) (by decide) (by rw [a5]; decide)]; decide
  show gm_4 E = (P 0 * P 5 - P 1 * P 4) * (P 10 * P 15 - P 11 * P 14) - (P 0 * P 6 - P 2 * P 4) * (P 9 * P 15 - P 11 * P 13) + (P 0 * P 7 - P 3 * P 4) * (P 9 * P 14 - P 10 * P 13) + (P 1 * P 6 - P 2 * P 5) * (P 8 * P 15 - P 11 * P 12) - (P 1 * P 7 - P 3 * P 5) * (P 8 * P 14 - P 10 * P 12) + (P 2 * P 7 - P 3 * P 6) * (P 8 * P 13 - P 9 * P 12)
  unfold gm_4
  rw [e11, e12, e13, e14, e21, e22, e23, e24, e31, e32, e33, e34, e41, e42, e43, e44, p0, p1, p2, p3, p4, p5, p6, p7, p8, p9, p10, p11, p12, p13, p14, p15]
  grind
theorem dt_6 (hE : dt_E S E u) (hP : dt_P S P u) (h1 : u 1 = false) (h2 : u 2 = true) (h3 : u 3 = true) (h4 : u 4 = false) : gm_4 E = md P := by
  have a1 : dt_a u 1 = 0 := by simp [dt_a, h1, h2, h3, h4]
  have a2 : dt_a u 2 = 0 := by simp [dt_a, h1, h2, h3, h4]
  have a3 : dt_a u 3 = 1 := by simp [dt_a, h1, h2, h3, h4]
  have a4 : dt_a u 4 = 2 := by simp [dt_a, h1, h2, h3, h4]
  have a5 : dt_a u 5 = 2 := by simp [dt_a, h1, h2, h3, h4]
  have e11 : E 1 1 = 1 := by rw [hE 1 1 (by decide) (by decide) (by decide) (by decide)]; simp [h1, h2, h3, h4]
  have e12 : E 1 2 = 0 := by rw [hE 1 2 (by decide) (by decide) (by decide) (by decide)]; simp [h1, h2, h3, h4]
  have e13 : E 1 3 = 0 := by rw [hE 1 3 (by decide) (by decide) (by decide) (by decide)]; simp [h1, h2, h3, h4]
  have e14 : E 1 4 = 0 := by rw [hE 1 4 (by decide) (by decide) (by decide) (by decide)]; simp [h1, h2, h3, h4]
  have e21 : E 2 1 = 0 := by rw [hE 2 1 (by decide) (by decide) (by decide) (by decide)]; simp [h1, h2, h3, h4]
  have e22 : E 2 2 = S 2 2 := by rw [hE 2 2 (by decide) (by decide) (by decide) (by decide)]; simp [h1, h2, h3, h4]
  have e23 : E 2 3 = S 2 3 := by rw [hE 2 3 (by decide) (by decide) (by decide) (by decide)]; simp [h1, h2, h3, h4]
  have e24 : E 2 4 = 0 := by rw [hE 2 4 (by decide) (by decide) (by decide) (by decide)]; simp [h1, h2, h3, h4]
  have e31 : E 3 1 = 0 := by rw [hE 3 1 (by decide) (by decide) (by decide) (by decide)]; simp [h1, h2, h3, h4]
  have e32 : E 3 2 = S 3 2 := by rw [hE 3 2 (by decide) (by decide) (by decide) (by decide)]; simp [h1, h2, h3, h4]
  have e33 : E 3 3 = S 3 3 := by rw [hE 3 3 (by decide) (by decide) (by decide) (by decide)]; simp [h1, h2, h3, h4]
  have e34 : E 3 4 = 0 := by rw [hE 3 4 (by decide) (by decide) (by decide) (by decide)]; simp [h1, h2, h3, h4]
  have e41 : E 4 1 = 0 := by rw [hE 4 1 (by decide) (by decide) (by decide) (by decide)]; simp [h1, h2, h3, h4]
  have e42 : E 4 2 = 0 := by rw [hE 4 2 (by decide) (by decide) (by decide) (by decide)]; simp [h1, h2, h3, h4]
  have e43 : E 4 3 = 0 := by rw [hE 4 3 (by decide) (by decide) (by decide) (by decide)]; simp [h1, h2, h3, h4]
  have e44 : E 4 4 = 1 := by rw [hE 4 4 (by decide) (by decide) (by decide) (by decide)]; simp [h1, h2, h3, h4]
  have p0 : P 0 = S 2 2 := by have z := hP.1 2 2 (by decide) (by decide) (by decide) (by decide) h2 h2; rw [a2] at z; exact z
  have p1 : P 1 = S 2 3 := by have z := hP.1 2 3 (by decide) (by decide) (by decide) (by decide) h2 h3; rw [a2, a3] at z; exact z
  have p2 : P 2 = 0 := by rw [hP.2 2 (by decide) (by decide) (by rw [a5]; decide)]; decide
  have p3 : P 3 = 0 := by rw [hP.2 3 (by decide) (by decide) (by rw [a5]; decide)]; decide
  have p4 : P 4 = S 3 2 := by have z := hP.1 3 2 (by decide) (by decide) (by decide) (by decide) h3 h2; rw [a3, a2] at z; exact z
  have p5 : P 5 = S 3 3 := by have z := hP.1 3 3 (by decide) (by decide) (by decide) (by decide) h3 h3; rw [a3] at z; exact z
  have p6 : P 6 = 0 := by rw [hP.2 6 (by decide) (by decide) (by rw [a5]; decide)]; decide
  have p7 : P 7 = 0 := by rw [hP.2 7 (by decide) (by decide) (by rw [a5]; decide)]; decide
  have p8 : P 8 = 0 := by rw [hP.2 8 (by decide) (by decide) (by rw [a5]; decide)]; decide
  have p9 : P 9 = 0 := by rw [hP.2 9 (by decide) (by decide) (by rw [a5]; decide)]; decide
  have p10 : P 10 = 1 := by rw [hP.2 10 (by decide) (by decide) (by rw [a5]; decide)]; decide
  have p11 : P 11 = 0 := by rw [hP.2 11 (by decide) (by decide) (by rw [a5]; decide)]; decide
  have p12 : P 12 = 0 := by rw [hP.2 12 (by decide) (by decide) (by rw [a5]; decide)]; decide
  have p13 : P 13 = 0 := by rw [hP.2 13 (by decide) (by decide) (by rw [a5]; decide)]; decide
  have p14 : P 14 = 0 := by rw [hP.2 14 (by decide) (by decide) (by rw [a5]; decide)]; decide
  have p15 : P 15 = 1 := by rw [hP.2 15 (by decide) (by decide) (by rw [a5]; decide)]; decide
  show gm_4 E = (P 0 * P 5 - P 1 * P 4) * (P 10 * P 15 - P 11 * P 14) - (P 0 * P 6 - P 2 * P 4) * (P 9 * P 15 - P 11 * P 13) + (P 0 * P 7 - P 3 * P 4) * (P 9 * P 14 - P 10 * P 13) + (P 1 * P 6 - P 2 * P 5) * (P 8 * P 15 - P 11 * P 12) - (P 1 * P 7 - P 3 * P 5) * (P 8 * P 14 - P 10 * P 12) + (P 2 * P 7 - P 3 * P 6) * (P 8 * P 13 - P 9 * P 12)
  unfold gm_4
  rw [e11, e12, e13, e14, e21, e22, e23, e24, e31, e32, e33, e34, e41, e42, e43, e44, p0, p1, p2, p3, p4, p5, p6, p7, p8, p9, p10, p11, p12, p13, p14, p15]
  grind
theorem dt_7 (hE : dt_E S E u) (hP : dt_P S P u) (h1 : u 1 = true) (h2 : u 2 = true) (h3 : u 3 = true) (h4 : u 4 = false) : gm_4 E = md P := by
  have a1 : dt_a u 1 = 0 := by simp [dt_a, h1, h2, h3, h4]
  have a2 : dt_a u 2 = 1 := by simp [dt_a, h1, h2, h3, h4]
  have a3 : dt_a u 3 = 2 := by simp [dt_a, h1, h2, h3, h4]
  have a4 : dt_a u 4 = 3 := by simp [dt_a, h1, h2, h3, h4]
  have a5 : dt_a u 5 = 3 := by simp [dt_a, h1, h2, h3, h4]
  have e11 : E 1 1 = S 1 1 := by rw [hE 1 1 (by decide) (by decide) (by decide) (by decide)]; simp [h1, h2, h3, h4]
  have e12 : E 1 2 = S 1 2 := by rw [hE 1 2 (by decide) (by decide) (by decide) (by decide)]; simp [h1, h2, h3, h4]
  have e13 : E 1 3 = S 1 3 := by rw [hE 1 3 (by decide) (by decide) (by decide) (by decide)]; simp [h1, h2, h3, h4]
  have e14 : E 1 4 = 0 := by rw [hE 1 4 (by decide) (by decide) (by decide) (by decide)]; simp [h1, h2, h3, h4]
  have e21 : E 2 1 = S 2 1 := by rw [hE 2 1 (by decide) (by decide) (by decide) (by decide)]; simp [h1, h2, h3, h4]
  have e22 : E 2 2 = S 2 2 := by rw [hE 2 2 (by decide) (by decide) (by decide) (by decide)]; simp [h1, h2, h3, h4]
  have e23 : E 2 3 = S 2 3 := by rw [hE 2 3 (by decide) (by decide) (by decide) (by decide)]; simp [h1, h2, h3, h4]
  have e24 : E 2 4 = 0 := by rw [hE 2 4 (by decide) (by decide) (by decide) (by decide)]; simp [h1, h2, h3, h4]
  have e31 : E 3 1 = S 3 1 := by rw [hE 3 1 (by decide) (by decide) (by decide) (by decide)]; simp [h1, h2, h3, h4]
  have e32 : E 3 2 = S 3 2 := by rw [hE 3 2 (by decide) (by decide) (by decide) (by decide)]; simp [h1, h2, h3, h4]
  have e33 : E 3 3 = S 3 3 := by rw [hE 3 3 (by decide) (by decide) (by decide) (by decide)]; simp [h1, h2, h3, h4]
  have e34 : E 3 4 = 0 := by rw [hE 3 4 (by decide) (by decide) (by decide) (by decide)]; simp [h1, h2, h3, h4]
  have e41 : E 4 1 = 0 := by rw [hE 4 1 (by decide) (by decide) (by decide) (by decide)]; simp [h1, h2, h3, h4]
  have e42 : E 4 2 = 0 := by rw [hE 4 2 (by decide) (by decide) (by decide) (by decide)]; simp [h1, h2, h3, h4]
  have e43 : E 4 3 = 0 := by rw [hE 4 3 (by decide) (by decide) (by decide) (by decide)]; simp [h1, h2, h3, h4]
  have e44 : E 4 4 = 1 := by rw [hE 4 4 (by decide) (by decide) (by decide) (by decide)]; simp [h1, h2, h3, h4]
  have p0 : P 0 = S 1 1 := by have z := hP.1 1 1 (by decide) (by decide) (by decide) (by decide) h1 h1; rw [a1] at z; exact z
  have p1 : P 1 = S 1 2 := by have z := hP.1 1 2 (by decide) (by decide) (by decide) (by decide) h1 h2; rw [a1, a2] at z; exact z
  have p2 : P 2 = S 1 3 := by have z := hP.1 1 3 (by decide) (by decide) (by decide) (by decide) h1 h3; rw [a1, a3] at z; exact z
  have p3 : P 3 = 0 := by rw [hP.2 3 (by decide) (by decide) (by rw [a5]; decide)]; decide
  have p4 : P 4 = S 2 1 := by have z := hP.1 2 1 (by decide) (by decide) (by decide) (by decide) h2 h1; rw [a2, a1] at z; exact z
  have p5 : P 5 = S 2 2 := by have z := hP.1 2 2 (by decide) (by decide) (by decide) (by decide) h2 h2; rw [a2] at z; exact z
  have p6 : P 6 = S 2 3 := by have z := hP.1 2 3 (by decide) (by decide) (by decide) (by decide) h2 h3; rw [a2, a3] at z; exact z
  have p7 : P 7 = 0 := by rw [hP.2 7 (by decide) (by decide) (by rw [a5]; decide)]; decide
  have p8 : P 8 = S 3 1 := by have z := hP.1 3 1 (by decide) (by decide) (by decide) (by decide) h3 h1; rw [a3, a1] at z; exact z
  have p9 : P 9 = S 3 2 := by have z := hP.1 3 2 (by decide) (by decide) (by decide) (by decide) h3 h2; rw [a3, a2] at z; exact z
  have p10 : P 10 = S 3 3 := by have z := hP.1 3 3 (by decide) (by decide) (by decide) (by decide) h3 h3; rw [a3] at z; exact z
  have p11 : P 11 = 0 := by rw [hP.2 11 (by decide) (by decide) (by rw [a5]; decide)]; decide
  have p12 : P 12 = 0 := by rw [hP.2 12 (by decide) (by decide) (by rw [a5]; decide)]; decide
  have p13 : P 13 = 0 := by rw [hP.2 13 (by decide) (by decide) (by rw [a5]; decide)]; decide
  have p14 : P 14 = 0 := by rw [hP.2 14 (by decide) (by decide) (by rw [a5]; decide)]; decide
  have p15 : P 15 = 1 := by rw [hP.2 15 (by decide) (by decide) (by rw [a5]; decide)]; decide
  show gm_4 E = (P 0 * P 5 - P 1 * P 4) * (P 10 * P 15 - P 11 * P 14) - (P 0 * P 6 - P 2 * P 4) * (P 9 * P 15 - P 11 * P 13) + (P 0 * P 7 - P 3 * P 4) * (P 9 * P 14 - P 10 * P 13) + (P 1 * P 6 - P 2 * P 5) * (P 8 * P 15 - P 11 * P 12) - (P 1 * P 7 - P 3 * P 5) * (P 8 * P 14 - P 10 * P 12) + (P 2 * P 7 - P 3 * P 6) * (P 8 * P 13 - P 9 * P 12)
  unfold gm_4
  rw [e11, e12, e13, e14, e21, e22, e23, e24, e31, e32, e33, e34, e41, e42, e43, e44, p0, p1, p2, p3, p4, p5, p6, p7, p8, p9, p10, p11, p12, p13, p14, p15]
theorem dt_8 (hE : dt_E S E u) (hP : dt_P S P u) (h1 : u 1 = false) (h2 : u 2 = false) (h3 : u 3 = false) (h4 : u 4 = true) : gm_4 E = md P := by
  have a1 : dt_a u 1 = 0 := by simp [dt_a, h1, h2, h3, h4]
  have a2 : dt_a u 2 = 0 := by simp [dt_a, h1, h2, h3, h4]
  have a3 : dt_a u 3 = 0 := by simp [dt_a, h1, h2, h3, h4]
  have a4 : dt_a u 4 = 0 := by simp [dt_a, h1, h2, h3, h4]
  have a5 : dt_a u 5 = 1 := by simp [dt_a, h1, h2, h3, h4]
  have e11 : E 1 1 = 1 := by rw [hE 1 1 (by decide) (by decide) (by decide) (by decide)]; simp [h1, h2, h3, h4]
  have e12 : E 1 2 = 0 := by rw [hE 1 2 (by decide) (by decide) (by decide) (by decide)]; simp [h1, h2, h3, h4]
  have e13 : E 1 3 = 0 := by rw [hE 1 3 (by decide) (by decide) (by decide) (by decide)]; simp [h1, h2, h3, h4]
  have e14 : E 1 4 = 0 := by rw [hE 1 4 (by decide) (by decide) (by decide) (by decide)]; simp [h1, h2, h3, h4]
  have e21 : E 2 1 = 0 := by rw [hE 2 1 (by decide) (by decide) (by decide) (by decide)]; simp [h1, h2, h3, h4]
  have e22 : E 2 2 = 1 := by rw [hE 2 2 (by decide) (by decide) (by decide) (by decide)]; simp [h1, h2, h3, h4]
  have e23 : E 2 3 = 0 := by rw [hE 2 3 (by decide) (by decide) (by decide) (by decide)]; simp [h1, h2, h3, h4]
  have e24 : E 2 4 = 0 := by rw [hE 2 4 (by decide) (by decide) (by decide) (by decide)]; simp [h1, h2, h3, h4]
  have e31 : E 3 1 = 0 := by rw [hE 3 1 (by decide) (by decide) (by decide) (by decide)]; simp [h1, h2, h3, h4]
  have e32 : E 3 2 = 0 := by rw [hE 3 2 (by decide) (by decide) (by decide) (by decide)]; simp [h1, h2, h3, h4]
  have e33 : E 3 3 = 1 := by rw [hE 3 3 (by decide) (by decide) (by decide) (by decide)]; simp [h1, h2, h3, h4]
  have e34 : E 3 4 = 0 := by rw [hE 3 4 (by decide) (by decide) (by decide) (by decide)]; simp [h1, h2, h3, h4]
  have e41 : E 4 1 = 0 := by rw [hE 4 1 (by decide) (by decide) (by decide) (by decide)]; simp [h1, h2, h3, h4]
  have e42 : E 4 2 = 0 := by rw [hE 4 2 (by decide) (by decide) (by decide) (by decide)]; simp [h1, h2, h3, h4]
  have e43 : E 4 3 = 0 := by rw [hE 4 3 (by decide) (by decide) (by decide) (by decide)]; simp [h1, h2, h3, h4]
  have e44 : E 4 4 = S 4 4 := by rw [hE 4 4 (by decide) (by decide) (by decide) (by decide)]; simp [h1, h2, h3, h4]
  have p0 : P 0 = S 4 4 := by have z := hP.1 4 4 (by decide) (by decide) (by decide) (by decide) h4 h4; rw [a4] at z; exact z
  have p1 : P 1 = 0 := by rw [hP.2 1 (by decide) (by decide) (by rw [a5]; decide)]; decide
  have p2 : P 2 = 0 := by rw [hP.2 2 (by decide) (by decide) (by rw [a5]; decide)]; decide
  have p3 : P 3 = 0 := by rw [hP.2 3 (by decide) (by decide) (by rw [a5]; decide)]; decide
  have p4 : P 4 = 0 := by rw [hP.2 4 (by decide) (by decide) (by rw [a5]; decide)]; decide
  have p5 : P 5 = 1 := by rw [hP.2 5 (by decide) (by decide) (by rw [a5]; decide)]; decide
  have p6 : P 6 = 0 := by rw [hP.2 6 (by decide) (by decide) (by rw [a5]; decide)]; decide
  have p7 : P 7 = 0 := by rw [hP.2 7 (by decide) (by decide) (by rw [a5]; decide)]; decide
  have p8 : P 8 = 0 := by rw [hP.2 8 (by decide) (by decide) (by rw [a5]; decide)]; decide
  have p9 : P 9 = 0 := by rw [hP.2 9 (by decide) (by decide) (by rw [a5]; decide)]; decide
  have p10 : P 10 = 1 := by rw [hP.2 10 (by decide) (by decide) (by rw [a5]; decide)]; decide
  have p11 : P 11 = 0 := by rw [hP.2 11 (by decide) (by decide) (by rw [a5]; decide)]; decide
  have p12 : P 12 = 0 := by rw [hP.2 12 (by decide) (by decide) (by rw [a5]; decide)]; decide
  have p13 : P 13 = 0 := by rw [hP.2 13 (by decide) (by decide) (by rw [a5]; decide)]; decide
  have p14 : P 14 = 0 := by rw [hP.2 14 (by decide) (by decide) (by rw [a5]; decide)]; decide
  have p15 : P 15 = 1 := by rw [hP.2 15 (by decide) (by decide) (by rw [a5]; decide)]; decide
  show gm_4 E = (P 0 * P 5 - P 1 * P 4) * (P 10 * P 15 - P 11 * P 14) - (P 0 * P 6 - P 2 * P 4) * (P 9 * P 15 - P 11 * P 13) + (P 0 * P 7 - P 3 * P 4) * (P 9 * P 14 - P 10 * P 13) + (P 1 * P 6 - P 2 * P 5) * (P 8 * P 15 - P 11 * P 12) - (P 1 * P 7 - P 3 * P 5) * (P 8 * P 14 - P 10 * P 12) + (P 2 * P 7 - P 3 * P 6) * (P 8 * P 13 - P 9 * P 12)
  unfold gm_4
  rw [e11, e12, e13, e14, e21, e22, e23, e24, e31, e32, e33, e34, e41, e42, e43, e44, p0, p1, p2, p3, p4, p5, p6, p7, p8, p9, p10, p11, p12, p13, p14, p15]
  grind
theorem dt_9 (hE : dt_E S E u) (hP : dt_P S P u) (h1 : u 1 = true) (h2 : u 2 = false) (h3 : u 3 = false) (h4 : u 4 = true) : gm_4 E = md P := by
  have a1 : dt_a u 1 = 0 := by simp [dt_a, h1, h2, h3, h4]
  have a2 : dt_a u 2 = 1 := by simp [dt_a, h1, h2, h3, h4]
  have a3 : dt_a u 3 = 1 := by simp [dt_a, h1, h2, h3, h4]
  have a4 : dt_a u 4 = 1 := by simp [dt_a, h1, h2, h3, h4]
  have a5 : dt_a u 5 = 2 := by simp [dt_a, h1, h2, h3, h4]
  have e11 : E 1 1 = S 1 1 := by rw [hE 1 1 (by decide) (by decide) (by decide) (by decide)]; simp [h1, h2, h3, h4]
  have e12 : E 1 2 = 0 := by rw [hE 1 2 (by decide) (by decide) (by decide) (by decide)]; simp [h1, h2, h3, h4]
  have e13 : E 1 3 = 0 := by rw [hE 1 3 (by decide) (by decide) (by decide) (by decide)]; simp [h1, h2, h3, h4]
  have e14 : E 1 4 = S 1 4 := by rw [hE 1 4 (by decide) (by decide) (by decide) (by decide)]; simp [h1, h2, h3, h4]
  have e21 : E 2 1 = 0 := by rw [hE 2 1 (by decide) (by decide) (by decide) (by decide)]; simp [h1, h2, h3, h4]
  have e22 : E 2 2 = 1 := by rw [hE 2 2 (by decide) (by decide) (by decide) (by decide)]; simp [h1, h2, h3, h4]
  have e23 : E 2 3 = 0 := by rw [hE 2 3 (by decide) (by decide) (by decide) (by decide)]; simp [h1, h2, h3, h4]
  have e24 : E 2 4 = 0 := by rw [hE 2 4 (by decide) (by decide) (by decide) (by decide)]; simp [h1, h2, h3, h4]
  have e31 : E 3 1 = 0 := by rw [hE 3 1 (by decide) (by decide) (by decide) (by decide)]; simp [h1, h2, h3, h4]
  have e32 : E 3 2 = 0 := by rw [hE 3 2 (by decide) (by decide) (by decide) (by decide)]; simp [h1, h2, h3, h4]
  have e33 : E 3 3 = 1 := by rw [hE 3 3 (by decide) (by decide) (by decide) (by decide)]; simp [h1, h2, h3, h4]
  have e34 : E 3 4 = 0 := by rw [hE 3 4 (by decide) (by decide) (by decide) (by decide)]; simp [h1, h2, h3, h4]
  have e41 : E 4 1 = S 4 1 := by rw [hE 4 1 (by decide) (by decide) (by decide) (by decide)]; simp [h1, h2, h3, h4]
  have e42 : E 4 2 = 0 := by rw [hE 4 2 (by decide) (by decide) (by decide) (by decide)]; simp [h1, h2, h3, h4]
  have e43 : E 4 3 = 0 := by rw [hE 4 3 (by decide) (by decide) (by decide) (by decide)]; simp [h1, h2, h3, h4]
  have e44 : E 4 4 = S 4 4 := by rw [hE 4 4 (by decide) (by decide) (by decide) (by decide)]; simp [h1, h2, h3, h4]
  have p0 : P 0 = S 1 1 := by have z := hP.1 1 1 (by decide) (by decide) (by decide) (by decide) h1 h1; rw [a1] at z; exact z
  have p1 : P 1 = S 1 4 := by have z := hP.1 1 4 (by decide) (by decide) (by decide) (by decide) h1 h4; rw [a1, a4] at z; exact z
  have p2 : P 2 = 0 := by rw [hP.2 2 (by decide) (by decide) (by rw [a5]; decide)]; decide
  have p3 : P 3 = 0 := by rw [hP.2 3 (by decide) (by decide) (by rw [a5]; decide)]; decide
  have p4 : P 4 = S 4 1 := by have z := hP.1 4 1 (by decide) (by decide) (by decide) (by decide) h4 h1; rw [a4, a1] at z; exact z
  have p5 : P 5 = S 4 4 := by have z := hP.1 4 4 (by decide) (by decide) (by decide) (by decide) h4 h4; rw [a4] at z; exact z
  have p6 : P 6 = 0 := by rw [hP.2 6 (by decide) (by decide) (by rw [a5]; decide)]; decide
  have p7 : P 7 = 0 := by rw [hP.2 7 (by decide) (by decide) (by rw [a5]; decide)]; decide
  have p8 : P 8 = 0 := by rw [hP.2 8 (by decide) (by decide) (by rw [a5]; decide)]; decide
  have p9 : P 9 = 0 := by rw [hP.2 9 (by decide) (by decide) (by rw [a5]; decide)]; decide
  have p10 : P 10 = 1 := by rw [hP.2 10 (by decide) (by decide) (by rw [a5]; decide)]; decide
  have p11 : P 11 = 0 := by rw [hP.2 11 (by decide) (by decide) (by rw [a5]; decide)]; decide
  have p12 : P 12 = 0 := by rw [hP.2 12 (by decide) (by decide) (by rw [a5]; decide)]; decide
  have p13 : P 13 = 0 := by rw [hP.2 13 (by decide) (by decide) (by rw [a5]; decide)]; decide
  have p14 : P 14 = 0 := by rw [hP.2 14 (by decide) (by decide) (by rw [a5]; decide)]; decide
  have p15 : P 15 = 1 := by rw [hP.2 15 (by decide) (by decide) (by rw [a5]; decide)]; decide
  show gm_4 E = (P 0 * P 5 - P 1 * P 4) * (P 10 * P 15 - P 11 * P 14) - (P 0 * P 6 - P 2 * P 4) * (P 9 * P 15 - P 11 * P 13) + (P 0 * P 7 - P 3 * P 4) * (P 9 * P 14 - P 10 * P 13) + (P 1 * P 6 - P 2 * P 5) * (P 8 * P 15 - P 11 * P 12) - (P 1 * P 7 - P 3 * P 5) * (P 8 * P 14 - P 10 * P 12) + (P 2 * P 7 - P 3 * P 6) * (P 8 * P 13 - P 9 * P 12)
  unfold gm_4
  rw [e11, e12, e13, e14, e21, e22, e23, e24, e31, e32, e33, e34, e41, e42, e43, e44, p0, p1, p2, p3, p4, p5, p6, p7, p8, p9, p10, p11, p12, p13, p14, p15]
  grind
theorem dt_10 (hE : dt_E S E u) (hP : dt_P S P u) (h1 : u 1 = false) (h2 : u 2 = true) (h3 : u 3 = false) (h4 : u 4 = true) : gm_4 E = md P := by
  have a1 : dt_a u 1 = 0 := by simp [dt_a, h1, h2, h3, h4]
  have a2 : dt_a u 2 = 0 := by simp [dt_a, h1, h2, h3, h4]
  have a3 : dt_a u 3 = 1 := by simp [dt_a, h1, h2, h3, h4]
  have a4 : dt_a u 4 = 1 := by simp [dt_a, h1, h2, h3, h4]
  have a5 : dt_a u 5 = 2 := by simp [dt_a, h1, h2, h3, h4]
  have e11 : E 1 1 = 1 := by rw [hE 1 1 (by decide) (by decide) (by decide) (by decide)]; simp [h1, h2, h3, h4]
  have e12 : E 1 2 = 0 := by rw [hE 1 2 (by decide) (by decide) (by decide) (by decide)]; simp [h1, h2, h3, h4]
  have e13 : E 1 3 = 0 := by rw [hE 1 3 (by decide) (by decide) (by decide) (by decide)]; simp [h1, h2, h3, h4]
  have e14 : E 1 4 = 0 := by rw [hE 1 4 (by decide) (by decide) (by decide) (by decide)]; simp [h1, h2, h3, h4]
  have e21 : E 2 1 = 0 := by rw [hE 2 1 (by decide) (by decide) (by decide) (by decide)]; simp [h1, h2, h3, h4]
  have e22 : E 2 2 = S 2 2 := by rw [hE 2 2 (by decide) (by decide) (by decide) (by decide)]; simp [h1, h2, h3, h4]
  have e23 : E 2 3 = 0 := by rw [hE 2 3 (by decide) (by decide) (by decide) (by decide)]; simp [h1, h2, h3, h4]
  have e24 : E 2 4 = S 2 4 := by rw [hE 2 4 (by decide) (by decide) (by decide) (by decide)]; simp [h1, h2, h3, h4]
  have e31 : E 3 1 = 0 := by rw [hE 3 1 (by decide) (by decide) (by decide) (by decide)]; simp [h1, h2, h3, h4]
  have e32 : E 3 2 = 0 := by rw [hE 3 2 (by decide) (by decide) (by decide) (by decide)]; simp [h1, h2, h3, h4]
  have e33 : E 3 3 = 1 := by rw [hE 3 3 (by decide) (by decide) (by decide) (by decide)]; simp [h1, h2, h3, h4]
  have e34 : E 3 4 = 0 := by rw [hE 3 4 (by decide) (by decide) (by decide) (by decide)]; simp [h1, h2, h3, h4]
  have e41 : E 4 1 = 0 := by rw [hE 4 1 (by decide) (by decide) (by decide) (by decide)]; simp [h1, h2, h3, h4]
  have e42 : E 4 2 = S 4 2 := by rw [hE 4 2 (by decide) (by decide) (by decide) (by decide)]; simp [h1, h2, h3, h4]
  have e43 : E 4 3 = 0 := by rw [hE 4 3 (by decide) (by decide) (by decide) (by decide)]; simp [h1, h2, h3, h4]
  have e44 : E 4 4 = S 4 4 := by rw [hE 4 4 (by decide) (by decide) (by decide) (by decide)]; simp [h1, h2, h3, h4]
  have p0 : P 0 = S 2 2 := by have z := hP.1 2 2 (by decide) (by decide) (by decide) (by decide) h2 h2; rw [a2] at z; exact z
  have p1 : P 1 = S 2 4 := by have z := hP.1 2 4 (by decide) (by decide) (by decide) (by decide) h2 h4; rw [a2, a4] at z; exact z
  have p2 : P 2 = 0 := by rw [hP.2 2 (by decide) (by decide) (by rw [a5]; decide)]; decide
  have p3 : P 3 = 0 := by rw [hP.2 3 (by decide) (by decide) (by rw [a5]; decide)]; decide
  have p4 : P 4 = S 4 2 := by have z := hP.1 4 2 (by decide) (by decide) (by decide) (by decide) h4 h2; rw [a4, a2] at z; exact z
  have p5 : P 5 = S 4 4 := by have z := hP.1 4 4 (by decide) (by decide) (by decide) (by decide) h4 h4; rw [a4] at z; exact z
  have p6 : P 6 = 0 := by rw [hP.2 6 (by decide) (by decide) (by rw [a5]; decide)]; decide
  have p7 : P 7 = 0 := by rw [hP.2 7 (by decide) (by decide) (by rw [a5]; decide)]; decide
  have p8 : P 8 = 0 := by rw [hP.2 8 (by decide) (by decide) (by rw [a5]; decide)]; decide
  have p9 : P 9 = 0 := by rw [hP.2 9 (by decide) (by decide) (by rw [a5]; decide)]; decide
  have p10 : P 10 = 1 := by rw [hP.2 10 (by decide) (by decide) (by rw [a5]; decide)]; decide
  have p11 : P 11 = 0 := by rw [hP.2 11 (by decide) (by decide) (by rw [a5]; decide)]; decide
  have p12 : P 12 = 0 := by rw [hP.2 12 (by decide) (by decide) (by rw [a5]; decide)]; decide
  have p13 : P 13 = 0 := by rw [hP.2 13 (by decide) (by decide) (by rw [a5]; decide)]; decide
  have p14 : P 14 = 0 := by rw [hP.2 14 (by decide) (by decide) (by rw [a5]; decide)]; decide
  have p15 : P 15 = 1 := by rw [hP.2 15 (by decide) (by decide) (by rw [a5]; decide)]; decide
  show gm_4 E = (P 0 * P 5 - P 1 * P 4) * (P 10 * P 15 - P 11 * P 14) - (P 0 * P 6 - P 2 * P 4) * (P 9 * P 15 - P 11 * P 13) + (P 0 * P 7 - P 3 * P 4) * (P 9 * P 14 - P 10 * P 13) + (P 1 * P 6 - P 2 * P 5) * (P 8 * P 15 - P 11 * P 12) - (P 1 * P 7 - P 3 * P 5) * (P 8 * P 14 - P 10 * P 12) + (P 2 * P 7 - P 3 * P 6) * (P 8 * P 13 - P 9 * P 12)
  unfold gm_4
  rw [e11, e12, e13, e14, e21, e22, e23, e24, e31, e32, e33, e34, e41, e42, e43, e44, p0, p1, p2, p3, p4, p5, p6, p7, p8, p9, p10, p11, p12, p13, p14, p15]
  grind
theorem dt_11 (hE : dt_E S E u) (hP : dt_P S P u) (h1 : u 1 = true) (h2 : u 2 = true) (h3 : u 3 = false) (h4 : u 4 = true) : gm_4 E = md P := by
  have a1 : dt_a u 1 = 0 := by simp [dt_a, h1, h2, h3, h4]
  have a2 : dt_a u 2 = 1 := by simp [dt_a, h1, h2, h3, h4]
  have a3 : dt_a u 3 = 2 := by simp [dt_a, h1, h2, h3, h4]
  have a4 : dt_a u 4 = 2 := by simp [dt_a, h1, h2, h3, h4]
  have a5 : dt_a u 5 = 3 := by simp [dt_a, h1, h2, h3, h4]
  have e11 : E 1 1 = S 1 1 := by rw [hE 1 1 (by decide) (by decide) (by decide) (by decide)]; simp [h1, h2, h3, h4]
  have e12 : E 1 2 = S 1 2 := by rw [hE 1 2 (by decide) (by decide) (by decide) (by decide)]; simp [h1, h2, h3, h4]
  have e13 : E 1 3 = 0 := by rw [hE 1 3 (by decide) (by decide) (by decide) (by decide)]; simp [h1, h2, h3, h4]
  have e14 : E 1 4 = S 1 4 := by rw [hE 1 4 (by decide) (by decide) (by decide) (by decide)]; simp [h1, h2, h3, h4]
  have e21 : E 2 1 = S 2 1 := by rw [hE 2 1 (by decide) (by decide) (by decide) (by decide)]; simp [h1, h2, h3, h4]
  have e22 : E 2 2 = S 2 2 := by rw [hE 2 2 (by decide) (by decide) (by decide) (by decide)]; simp [h1, h2, h3, h4]
  have e23 : E 2 3 = 0 := by rw [hE 2 3 (by decide) (by decide) (by decide) (by decide)]; simp [h1, h2, h3, h4]
  have e24 : E 2 4 = S 2 4 := by rw [hE 2 4 (by decide) (by decide) (by decide) (by decide)]; simp [h1, h2, h3, h4]
  have e31 : E 3 1 = 0 := by rw [hE 3 1 (by decide) (by decide) (by decide) (by decide)]; simp [h1, h2, h3, h4]
  have e32 : E 3 2 = 0 := by rw [hE 3 2 (by decide) (by decide) (by decide) (by decide)]; simp [h1, h2, h3, h4]
  have e33 : E 3 3 = 1 := by rw [hE 3 3 (by decide) (by decide) (by decide) (by decide)]; simp [h1, h2, h3, h4]
  have e34 : E 3 4 = 0 := by rw [hE 3 4 (by decide) (by decide) (by decide) (by decide)]; simp [h1, h2, h3, h4]
  have e41 : E 4 1 = S 4 1 := by rw [hE 4 1 (by decide) (by decide) (by decide) (by decide)]; simp [h1, h2, h3, h4]
  have e42 : E 4 2 = S 4 2 := by rw [hE 4 2 (by decide) (by decide) (by decide) (by decide)]; simp [h1, h2, h3, h4]
  have e43 : E 4 3 = 0 := by rw [hE 4 3 (by decide) (by decide) (by decide) (by decide)]; simp [h1, h2, h3, h4]
  have e44 : E 4 4 = S 4 4 := by rw [hE 4 4 (by decide) (by decide) (by decide) (by decide)]; simp [h1, h2, h3, h4]
  have p0 : P 0 = S 1 1 := by have z := hP.1 1 1 (by decide) (by decide) (by decide) (by decide) h1 h1; rw [a1] at z; exact z
  have p1 : P 1 = S 1 2 := by have z := hP.1 1 2 (by decide) (by decide) (by decide) (by decide) h1 h2; rw [a1, a2] at z; exact z
  have p2 : P 2 = S 1 4 := by have z := hP.1 1 4 (by decide) (by decide) (by decide) (by decide) h1 h4; rw [a1, a4] at z; exact z
  have p3 : P 3 = 0 := by rw [hP.2 3 (by decide) (by decide) (by rw [a5]; decide)]; decide
  have p4 : P 4 = S 2 1 := by have z := hP.1 2 1 (by decide) (by decide) (by decide) (by decide) h2 h1; rw [a2, a1] at z; exact z
  have p5 : P 5 = S 2 2 := by have z := hP.1 2 2 (by decide) (by decide) (by decide) (by decide) h2 h2; rw [a2] at z; exact z
  have p6 : P 6 = S 2 4 := by have z := hP.1 2 4 (by decide) (by decide) (by decide) (by decide) h2 h4; rw [a2, a4] at z; exact z
  have p7 : P 7 = 0 := by rw [hP.2 7 (by decide) (by decide) (by rw [a5]; decide)]; decide
  have p8 : P 8 = S 4 1 := by have z := hP.1 4 1 (by decide) (by decide) (by decide) (by decide) h4 h1; rw [a4, a1] at z; exact z
  have p9 : P 9 = S 4 2 := by have z := hP.1 4 2 (by decide) (by decide) (by decide) (by decide) h4 h2; rw [a4, a2] at z; exact z
  have p10 : P 10 = S 4 4 := by have z := hP.1 4 4 (by decide) (by decide) (by decide) (by decide) h4 h4; rw [a4] at z; exact z
  have p11 : P 11 = 0 := by rw [hP.2 11 (by decide) (by decide) (by rw [a5]; decide)]; decide
  have p12 : P 12 = 0 := by rw [hP.2 12 (by decide) (by decide) (by rw [a5]; decide)]; decide
  have p13 : P 13 = 0 := by rw [hP.2 13 (by decide) (by decide) (by rw [a5]; decide)]; decide
  have p14 : P 14 = 0 := by rw [hP.2 14 (by decide) (by decide) (by rw [a5]; decide)]; decide
  have p15 : P 15 = 1 := by rw [hP.2 15 (by decide) (by decide) (by rw [a5]; decide)]; decide
  show gm_4 E = (P 0 * P 5 - P 1 * P 4) * (P 10 * P 15 - P 11 * P 14) - (P 0 * P 6 - P 2 * P 4) * (P 9 * P 15 - P 11 * P 13) + (P 0 * P 7 - P 3 * P 4) * (P 9 * P 14 - P 10 * P 13) + (P 1 * P 6 - P 2 * P 5) * (P 8 * P 15 - P 11 * P 12) - (P 1 * P 7 - P 3 * P 5) * (P 8 * P 14 - P 10 * P 12) + (P 2 * P 7 - P 3 * P 6) * (P 8 * P 13 - P 9 * P 12)
  unfold gm_4
  rw [e11, e12, e13, e14, e21, e22, e23, e24, e31, e32, e33, e34, e41, e42, e43, e44, p0, p1, p2, p3, p4, p5, p6, p7, p8, p9, p10, p11, p12, p13, p14, p15]
  grind
theorem dt_12 (hE : dt_E S E u) (hP : dt_P S P u) (h1 : u 1 = false) (h2 : u 2 = false) (h3 : u 3 = true) (h4 : u 4 = true) : gm_4 E = md P := by
  have a1 : dt_a u 1 = 0 := by simp [dt_a, h1, h2, h3, h4]
  have a2 : dt_a u 2 = 0 := by simp [dt_a, h1, h2, h3, h4]
  have a3 : dt_a u 3 = 0 := by simp [dt_a, h1, h2, h3, h4]
  have a4 : dt_a u 4 = 1 := by simp [dt_a, h1, h2, h3, h4]
  have a5 : dt_a u 5 = 2 := by simp [dt_a, h1, h2, h3, h4]
  have e11 : E 1 1 = 1 := by rw [hE 1 1 (by decide) (by decide) (by decide) (by decide)]; simp [h1, h2, h3, h4]
  have e12 : E 1 2 = 0 := by rw [hE 1 2 (by decide) (by decide) (by decide) (by decide)]; simp [h1, h2, h3, h4]
  have e13 : E 1 3 = 0 := by rw [hE 1 3 (by decide) (by decide) (by decide) (by decide)]; simp [h1, h2, h3, h4]
  have e14 : E 1 4 = 0 := by rw [hE 1 4 (by decide) (by decide) (by decide) (by decide)]; simp [h1, h2, h3, h4]
  have e21 : E 2 1 = 0 := by rw [hE 2 1 (by decide) (by decide) (by decide) (by decide)]; simp [h1, h2, h3, h4]
  have e22 : E 2 2 = 1 := by rw [hE 2 2 (by decide) (by decide) (by decide) (by decide)]; simp [h1, h2, h3, h4]
  have e23 : E 2 3 = 0 := by rw [hE 2 3 (by decide) (by decide) (by decide) (by decide)]; simp [h1, h2, h3, h4]
  have e24 : E 2 4 = 0 := by rw [hE 2 4 (by decide) (by decide) (by decide) (by decide)]; simp [h1, h2, h3, h4]
  have e31 : E 3 1 = 0 := by rw [hE 3 1 (by decide) (by decide) (by decide) (by decide)]; simp [h1, h2, h3, h4]
  have e32 : E 3 2 = 0 := by rw [hE 3 2 (by decide) (by decide) (by decide) (by decide)]; simp [h1, h2, h3, h4]
  have e33 : E 3 3 = S 3 3 := by rw [hE 3 3 (by decide) (by decide) (by decide) (by decide)]; simp [h1, h2, h3, h4]
  have e34 : E 3 4 = S 3 4 := by rw [hE 3 4 (by decide) (by decide) (by decide) (by decide)]; simp [h1, h2, h3, h4]
  have e41 : E 4 1 = 0 := by rw [hE 4 1 (by decide) (by decide) (by decide) (by decide)]; simp [h1, h2, h3, h4]
  have e42 : E 4 2 = 0 := by rw [hE 4 2 (by decide) (by decide) (by decide) (by decide)]; simp [h1, h2, h3, h4]
  have e43 : E 4 3 = S 4 3 := by rw [hE 4 3 (by decide) (by decide) (by decide) (by decide)]; simp [h1, h2, h3, h4]
  have e44 : E 4 4 = S 4 4 := by rw [hE 4 4 (by decide) (by decide) (by decide) (by decide)]; simp [h1, h2, h3, h4]
  have p0 : P 0 = S 3 3 := by have z := hP.1 3 3 (by decide) (by decide) (by decide) (by decide) h3 h3; rw [a3] at z; exact z
  have p1 : P 1 = S 3 4 := by have z := hP.1 3 4 (by decide) (by decide) (by decide) (by decide) h3 h4; rw [a3, a4] at z; exact z
  have p2 : P 2 = 0 := by rw [hP.2 2 (by decide) (by decide) (by rw [a5]; decide)]; decide
  have p3 : P 3 = 0 := by rw [hP.2 3 (by decide) (by decide) (by rw [a5]; decide)]; decide
  have p4 : P 4 = S 4 3 := by have z := hP.1 4 3 (by decide) (by decide) (by decide) (by decide) h4 h3; rw [a4, a3] at z; exact z
  have p5 : P 5 = S 4 4 := by have z := hP.1 4 4 (by decide) (by decide) (by decide) (by decide) h4 h4; rw [a4] at z; exact z
  have p6 : P 6 = 0 := by rw [hP.2 6 (by decide) (by decide) (by rw [a5]; decide)]; decide
  have p7 : P 7 = 0 := by rw [hP.2 7 (by decide) (by decide) (by rw [a5]; decide)]; decide
  have p8 : P 8 = 0 := by rw [hP.2 8 (by decide) (by decide) (by rw [a5]; decide)]; decide
  have p9 : P 9 = 0 := by rw [hP.2 9 (by decide) (by decide) (by rw [a5]; decide)]; decide
  have p10 : P 10 = 1 := by rw [hP.2 10 (by decide) (by decide) (by rw [a5]; decide)]; decide
  have p11 : P 11 = 0 := by rw [hP.2 11 (by decide) (by decide) (by rw [a5]; decide)]; decide
  have p12 : P 12 = 0 := by rw [hP.2 12 (by decide) (by decide) (by rw [a5]; decide)]; decide
  have p13 : P 13 = 0 := by rw [hP.2 13 (by decide) (by decide) (by rw [a5]; decide)]; decide
  have p14 : P 14 = 0 := by rw [hP.2 14 (by decide) (by decide) (by rw [a5]; decide)]; decide
  have p15 : P 15 = 1 := by rw [hP.2 15 (by decide) (by decide) (by rw [a5]; decide)]; decide
  show gm_4 E = (P 0 * P 5 - P 1 * P 4) * (P 10 * P 15 - P 11 * P 14) - (P 0 * P 6 - P 2 * P 4) * (P 9 * P 15 - P 11 * P 13) + (P 0 * P 7 - P 3 * P 4) * (P 9 * P 14 - P 10 * P 13) + (P 1 * P 6 - P 2 * P 5) * (P 8 * P 15 - P 11 * P 12) - (P 1 * P 7 - P 3 * P 5) * (P 8 * P 14 - P 10 * P 12) + (P 2 * P 7 - P 3 * P 6) * (P 8 * P 13 - P 9 * P 12)
  unfold gm_4
  rw [e11, e12, e13, e14, e21, e22, e23, e24, e31, e32, e33, e34, e41, e42, e43, e44, p0, p1, p2, p3, p4, p5, p6, p7, p8, p9, p10, p11, p12, p13, p14, p15]
  grind
theorem dt_13 (hE : dt_E S E u) (hP : dt_P S P u) (h1 : u 1 = true) (h2 : u 2 = false) (h3 : u 3 = true) (h4 : u 4 = true) : gm_4 E = md P := by
  have a1 : dt_a u 1 = 0 := by simp [dt_a, h1, h2, h3, h4]
  have a2 : dt_a u 2 = 1 := by simp [dt_a, h1, h2, h3, h4]
  have a3 : dt_a u 3 = 1 := by simp [dt_a, h1, h2, h3, h4]
  have a4 : dt_a u 4 = 2 := by simp [dt_a, h1, h2, h3, h4]
  have a5 : dt_a u 5 = 3 := by simp [dt_a, h1, h2, h3, h4]
  have e11 : E 1 1 = S 1 1 := by rw [hE 1 1 (by decide) (by decide) (by decide) (by decide)]; simp [h1, h2, h3, h4]
  have e12 : E 1 2 = 0 := by rw [hE 1 2 (by decide) (by decide) (by decide) (by decide)]; simp [h1, h2, h3, h4]
  have e13 : E 1 3 = S 1 3 := by rw [hE 1 3 (by decide) (by decide) (by decide) (by decide)]; simp [h1, h2, h3, h4]
  have e14 : E 1 4 = S 1 4 := by rw [hE 1 4 (by decide) (by decide) (by decide) (by decide)]; simp [h1, h2, h3, h4]
  have e21 : E 2 1 = 0 := by rw [hE 2 1 (by decide) (by decide) (by decide) (by decide)]; simp [h1, h2, h3, h4]
  have e22 : E 2 2 = 1 := by rw [hE 2 2 (by decide) (by decide) (by decide) (by decide)]; simp [h1, h2, h3, h4]
  have e23 : E 2 3 = 0 := by rw [hE 2 3 (by decide) (by decide) (by decide) (by decide)]; simp [h1, h2, h3, h4]
  have e24 : E 2 4 = 0 := by rw [hE 2 4 (by decide) (by decide) (by decide) (by decide)]; simp [h1, h2, h3, h4]
  have e31 : E 3 1 = S 3 1 := by rw [hE 3 1 (by decide) (by decide) (by decide) (by decide)]; simp [h1, h2, h3, h4]
  have e32 : E 3 2 = 0 := by rw [hE 3 2 (by decide) (by decide) (by decide) (by decide)]; simp [h1, h2, h3, h4]
  have e33 : E 3 3 = S 3 3 := by rw [hE 3 3 (by decide) (by decide) (by decide) (by decide)]; simp [h1, h2, h3, h4]
  have e34 : E 3 4 = S 3 4 := by rw [hE 3 4 (by decide) (by decide) (by decide) (by decide)]; simp [h1, h2, h3, h4]
  have e41 : E 4 1 = S 4 1 := by rw [hE 4 1 (by decide) (by decide) (by decide) (by decide)]; simp [h1, h2, h3, h4]
  have e42 : E 4 2 = 0 := by rw [hE 4 2 (by decide) (by decide) (by decide) (by decide)]; simp [h1, h2, h3, h4]
  have e43 : E 4 3 = S 4 3 := by rw [hE 4 3 (by decide) (by decide) (by decide) (by decide)]; simp [h1, h2, h3, h4]
  have e44 : E 4 4 = S 4 4 := by rw [hE 4 4 (by decide) (by decide) (by decide) (by decide)]; simp [h1, h2, h3, h4]
  have p0 : P 0 = S 1 1 := by have z := hP.1 1 1 (by decide) (by decide) (by decide) (by decide) h1 h1; rw [a1] at z; exact z
  have p1 : P 1 = S 1 3 := by have z := hP.1 1 3 (by decide) (by decide) (by decide) (by decide) h1 h3; rw [a1, a3] at z; exact z
  have p2 : P 2 = S 1 4 := by have z := hP.1 1 4 (by decide) (by decide) (by decide) (by decide) h1 h4; rw [a1, a4] at z; exact z
  have p3 : P 3 = 0 := by rw [hP.2 3 (by decide) (by decide) (by rw [a5]; decide)]; decide
  have p4 : P 4 = S 3 1 := by have z := hP.1 3 1 (by decide) (by decide) (by decide) (by decide) h3 h1; rw [a3, a1] at z; exact z
  have p5 : P 5 = S 3 3 := by have z := hP.1 3 3 (by decide) (by decide) (by decide) (by decide) h3 h3; rw [a3] at z; exact z
  have p6 : P 6 = S 3 4 := by have z := hP.1 3 4 (by decide) (by decide) (by decide) (by decide) h3 h4; rw [a3, a4] at z; exact z
  have p7 : P 7 = 0 := by rw [hP.2 7 (by decide) (by decide) (by rw [a5]; decide)]; decide
  have p8 : P 8 = S 4 1 := by have z := hP.1 4 1 (by decide) (by decide) (by decide) (by decide) h4 h1; rw [a4, a1] at z; exact z
  have p9 : P 9 = S 4 3 := by have z := hP.1 4 3 (by decide) (by decide) (by decide) (by decide) h4 h3; rw [a4, a3] at z; exact z
  have p10 : P 10 = S 4 4 := by have z := hP.1 4 4 (by decide) (by decide) (by decide) (by decide) h4 h4; rw [a4] at z; exact z
  have p11 : P 11 = 0 := by rw [hP.2 11 (by decide) (by decide) (by rw [a5]; decide)]; decide
  have p12 : P 12 = 0 := by rw [hP.2 12 (by decide) (by decide) (by rw [a5]; decide)]; decide
  have p13 : P 13 = 0 := by rw [hP.2 13 (by decide) (by decide) (by rw [a5]; decide)]; decide
  have p14 : P 14 = 0 := by rw [hP.2 14 (by decide) (by decide) (by rw [a5]; decide)]; decide
  have p15 : P 15 = 1 := by rw [hP.2 15 (by decide) (by decide) (by rw [a5]; decide)]; decide
  show gm_4 E = (P 0 * P 5 - P 1 * P 4) * (P 10 * P 15 - P 11 * P 14) - (P 0 * P 6 - P 2 * P 4) * (P 9 * P 15 - P 11 * P 13) + (P 0 * P 7 - P 3 * P 4) * (P 9 * P 14 - P 10 * P 13) + (P 1 * P 6 - P 2 * P 5) * (P 8 * P 15 - P 11 * P 12) - (P 1 * P 7 - P 3 * P 5) * (P 8 * P 14 - P 10 * P 12) + (P 2 * P 7 - P 3 * P 6) * (P 8 * P 13 - P 9 * P 12)
  unfold gm_4
  rw [e11, e12, e13, e14, e21, e22, e23, e24, e31, e32, e33, e34, e41, e42, e43, e44, p0, p1, p2, p3, p4, p5, p6, p7, p8, p9, p10, p11, p12, p13, p14, p15]
  grind
theorem dt_14 (hE : dt_E S E u) (hP : dt_P S P u) (h1 : u 1 = false) (h2 : u 2 = true) (h3 : u 3 = true) (h4 : u 4 = true) : gm_4 E = md P := by
  have a1 : dt_a u 1 = 0 := by simp [dt_a, h1, h2, h3, h4]
  have a2 : dt_a u 2 = 0 := by simp [dt_a, h1, h2, h3, h4]
  have a3 : dt_a u 3 = 1 := by simp [dt_a, h1, h2, h3, h4]
  have a4 : dt_a u 4 = 2 := by simp [dt_a, h1, h2, h3, h4]
  have a5 : dt_a u 5 = 3 := by simp [dt_a, h1, h2, h3, h4]
  have e11 : E 1 1 = 1 := by rw [hE 1 1 (by decide) (by decide) (by decide) (by decide)]; simp [h1, h2, h3, h4]
  have e12 : E 1 2 = 0 := by rw [hE 1 2 (by decide) (by decide) (by decide) (by decide)]; simp [h1, h2, h3, h4]
  have e13 : E 1 3 = 0 := by rw [hE 1 3 (by decide) (by decide) (by decide) (by decide)]; simp [h1, h2, h3, h4]
  have e14 : E 1 4 = 0 := by rw [hE 1 4 (by decide) (by decide) (by decide) (by decide)]; simp [h1, h2, h3, h4]
  have e21 : E 2 1 = 0 := by rw [hE 2 1 (by decide) (by decide) (by decide) (by decide)]; simp [h1, h2, h3, h4]
  have e22 : E 2 2 = S 2 2 := by rw [hE 2 2 (by decide) (by decide) (by decide) (by decide)]; simp [h1, h2, h3, h4]
  have e23 : E 2 3 = S 2 3 := by rw [hE 2 3 (by decide) (by decide) (by decide) (by decide)]; simp [h1, h2, h3, h4]
  have e24 : E 2 4 = S 2 4 := by rw [hE 2 4 (by decide) (by decide) (by decide) (by decide)]; simp [h1, h2, h3, h4]
  have e31 : E 3 1 = 0 := by rw [hE 3 1 (by decide) (by decide) (by decide) (by decide)]; simp [h1, h2, h3, h4]
  have e32 : E 3 2 = S 3 2 := by rw [hE 3 2 (by decide) (by decide) (by decide) (by decide)]; simp [h1, h2, h3, h4]
  have e33 : E 3 3 = S 3 3 := by rw [hE 3 3 (by decide) (by decide) (by decide) (by decide)]; simp [h1, h2, h3, h4]
  have e34 : E 3 4 = S 3 4 := by rw [hE 3 4 (by decide) (by decide) (by decide) (by decide)]; simp [h1, h2, h3, h4]
  have e41 : E 4 1 = 0 := by rw [hE 4 1 (by decide) (by decide) (by decide) (by decide)]; simp [h1, h2, h3, h4]
  have e42 : E 4 2 = S 4 2 := by rw [hE 4 2 (by decide) (by decide) (by decide) (by decide)]; simp [h1, h2, h3, h4]
  have e43 : E 4 3 = S 4 3 := by rw [hE 4 3 (by decide) (by decide) (by decide) (by decide)]; simp [h1, h2, h3, h4]
  have e44 : E 4 4 = S 4 4 := by rw [hE 4 4 (by decide) (by decide) (by decide) (by decide)]; simp [h1, h2, h3, h4]
  have p0 : P 0 = S 2 2 := by have z := hP.1 2 2 (by decide) (by decide) (by decide) (by decide) h2 h2; rw [a2] at z; exact z
  have p1 : P 1 = S 2 3 := by have z := hP.1 2 3 (by decide) (by decide) (by decide) (by decide) h2 h3; rw [a2, a3] at z; exact z
  have p2 : P 2 = S 2 4 := by have z := hP.1 2 4 (by decide) (by decide) (by decide) (by decide) h2 h4; rw [a2, a4] at z; exact z
  have p3 : P 3 = 0 := by rw [hP.2 3 (by decide) (by decide) (by rw [a5]; decide)]; decide
  have p4 : P 4 = S 3 2 := by have z := hP.1 3 2 (by decide) (by decide) (by decide) (by decide) h3 h2; rw [a3, a2] at z; exact z
  have p5 : P 5 = S 3 3 := by have z := hP.1 3 3 (by decide) (by decide) (by decide) (by decide) h3 h3; rw [a3] at z; exact z
  have p6 : P 6 = S 3 4 := by have z := hP.1 3 4 (by decide) (by decide) (by decide) (by decide) h3 h4; rw [a3, a4] at z; exact z
  have p7 : P 7 = 0 := by rw [hP.2 7 (by decide) (by decide) (by rw [a5]; decide)]; decide
  have p8 : P 8 = S 4 2 := by have z := hP.1 4 2 (by decide) (by decide) (by decide) (by decide) h4 h2; rw [a4, a2] at z; exact z
  have p9 : P 9 = S 4 3 := by have z := hP.1 4 3 (by decide) (by decide) (by decide) (by decide) h4 h3; rw [a4, a3] at z; exact z
  have p10 : P 10 = S 4 4 := by have z := hP.1 4 4 (by decide) (by decide) (by decide) (by decide) h4 h4; rw [a4] at z; exact z
  have p11 : P 11 = 0 := by rw [hP.2 11 (by decide) (by decide) (by rw [a5]; decide)]; decide
  have p12 : P 12 = 0 := by rw [hP.2 12 (by decide) (by decide) (by rw [a5]; decide)]; decide
  have p13 : P 13 = 0 := by rw [hP.2 13 (by decide) (by decide) (by rw [a5]; decide)]; decide
  have p14 : P 14 = 0 := by rw [hP.2 14 (by decide) (by decide) (by rw [a5]; decide)]; decide
  have p15 : P 15 = 1 := by rw [hP.2 15 (by decide) (by decide) (by rw [a5]; decide)]; decide
  show gm_4 E = (P 0 * P 5 - P 1 * P 4) * (P 10 * P 15 - P 11 * P 14) - (P 0 * P 6 - P 2 * P 4) * (P 9 * P 15 - P 11 * P 13) + (P 0 * P 7 - P 3 * P 4) * (P 9 * P 14 - P 10 * P 13) + (P 1 * P 6 - P 2 * P 5) * (P 8 * P 15 - P 11 * P 12) - (P 1 * P 7 - P 3 * P 5) * (P 8 * P 14 - P 10 * P 12) + (P 2 * P 7 - P 3 * P 6) * (P 8 * P 13 - P 9 * P 12)
  unfold gm_4
  rw [e11, e12, e13, e14, e21, e22, e23, e24, e31, e32, e33, e34, e41, e42, e43, e44, p0, p1, p2, p3, p4, p5, p6, p7, p8, p9, p10, p11, p12, p13, p14, p15]
  grind
theorem dt_15 (hE : dt_E S E u) (hP : dt_P S P u) (h1 : u 1 = true) (h2 : u 2 = true) (h3 : u 3 = true) (h4 : u 4 = true) : gm_4 E = md P := by
  have a1 : dt_a u 1 = 0 := by simp [dt_a, h1, h2, h3, h4]
  have a2 : dt_a u 2 = 1 := by simp [dt_a, h1, h2, h3, h4]
  have a3 : dt_a u 3 = 2 := by simp [dt_a, h1, h2, h3, h4]
  have a4 : dt_a u 4 = 3 := by simp [dt_a, h1, h2, h3, h4]
  have a5 : dt_a u 5 = 4 := by simp [dt_a, h1, h2, h3, h4]
  have e11 : E 1 1 = S 1 1 := by rw [hE 1 1 (by decide) (by decide) (by decide) (by decide)]; simp [h1, h2, h3, h4]
  have e12 : E 1 2 = S 1 2 := by rw [hE 1 2 (by decide) (by decide) (by decide) (by decide)]; simp [h1, h2, h3, h4]
  have e13 : E 1 3 = S 1 3 := by rw [hE 1 3 (by decide) (by decide) (by decide) (by decide)]; simp [h1, h2, h3, h4]
  have e14 : E 1 4 = S 1 4 := by rw [hE 1 4 (by decide) (by decide) (by decide) (by decide)]; simp [h1, h2, h3, h4]
  have e21 : E 2 1 = S 2 1 := by rw [hE 2 1 (by decide) (by decide) (by decide) (by decide)]; simp [h1, h2, h3, h4]
  have e22 : E 2 2 = S 2 2 := by rw [hE 2 2 (by decide) (by decide) (by decide) (by decide)]; simp [h1, h2, h3, h4]
  have e23 : E 2 3 = S 2 3 := by rw [hE 2 3 (by decide) (by decide) (by decide) (by decide)]; simp [h1, h2, h3, h4]
  have e24 : E 2 4 = S 2 4 := by rw [hE 2 4 (by decide) (by decide) (by decide) (by decide)]; simp [h1, h2, h3, h4]
  have e31 : E 3 1 = S 3 1 := by rw [hE 3 1 (by decide) (by decide) (by decide) (by decide)]; simp [h1, h2, h3, h4]
  have e32 : E 3 2 = S 3 2 := by rw [hE 3 2 (by decide) (by decide) (by decide) (by decide)]; simp [h1, h2, h3, h4]
  have e33 : E 3 3 = S 3 3 := by rw [hE 3 3 (by decide) (by decide) (by decide) (by decide)]; simp [h1, h2, h3, h4]
  have e34 : E 3 4 = S 3 4 := by rw [hE 3 4 (by decide) (by decide) (by decide) (by decide)]; simp [h1, h2, h3, h4]
  have e41 : E 4 1 = S 4 1 := by rw [hE 4 1 (by decide) (by decide) (by decide) (by decide)]; simp [h1, h2, h3, h4]
  have e42 : E 4 2 = S 4 2 := by rw [hE 4 2 (by decide) (by decide) (by decide) (by decide)]; simp [h1, h2, h3, h4]
  have e43 : E 4 3 = S 4 3 := by rw [hE 4 3 (by decide) (by decide) (by decide) (by decide)]; simp [h1, h2, h3, h4]
  have e44 : E 4 4 = S 4 4 := by rw [hE 4 4 (by decide) (by decide) (by decide) (by decide)]; simp [h1, h2, h3, h4]
  have p0 : P 0 = S 1 1 := by have z := hP.1 1 1 (by decide) (by decide) (by decide) (by decide) h1 h1; rw [a1] at z; exact z
  have p1 : P 1 = S 1 2 := by have z := hP.1 1 2 (by decide) (by decide) (by decide) (by decide) h1 h2; rw [a1, a2] at z; exact z
  have p2 : P 2 = S 1 3 := by have z := hP.1 1 3 (by decide) (by decide) (by decide) (by decide) h1 h3; rw [a1, a3] at z; exact z
  have p3 : P 3 = S 1 4 := by have z := hP.1 1 4 (by decide) (by decide) (by decide) (by decide) h1 h4; rw [a1, a4] at z; exact z
  have p4 : P 4 = S 2 1 := by have z := hP.1 2 1 (by decide) (by decide) (by decide) (by decide) h2 h1; rw [a2, a1] at z; exact z
  have p5 : P 5 = S 2 2 := by have z := hP.1 2 2 (by decide) (by decide) (by decide) (by decide) h2 h2; rw [a2] at z; exact z
  have p6 : P 6 = S 2 3 := by have z := hP.1 2 3 (by decide) (by decide) (by decide) (by decide) h2 h3; rw [a2, a3] at z; exact z
  have p7 : P 7 = S 2 4 := by have z := hP.1 2 4 (by decide) (by decide) (by decide) (by decide) h2 h4; rw [a2, a4] at z; exact z
  have p8 : P 8 = S 3 1 := by have z := hP.1 3 1 (by decide) (by decide) (by decide) (by decide) h3 h1; rw [a3, a1] at z; exact z
  have p9 : P 9 = S 3 2 := by have z := hP.1 3 2 (by decide) (by decide) (by decide) (by decide) h3 h2; rw [a3, a2] at z; exact z
  have p10 : P 10 = S 3 3 := by have z := hP.1 3 3 (by decide) (by decide) (by decide) (by decide) h3 h3; rw [a3] at z; exact z
  have p11 : P 11 = S 3 4 := by have z := hP.1 3 4 (by decide) (by decide) (by decide) (by decide) h3 h4; rw [a3, a4] at z; exact z
  have p12 : P 12 = S 4 1 := by have z := hP.1 4 1 (by decide) (by decide) (by decide) (by decide) h4 h1; rw [a4, a1] at z; exact z
  have p13 : P 13 = S 4 2 := by have z := hP.1 4 2 (by decide) (by decide) (by decide) (by decide) h4 h2; rw [a4, a2] at z; exact z
  have p14 : P 14 = S 4 3 := by have z := hP.1 4 3 (by decide) (by decide) (by decide) (by decide) h4 h3; rw [a4, a3] at z; exact z
  have p15 : P 15 = S 4 4 := by have z := hP.1 4 4 (by decide) (by decide) (by decide) (by decide) h4 h4; rw [a4] at z; exact z
  show gm_4 E = (P 0 * P 5 - P 1 * P 4) * (P 10 * P 15 - P 11 * P 14) - (P 0 * P 6 - P 2 * P 4) * (P 9 * P 15 - P 11 * P 13) + (P 0 * P 7 - P 3 * P 4) * (P 9 * P 14 - P 10 * P 13) + (P 1 * P 6 - P 2 * P 5) * (P 8 * P 15 - P 11 * P 12) - (P 1 * P 7 - P 3 * P 5) * (P 8 * P 14 - P 10 * P 12) + (P 2 * P 7 - P 3 * P 6) * (P 8 * P 13 - P 9 * P 12)
  unfold gm_4
  rw [e11, e12, e13, e14, e21, e22, e23, e24, e31, e32, e33, e34, e41, e42, e43, e44, p0, p1, p2, p3, p4, p5, p6, p7, p8, p9, p10, p11, p12, p13, p14, p15]
theorem dt_all (hE : dt_E S E u) (hP : dt_P S P u) : gm_4 E = md P := by
  cases h1 : u 1 <;> cases h2 : u 2 <;> cases h3 : u 3 <;> cases h4 : u 4
  · exact dt_0 hE hP h1 h2 h3 h4
  · exact dt_8 hE hP h1 h2 h3 h4
  · exact dt_4 hE hP h1 h2 h3 h4
  · exact dt_12 hE hP h1 h2 h3 h4
  · exact dt_2 hE hP h1 h2 h3 h4
  · exact dt_10 hE hP h1 h2 h3 h4
  · exact dt_6 hE hP h1 h2 h3 h4
  · exact dt_14 hE hP h1 h2 h3 h4
  · exact dt_1 hE hP h1 h2 h3 h4
  · exact dt_9 hE hP h1 h2 h3 h4
  · exact dt_5 hE hP h1 h2 h3 h4
  · exact dt_13 hE hP h1 h2 h3 h4
  · exact dt_3 hE hP h1 h2 h3 h4
  · exact dt_11 hE hP h1 h2 h3 h4
  · exact dt_7 hE hP h1 h2 h3 h4
  · exact dt_15 hE hP h1 h2 h3 h4
end DT
