/-! PURE 6: a positive form's determinant is positive -/
theorem pd_mul {x y : Int} (hx : 0 < x) (h : 0 < x * y) : 0 < y := by
  apply Decidable.byContradiction
  intro n
  have q := Int.mul_le_mul_of_nonneg_left (show y ≤ 0 by omega) (show 0 ≤ x by omega)
  rw [Int.mul_zero] at q
  omega
def pd_Q (a b c d e f g h i j x y z t : Int) : Int := x * (a * x + b * y + c * z + d * t) + y * (b * x + e * y + f * z + g * t) + z * (c * x + f * y + h * z + i * t) + t * (d * x + g * y + i * z + j * t)
def pd_3 (a b c e f h : Int) : Int := a * (e * h - f * f) - b * (b * h - f * c) + c * (b * f - e * c)
def pd_4 (a b c d e f g h i j : Int) : Int := (a * e - b * b) * (h * j - i * i) - (a * f - c * b) * (f * j - i * g) + (a * g - d * b) * (f * i - h * g) + (b * f - c * e) * (c * j - i * d) - (b * g - d * e) * (c * i - h * d) + (c * g - d * f) * (c * g - f * d)
theorem pd_pos {a b c d e f g h i j : Int} (hQ : ∀ x y z t, (x ≠ 0 ∨ y ≠ 0 ∨ z ≠ 0 ∨ t ≠ 0) → 0 < pd_Q a b c d e f g h i j x y z t) : 0 < pd_4 a b c d e f g h i j := by
  have d1 : 0 < a := by
    have q := hQ 1 0 0 0 (Or.inl (by decide))
    unfold pd_Q at q
    simp at q
    exact q
  have d2 : 0 < a * e - b * b := by
    have q := hQ (-b) a 0 0 (Or.inr (Or.inl (by omega)))
    have e1 : pd_Q a b c d e f g h i j (-b) a 0 0 = a * (a * e - b * b) := by unfold pd_Q; grind
    rw [e1] at q
    exact pd_mul d1 q
  have d3 : 0 < pd_3 a b c e f h := by
    have q := hQ (b * f - e * c) (b * c - a * f) (a * e - b * b) 0 (Or.inr (Or.inr (Or.inl (by omega))))
    have e1 : pd_Q a b c d e f g h i j (b * f - e * c) (b * c - a * f) (a * e - b * b) 0 = (a * e - b * b) * pd_3 a b c e f h := by unfold pd_Q pd_3; grind
    rw [e1] at q
    exact pd_mul d2 q
  have x1 := (rfl : -(b * (f * i - g * h) - c * (e * i - g * f) + d * (e * h - f * f)) = _)
  generalize hx : -(b * (f * i - g * h) - c * (e * i - g * f) + d * (e * h - f * f)) = x at x1
  generalize hy : a * (f * i - g * h) - c * (b * i - g * c) + d * (b * h - f * c) = y
  generalize hz : -(a * (e * i - g * f) - b * (b * i - g * c) + d * (b * f - e * c)) = z
  have r1 : a * x + b * y + c * z + d * pd_3 a b c e f h = 0 := by rw [← hx, ← hy, ← hz]; unfold pd_3; grind
  have r2 : b * x + e * y + f * z + g * pd_3 a b c e f h = 0 := by rw [← hx, ← hy, ← hz]; unfold pd_3; grind
  have r3 : c * x + f * y + h * z + i * pd_3 a b c e f h = 0 := by rw [← hx, ← hy, ← hz]; unfold pd_3; grind
  have r4 : d * x + g * y + i * z + j * pd_3 a b c e f h = pd_4 a b c d e f g h i j := by rw [← hx, ← hy, ← hz]; unfold pd_3 pd_4; grind
  have q := hQ x y z (pd_3 a b c e f h) (Or.inr (Or.inr (Or.inr (by omega))))
  unfold pd_Q at q
  rw [r1, r2, r3, r4] at q
  simp only [Int.mul_zero, Int.zero_add] at q
  exact pd_mul d3 q
/-- a kernel vector makes it 0 -/
theorem pd_ker {a b c d e f g h i j x y z t : Int} (h1 : a * x + b * y + c * z + d * t = 0) (h2 : b * x + e * y + f * z + g * t = 0) (h3 : c * x + f * y + h * z + i * t = 0) (h4 : d * x + g * y + i * z + j * t = 0) (hx : x ≠ 0 ∨ y ≠ 0 ∨ z ≠ 0 ∨ t ≠ 0) : pd_4 a b c d e f g h i j = 0 := by
  have k1 : pd_4 a b c d e f g h i j * x = 0 := by unfold pd_4; grind
  have k2 : pd_4 a b c d e f g h i j * y = 0 := by unfold pd_4; grind
  have k3 : pd_4 a b c d e f g h i j * z = 0 := by unfold pd_4; grind
  have k4 : pd_4 a b c d e f g h i j * t = 0 := by unfold pd_4; grind
  rcases hx with hx | hx | hx | hx
  · exact (Int.mul_eq_zero.mp k1).resolve_right hx
  · exact (Int.mul_eq_zero.mp k2).resolve_right hx
  · exact (Int.mul_eq_zero.mp k3).resolve_right hx
  · exact (Int.mul_eq_zero.mp k4).resolve_right hx
