/-! PURE 21: sums of products of masked rows; their determinant and the kernel -/
def rk_m (t : Int → Bool) (r : Int → Int) : Int → Int := fun k => if t k = true then r k else 0
def rk_e (t : Int → Bool) (k : Int) : Int := if t k = true then 0 else 1
def rk_G (t : Int → Bool) (W : Int → Int) (r : Int → Int → Int) (on : Int → Bool) (k l : Int) : Nat → Int
  | 0 => if k = l then rk_e t k else 0
  | n + 1 => if on (n : Int) = true then rk_G t W r on k l n + W (n : Int) * rk_m t (r (n : Int)) k * rk_m t (r (n : Int)) l else rk_G t W r on k l n
def rk_dot (r y : Int → Int) : Int := r 0 * y 0 + r 1 * y 1 + r 2 * y 2 + r 3 * y 3
theorem rk_sq (x : Int) : 0 ≤ x * x ∧ (x * x = 0 → x = 0) := by
  refine ⟨?_, fun h => ?_⟩
  · rcases Int.le_total 0 x with h | h
    · exact Int.mul_nonneg h h
    · have e : x * x = (-x) * (-x) := by rw [Int.neg_mul_neg]
      rw [e]
      exact Int.mul_nonneg (by omega) (by omega)
  · rcases Int.mul_eq_zero.mp h with h | h <;> exact h
theorem rk_Qs (a b c d e f g h i j w p q r s x y z t : Int) : pd_Q (a + w * p * p) (b + w * p * q) (c + w * p * r) (d + w * p * s) (e + w * q * q) (f + w * q * r) (g + w * q * s) (h + w * r * r) (i + w * r * s) (j + w * s * s) x y z t = pd_Q a b c d e f g h i j x y z t + w * ((p * x + q * y + r * z + s * t) * (p * x + q * y + r * z + s * t)) := by
  unfold pd_Q
  grind
section RK
variable {t : Int → Bool} {W : Int → Int} {r : Int → Int → Int} {on : Int → Bool}
theorem rk_G_sym (k l : Int) : ∀ n : Nat, rk_G t W r on k l n = rk_G t W r on l k n
  | 0 => by
    simp only [rk_G]
    by_cases e : k = l
    · rw [e]
    · rw [if_neg e, if_neg (fun z => e z.symm)]
  | n + 1 => by
    simp only [rk_G]
    rw [rk_G_sym k l n]
    by_cases c : on (n : Int) = true
    · rw [if_pos c, if_pos c, Int.mul_assoc, Int.mul_assoc, Int.mul_comm (rk_m t (r (n : Int)) k)]
    · rw [if_neg c, if_neg c]
def rk_Q (t : Int → Bool) (W : Int → Int) (r : Int → Int → Int) (on : Int → Bool) (n : Nat) (y : Int → Int) : Int := pd_Q (rk_G t W r on 0 0 n) (rk_G t W r on 0 1 n) (rk_G t W r on 0 2 n) (rk_G t W r on 0 3 n) (rk_G t W r on 1 1 n) (rk_G t W r on 1 2 n) (rk_G t W r on 1 3 n) (rk_G t W r on 2 2 n) (rk_G t W r on 2 3 n) (rk_G t W r on 3 3 n) (y 0) (y 1) (y 2) (y 3)
theorem rk_Q_0 (y : Int → Int) : rk_Q t W r on 0 y = rk_e t 0 * (y 0 * y 0) + rk_e t 1 * (y 1 * y 1) + rk_e t 2 * (y 2 * y 2) + rk_e t 3 * (y 3 * y 3) := by
  show pd_Q (rk_e t 0) 0 0 0 (rk_e t 1) 0 0 (rk_e t 2) 0 (rk_e t 3) (y 0) (y 1) (y 2) (y 3) = _
  unfold pd_Q
  grind
theorem rk_Q_1 {n : Nat} (h : on (n : Int) = true) (y : Int → Int) : rk_Q t W r on (n + 1) y = rk_Q t W r on n y + W (n : Int) * (rk_dot (rk_m t (r (n : Int))) y * rk_dot (rk_m t (r (n : Int))) y) := by
  unfold rk_Q
  simp only [rk_G, if_pos h]
  exact rk_Qs _ _ _ _ _ _ _ _ _ _ _ _ _ _ _ _ _ _ _
theorem rk_Q_n {n : Nat} (h : ¬ on (n : Int) = true) (y : Int → Int) : rk_Q t W r on (n + 1) y = rk_Q t W r on n y := by
  unfold rk_Q
  simp only [rk_G, if_neg h]
theorem rk_Q_pos (y : Int → Int) : ∀ n : Nat, (∀ i, 0 ≤ i → i < (n : Int) → 1 ≤ W i) → 0 ≤ rk_Q t W r on n y ∧ (rk_Q t W r on n y = 0 → (∀ k, 0 ≤ k → k < 4 → t k = false → y k = 0) ∧ ∀ i, 0 ≤ i → i < (n : Int) → on i = true → rk_dot (rk_m t (r i)) y = 0)
  | 0, _ => by
    rw [rk_Q_0]
    have d : ∀ k, 0 ≤ rk_e t k * (y k * y k) ∧ (t k = false → rk_e t k * (y k * y k) = y k * y k) := by
      intro k
      have z := rk_sq (y k)
      unfold rk_e
      by_cases c : t k = true
      · rw [if_pos c, Int.zero_mul]
        exact ⟨Int.le_refl _, fun z => by rw [c] at z; cases z⟩
      · rw [if_neg c, Int.one_mul]
        exact ⟨z.1, fun _ => rfl⟩
    have d0 := d 0
    have d1 := d 1
    have d2 := d 2
    have d3 := d 3
    refine ⟨by omega, fun hz => ⟨fun k k0 k1 hk => ?_, fun i i0 i1 => absurd i1 (by omega)⟩⟩
    have hc : k = 0 ∨ k = 1 ∨ k = 2 ∨ k = 3 := by omega
    rcases hc with rfl | rfl | rfl | rfl
    · exact (rk_sq _).2 (by rw [← d0.2 hk]; omega)
    · exact (rk_sq _).2 (by rw [← d1.2 hk]; omega)
    · exact (rk_sq _).2 (by rw [← d2.2 hk]; omega)
    · exact (rk_sq _).2 (by rw [← d3.2 hk]; omega)
  | n + 1, hW => by
    obtain ⟨g1, g2⟩ := rk_Q_pos y n (fun i i0 i1 => hW i i0 (by omega))
    have hw := hW (n : Int) (by omega) (by omega)
    by_cases c : on (n : Int) = true
    · rw [rk_Q_1 c]
      have z := rk_sq (rk_dot (rk_m t (r (n : Int))) y)
      have z1 : 0 ≤ W (n : Int) * (rk_dot (rk_m t (r (n : Int))) y * rk_dot (rk_m t (r (n : Int))) y) := Int.mul_nonneg (by omega) z.1
      refine ⟨by omega, fun hz => ?_⟩
      have e1 : W (n : Int) * (rk_dot (rk_m t (r (n : Int))) y * rk_dot (rk_m t (r (n : Int))) y) = 0 := by omega
      obtain ⟨g3, g4⟩ := g2 (by omega)
      refine ⟨g3, fun i i0 i1 hi => ?_⟩
      by_cases e : i = (n : Int)
      · subst e
        rcases Int.mul_eq_zero.mp e1 with e2 | e2
        · omega
        · exact z.2 e2
      · exact g4 i i0 (by omega) hi
    · rw [rk_Q_n c]
      refine ⟨g1, fun hz => ?_⟩
      obtain ⟨g3, g4⟩ := g2 hz
      refine ⟨g3, fun i i0 i1 hi => ?_⟩
      by_cases e : i = (n : Int)
      · subst e; exact absurd hi c
      · exact g4 i i0 (by omega) hi
theorem rk_ks (A0 A1 A2 A3 w m m0 m1 m2 m3 x y z u : Int) : (A0 + w * m * m0) * x + (A1 + w * m * m1) * y + (A2 + w * m * m2) * z + (A3 + w * m * m3) * u = (A0 * x + A1 * y + A2 * z + A3 * u) + w * m * (m0 * x + m1 * y + m2 * z + m3 * u) := by
  grind
theorem rk_ker {y : Int → Int} (hy : ∀ k, 0 ≤ k → k < 4 → t k = false → y k = 0) {k : Int} (k0 : 0 ≤ k) (k1 : k < 4) : ∀ n : Nat, (∀ i, 0 ≤ i → i < (n : Int) → on i = true → rk_dot (rk_m t (r i)) y = 0) → rk_G t W r on k 0 n * y 0 + rk_G t W r on k 1 n * y 1 + rk_G t W r on k 2 n * y 2 + rk_G t W r on k 3 n * y 3 = 0
  | 0, _ => by
    have d : ∀ k, 0 ≤ k → k < 4 → rk_e t k * y k = 0 := by
      intro k k0 k1
      unfold rk_e
      by_cases c : t k = true
      · rw [if_pos c, Int.zero_mul]
      · rw [hy k k0 k1 (by simpa using c), Int.mul_zero]
    have hc : k = 0 ∨ k = 1 ∨ k = 2 ∨ k = 3 := by omega
    rcases hc with rfl | rfl | rfl | rfl
    · have z := d 0 (by decide) (by decide)
      simp [rk_G, z]
    · have z := d 1 (by decide) (by decide)
      simp [rk_G, z]
    · have z := d 2 (by decide) (by decide)
      simp [rk_G, z]
    · have z := d 3 (by decide) (by decide)
      simp [rk_G, z]
  | n + 1, hd => by
    have ih := rk_ker hy k0 k1 n (fun i i0 i1 => hd i i0 (by omega))
    simp only [rk_G]
    by_cases c : on (n : Int) = true
    · have z := hd (n : Int) (by omega) (by omega) c
      unfold rk_dot at z
      simp only [if_pos c]
      rw [rk_ks, ih, z, Int.mul_zero, Int.zero_add]
    · simp only [if_neg c]
      exact ih
/-- no row sees a difference of these angles -/
def rk_I (t : Int → Bool) (r : Int → Int → Int) (on : Int → Bool) (n : Nat) : Prop := ∀ y : Int → Int, (∀ k, 0 ≤ k → k < 4 → t k = false → y k = 0) → (∀ i, 0 ≤ i → i < (n : Int) → on i = true → rk_dot (rk_m t (r i)) y = 0) → ∀ k, 0 ≤ k → k < 4 → y k = 0
theorem md_pd {C : Int → Int} {a b c d e f g h i j : Int} (h0 : C 0 = a) (h1 : C 1 = b) (h2 : C 2 = c) (h3 : C 3 = d) (h4 : C 4 = b) (h5 : C 5 = e) (h6 : C 6 = f) (h7 : C 7 = g) (h8 : C 8 = c) (h9 : C 9 = f) (h10 : C 10 = h) (h11 : C 11 = i) (h12 : C 12 = d) (h13 : C 13 = g) (h14 : C 14 = i) (h15 : C 15 = j) : md C = pd_4 a b c d e f g h i j := by
  show (C 0 * C 5 - C 1 * C 4) * (C 10 * C 15 - C 11 * C 14) - (C 0 * C 6 - C 2 * C 4) * (C 9 * C 15 - C 11 * C 13) + (C 0 * C 7 - C 3 * C 4) * (C 9 * C 14 - C 10 * C 13) + (C 1 * C 6 - C 2 * C 5) * (C 8 * C 15 - C 11 * C 12) - (C 1 * C 7 - C 3 * C 5) * (C 8 * C 14 - C 10 * C 12) + (C 2 * C 7 - C 3 * C 6) * (C 8 * C 13 - C 9 * C 12) = _
  rw [h0, h1, h2, h3, h4, h5, h6, h7, h8, h9, h10, h11, h12, h13, h14, h15]
  rfl
theorem rk_det {C : Int → Int} {n : Nat} (hW : ∀ i, 0 ≤ i → i < (n : Int) → 1 ≤ W i) (hC : ∀ k, 0 ≤ k → k < 16 → C k = rk_G t W r on (k / 4) (k % 4) n) : (md C ≠ 0 ↔ rk_I t r on n) ∧ 0 ≤ md C := by
  have z := fun k k0 k1 => hC k k0 k1
  have e : md C = pd_4 (rk_G t W r on 0 0 n) (rk_G t W r on 0 1 n) (rk_G t W r on 0 2 n) (rk_G t W r on 0 3 n) (rk_G t W r on 1 1 n) (rk_G t W r on 1 2 n) (rk_G t W r on 1 3 n) (rk_G t W r on 2 2 n) (rk_G t W r on 2 3 n) (rk_G t W r on 3 3 n) :=
    md_pd (hC 0 (by decide) (by decide)) (hC 1 (by decide) (by decide)) (hC 2 (by decide) (by decide)) (hC 3 (by decide) (by decide))
      ((hC 4 (by decide) (by decide)).trans (rk_G_sym 1 0 n)) (hC 5 (by decide) (by decide)) (hC 6 (by decide) (by decide)) (hC 7 (by decide) (by decide))
      ((hC 8 (by decide) (by decide)).trans (rk_G_sym 2 0 n)) ((hC 9 (by decide) (by decide)).trans (rk_G_sym 2 1 n)) (hC 10 (by decide) (by decide)) (hC 11 (by decide) (by decide))
      ((hC 12 (by decide) (by decide)).trans (rk_G_sym 3 0 n)) ((hC 13 (by decide) (by decide)).trans (rk_G_sym 3 1 n)) ((hC 14 (by decide) (by decide)).trans (rk_G_sym 3 2 n)) (hC 15 (by decide) (by decide))
  have p : rk_I t r on n → 0 < md C := by
    intro hI
    rw [e]
    refine pd_pos (fun x y z u hx => ?_)
    have q := rk_Q_pos (t := t) (W := W) (r := r) (on := on) (fun k => if k = 0 then x else if k = 1 then y else if k = 2 then z else u) n hW
    have e2 : rk_Q t W r on n (fun k => if k = 0 then x else if k = 1 then y else if k = 2 then z else u) = pd_Q (rk_G t W r on 0 0 n) (rk_G t W r on 0 1 n) (rk_G t W r on 0 2 n) (rk_G t W r on 0 3 n) (rk_G t W r on 1 1 n) (rk_G t W r on 1 2 n) (rk_G t W r on 1 3 n) (rk_G t W r on 2 2 n) (rk_G t W r on 2 3 n) (rk_G t W r on 3 3 n) x y z u := rfl
    rw [e2] at q
    apply Decidable.byContradiction
    intro hn
    obtain ⟨q1, q2⟩ := q.2 (by omega)
    have f := hI _ q1 q2
    have f0 : x = 0 := f 0 (by decide) (by decide)
    have f1 : y = 0 := f 1 (by decide) (by decide)
    have f2 : z = 0 := f 2 (by decide) (by decide)
    have f3 : u = 0 := f 3 (by decide) (by decide)
    omega
  have k : md C ≠ 0 → rk_I t r on n := by
    intro hne y hy hd
    apply Classical.byContradiction
    intro hn
    apply hne
    rw [e]
    have k0 := rk_ker (W := W) hy (k := 0) (by decide) (by decide) n hd
    have k1 := rk_ker (W := W) hy (k := 1) (by decide) (by decide) n hd
    have k2 := rk_ker (W := W) hy (k := 2) (by decide) (by decide) n hd
    have k3 := rk_ker (W := W) hy (k := 3) (by decide) (by decide) n hd
    rw [rk_G_sym 1 0 n] at k1
    rw [rk_G_sym 2 0 n, rk_G_sym 2 1 n] at k2
    rw [rk_G_sym 3 0 n, rk_G_sym 3 1 n, rk_G_sym 3 2 n] at k3
    refine pd_ker k0 k1 k2 k3 ?_
    apply Decidable.byContradiction
    intro h4
    apply hn
    intro k k0 k1
    have hc : k = 0 ∨ k = 1 ∨ k = 2 ∨ k = 3 := by omega
    rcases hc with rfl | rfl | rfl | rfl <;> omega
  refine ⟨⟨k, fun h => ?_⟩, ?_⟩
  · have := p h
    omega
  · by_cases c : md C = 0
    · omega
    · exact Int.le_of_lt (p (k c))
/-- how large the sums get -/
theorem rk_G_bd {k l : Int} (k0 : 0 ≤ k ∧ k < 4) (l0 : 0 ≤ l ∧ l < 4) : ∀ n : Nat, (∀ i, 0 ≤ i → i < (n : Int) → (1 ≤ W i ∧ W i ≤ 4) ∧ ∀ k, 0 ≤ k → k < 4 → -8 ≤ r i k ∧ r i k ≤ 8) → -(1 + 256 * (n : Int)) ≤ rk_G t W r on k l n ∧ rk_G t W r on k l n ≤ 1 + 256 * (n : Int)
  | 0, _ => by
    simp only [rk_G, rk_e]
    split
    · split <;> decide
    · decide
  | n + 1, h => by
    have ih := rk_G_bd k0 l0 n (fun i i0 i1 => h i i0 (by omega))
    obtain ⟨w, g⟩ := h (n : Int) (by omega) (by omega)
    have mk : ∀ k, 0 ≤ k → k < 4 → -8 ≤ rk_m t (r (n : Int)) k ∧ rk_m t (r (n : Int)) k ≤ 8 := by
      intro k k0 k1
      have z := g k k0 k1
      unfold rk_m
      split <;> omega
    have p1 := mb_mul (x := W (n : Int)) (y := rk_m t (r (n : Int)) k) (A := 4) (B := 8) (by omega) (mk k k0.1 k0.2)
    have p2 := mb_mul (x := W (n : Int) * rk_m t (r (n : Int)) k) (y := rk_m t (r (n : Int)) l) (A := 32) (B := 8) (by omega) (mk l l0.1 l0.2)
    simp only [rk_G]
    split <;> omega
end RK
theorem md_bd {C : Int → Int} (h : ∀ k, 0 ≤ k → k < 16 → -2561 ≤ C k ∧ C k ≤ 2561) : -9223372036854775808 < md C ∧ md C < 9223372036854775808 := by
  have p : ∀ a b, 0 ≤ a → a < 16 → 0 ≤ b → b < 16 → -6558721 ≤ C a * C b ∧ C a * C b ≤ 6558721 := fun a b a0 a1 b0 b1 => by
    have z := mb_mul (x := C a) (y := C b) (A := 2561) (B := 2561) (by have := h a a0 a1; omega) (by have := h b b0 b1; omega)
    omega
  have q : ∀ a b c d, 0 ≤ a → a < 16 → 0 ≤ b → b < 16 → 0 ≤ c → c < 16 → 0 ≤ d → d < 16 → -13117442 ≤ C a * C b - C c * C d ∧ C a * C b - C c * C d ≤ 13117442 := fun a b c d a0 a1 b0 b1 c0 c1 d0 d1 => by
    have z1 := p a b a0 a1 b0 b1
    have z2 := p c d c0 c1 d0 d1
    omega
  have s : ∀ a b c d a' b' c' d', 0 ≤ a → a < 16 → 0 ≤ b → b < 16 → 0 ≤ c → c < 16 → 0 ≤ d → d < 16 → 0 ≤ a' → a' < 16 → 0 ≤ b' → b' < 16 → 0 ≤ c' → c' < 16 → 0 ≤ d' → d' < 16 → -172067284623364 ≤ (C a * C b - C c * C d) * (C a' * C b' - C c' * C d') ∧ (C a * C b - C c * C d) * (C a' * C b' - C c' * C d') ≤ 172067284623364 := fun a b c d a' b' c' d' a0 a1 b0 b1 c0 c1 d0 d1 a0' a1' b0' b1' c0' c1' d0' d1' => by
    have z := mb_mul (A := 13117442) (B := 13117442) (q a b c d a0 a1 b0 b1 c0 c1 d0 d1) (q a' b' c' d' a0' a1' b0' b1' c0' c1' d0' d1')
    omega
  have s1 := s 0 5 1 4 10 15 11 14 (by decide) (by decide) (by decide) (by decide) (by decide) (by decide) (by decide) (by decide) (by decide) (by decide) (by decide) (by decide) (by decide) (by decide) (by decide) (by decide)
  have s2 := s 0 6 2 4 9 15 11 13 (by decide) (by decide) (by decide) (by decide) (by decide) (by decide) (by decide) (by decide) (by decide) (by decide) (by decide) (by decide) (by decide) (by decide) (by decide) (by decide)
  have s3 := s 0 7 3 4 9 14 10 13 (by decide) (by decide) (by decide) (by decide) (by decide) (by decide) (by decide) (by decide) (by decide) (by decide) (by decide) (by decide) (by decide) (by decide) (by decide) (by decide)
  have s4 := s 1 6 2 5 8 15 11 12 (by decide) (by decide) (by decide) (by decide) (by decide) (by decide) (by decide) (by decide) (by decide) (by decide) (by decide) (by decide) (by decide) (by decide) (by decide) (by decide)
  have s5 := s 1 7 3 5 8 14 10 12 (by decide) (by decide) (by decide) (by decide) (by decide) (by decide) (by decide) (by decide) (by decide) (by decide) (by decide) (by decide) (by decide) (by decide) (by decide) (by decide)
  have s6 := s 2 7 3 6 8 13 9 12 (by decide) (by decide) (by decide) (by decide) (by decide) (by decide) (by decide) (by decide) (by decide) (by decide) (by decide) (by decide) (by decide) (by decide) (by decide) (by decide)
  show -9223372036854775808 < (C 0 * C 5 - C 1 * C 4) * (C 10 * C 15 - C 11 * C 14) - (C 0 * C 6 - C 2 * C 4) * (C 9 * C 15 - C 11 * C 13) + (C 0 * C 7 - C 3 * C 4) * (C 9 * C 14 - C 10 * C 13) + (C 1 * C 6 - C 2 * C 5) * (C 8 * C 15 - C 11 * C 12) - (C 1 * C 7 - C 3 * C 5) * (C 8 * C 14 - C 10 * C 12) + (C 2 * C 7 - C 3 * C 6) * (C 8 * C 13 - C 9 * C 12) ∧ (C 0 * C 5 - C 1 * C 4) * (C 10 * C 15 - C 11 * C 14) - (C 0 * C 6 - C 2 * C 4) * (C 9 * C 15 - C 11 * C 13) + (C 0 * C 7 - C 3 * C 4) * (C 9 * C 14 - C 10 * C 13) + (C 1 * C 6 - C 2 * C 5) * (C 8 * C 15 - C 11 * C 12) - (C 1 * C 7 - C 3 * C 5) * (C 8 * C 14 - C 10 * C 12) + (C 2 * C 7 - C 3 * C 6) * (C 8 * C 13 - C 9 * C 12) < 9223372036854775808
  omega
