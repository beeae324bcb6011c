/-! PURE 12: normal equations; a needed meter has no residual -/
theorem cr_1 (a11 a12 a13 a14 a21 a22 a23 a24 a31 a32 a33 a34 a41 a42 a43 a44 r1 r2 r3 r4 : Int) (A B C D F : Int)
    (hF : F = (a11 * a22 - a12 * a21) * (a33 * a44 - a34 * a43) - (a11 * a23 - a13 * a21) * (a32 * a44 - a34 * a42) + (a11 * a24 - a14 * a21) * (a32 * a43 - a33 * a42) + (a12 * a23 - a13 * a22) * (a31 * a44 - a34 * a41) - (a12 * a24 - a14 * a22) * (a31 * a43 - a33 * a41) + (a13 * a24 - a14 * a23) * (a31 * a42 - a32 * a41))
    (hA : A = (r1 * a22 - a12 * r2) * (a33 * a44 - a34 * a43) - (r1 * a23 - a13 * r2) * (a32 * a44 - a34 * a42) + (r1 * a24 - a14 * r2) * (a32 * a43 - a33 * a42) + (a12 * a23 - a13 * a22) * (r3 * a44 - a34 * r4) - (a12 * a24 - a14 * a22) * (r3 * a43 - a33 * r4) + (a13 * a24 - a14 * a23) * (r3 * a42 - a32 * r4))
    (hB : B = (a11 * r2 - r1 * a21) * (a33 * a44 - a34 * a43) - (a11 * a23 - a13 * a21) * (r3 * a44 - a34 * r4) + (a11 * a24 - a14 * a21) * (r3 * a43 - a33 * r4) + (r1 * a23 - a13 * r2) * (a31 * a44 - a34 * a41) - (r1 * a24 - a14 * r2) * (a31 * a43 - a33 * a41) + (a13 * a24 - a14 * a23) * (a31 * r4 - r3 * a41))
    (hC : C = (a11 * a22 - a12 * a21) * (r3 * a44 - a34 * r4) - (a11 * r2 - r1 * a21) * (a32 * a44 - a34 * a42) + (a11 * a24 - a14 * a21) * (a32 * r4 - r3 * a42) + (a12 * r2 - r1 * a22) * (a31 * a44 - a34 * a41) - (a12 * a24 - a14 * a22) * (a31 * r4 - r3 * a41) + (r1 * a24 - a14 * r2) * (a31 * a42 - a32 * a41))
    (hD : D = (a11 * a22 - a12 * a21) * (a33 * r4 - r3 * a43) - (a11 * a23 - a13 * a21) * (a32 * r4 - r3 * a42) + (a11 * r2 - r1 * a21) * (a32 * a43 - a33 * a42) + (a12 * a23 - a13 * a22) * (a31 * r4 - r3 * a41) - (a12 * r2 - r1 * a22) * (a31 * a43 - a33 * a41) + (a13 * r2 - r1 * a23) * (a31 * a42 - a32 * a41)) :
    a11 * A + a12 * B + a13 * C + a14 * D = r1 * F ∧ a21 * A + a22 * B + a23 * C + a24 * D = r2 * F ∧ a31 * A + a32 * B + a33 * C + a34 * D = r3 * F ∧ a41 * A + a42 * B + a43 * C + a44 * D = r4 * F := by
  subst hF hA hB hC hD
  refine ⟨?_, ?_, ?_, ?_⟩ <;> grind
theorem cr_D {m : en_M} (h : xl m) (q : Int) {b : Int} (b0 : 1 ≤ b) (b1 : b ≤ 4) : gl_L m q (m 21 1).toNat b 1 * gl_D m q 1 + gl_L m q (m 21 1).toNat b 2 * gl_D m q 2 + gl_L m q (m 21 1).toNat b 3 * gl_D m q 3 + gl_L m q (m 21 1).toNat b 4 * gl_D m q 4 = gl_R m q (m 21 1).toNat b * gl_D m q (-1) := by
  have z0 := lk_0 h
  have eL : ∀ r c rep : Int, c ≠ rep → gl_E m q rep r c = gl_L m q (m 21 1).toNat r c := fun r c rep hc => by
    unfold gl_E
    rw [if_neg hc]
  have eR : ∀ r c : Int, gl_E m q c r c = gl_R m q (m 21 1).toNat r := fun r c => by
    unfold gl_E
    rw [if_pos rfl]
  have dF : gl_D m q (-1) = _ := gl_D_4 z0 (by decide)
  have d1 : gl_D m q 1 = _ := gl_D_4 z0 (by decide)
  have d2 : gl_D m q 2 = _ := gl_D_4 z0 (by decide)
  have d3 : gl_D m q 3 = _ := gl_D_4 z0 (by decide)
  have d4 : gl_D m q 4 = _ := gl_D_4 z0 (by decide)
  unfold gm_4 at dF d1 d2 d3 d4
  simp only [eR] at d1 d2 d3 d4
  rw [eL 1 1 (-1) (by decide), eL 1 2 (-1) (by decide), eL 1 3 (-1) (by decide), eL 1 4 (-1) (by decide), eL 2 1 (-1) (by decide), eL 2 2 (-1) (by decide), eL 2 3 (-1) (by decide), eL 2 4 (-1) (by decide), eL 3 1 (-1) (by decide), eL 3 2 (-1) (by decide), eL 3 3 (-1) (by decide), eL 3 4 (-1) (by decide), eL 4 1 (-1) (by decide), eL 4 2 (-1) (by decide), eL 4 3 (-1) (by decide), eL 4 4 (-1) (by decide)] at dF
  rw [eL 1 2 1 (by decide), eL 1 3 1 (by decide), eL 1 4 1 (by decide), eL 2 2 1 (by decide), eL 2 3 1 (by decide), eL 2 4 1 (by decide), eL 3 2 1 (by decide), eL 3 3 1 (by decide), eL 3 4 1 (by decide), eL 4 2 1 (by decide), eL 4 3 1 (by decide), eL 4 4 1 (by decide)] at d1
  rw [eL 1 1 2 (by decide), eL 1 3 2 (by decide), eL 1 4 2 (by decide), eL 2 1 2 (by decide), eL 2 3 2 (by decide), eL 2 4 2 (by decide), eL 3 1 2 (by decide), eL 3 3 2 (by decide), eL 3 4 2 (by decide), eL 4 1 2 (by decide), eL 4 3 2 (by decide), eL 4 4 2 (by decide)] at d2
  rw [eL 1 1 3 (by decide), eL 1 2 3 (by decide), eL 1 4 3 (by decide), eL 2 1 3 (by decide), eL 2 2 3 (by decide), eL 2 4 3 (by decide), eL 3 1 3 (by decide), eL 3 2 3 (by decide), eL 3 4 3 (by decide), eL 4 1 3 (by decide), eL 4 2 3 (by decide), eL 4 4 3 (by decide)] at d3
  rw [eL 1 1 4 (by decide), eL 1 2 4 (by decide), eL 1 3 4 (by decide), eL 2 1 4 (by decide), eL 2 2 4 (by decide), eL 2 3 4 (by decide), eL 3 1 4 (by decide), eL 3 2 4 (by decide), eL 3 3 4 (by decide), eL 4 1 4 (by decide), eL 4 2 4 (by decide), eL 4 3 4 (by decide)] at d4
  obtain ⟨c1, c2, c3, c4⟩ := cr_1 _ _ _ _ _ _ _ _ _ _ _ _ _ _ _ _ _ _ _ _ _ _ _ _ _ dF d1 d2 d3 d4
  have hc : b = 1 ∨ b = 2 ∨ b = 3 ∨ b = 4 := by omega
  rcases hc with rfl | rfl | rfl | rfl
  · exact c1
  · exact c2
  · exact c3
  · exact c4
/-- the sum over an island's meters of weight, growth and residual -/
def nq (m : en_M) (q b : Int) : Nat → Int
  | 0 => 0
  | n + 1 => if xm_io m (n : Int) = q then nq m q b n + m 25 (n : Int) * m 25 (n : Int) * xm_gr m (n : Int) b * xe_rs m q (n : Int) else nq m q b n
theorem xe_rs_5 (m : en_M) (q i : Int) : xe_rs m q i = m 24 i * gl_D m q (-1) - xm_gr m i 0 * gl_D m q 0 - xm_gr m i 1 * gl_D m q 1 - xm_gr m i 2 * gl_D m q 2 - xm_gr m i 3 * gl_D m q 3 - xm_gr m i 4 * gl_D m q 4 := rfl
theorem nq_sum (m : en_M) (q b : Int) : ∀ n : Nat, nq m q b n = gq_R m q b n * gl_D m q (-1) - gq_S m q b 0 n * gl_D m q 0 - gq_S m q b 1 n * gl_D m q 1 - gq_S m q b 2 n * gl_D m q 2 - gq_S m q b 3 n * gl_D m q 3 - gq_S m q b 4 n * gl_D m q 4
  | 0 => by simp [nq, gq_R, gq_S]
  | n + 1 => by
    have ih := nq_sum m q b n
    simp only [nq, gq_R, gq_S]
    by_cases c : xm_io m (n : Int) = q
    · simp only [if_pos c]
      rw [ih, xe_rs_5]
      generalize gl_D m q 0 = d0
      generalize gl_D m q 1 = d1
      generalize gl_D m q 2 = d2
      generalize gl_D m q 3 = d3
      generalize gl_D m q 4 = d4
      generalize gl_D m q (-1) = dd
      grind
    · simp only [if_neg c]
      exact ih
/-- normal equations: for each unknown bus the sum vanishes -/
theorem nq_0 {m : en_M} (h : xl m) {q b : Int} (b0 : 0 ≤ b) (b1 : b < 5) (hb : m 5 b = q ∧ b ≠ q) : nq m q b (m 21 1).toNat = 0 := by
  have z0 := lk_0 h
  have bn : b ≠ 0 := fun e => hb.2 (by rw [← hb.1, e, z0])
  have c := cr_D h q (b := b) (by omega) (by omega)
  rw [gl_R_un hb] at c
  have t : ∀ o, 0 ≤ o → o < 5 → gl_L m q (m 21 1).toNat b o * gl_D m q o = gq_S m q b o (m 21 1).toNat * gl_D m q o := by
    intro o o0 o1
    by_cases ho : m 5 o = q ∧ o ≠ q
    · rw [gl_L_un hb ho]
    · rw [lk_T0 h o0 o1 ho, Int.mul_zero, Int.mul_zero]
  have d0 : gl_D m q 0 = 0 := lk_T0 h (by decide) (by decide) (fun z => z.2 (by rw [← z.1, z0]))
  rw [t 1 (by decide) (by decide), t 2 (by decide) (by decide), t 3 (by decide) (by decide), t 4 (by decide) (by decide)] at c
  rw [nq_sum, d0, Int.mul_zero]
  omega
/-- the same sum, the growths times differences of angles -/
def nd (m : en_M) (q : Int) (x : Int → Int) : Nat → Int
  | 0 => 0
  | n + 1 => if xm_io m (n : Int) = q then nd m q x n + m 25 (n : Int) * m 25 (n : Int) * xe_rs m q (n : Int) * la_d (xm_gr m (n : Int)) x else nd m q x n
theorem nd_nq (m : en_M) (q : Int) (x : Int → Int) : ∀ n : Nat, nd m q x n = x 0 * nq m q 0 n + x 1 * nq m q 1 n + x 2 * nq m q 2 n + x 3 * nq m q 3 n + x 4 * nq m q 4 n
  | 0 => by simp [nd, nq]
  | n + 1 => by
    have ih := nd_nq m q x n
    simp only [nd, nq]
    by_cases c : xm_io m (n : Int) = q
    · simp only [if_pos c]
      rw [ih]
      unfold la_d
      generalize xe_rs m q (n : Int) = r
      grind
    · simp only [if_neg c]
      exact ih
theorem nd_one {m : en_M} {q i : Int} {x : Int → Int} (hz : ∀ j, 0 ≤ j → j < m 21 1 → j ≠ i → xm_io m j = q → la_d (xm_gr m j) x = 0) : ∀ n : Nat, (n : Int) ≤ m 21 1 → nd m q x n = if i < (n : Int) ∧ 0 ≤ i ∧ xm_io m i = q then m 25 i * m 25 i * xe_rs m q i * la_d (xm_gr m i) x else 0
  | 0, _ => by
    rw [if_neg (by omega)]
    rfl
  | n + 1, hn => by
    have ih := nd_one hz n (by omega)
    simp only [nd]
    by_cases e : (n : Int) = i
    · rw [ih, if_neg (show ¬ (i < (n : Int) ∧ 0 ≤ i ∧ xm_io m i = q) by omega), e]
      by_cases c : xm_io m i = q
      · rw [if_pos c, if_pos ⟨by omega, by omega, c⟩, Int.zero_add]
      · rw [if_neg c, if_neg (fun z => c z.2.2)]
    · have e2 : (i < ((n + 1 : Nat) : Int) ∧ 0 ≤ i ∧ xm_io m i = q) ↔ (i < (n : Int) ∧ 0 ≤ i ∧ xm_io m i = q) := by
        constructor
        · rintro ⟨a, b, c⟩
          exact ⟨by omega, b, c⟩
        · rintro ⟨a, b, c⟩
          exact ⟨by omega, b, c⟩
      simp only [e2]
      by_cases c : xm_io m (n : Int) = q
      · rw [if_pos c, hz n (by omega) (by omega) e c, Int.mul_zero, Int.add_zero]
        exact ih
      · rw [if_neg c]
        exact ih
/-- what a row tells of angles that are 0 at known buses -/
theorem la_row {m : en_M} {q j : Int} {x : Int → Int} (lo : Int) (hx : ∀ b, dt_u (m 5) q b = false → x b = 0) (hj : j < m 21 1 ∧ j ≠ lo ∧ xm_io m j = q) : la_d (xm_row m lo q j) x = la_d (xm_gr m j) x := by
  have t : ∀ b, xm_row m lo q j b * x b = xm_gr m j b * x b := by
    intro b
    by_cases hb : dt_u (m 5) q b = true
    · unfold xm_row
      rw [if_pos ⟨hj, (dt_u_iff.mp hb).2⟩]
    · rw [hx b (by simpa using hb), Int.mul_zero, Int.mul_zero]
  unfold la_d
  rw [t, t, t, t, t]
/-- without a needed meter some angles are free; with it none -/
theorem nd_free {m : en_M} (h : xl m) {i : Int} (i0 : 0 ≤ i) (i1 : i < m 21 1) (hn : xm_nd m i) : xe_rs m (xm_io m i) i = 0 := by
  obtain ⟨n1, n2, n3⟩ := hn
  have q0 : 0 ≤ xm_io m i := by
    have z := lk_io h i0 i1
    omega
  have hI := (rk_full h q0 (-1)).mp n2
  have hJ : ¬ la_ind (xm_row m i (xm_io m i)) (dt_u (m 5) (xm_io m i)) := fun z => by
    have y := (rk_full h q0 i).mpr z
    omega
  have n9 := h.2.1.1
  apply Classical.byContradiction
  intro hr
  apply hJ
  intro x hx hA hnz
  refine hI x hx (fun j j0 j1 => ?_) hnz
  by_cases hj : j < m 21 1 ∧ j ≠ -1 ∧ xm_io m j = xm_io m i
  · rw [la_row (-1) hx hj]
    by_cases e : j = i
    · subst e
      have z : ∀ k, 0 ≤ k → k < m 21 1 → k ≠ j → xm_io m k = xm_io m j → la_d (xm_gr m k) x = 0 := by
        intro k k0 k1 kj hk
        rw [← la_row j hx ⟨k1, kj, hk⟩]
        exact hA k k0 (by omega)
      have s := nd_one z (m 21 1).toNat (by omega)
      rw [if_pos ⟨by omega, j0, rfl⟩, nd_nq] at s
      have t : ∀ b, 0 ≤ b → b < 5 → x b * nq m (xm_io m j) b (m 21 1).toNat = 0 := by
        intro b b0 b1
        by_cases hb : dt_u (m 5) (xm_io m j) b = true
        · rw [nq_0 h b0 b1 (dt_u_iff.mp hb), Int.mul_zero]
        · rw [hx b (by simpa using hb), Int.zero_mul]
      rw [t 0 (by decide) (by decide), t 1 (by decide) (by decide), t 2 (by decide) (by decide), t 3 (by decide) (by decide), t 4 (by decide) (by decide)] at s
      have w := (h.2.1.2 j i0 i1).2.2.2
      have w2 : m 25 j * m 25 j ≠ 0 := by
        have hc : m 25 j = 1 ∨ m 25 j = 2 := by omega
        rcases hc with e | e <;> rw [e] <;> decide
      have s2 : m 25 j * m 25 j * xe_rs m (xm_io m j) j * la_d (xm_gr m j) x = 0 := by omega
      rcases Int.mul_eq_zero.mp s2 with s3 | s3
      · rcases Int.mul_eq_zero.mp s3 with s4 | s4
        · exact absurd s4 w2
        · exact absurd s4 hr
      · exact s3
    · rw [← la_row i hx ⟨hj.1, e, hj.2.2⟩]
      exact hA j j0 j1
  · have t0 : ∀ b, xm_row m (-1) (xm_io m i) j b = 0 := by
      intro b
      unfold xm_row
      rw [if_neg (fun z => hj z.1)]
    unfold la_d
    rw [t0, t0, t0, t0, t0]
    simp
