/-! PURE 19: bounds of determinants and residuals -/
theorem bd_4 {E : Int → Int → Int} {X1 X2 X3 X4 : Int} (h1 : ∀ r, 1 ≤ r → r ≤ 4 → -X1 ≤ E r 1 ∧ E r 1 ≤ X1) (h2 : ∀ r, 1 ≤ r → r ≤ 4 → -X2 ≤ E r 2 ∧ E r 2 ≤ X2) (h3 : ∀ r, 1 ≤ r → r ≤ 4 → -X3 ≤ E r 3 ∧ E r 3 ≤ X3) (h4 : ∀ r, 1 ≤ r → r ≤ 4 → -X4 ≤ E r 4 ∧ E r 4 ≤ X4) : -((X1 * X2 + X2 * X1) * (X3 * X4 + X4 * X3) + (X1 * X3 + X3 * X1) * (X2 * X4 + X4 * X2) + (X1 * X4 + X4 * X1) * (X2 * X3 + X3 * X2) + (X2 * X3 + X3 * X2) * (X1 * X4 + X4 * X1) + (X2 * X4 + X4 * X2) * (X1 * X3 + X3 * X1) + (X3 * X4 + X4 * X3) * (X1 * X2 + X2 * X1)) ≤ gm_4 E ∧ gm_4 E ≤ (X1 * X2 + X2 * X1) * (X3 * X4 + X4 * X3) + (X1 * X3 + X3 * X1) * (X2 * X4 + X4 * X2) + (X1 * X4 + X4 * X1) * (X2 * X3 + X3 * X2) + (X2 * X3 + X3 * X2) * (X1 * X4 + X4 * X1) + (X2 * X4 + X4 * X2) * (X1 * X3 + X3 * X1) + (X3 * X4 + X4 * X3) * (X1 * X2 + X2 * X1) := by
  have t1 := bd_2 (h1 1 (by decide) (by decide)) (h2 2 (by decide) (by decide)) (h2 1 (by decide) (by decide)) (h1 2 (by decide) (by decide)) (h3 3 (by decide) (by decide)) (h4 4 (by decide) (by decide)) (h4 3 (by decide) (by decide)) (h3 4 (by decide) (by decide))
  have t2 := bd_2 (h1 1 (by decide) (by decide)) (h3 2 (by decide) (by decide)) (h3 1 (by decide) (by decide)) (h1 2 (by decide) (by decide)) (h2 3 (by decide) (by decide)) (h4 4 (by decide) (by decide)) (h4 3 (by decide) (by decide)) (h2 4 (by decide) (by decide))
  have t3 := bd_2 (h1 1 (by decide) (by decide)) (h4 2 (by decide) (by decide)) (h4 1 (by decide) (by decide)) (h1 2 (by decide) (by decide)) (h2 3 (by decide) (by decide)) (h3 4 (by decide) (by decide)) (h3 3 (by decide) (by decide)) (h2 4 (by decide) (by decide))
  have t4 := bd_2 (h2 1 (by decide) (by decide)) (h3 2 (by decide) (by decide)) (h3 1 (by decide) (by decide)) (h2 2 (by decide) (by decide)) (h1 3 (by decide) (by decide)) (h4 4 (by decide) (by decide)) (h4 3 (by decide) (by decide)) (h1 4 (by decide) (by decide))
  have t5 := bd_2 (h2 1 (by decide) (by decide)) (h4 2 (by decide) (by decide)) (h4 1 (by decide) (by decide)) (h2 2 (by decide) (by decide)) (h1 3 (by decide) (by decide)) (h3 4 (by decide) (by decide)) (h3 3 (by decide) (by decide)) (h1 4 (by decide) (by decide))
  have t6 := bd_2 (h3 1 (by decide) (by decide)) (h4 2 (by decide) (by decide)) (h4 1 (by decide) (by decide)) (h3 2 (by decide) (by decide)) (h1 3 (by decide) (by decide)) (h2 4 (by decide) (by decide)) (h2 3 (by decide) (by decide)) (h1 4 (by decide) (by decide))
  unfold gm_4
  omega
theorem bd_D {m : en_M} (h : xl m) (hv : xv_all m) (hd : xv_rd m) (q rep : Int) (hrep : -1 ≤ rep ∧ rep < 5) : -6442450944000000 ≤ gl_D m q rep ∧ gl_D m q rep ≤ 6442450944000000 := by
  obtain ⟨hk, hl, hm, h5, hg, hne⟩ := id h
  have z0 := lk_0 hk hl h5
  by_cases e0 : rep = 0
  · rw [e0, lk_T0 h (by decide) (by decide) (fun z => z.2 (by rw [← z.1, z0]))]
    decide
  · rw [gl_D_4 z0 e0]
    have big : ∀ c, 1 ≤ c → c ≤ 4 → ∀ r, 1 ≤ r → r ≤ 4 → -16000 ≤ gl_E m q rep r c ∧ gl_E m q rep r c ≤ 16000 := fun c c0 c1 r r0 r1 => (bd_E hv hd q rep (by omega) (by omega) (by omega) (by omega)).2
    have sml : ∀ c, 1 ≤ c → c ≤ 4 → c ≠ rep → ∀ r, 1 ≤ r → r ≤ 4 → -2560 ≤ gl_E m q rep r c ∧ gl_E m q rep r c ≤ 2560 := fun c c0 c1 hc r r0 r1 => (bd_E hv hd q rep (by omega) (by omega) (by omega) (by omega)).1 hc
    have hc : rep = 1 ∨ rep = 2 ∨ rep = 3 ∨ rep = 4 ∨ (rep ≠ 1 ∧ rep ≠ 2 ∧ rep ≠ 3 ∧ rep ≠ 4) := by omega
    rcases hc with e | e | e | e | ⟨f1, f2, f3, f4⟩
    · have z := bd_4 (big 1 (by decide) (by decide)) (sml 2 (by decide) (by decide) (by omega)) (sml 3 (by decide) (by decide) (by omega)) (sml 4 (by decide) (by decide) (by omega))
      omega
    · have z := bd_4 (sml 1 (by decide) (by decide) (by omega)) (big 2 (by decide) (by decide)) (sml 3 (by decide) (by decide) (by omega)) (sml 4 (by decide) (by decide) (by omega))
      omega
    · have z := bd_4 (sml 1 (by decide) (by decide) (by omega)) (sml 2 (by decide) (by decide) (by omega)) (big 3 (by decide) (by decide)) (sml 4 (by decide) (by decide) (by omega))
      omega
    · have z := bd_4 (sml 1 (by decide) (by decide) (by omega)) (sml 2 (by decide) (by decide) (by omega)) (sml 3 (by decide) (by decide) (by omega)) (big 4 (by decide) (by decide))
      omega
    · have z := bd_4 (sml 1 (by decide) (by decide) (by omega)) (sml 2 (by decide) (by decide) (by omega)) (sml 3 (by decide) (by decide) (by omega)) (sml 4 (by decide) (by decide) (by omega))
      omega
theorem bd_rs {m : en_M} (h : xl m) (hv : xv_all m) (hd : xv_rd m) (q : Int) {i : Int} (i0 : 0 ≤ i) (i1 : i < m 21 1) : -592705486848000000 ≤ xe_rs m q i ∧ xe_rs m q i ≤ 592705486848000000 := by
  have D := bd_D h hv hd q (-1) (by omega)
  have d := (hd i i0 i1).1
  have p := mb_mul (x := m 24 i) (y := gl_D m q (-1)) (A := 50) (B := 6442450944000000) (by omega) (by omega)
  have t : ∀ b : Int, 0 ≤ b → b < 5 → -(8 * 6442450944000000) ≤ xm_gr m i b * gl_D m q b ∧ xm_gr m i b * gl_D m q b ≤ 8 * 6442450944000000 := fun b b0 b1 => mb_mul (A := 8) (B := 6442450944000000) (by have z := (hv.2.1 i i0 i1).2.2.2 b b0 b1; omega) (by have z := bd_D h hv hd q b (by omega); omega)
  have t0 := t 0 (by decide) (by decide)
  have t1 := t 1 (by decide) (by decide)
  have t2 := t 2 (by decide) (by decide)
  have t3 := t 3 (by decide) (by decide)
  have t4 := t 4 (by decide) (by decide)
  show -592705486848000000 ≤ ((((m 24 i * gl_D m q (-1) - xm_gr m i 0 * gl_D m q 0) - xm_gr m i 1 * gl_D m q 1) - xm_gr m i 2 * gl_D m q 2) - xm_gr m i 3 * gl_D m q 3) - xm_gr m i 4 * gl_D m q 4 ∧ ((((m 24 i * gl_D m q (-1) - xm_gr m i 0 * gl_D m q 0) - xm_gr m i 1 * gl_D m q 1) - xm_gr m i 2 * gl_D m q 2) - xm_gr m i 3 * gl_D m q 3) - xm_gr m i 4 * gl_D m q 4 ≤ 592705486848000000
  omega
