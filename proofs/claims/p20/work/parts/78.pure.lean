/-! PURE 10: a bus that is not looked for has angle 0; how large determinants and residuals get -/
theorem gm_go_M0 {E : Int → Int → Int} {M : Int → Int} {row s : Int} (h : ∀ s, M s = 0) : ∀ (f : Nat) (sum sg : Int), gm_go E M row s f sum sg = sum
  | 0, _, _ => rfl
  | f + 1, sum, sg => by
    simp only [gm_go]
    split
    · rw [gm_go_M0 h f, h, Int.mul_zero, Int.add_zero]
    · rw [gm_go_M0 h f]
theorem gm_go_E0 {E : Int → Int → Int} {M : Int → Int} {row s : Int} (h : ∀ c, E row c = 0) : ∀ (f : Nat) (sum sg : Int), gm_go E M row s f sum sg = sum
  | 0, _, _ => rfl
  | f + 1, sum, sg => by
    simp only [gm_go]
    split
    · rw [gm_go_E0 h f, h, Int.mul_zero, Int.zero_mul, Int.add_zero]
    · rw [gm_go_E0 h f]
theorem gm_D_row0 {E : Int → Int → Int} (h : ∀ c, E 0 c = 0) : ∀ (p : Nat) (s : Int), gm_D E (p + 1) s = 0
  | 0, s => gm_go_E0 (row := ((0 : Nat) : Int)) h 5 0 1
  | p + 1, s => gm_go_M0 (fun s => gm_D_row0 h p s) 5 0 1
theorem lk_T0 {m : en_M} (h : xl m) {q b : Int} (b0 : 0 ≤ b) (b1 : b < 5) (hb : ¬ (m 5 b = q ∧ b ≠ q)) : gl_D m q b = 0 := by
  have e : ∀ c, gl_E m q b b c = 0 := by
    intro c
    unfold gl_E
    by_cases ec : c = b
    · rw [if_pos ec, gl_R_kn hb]
    · rw [if_neg ec, gl_L_kn (fun z => hb z.1), if_neg (fun z => ec z.symm)]
  by_cases z : b = 0
  · subst z
    exact gm_D_row0 e 4 31
  · rw [gl_D_4 (lk_0 h) z]
    have hc : b = 1 ∨ b = 2 ∨ b = 3 ∨ b = 4 := by omega
    unfold gm_4
    rcases hc with rfl | rfl | rfl | rfl
    · simp [e]
    · simp [e]
    · simp [e]
    · simp [e]
theorem bd_S {m : en_M} (hv : xv_all m) (hd : xv_rd m) (q : Int) {b o : Int} (b0 : 0 ≤ b) (b1 : b < 5) (o0 : 0 ≤ o) (o1 : o < 5) : ∀ n : Nat, (n : Int) ≤ m 21 1 → -(256 * (n : Int)) ≤ gq_S m q b o n ∧ gq_S m q b o n ≤ 256 * (n : Int)
  | 0, _ => by simp [gq_S]
  | n + 1, hn => by
    have ih := bd_S hv hd q b0 b1 o0 o1 n (by omega)
    have v := (hv.2.1 n (by omega) (by omega)).2.2.2
    have d := (hd n (by omega) (by omega)).2
    have p1 := mb_mul (x := m 25 n) (y := m 25 n) (A := 2) (B := 2) (by omega) (by omega)
    have p2 := mb_mul (x := m 25 n * m 25 n) (y := xm_gr m n b) (A := 4) (B := 8) (by omega) (by have z := v b b0 b1; omega)
    have p3 := mb_mul (x := m 25 n * m 25 n * xm_gr m n b) (y := xm_gr m n o) (A := 32) (B := 8) (by omega) (by have z := v o o0 o1; omega)
    simp only [gq_S]
    split <;> omega
theorem bd_R {m : en_M} (hv : xv_all m) (hd : xv_rd m) (q : Int) {b : Int} (b0 : 0 ≤ b) (b1 : b < 5) : ∀ n : Nat, (n : Int) ≤ m 21 1 → -(1600 * (n : Int)) ≤ gq_R m q b n ∧ gq_R m q b n ≤ 1600 * (n : Int)
  | 0, _ => by simp [gq_R]
  | n + 1, hn => by
    have ih := bd_R hv hd q b0 b1 n (by omega)
    have v := (hv.2.1 n (by omega) (by omega)).2.2.2
    have d := hd n (by omega) (by omega)
    have p1 := mb_mul (x := m 25 n) (y := m 25 n) (A := 2) (B := 2) (by omega) (by omega)
    have p2 := mb_mul (x := m 25 n * m 25 n) (y := xm_gr m n b) (A := 4) (B := 8) (by omega) (by have z := v b b0 b1; omega)
    have p3 := mb_mul (x := m 25 n * m 25 n * xm_gr m n b) (y := m 24 n) (A := 32) (B := 50) (by omega) (by omega)
    simp only [gq_R]
    split <;> omega
theorem bd_E {m : en_M} (hv : xv_all m) (hd : xv_rd m) (q rep : Int) {r c : Int} (r0 : 0 ≤ r) (r1 : r < 5) (c0 : 0 ≤ c) (c1 : c < 5) : (c ≠ rep → -2560 ≤ gl_E m q rep r c ∧ gl_E m q rep r c ≤ 2560) ∧ (-16000 ≤ gl_E m q rep r c ∧ gl_E m q rep r c ≤ 16000) := by
  have n9 := hv.1
  have L : -2560 ≤ gl_L m q (m 21 1).toNat r c ∧ gl_L m q (m 21 1).toNat r c ≤ 2560 := by
    by_cases u : (m 5 r = q ∧ r ≠ q) ∧ (m 5 c = q ∧ c ≠ q)
    · rw [gl_L_un u.1 u.2]
      have z := bd_S hv hd q r0 r1 c0 c1 (m 21 1).toNat (by omega)
      omega
    · rw [gl_L_kn u]
      split <;> omega
  have R : -16000 ≤ gl_R m q (m 21 1).toNat r ∧ gl_R m q (m 21 1).toNat r ≤ 16000 := by
    by_cases u : (m 5 r = q ∧ r ≠ q)
    · rw [gl_R_un u]
      have z := bd_R hv hd q r0 r1 (m 21 1).toNat (by omega)
      omega
    · rw [gl_R_kn u]
      omega
  unfold gl_E
  by_cases e : c = rep
  · rw [if_pos e]
    exact ⟨fun z => absurd e z, R⟩
  · rw [if_neg e]
    exact ⟨fun _ => L, by omega⟩
/-- a product of two minors of two rows -/
theorem bd_2 {p1 p2 p3 p4 p5 p6 p7 p8 A1 A2 A3 A4 : Int} (h1 : -A1 ≤ p1 ∧ p1 ≤ A1) (h2 : -A2 ≤ p2 ∧ p2 ≤ A2) (h3 : -A2 ≤ p3 ∧ p3 ≤ A2) (h4 : -A1 ≤ p4 ∧ p4 ≤ A1) (h5 : -A3 ≤ p5 ∧ p5 ≤ A3) (h6 : -A4 ≤ p6 ∧ p6 ≤ A4) (h7 : -A4 ≤ p7 ∧ p7 ≤ A4) (h8 : -A3 ≤ p8 ∧ p8 ≤ A3) : -((A1 * A2 + A2 * A1) * (A3 * A4 + A4 * A3)) ≤ (p1 * p2 - p3 * p4) * (p5 * p6 - p7 * p8) ∧ (p1 * p2 - p3 * p4) * (p5 * p6 - p7 * p8) ≤ (A1 * A2 + A2 * A1) * (A3 * A4 + A4 * A3) := by
  have a := mb_mul h1 h2
  have b := mb_mul h3 h4
  have c := mb_mul h5 h6
  have d := mb_mul h7 h8
  exact mb_mul (A := A1 * A2 + A2 * A1) (B := A3 * A4 + A4 * A3) (by omega) (by omega)
theorem bd_4 {E : Int → Int → Int} {X1 X2 X3 X4 : Int} (h1 : ∀ r, 1 ≤ r → r ≤ 4 → -X1 ≤ E r 1 ∧ E r 1 ≤ X1) (h2 : ∀ r, 1 ≤ r → r ≤ 4 → -X2 ≤ E r 2 ∧ E r 2 ≤ X2) (h3 : ∀ r, 1 ≤ r → r ≤ 4 → -X3 ≤ E r 3 ∧ E r 3 ≤ X3) (h4 : ∀ r, 1 ≤ r → r ≤ 4 → -X4 ≤ E r 4 ∧ E r 4 ≤ X4) : -((X1 * X2 + X2 * X1) * (X3 * X4 + X4 * X3) + (X1 * X3 + X3 * X1) * (X2 * X4 + X4 * X2) + (X1 * X4 + X4 * X1) * (X2 * X3 + X3 * X2) + (X2 * X3 + X3 * X2) * (X1 * X4 + X4 * X1) + (X2 * X4 + X4 * X2) * (X1 * X3 + X3 * X1) + (X3 * X4 + X4 * X3) * (X1 * X2 + X2 * X1)) ≤ gm_4 E ∧ gm_4 E ≤ (X1 * X2 + X2 * X1) * (X3 * X4 + X4 * X3) + (X1 * X3 + X3 * X1) * (X2 * X4 + X4 * X2) + (X1 * X4 + X4 * X1) * (X2 * X3 + X3 * X2) + (X2 * X3 + X3 * X2) * (X1 * X4 + X4 * X1) + (X2 * X4 + X4 * X2) * (X1 * X3 + X3 * X1) + (X3 * X4 + X4 * X3) * (X1 * X2 + X2 * X1) := by
  have t1 := bd_2 (h1 1 (by decide) (by decide)) (h2 2 (by decide) (by decide)) (h2 1 (by decide) (by decide)) (h1 2 (by decide) (by decide)) (h3 3 (by decide) (by decide)) (h4 4 (by decide) (by decide)) (h4 3 (by decide) (by decide)) (h3 4 (by decide) (by decide))
  have t2 := bd_2 (h1 1 (by decide) (by decide)) (h3 2 (by decide) (by decide)) (h3 1 (by decide) (by decide)) (h1 2 (by decide) (by decide)) (h2 3 (by decide) (by decide)) (h4 4 (by decide) (by decide)) (h4 3 (by decide) (by decide)) (h2 4 (by decide) (by decide))
  have t3 := bd_2 (h1 1 (by decide) (by decide)) (h4 2 (by decide) (by decide)) (h4 1 (by decide) (by decide)) (h1 2 (by decide) (by decide)) (h2 3 (by decide) (by decide)) (h3 4 (by decide) (by decide)) (h3 3 (by decide) (by decide)) (h2 4 (by decide) (by decide))
  have t4 := bd_2 (h2 1 (by decide) (by decide)) (h3 2 (by decide) (by decide)) (h3 1 (by decide) (by decide)) (h2 2 (by decide) (by decide)) (h1 3 (by decide) (by decide)) (h4 4 (by decide) (by decide)) (h4 3 (by decide) (by decide)) (h1 4 (by decide) (by decide))
  have t5 := bd_2 (h2 1 (by decide) (by decide)) (h4 2 (by decide) (by decide)) (h4 1 (by decide) (by decide)) (h2 2 (by decide) (by decide)) (h1 3 (by decide) (by decide)) (h3 4 (by decide) (by decide)) (h3 3 (by decide) (by decide)) (h1 4 (by decide) (by decide))
  have t6 := bd_2 (h3 1 (by decide) (by decide)) (h4 2 (by decide) (by decide)) (h4 1 (by decide) (by decide)) (h3 2 (by decide) (by decide)) (h1 3 (by decide) (by decide)) (h2 4 (by decide) (by decide)) (h2 3 (by decide) (by decide)) (h1 4 (by decide) (by decide))
  unfold gm_4
  omega
theorem bd_D {m : en_M} (h : xl m) (hv : xv_all m) (hd : xv_rd m) (q rep : Int) (hrep : -1 ≤ rep ∧ rep < 5) : -6442450944000000 ≤ gl_D m q rep ∧ gl_D m q rep ≤ 6442450944000000 := by
  have z0 := lk_0 h
  by_cases e0 : rep = 0
  · rw [e0, lk_T0 h (by decide) (by decide) (fun z => z.2 (by rw [← z.1, z0]))]
    decide
  · rw [gl_D_4 z0 e0]
    have big : ∀ c, 1 ≤ c → c ≤ 4 → ∀ r, 1 ≤ r → r ≤ 4 → -16000 ≤ gl_E m q rep r c ∧ gl_E m q rep r c ≤ 16000 := fun c c0 c1 r r0 r1 => (bd_E hv hd q rep (by omega) (by omega) (by omega) (by omega)).2
    have sml : ∀ c, 1 ≤ c → c ≤ 4 → c ≠ rep → ∀ r, 1 ≤ r → r ≤ 4 → -2560 ≤ gl_E m q rep r c ∧ gl_E m q rep r c ≤ 2560 := fun c c0 c1 hc r r0 r1 => (bd_E hv hd q rep (by omega) (by omega) (by omega) (by omega)).1 hc
    have hc : rep = 1 ∨ rep = 2 ∨ rep = 3 ∨ rep = 4 ∨ (rep ≠ 1 ∧ rep ≠ 2 ∧ rep ≠ 3 ∧ rep ≠ 4) := by omega
    rcases hc with e | e | e | e | ⟨f1, f2, f3, f4⟩
    · have z := bd_4 (big 1 (by decide) (by decide)) (sml 2 (by decide) (by decide) (by omega)) (sml 3 (by decide) (by decide) (by omega)) (sml 4 (by decide) (by decide) (by omega))
      omega
    · have z := bd_4 (sml 1 (by decide) (by decide) (by omega)) (big 2 (by decide) (by decide)) (sml 3 (by decide) (by decide) (by omega)) (sml 4 (by decide) (by decide) (by omega))
      omega
    · have z := bd_4 (sml 1 (by decide) (by decide) (by omega)) (sml 2 (by decide) (by decide) (by omega)) (big 3 (by decide) (by decide)) (sml 4 (by decide) (by decide) (by omega))
      omega
    · have z := bd_4 (sml 1 (by decide) (by decide) (by omega)) (sml 2 (by decide) (by decide) (by omega)) (sml 3 (by decide) (by decide) (by omega)) (big 4 (by decide) (by decide))
      omega
    · have z := bd_4 (sml 1 (by decide) (by decide) (by omega)) (sml 2 (by decide) (by decide) (by omega)) (sml 3 (by decide) (by decide) (by omega)) (sml 4 (by decide) (by decide) (by omega))
      omega
theorem bd_rs {m : en_M} (h : xl m) (hv : xv_all m) (hd : xv_rd m) (q : Int) {i : Int} (i0 : 0 ≤ i) (i1 : i < m 21 1) : -592705486848000000 ≤ xe_rs m q i ∧ xe_rs m q i ≤ 592705486848000000 := by
  have D := bd_D h hv hd q (-1) (by omega)
  have d := (hd i i0 i1).1
  have p := mb_mul (x := m 24 i) (y := gl_D m q (-1)) (A := 50) (B := 6442450944000000) (by omega) (by omega)
  have t : ∀ b : Int, 0 ≤ b → b < 5 → -(8 * 6442450944000000) ≤ xm_gr m i b * gl_D m q b ∧ xm_gr m i b * gl_D m q b ≤ 8 * 6442450944000000 := fun b b0 b1 => mb_mul (A := 8) (B := 6442450944000000) (by have z := (hv.2.1 i i0 i1).2.2.2 b b0 b1; omega) (by have z := bd_D h hv hd q b (by omega); omega)
  have t0 := t 0 (by decide) (by decide)
  have t1 := t 1 (by decide) (by decide)
  have t2 := t 2 (by decide) (by decide)
  have t3 := t 3 (by decide) (by decide)
  have t4 := t 4 (by decide) (by decide)
  show -592705486848000000 ≤ ((((m 24 i * gl_D m q (-1) - xm_gr m i 0 * gl_D m q 0) - xm_gr m i 1 * gl_D m q 1) - xm_gr m i 2 * gl_D m q 2) - xm_gr m i 3 * gl_D m q 3) - xm_gr m i 4 * gl_D m q 4 ∧ ((((m 24 i * gl_D m q (-1) - xm_gr m i 0 * gl_D m q 0) - xm_gr m i 1 * gl_D m q 1) - xm_gr m i 2 * gl_D m q 2) - xm_gr m i 3 * gl_D m q 3) - xm_gr m i 4 * gl_D m q 4 ≤ 592705486848000000
  omega
