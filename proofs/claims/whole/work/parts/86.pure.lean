/-! PURE 18: how large determinants and residuals get -/
theorem bd_S {m : en_M} (hv : xv_all m) (hd : xv_rd m) (q : Int) {b o : Int} (b0 : 0 ≤ b) (b1 : b < 5) (o0 : 0 ≤ o) (o1 : o < 5) : ∀ n : Nat, (n : Int) ≤ m 21 1 → -(256 * (n : Int)) ≤ gq_S m q b o n ∧ gq_S m q b o n ≤ 256 * (n : Int)
  | 0, _ => by simp [gq_S]
  | n + 1, hn => by
    have ih := bd_S hv hd q b0 b1 o0 o1 n (by omega)
    have v := (hv.2.1 n (by omega) (by omega)).2.2.2
    have d := (hd n (by omega) (by omega)).2
    have p1 := mb_mul (x := m 25 n) (y := m 25 n) (A := 2) (B := 2) (by omega) (by omega)
    have p2 := mb_mul (x := m 25 n * m 25 n) (y := xm_gr m n b) (A := 4) (B := 8) (by omega) (by have z := v b b0 b1; omega)
    have p3 := mb_mul (x := m 25 n * m 25 n * xm_gr m n b) (y := xm_gr m n o) (A := 32) (B := 8) (by omega) (by have z := v o o0 o1; omega)
    simp only [gq_S]
    split <;> omega
theorem bd_R {m : en_M} (hv : xv_all m) (hd : xv_rd m) (q : Int) {b : Int} (b0 : 0 ≤ b) (b1 : b < 5) : ∀ n : Nat, (n : Int) ≤ m 21 1 → -(1600 * (n : Int)) ≤ gq_R m q b n ∧ gq_R m q b n ≤ 1600 * (n : Int)
  | 0, _ => by simp [gq_R]
  | n + 1, hn => by
    have ih := bd_R hv hd q b0 b1 n (by omega)
    have v := (hv.2.1 n (by omega) (by omega)).2.2.2
    have d := hd n (by omega) (by omega)
    have p1 := mb_mul (x := m 25 n) (y := m 25 n) (A := 2) (B := 2) (by omega) (by omega)
    have p2 := mb_mul (x := m 25 n * m 25 n) (y := xm_gr m n b) (A := 4) (B := 8) (by omega) (by have z := v b b0 b1; omega)
    have p3 := mb_mul (x := m 25 n * m 25 n * xm_gr m n b) (y := m 24 n) (A := 32) (B := 50) (by omega) (by omega)
    simp only [gq_R]
    split <;> omega
theorem bd_E {m : en_M} (hv : xv_all m) (hd : xv_rd m) (q rep : Int) {r c : Int} (r0 : 0 ≤ r) (r1 : r < 5) (c0 : 0 ≤ c) (c1 : c < 5) : (c ≠ rep → -2560 ≤ gl_E m q rep r c ∧ gl_E m q rep r c ≤ 2560) ∧ (-16000 ≤ gl_E m q rep r c ∧ gl_E m q rep r c ≤ 16000) := by
  have n9 := hv.1
  have L : -2560 ≤ gl_L m q (m 21 1).toNat r c ∧ gl_L m q (m 21 1).toNat r c ≤ 2560 := by
    by_cases u : (m 5 r = q ∧ r ≠ q) ∧ (m 5 c = q ∧ c ≠ q)
    · rw [gl_L_un u.1 u.2]
      have z := bd_S hv hd q r0 r1 c0 c1 (m 21 1).toNat (by omega)
      omega
    · rw [gl_L_kn u]
      split <;> omega
  have R : -16000 ≤ gl_R m q (m 21 1).toNat r ∧ gl_R m q (m 21 1).toNat r ≤ 16000 := by
    by_cases u : (m 5 r = q ∧ r ≠ q)
    · rw [gl_R_un u]
      have z := bd_R hv hd q r0 r1 (m 21 1).toNat (by omega)
      omega
    · rw [gl_R_kn u]
      omega
  unfold gl_E
  by_cases e : c = rep
  · rw [if_pos e]
    exact ⟨fun z => absurd e z, R⟩
  · rw [if_neg e]
    exact ⟨fun _ => L, by omega⟩
/-- a product of two minors of two rows -/
theorem bd_2 {p1 p2 p3 p4 p5 p6 p7 p8 A1 A2 A3 A4 : Int} (h1 : -A1 ≤ p1 ∧ p1 ≤ A1) (h2 : -A2 ≤ p2 ∧ p2 ≤ A2) (h3 : -A2 ≤ p3 ∧ p3 ≤ A2) (h4 : -A1 ≤ p4 ∧ p4 ≤ A1) (h5 : -A3 ≤ p5 ∧ p5 ≤ A3) (h6 : -A4 ≤ p6 ∧ p6 ≤ A4) (h7 : -A4 ≤ p7 ∧ p7 ≤ A4) (h8 : -A3 ≤ p8 ∧ p8 ≤ A3) : -((A1 * A2 + A2 * A1) * (A3 * A4 + A4 * A3)) ≤ (p1 * p2 - p3 * p4) * (p5 * p6 - p7 * p8) ∧ (p1 * p2 - p3 * p4) * (p5 * p6 - p7 * p8) ≤ (A1 * A2 + A2 * A1) * (A3 * A4 + A4 * A3) := by
  have a := mb_mul h1 h2
  have b := mb_mul h3 h4
  have c := mb_mul h5 h6
  have d := mb_mul h7 h8
  exact mb_mul (A := A1 * A2 + A2 * A1) (B := A3 * A4 + A4 * A3) (by omega) (by omega)
