/-! PURE 13: how many angles there are, alike -/
theorem gs_cu_cong {R R' : Int → Int} {q : Int} : ∀ n : Nat, (∀ b, 0 ≤ b → b < (n : Int) → R b = R' b) → gs_cu R q n = gs_cu R' q n
  | 0, _ => rfl
  | n + 1, h => by
    simp only [gs_cu]
    rw [gs_cu_cong n (fun b b0 b1 => h b b0 (by omega)), h n (by omega) (by omega)]
theorem gs_cu_beyond {R : Int → Int} {q : Int} {a : Nat} : ∀ k : Nat, (∀ b, (a : Int) ≤ b → b < (a : Int) + k → R b = b) → gs_cu R q (a + k) = gs_cu R q a
  | 0, _ => rfl
  | k + 1, h => by
    show gs_cu R q (a + k) + _ = _
    have e := h ((a + k : Nat) : Int) (by omega) (by omega)
    rw [if_neg (fun z => z.2 (by rw [← z.1]; exact e.symm)), gs_cu_beyond k (fun b b0 b1 => h b b0 (by omega))]
    omega
/-- which buses are unknown -/
def dt_u (R : Int → Int) (q b : Int) : Bool := decide (R b = q ∧ b ≠ q)
theorem dt_u_iff {R : Int → Int} {q b : Int} : dt_u R q b = true ↔ (R b = q ∧ b ≠ q) := by
  unfold dt_u
  rw [decide_eq_true_iff]
theorem dt_a_cu {R : Int → Int} {q : Int} (h0 : R 0 = 0) : ∀ r : Nat, r ≤ 5 → dt_a (dt_u R q) (r : Int) = gs_cu R q r := by
  have e0 : ¬ (R 0 = q ∧ (0 : Int) ≠ q) := fun z => z.2 (by rw [← z.1, h0])
  intro r hr
  have hc : r = 0 ∨ r = 1 ∨ r = 2 ∨ r = 3 ∨ r = 4 ∨ r = 5 := by omega
  have c1 : gs_cu R q 1 = 0 := by
    show (0 : Int) + (if R ((0 : Nat) : Int) = q ∧ ((0 : Nat) : Int) ≠ q then 1 else 0) = 0
    have e : (if R ((0 : Nat) : Int) = q ∧ ((0 : Nat) : Int) ≠ q then (1 : Int) else 0) = 0 := if_neg e0
    omega
  have st : ∀ k : Nat, gs_cu R q (k + 1) = gs_cu R q k + (if dt_u R q (k : Int) = true then 1 else 0) := by
    intro k
    simp only [gs_cu, dt_u_iff]
  have c2 := st 1
  have c3 := st 2
  have c4 := st 3
  have c5 := st 4
  unfold dt_a
  rcases hc with rfl | rfl | rfl | rfl | rfl | rfl
  · simp [gs_cu]
  · rw [c1]; simp
  · rw [c2, c1]; simp
  · rw [c3, c2, c1]; simp
  · rw [c4, c3, c2, c1]; simp
  · rw [c5, c4, c3, c2, c1]; simp
