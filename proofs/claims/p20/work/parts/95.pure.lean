/-! PURE 17: what 'vanishes' sums -/
abbrev tmd (x P : Int) : Int := x - x.tdiv P * P
theorem tmd_b (x : Int) {P : Int} (hP : 0 < P) : -P < tmd x P ∧ tmd x P < P := by
  rcases Int.lt_or_le x 0 with c | c
  · have e : x.tdiv P = -((-x).tdiv P) := by rw [Int.neg_tdiv, Int.neg_neg]
    have e2 : tmd x P = -((-x) % P) := by
      have z := en_tm (x := -x) (y := P) (by omega)
      show x - x.tdiv P * P = _
      rw [← z, e, Int.neg_mul]
      omega
    have b1 := Int.emod_nonneg (-x) (show P ≠ 0 by omega)
    have b2 := Int.emod_lt_of_pos (-x) hP
    omega
  · have e2 : tmd x P = x % P := en_tm c
    have b1 := Int.emod_nonneg x (show P ≠ 0 by omega)
    have b2 := Int.emod_lt_of_pos x hP
    omega
theorem tmd_d (x P : Int) : P ∣ tmd x P - x := ⟨-(x.tdiv P), by
  show x - x.tdiv P * P - x = P * -(x.tdiv P)
  rw [Int.mul_neg, Int.mul_comm P]
  omega⟩
theorem dvd_mul_sub {P a b c : Int} (h : P ∣ a - b) : P ∣ c * a - c * b := by
  rw [← Int.mul_sub]
  exact Int.dvd_trans h (Int.dvd_mul_left c (a - b))
theorem dvd_sub_mul {P a b c : Int} (h : P ∣ a - b) : P ∣ a * c - b * c := by
  rw [← Int.sub_mul]
  exact Int.dvd_trans h (Int.dvd_mul_right (a - b) c)
theorem dvd_tr {P a b c : Int} (h : P ∣ a - b) (h2 : P ∣ b - c) : P ∣ a - c := by
  have z := Int.dvd_add h h2
  rw [show a - b + (b - c) = a - c by omega] at z
  exact z
/-- one meter's term, as the law reckons it -/
theorem v_term (a o w P : Int) : P ∣ tmd (a * tmd (tmd o P * w) P) P - a * (o * w) :=
  dvd_tr (tmd_d _ _) (dvd_mul_sub (dvd_tr (tmd_d _ _) (dvd_sub_mul (tmd_d o P))))
/-- how much a meter measures more for a bus, line by line -/
def vf (m : en_M) (l b : Int) : Int := if m 4 l = 0 then 0 else if m 1 l = b then m 3 l else if m 2 l = b then -(m 3 l) else 0
def vg (m : en_M) (i b l : Int) : Int := if m 22 i = 0 then (if m 23 i = l then vf m l b else 0) else if m 1 l = m 23 i then vf m l b else if m 2 l = m 23 i then -(vf m l b) else 0
def vm (m : en_M) (i b : Int) : Nat → Int
  | 0 => 0
  | n + 1 => vm m i b n + vg m i b (n : Int)
theorem vf_fg {m : en_M} (h : xl m) {l : Int} (l0 : 0 ≤ l) (l1 : l < m 0 1) (b : Int) : vf m l b = gs_fg (m 1) (m 2) (m 3) (m 4) l b := by
  have ne := (h.1.2.2 l l0 l1).2.2.2.2
  unfold vf gs_fg
  by_cases c : m 4 l = 0
  · rw [if_pos c, if_pos c]
    split
    · rfl
    · split <;> rfl
  · rw [if_neg c, if_neg c]
    by_cases c1 : m 1 l = b
    · rw [if_pos c1, if_neg (show ¬ b = m 2 l from fun z => ne (by rw [c1, z])), if_pos c1.symm]
    · rw [if_neg c1]
      by_cases c2 : m 2 l = b
      · rw [if_pos c2, if_pos c2.symm]
      · rw [if_neg c2, if_neg (fun z => c2 z.symm), if_neg (fun z => c1 z.symm)]
theorem vm_flow {m : en_M} {i b : Int} (hk : m 22 i = 0) : ∀ n : Nat, vm m i b n = if 0 ≤ m 23 i ∧ m 23 i < (n : Int) then vf m (m 23 i) b else 0
  | 0 => by
    rw [if_neg (by omega)]
    rfl
  | n + 1 => by
    simp only [vm]
    rw [vm_flow hk n]
    unfold vg
    rw [if_pos hk]
    by_cases e : m 23 i = (n : Int)
    · rw [if_pos e, e, if_neg (show ¬ (0 ≤ (n : Int) ∧ (n : Int) < (n : Int)) by omega), if_pos (show 0 ≤ (n : Int) ∧ (n : Int) < ((n + 1 : Nat) : Int) by omega)]
      omega
    · rw [if_neg e, Int.add_zero]
      by_cases c : 0 ≤ m 23 i ∧ m 23 i < (n : Int)
      · rw [if_pos c, if_pos (show 0 ≤ m 23 i ∧ m 23 i < ((n + 1 : Nat) : Int) by omega)]
      · rw [if_neg c, if_neg (show ¬ (0 ≤ m 23 i ∧ m 23 i < ((n + 1 : Nat) : Int)) by omega)]
theorem vm_inj {m : en_M} (h : xl m) {i b : Int} (hk : ¬ m 22 i = 0) : ∀ n : Nat, (n : Int) ≤ m 0 1 → vm m i b n = gs_ig (m 1) (m 2) (gs_fg (m 1) (m 2) (m 3) (m 4)) n (m 23 i) b
  | 0, _ => rfl
  | n + 1, hn => by
    have ih := vm_inj h (b := b) hk n (by omega)
    have ne := (h.1.2.2 (n : Int) (by omega) (by omega)).2.2.2.2
    have f := vf_fg h (l := (n : Int)) (by omega) (by omega) b
    simp only [vm, gs_ig]
    rw [ih]
    unfold vg
    rw [if_neg hk, f]
    by_cases c1 : m 1 (n : Int) = m 23 i
    · rw [if_pos c1, if_pos c1.symm, if_neg (show ¬ m 23 i = m 2 (n : Int) from fun z => ne (by rw [c1, z]))]
      omega
    · rw [if_neg c1, if_neg (show ¬ m 23 i = m 1 (n : Int) from fun z => c1 z.symm)]
      by_cases c2 : m 2 (n : Int) = m 23 i
      · rw [if_pos c2, if_pos c2.symm]
        omega
      · rw [if_neg c2, if_neg (show ¬ m 23 i = m 2 (n : Int) from fun z => c2 z.symm)]
        omega
theorem vm_gr {m : en_M} (h : xl m) {i b : Int} (hi : pM m i) (b0 : 0 ≤ b) (b1 : b < 5) : vm m i b (m 0 1).toNat = xm_gr m i b := by
  have n0 := h.1.1
  have n1 := h.1.2.1
  have k := (h.2.1.2 i hi.1 hi.2).1
  unfold xm_gr
  rcases k with ⟨k1, k2, k3⟩ | ⟨k1, k2, k3⟩
  · rw [if_pos k1, vm_inj h (by omega) _ (by omega), h.2.2.2.2 _ b k2 (by omega) b0 b1]
  · have k0 : ¬ m 22 i = 1 := by omega
    rw [if_neg k0, vm_flow k1, if_pos (by omega), vf_fg h k2 k3, h.2.2.2.1 _ b k2 k3 b0 b1]
/-- how large what is reckoned gets -/
theorem vf_b {m : en_M} (h : xl m) {l : Int} (l0 : 0 ≤ l) (l1 : l < m 0 1) (b : Int) : -2 ≤ vf m l b ∧ vf m l b ≤ 2 := by
  have z := (h.1.2.2 l l0 l1).2.2.2.1
  unfold vf
  split
  · omega
  · split
    · omega
    · split <;> omega
/-- the island's meters, their weights times growths -/
def von (m : en_M) (q i : Int) : Bool := decide (xm_io m i = q)
def va9 (m : en_M) (b i : Int) : Int := m 25 i * m 25 i * xm_gr m i b
theorem v_nq {m : en_M} (q b : Int) (o g : Int → Int) : ∀ n : Nat, (∀ i, 0 ≤ i → i < (n : Int) → xm_io m i = q → o i * g i = xe_rs m q i) → sm (von m q) (fun i => va9 m b i * o i * g i) n = nq m q b n
  | 0, _ => rfl
  | n + 1, h => by
    have ih := v_nq (m := m) q b o g n (fun i i0 i1 hi => h i i0 (by omega) hi)
    simp only [sm, nq]
    rw [ih]
    unfold von
    by_cases c : xm_io m (n : Int) = q
    · rw [if_pos c, if_pos (decide_eq_true c), ← h n (by omega) (by omega) c]
      unfold va9
      rw [Int.mul_assoc (m 25 ↑n * m 25 ↑n * xm_gr m (↑n) b)]
    · rw [if_neg c, if_neg (by simpa using c)]
/-- the sum by a prime vanishes, if the prime divides no denominator -/
theorem v_zero {m : en_M} (hI : INV m) {P b : Int} (hp : pr P.toNat) (hb : pB m b) (hne : m 5 b ≠ b) (ho : obs m (m 5 b)) (hu : ∀ i, 0 ≤ i → i < m 21 1 → xm_io m i = m 5 b → w_under m i % P ≠ 0) : P ∣ sm (von m (m 5 b)) (fun i => va9 m b i * (w_over m i * pwf P (w_under m i))) (m 21 1).toNat := by
  have n := inv_n hI
  have x := inv_xc hI
  have r := lk_rng hI.1 b hb.1 (by omega)
  have D := lk_pos hI.1 x.2.2.2 r.1 ho
  have key : ∀ i, 0 ≤ i → i < m 21 1 → xm_io m i = m 5 b → w_over m i * xg (xe_rs m (m 5 b) i) (gl_D m (m 5 b) (-1)) = xe_rs m (m 5 b) i ∧ w_under m i * xg (xe_rs m (m 5 b) i) (gl_D m (m 5 b) (-1)) = gl_D m (m 5 b) (-1) ∧ 0 < w_under m i := by
    intro i i0 i1 hi
    have z := (lk_io hI.1 i0 i1).2.2 (by omega)
    have iu : xm_iu m i = m 5 b := by rw [z.2.2, hi]
    have q := xg_q (x := xe_rs m (m 5 b) i) (show gl_D m (m 5 b) (-1) ≠ 0 by omega)
    rw [w_over_r ⟨i0, i1⟩ (by rw [iu]; omega) (by rw [iu]; exact ho), w_under_r ⟨i0, i1⟩ (by rw [iu]; omega) (by rw [iu]; exact ho), iu]
    have u1 := xg_1 (x := xe_rs m (m 5 b) i) D
    exact ⟨q.1, q.2, by omega⟩
  have hon : ∀ i, von m (m 5 b) i = true → xm_io m i = m 5 b := fun i hi => of_decide_eq_true hi
  refine sm_zero (a := va9 m b) (o := w_over m) (u := w_under m) hp (fun i i0 i1 hi => ?_) (gl_D m (m 5 b) (-1)).toNat (gl_D m (m 5 b) (-1)) (fun i => xg (xe_rs m (m 5 b) i) (gl_D m (m 5 b) (-1))) (Nat.le_refl _) D (fun i i0 i1 hi => ?_) ?_
  · exact ⟨(key i i0 (by omega) (hon i hi)).2.2, hu i i0 (by omega) (hon i hi)⟩
  · exact ((key i i0 (by omega) (hon i hi)).2.1).symm
  · rw [v_nq (m 5 b) b (w_over m) (fun i => xg (xe_rs m (m 5 b) i) (gl_D m (m 5 b) (-1))) _ (fun i i0 i1 hi => (key i i0 (by omega) hi).1)]
    exact nq_0 hI.1 hb.1 (by omega) ⟨rfl, fun z => hne z.symm⟩
/-- queries behind scratch -/
theorem q_under {M m : en_M} (h : cq M m) (hI : INV m) {i : Int} (hi : pM m i) : w_under M i = w_under m i := by
  have x := inv_xc hI
  have pM1 : pM M i := by
    unfold pM
    rw [h.1 21 (by decide)]
    exact hi
  unfold w_under
  rw [if_pos hi, if_pos pM1, cq_iu h]
  refine ite_c (by rw [obs_q h hI]) (fun _ => ?_) (fun _ => rfl)
  rw [xe_rs_ag (cq_ag h) x.2.2.1 (x.2.2.1.2.1 _ hi.1 hi.2).1, gl_D_ag (cq_ag h) x.2.2.1]
theorem q_over {M m : en_M} (h : cq M m) (hI : INV m) {i : Int} (hi : pM m i) : w_over M i = w_over m i := by
  have x := inv_xc hI
  have pM1 : pM M i := by
    unfold pM
    rw [h.1 21 (by decide)]
    exact hi
  unfold w_over
  rw [if_pos hi, if_pos pM1, cq_iu h]
  refine ite_c (by rw [obs_q h hI]) (fun _ => ?_) (fun _ => rfl)
  rw [xe_rs_ag (cq_ag h) x.2.2.1 (x.2.2.1.2.1 _ hi.1 hi.2).1, gl_D_ag (cq_ag h) x.2.2.1]
