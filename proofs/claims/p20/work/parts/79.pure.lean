/-! PURE 11: which buses are unknown; observable islands have a positive determinant -/
def dt_u (R : Int → Int) (q b : Int) : Bool := decide (R b = q ∧ b ≠ q)
theorem dt_u_iff {R : Int → Int} {q b : Int} : dt_u R q b = true ↔ (R b = q ∧ b ≠ q) := by
  unfold dt_u
  rw [decide_eq_true_iff]
def rk_m (t : Int → Bool) (r : Int → Int) : Int → Int := fun k => if t k = true then r k else 0
def rk_e (t : Int → Bool) (k : Int) : Int := if t k = true then 0 else 1
def rk_G (t : Int → Bool) (W : Int → Int) (r : Int → Int → Int) (on : Int → Bool) (k l : Int) : Nat → Int
  | 0 => if k = l then rk_e t k else 0
  | n + 1 => if on (n : Int) = true then rk_G t W r on k l n + W (n : Int) * rk_m t (r (n : Int)) k * rk_m t (r (n : Int)) l else rk_G t W r on k l n
def rk_dot (r y : Int → Int) : Int := r 0 * y 0 + r 1 * y 1 + r 2 * y 2 + r 3 * y 3
theorem rk_sq (x : Int) : 0 ≤ x * x ∧ (x * x = 0 → x = 0) := by
  refine ⟨?_, fun h => ?_⟩
  · rcases Int.le_total 0 x with h | h
    · exact Int.mul_nonneg h h
    · have e : x * x = (-x) * (-x) := by rw [Int.neg_mul_neg]
      rw [e]
      exact Int.mul_nonneg (by omega) (by omega)
  · rcases Int.mul_eq_zero.mp h with h | h <;> exact h
theorem rk_Qs (a b c d e f g h i j w p q r s x y z t : Int) : pd_Q (a + w * p * p) (b + w * p * q) (c + w * p * r) (d + w * p * s) (e + w * q * q) (f + w * q * r) (g + w * q * s) (h + w * r * r) (i + w * r * s) (j + w * s * s) x y z t = pd_Q a b c d e f g h i j x y z t + w * ((p * x + q * y + r * z + s * t) * (p * x + q * y + r * z + s * t)) := by
  unfold pd_Q
  grind
section RK
variable {t : Int → Bool} {W : Int → Int} {r : Int → Int → Int} {on : Int → Bool}
theorem rk_G_sym (k l : Int) : ∀ n : Nat, rk_G t W r on k l n = rk_G t W r on l k n
  | 0 => by
    simp only [rk_G]
    by_cases e : k = l
    · rw [e]
    · rw [if_neg e, if_neg (fun z => e z.symm)]
  | n + 1 => by
    simp only [rk_G]
    rw [rk_G_sym k l n]
    by_cases c : on (n : Int) = true
    · rw [if_pos c, if_pos c, Int.mul_assoc, Int.mul_assoc, Int.mul_comm (rk_m t (r (n : Int)) k)]
    · rw [if_neg c, if_neg c]
def rk_Q (t : Int → Bool) (W : Int → Int) (r : Int → Int → Int) (on : Int → Bool) (n : Nat) (y : Int → Int) : Int := pd_Q (rk_G t W r on 0 0 n) (rk_G t W r on 0 1 n) (rk_G t W r on 0 2 n) (rk_G t W r on 0 3 n) (rk_G t W r on 1 1 n) (rk_G t W r on 1 2 n) (rk_G t W r on 1 3 n) (rk_G t W r on 2 2 n) (rk_G t W r on 2 3 n) (rk_G t W r on 3 3 n) (y 0) (y 1) (y 2) (y 3)
theorem rk_Q_0 (y : Int → Int) : rk_Q t W r on 0 y = rk_e t 0 * (y 0 * y 0) + rk_e t 1 * (y 1 * y 1) + rk_e t 2 * (y 2 * y 2) + rk_e t 3 * (y 3 * y 3) := by
  show pd_Q (rk_e t 0) 0 0 0 (rk_e t 1) 0 0 (rk_e t 2) 0 (rk_e t 3) (y 0) (y 1) (y 2) (y 3) = _
  unfold pd_Q
  grind
theorem rk_Q_1 {n : Nat} (h : on (n : Int) = true) (y : Int → Int) : rk_Q t W r on (n + 1) y = rk_Q t W r on n y + W (n : Int) * (rk_dot (rk_m t (r (n : Int))) y * rk_dot (rk_m t (r (n : Int))) y) := by
  unfold rk_Q
  simp only [rk_G, if_pos h]
  exact rk_Qs _ _ _ _ _ _ _ _ _ _ _ _ _ _ _ _ _ _ _
theorem rk_Q_n {n : Nat} (h : ¬ on (n : Int) = true) (y : Int → Int) : rk_Q t W r on (n + 1) y = rk_Q t W r on n y := by
  unfold rk_Q
  simp only [rk_G, if_neg h]
theorem rk_Q_pos (y : Int → Int) : ∀ n : Nat, (∀ i, 0 ≤ i → i < (n : Int) → 1 ≤ W i) → 0 ≤ rk_Q t W r on n y ∧ (rk_Q t W r on n y = 0 → (∀ k, 0 ≤ k → k < 4 → t k = false → y k = 0) ∧ ∀ i, 0 ≤ i → i < (n : Int) → on i = true → rk_dot (rk_m t (r i)) y = 0)
  | 0, _ => by
    rw [rk_Q_0]
    have d : ∀ k, 0 ≤ rk_e t k * (y k * y k) ∧ (t k = false → rk_e t k * (y k * y k) = y k * y k) := by
      intro k
      have z := rk_sq (y k)
      unfold rk_e
      by_cases c : t k = true
      · rw [if_pos c, Int.zero_mul]
        exact ⟨Int.le_refl _, fun z => by rw [c] at z; cases z⟩
      · rw [if_neg c, Int.one_mul]
        exact ⟨z.1, fun _ => rfl⟩
    have d0 := d 0
    have d1 := d 1
    have d2 := d 2
    have d3 := d 3
    refine ⟨by omega, fun hz => ⟨fun k k0 k1 hk => ?_, fun i i0 i1 => absurd i1 (by omega)⟩⟩
    have hc : k = 0 ∨ k = 1 ∨ k = 2 ∨ k = 3 := by omega
    rcases hc with rfl | rfl | rfl | rfl
    · exact (rk_sq _).2 (by rw [← d0.2 hk]; omega)
    · exact (rk_sq _).2 (by rw [← d1.2 hk]; omega)
    · exact (rk_sq _).2 (by rw [← d2.2 hk]; omega)
    · exact (rk_sq _).2 (by rw [← d3.2 hk]; omega)
  | n + 1, hW => by
    obtain ⟨g1, g2⟩ := rk_Q_pos y n (fun i i0 i1 => hW i i0 (by omega))
    have hw := hW (n : Int) (by omega) (by omega)
    by_cases c : on (n : Int) = true
    · rw [rk_Q_1 c]
      have z := rk_sq (rk_dot (rk_m t (r (n : Int))) y)
      have z1 : 0 ≤ W (n : Int) * (rk_dot (rk_m t (r (n : Int))) y * rk_dot (rk_m t (r (n : Int))) y) := Int.mul_nonneg (by omega) z.1
      refine ⟨by omega, fun hz => ?_⟩
      have e1 : W (n : Int) * (rk_dot (rk_m t (r (n : Int))) y * rk_dot (rk_m t (r (n : Int))) y) = 0 := by omega
      obtain ⟨g3, g4⟩ := g2 (by omega)
      refine ⟨g3, fun i i0 i1 hi => ?_⟩
      by_cases e : i = (n : Int)
      · subst e
        rcases Int.mul_eq_zero.mp e1 with e2 | e2
        · omega
        · exact z.2 e2
      · exact g4 i i0 (by omega) hi
    · rw [rk_Q_n c]
      refine ⟨g1, fun hz => ?_⟩
      obtain ⟨g3, g4⟩ := g2 hz
      refine ⟨g3, fun i i0 i1 hi => ?_⟩
      by_cases e : i = (n : Int)
      · subst e; exact absurd hi c
      · exact g4 i i0 (by omega) hi
theorem rk_ks (A0 A1 A2 A3 w m m0 m1 m2 m3 x y z u : Int) : (A0 + w * m * m0) * x + (A1 + w * m * m1) * y + (A2 + w * m * m2) * z + (A3 + w * m * m3) * u = (A0 * x + A1 * y + A2 * z + A3 * u) + w * m * (m0 * x + m1 * y + m2 * z + m3 * u) := by
  grind
theorem rk_ker {y : Int → Int} (hy : ∀ k, 0 ≤ k → k < 4 → t k = false → y k = 0) {k : Int} (k0 : 0 ≤ k) (k1 : k < 4) : ∀ n : Nat, (∀ i, 0 ≤ i → i < (n : Int) → on i = true → rk_dot (rk_m t (r i)) y = 0) → rk_G t W r on k 0 n * y 0 + rk_G t W r on k 1 n * y 1 + rk_G t W r on k 2 n * y 2 + rk_G t W r on k 3 n * y 3 = 0
  | 0, _ => by
    have d : ∀ k, 0 ≤ k → k < 4 → rk_e t k * y k = 0 := by
      intro k k0 k1
      unfold rk_e
      by_cases c : t k = true
      · rw [if_pos c, Int.zero_mul]
      · rw [hy k k0 k1 (by simpa using c), Int.mul_zero]
    have hc : k = 0 ∨ k = 1 ∨ k = 2 ∨ k = 3 := by omega
    rcases hc with rfl | rfl | rfl | rfl
    · have z := d 0 (by decide) (by decide)
      simp [rk_G, z]
    · have z := d 1 (by decide) (by decide)
      simp [rk_G, z]
    · have z := d 2 (by decide) (by decide)
      simp [rk_G, z]
    · have z := d 3 (by decide) (by decide)
      simp [rk_G, z]
  | n + 1, hd => by
    have ih := rk_ker hy k0 k1 n (fun i i0 i1 => hd i i0 (by omega))
    simp only [rk_G]
    by_cases c : on (n : Int) = true
    · have z := hd (n : Int) (by omega) (by omega) c
      unfold rk_dot at z
      simp only [if_pos c]
      rw [rk_ks, ih, z, Int.mul_zero, Int.zero_add]
    · simp only [if_neg c]
      exact ih
end RK
theorem la_ind_mono {A : Int → Int → Int} {S S' : Int → Bool} (hI : la_ind A S) (h : ∀ b, 0 ≤ b → b < 5 → S b = false → S' b = false) : la_ind A S' := by
  intro x hx hA hz
  have ex : ∃ x' : Int → Int, (∀ b, 0 ≤ b → b < 5 → x' b = x b) ∧ ∀ b, ¬ (0 ≤ b ∧ b < 5) → x' b = 0 := ⟨fun b => if 0 ≤ b ∧ b < 5 then x b else 0, fun b h0 h1 => if_pos ⟨h0, h1⟩, fun b hb => if_neg hb⟩
  obtain ⟨x', e, e2⟩ := ex
  refine hI x' (fun b hb => ?_) (fun i i0 i1 => ?_) ?_
  · by_cases c : 0 ≤ b ∧ b < 5
    · rw [e b c.1 c.2]
      exact hx b (h b c.1 c.2 hb)
    · exact e2 b c
  · have z := hA i i0 i1
    unfold la_d at z ⊢
    rw [e 0 (by decide) (by decide), e 1 (by decide) (by decide), e 2 (by decide) (by decide), e 3 (by decide) (by decide), e 4 (by decide) (by decide)]
    exact z
  · unfold la_nz at hz ⊢
    rw [e 0 (by decide) (by decide), e 1 (by decide) (by decide), e 2 (by decide) (by decide), e 3 (by decide) (by decide), e 4 (by decide) (by decide)]
    exact hz
theorem la_ct_sub {S U : Int → Bool} (h : ∀ b, 0 ≤ b → b < 5 → S b = true → U b = true) : la_ct S ≤ la_ct U ∧ (la_ct S = la_ct U → ∀ b, 0 ≤ b → b < 5 → U b = true → S b = true) := by
  have p : ∀ b, 0 ≤ b → b < 5 → la_b (S b) ≤ la_b (U b) ∧ (la_b (S b) = la_b (U b) → U b = true → S b = true) := by
    intro b b0 b1
    have z := h b b0 b1
    cases hs : S b <;> cases hu : U b <;> simp [hs, hu, la_b] at z ⊢
  have p0 := p 0 (by decide) (by decide)
  have p1 := p 1 (by decide) (by decide)
  have p2 := p 2 (by decide) (by decide)
  have p3 := p 3 (by decide) (by decide)
  have p4 := p 4 (by decide) (by decide)
  unfold la_ct
  refine ⟨by omega, fun e b b0 b1 hu => ?_⟩
  rcases la_5 b0 b1 with rfl | rfl | rfl | rfl | rfl
  · exact p0.2 (by omega) hu
  · exact p1.2 (by omega) hu
  · exact p2.2 (by omega) hu
  · exact p3.2 (by omega) hu
  · exact p4.2 (by omega) hu
theorem rk_u0 {m : en_M} (h : xl m) (q : Int) : dt_u (m 5) q 0 = false := by
  have z0 := lk_0 h
  unfold dt_u
  rw [decide_eq_false_iff_not]
  exact fun z => z.2 (by rw [← z.1, z0])
theorem rk_cu {m : en_M} (q : Int) : gs_cu (m 5) q 5 = ((la_ct (dt_u (m 5) q) : Nat) : Int) := by
  have st : ∀ b : Int, (if m 5 b = q ∧ b ≠ q then (1 : Int) else 0) = ((la_b (dt_u (m 5) q b) : Nat) : Int) := by
    intro b
    unfold la_b dt_u
    by_cases c : m 5 b = q ∧ b ≠ q
    · rw [if_pos c, decide_eq_true c]
      rfl
    · rw [if_neg c, decide_eq_false c]
      rfl
  have s0 := st 0
  have s1 := st 1
  have s2 := st 2
  have s3 := st 3
  have s4 := st 4
  have e : gs_cu (m 5) q 5 = ((((0 + (if m 5 0 = q ∧ (0 : Int) ≠ q then (1 : Int) else 0)) + (if m 5 1 = q ∧ (1 : Int) ≠ q then (1 : Int) else 0)) + (if m 5 2 = q ∧ (2 : Int) ≠ q then (1 : Int) else 0)) + (if m 5 3 = q ∧ (3 : Int) ≠ q then (1 : Int) else 0)) + (if m 5 4 = q ∧ (4 : Int) ≠ q then (1 : Int) else 0) := rfl
  rw [e, s0, s1, s2, s3, s4]
  unfold la_ct
  omega
/-- independent buses are unknown ones -/
theorem rk_sub {m : en_M} (h : xl m) {q lo : Int} (q0 : 0 ≤ q) {S : Int → Bool} (hI : la_ind (xm_row m lo q) S) : ∀ b, 0 ≤ b → b < 5 → S b = true → dt_u (m 5) q b = true := by
  intro b b0 b1 hS
  apply Decidable.byContradiction
  intro hu
  have ex : ∃ x : Int → Int, x b = 1 ∧ ∀ c, c ≠ b → x c = 0 := ⟨fun c => if c = b then 1 else 0, if_pos rfl, fun c hc => if_neg hc⟩
  obtain ⟨x, x1, x2⟩ := ex
  refine hI x (fun c hc => x2 c (fun e => by rw [e, hS] at hc; cases hc)) (fun i i0 i1 => ?_) (la_nz_of b0 b1 (by rw [x1]; decide))
  have z : xm_row m lo q i b = 0 := by
    unfold xm_row
    by_cases c : (i < m 21 1 ∧ i ≠ lo ∧ xm_io m i = q) ∧ b ≠ q
    · rw [if_pos c]
      exact lk_g0 h q0 i0 c.1.1 c.1.2.2 b0 b1 (fun e => hu (dt_u_iff.mpr ⟨e, c.2⟩))
    · exact if_neg c
  have t : ∀ c, 0 ≤ c → c < 5 → xm_row m lo q i c * x c = 0 := by
    intro c c0 c1
    by_cases e : c = b
    · rw [e, z, Int.zero_mul]
    · rw [x2 c e, Int.mul_zero]
  unfold la_d
  rw [t 0 (by decide) (by decide), t 1 (by decide) (by decide), t 2 (by decide) (by decide), t 3 (by decide) (by decide), t 4 (by decide) (by decide)]
  rfl
theorem rk_le {m : en_M} (h : xl m) {q : Int} (q0 : 0 ≤ q) (lo : Int) : 0 ≤ xm_rk m lo q ∧ xm_rk m lo q ≤ gs_cu (m 5) q 5 := by
  obtain ⟨⟨S, s1, s2⟩, -⟩ := la_rank (xm_row m lo q)
  have z := (la_ct_sub (rk_sub h q0 s1)).1
  rw [rk_cu q]
  unfold xm_rk
  omega
/-- the rank is full just if the rows leave no unknown angle free -/
theorem rk_full {m : en_M} (h : xl m) {q : Int} (q0 : 0 ≤ q) (lo : Int) : xm_rk m lo q = gs_cu (m 5) q 5 ↔ la_ind (xm_row m lo q) (dt_u (m 5) q) := by
  obtain ⟨⟨S, s1, s2⟩, s3⟩ := la_rank (xm_row m lo q)
  have le := rk_le h q0 lo
  rw [rk_cu q] at le ⊢
  have sub := rk_sub h q0 s1
  unfold xm_rk at le ⊢
  constructor
  · intro e
    obtain ⟨-, t2⟩ := la_ct_sub sub
    have u := t2 (by omega)
    refine la_ind_mono s1 (fun b b0 b1 hb => ?_)
    cases hu : dt_u (m 5) q b with
    | false => rfl
    | true =>
      have z := u b b0 b1 hu
      rw [hb] at z
      cases z
  · intro hI
    have z := s3 _ hI
    omega
/-- the equations' left side, as masked sums of products -/
def rk_t (R : Int → Int) (q : Int) : Int → Bool := fun k => dt_u R q (k + 1)
def rk_W (m : en_M) (i : Int) : Int := m 25 i * m 25 i
def rk_r (m : en_M) (i k : Int) : Int := xm_gr m i (k + 1)
def rk_on (m : en_M) (q i : Int) : Bool := decide (xm_io m i = q)
theorem rk_gl {m : en_M} (q : Int) {k l : Int} : ∀ n : Nat, gl_L m q n (k + 1) (l + 1) = rk_G (rk_t (m 5) q) (rk_W m) (rk_r m) (rk_on m q) k l n := by
  have hu : ∀ k : Int, rk_t (m 5) q k = true ↔ (m 5 (k + 1) = q ∧ k + 1 ≠ q) := fun k => dt_u_iff
  intro n
  by_cases c : (m 5 (k + 1) = q ∧ k + 1 ≠ q) ∧ (m 5 (l + 1) = q ∧ l + 1 ≠ q)
  · rw [gl_L_un c.1 c.2]
    have tk := (hu k).mpr c.1
    have tl := (hu l).mpr c.2
    induction n with
    | zero =>
      simp only [gq_S, rk_G, rk_e, tk, if_true]
      split <;> rfl
    | succ n ih =>
      simp only [gq_S, rk_G]
      rw [ih]
      unfold rk_on
      by_cases c2 : xm_io m (n : Int) = q
      · rw [if_pos c2, if_pos (decide_eq_true c2)]
        unfold rk_m rk_W rk_r
        rw [if_pos tk, if_pos tl]
      · rw [if_neg c2, if_neg (by simpa using c2)]
  · rw [gl_L_kn c]
    induction n with
    | zero =>
      simp only [rk_G]
      by_cases e : k = l
      · rw [if_pos (by omega), if_pos e]
        unfold rk_e
        rw [if_neg (fun z => c ⟨(hu k).mp z, by rw [← e]; exact (hu k).mp z⟩)]
      · rw [if_neg (by omega), if_neg e]
    | succ n ih =>
      simp only [rk_G]
      rw [ih]
      by_cases c2 : rk_on m q (n : Int) = true
      · rw [if_pos c2]
        have z : rk_m (rk_t (m 5) q) (rk_r m (n : Int)) k * rk_m (rk_t (m 5) q) (rk_r m (n : Int)) l = 0 := by
          unfold rk_m
          by_cases tk : rk_t (m 5) q k = true
          · have tl : ¬ rk_t (m 5) q l = true := fun z => c ⟨(hu k).mp tk, (hu l).mp z⟩
            rw [if_neg tl, Int.mul_zero]
          · rw [if_neg tk, Int.zero_mul]
        rw [Int.mul_assoc, z, Int.mul_zero, Int.add_zero]
      · rw [if_neg c2]
theorem lk_pos {m : en_M} (h : xl m) (hd : xv_rd m) {q : Int} (q0 : 0 ≤ q) (ho : xm_ob m q) : 0 < gl_D m q (-1) := by
  have z0 := lk_0 h
  have hI := (rk_full h q0 (-1)).mp ho
  have e9 : ∀ r c : Int, c ≠ -1 → gl_E m q (-1) r c = gl_L m q (m 21 1).toNat r c := fun r c hc => by
    unfold gl_E
    rw [if_neg hc]
  have g := fun k l : Int => rk_gl (m := m) q (k := k) (l := l) (m 21 1).toNat
  have sy := fun k l : Int => rk_G_sym (t := rk_t (m 5) q) (W := rk_W m) (r := rk_r m) (on := rk_on m q) k l (m 21 1).toNat
  have e : gm_4 (gl_E m q (-1)) = pd_4 (rk_G (rk_t (m 5) q) (rk_W m) (rk_r m) (rk_on m q) 0 0 (m 21 1).toNat) (rk_G (rk_t (m 5) q) (rk_W m) (rk_r m) (rk_on m q) 0 1 (m 21 1).toNat) (rk_G (rk_t (m 5) q) (rk_W m) (rk_r m) (rk_on m q) 0 2 (m 21 1).toNat) (rk_G (rk_t (m 5) q) (rk_W m) (rk_r m) (rk_on m q) 0 3 (m 21 1).toNat) (rk_G (rk_t (m 5) q) (rk_W m) (rk_r m) (rk_on m q) 1 1 (m 21 1).toNat) (rk_G (rk_t (m 5) q) (rk_W m) (rk_r m) (rk_on m q) 1 2 (m 21 1).toNat) (rk_G (rk_t (m 5) q) (rk_W m) (rk_r m) (rk_on m q) 1 3 (m 21 1).toNat) (rk_G (rk_t (m 5) q) (rk_W m) (rk_r m) (rk_on m q) 2 2 (m 21 1).toNat) (rk_G (rk_t (m 5) q) (rk_W m) (rk_r m) (rk_on m q) 2 3 (m 21 1).toNat) (rk_G (rk_t (m 5) q) (rk_W m) (rk_r m) (rk_on m q) 3 3 (m 21 1).toNat) := by
    unfold gm_4
    rw [e9 1 1 (by decide), e9 1 2 (by decide), e9 1 3 (by decide), e9 1 4 (by decide), e9 2 1 (by decide), e9 2 2 (by decide), e9 2 3 (by decide), e9 2 4 (by decide), e9 3 1 (by decide), e9 3 2 (by decide), e9 3 3 (by decide), e9 3 4 (by decide), e9 4 1 (by decide), e9 4 2 (by decide), e9 4 3 (by decide), e9 4 4 (by decide)]
    rw [show gl_L m q (m 21 1).toNat 1 1 = _ from g 0 0, show gl_L m q (m 21 1).toNat 1 2 = _ from g 0 1, show gl_L m q (m 21 1).toNat 1 3 = _ from g 0 2, show gl_L m q (m 21 1).toNat 1 4 = _ from g 0 3, show gl_L m q (m 21 1).toNat 2 1 = _ from (g 1 0).trans (sy 1 0), show gl_L m q (m 21 1).toNat 2 2 = _ from g 1 1, show gl_L m q (m 21 1).toNat 2 3 = _ from g 1 2, show gl_L m q (m 21 1).toNat 2 4 = _ from g 1 3, show gl_L m q (m 21 1).toNat 3 1 = _ from (g 2 0).trans (sy 2 0), show gl_L m q (m 21 1).toNat 3 2 = _ from (g 2 1).trans (sy 2 1), show gl_L m q (m 21 1).toNat 3 3 = _ from g 2 2, show gl_L m q (m 21 1).toNat 3 4 = _ from g 2 3, show gl_L m q (m 21 1).toNat 4 1 = _ from (g 3 0).trans (sy 3 0), show gl_L m q (m 21 1).toNat 4 2 = _ from (g 3 1).trans (sy 3 1), show gl_L m q (m 21 1).toNat 4 3 = _ from (g 3 2).trans (sy 3 2), show gl_L m q (m 21 1).toNat 4 4 = _ from g 3 3]
    rfl
  rw [gl_D_4 z0 (by decide), e]
  refine pd_pos (fun x y z u hx => ?_)
  have n2 := h.2.1.1
  have q9 := rk_Q_pos (t := rk_t (m 5) q) (W := rk_W m) (r := rk_r m) (on := rk_on m q) (fun k => if k = 0 then x else if k = 1 then y else if k = 2 then z else u) (m 21 1).toNat (fun i i0 i1 => by
    have d := (hd i i0 (by omega)).2
    unfold rk_W
    have hc : m 25 i = 1 ∨ m 25 i = 2 := by omega
    rcases hc with e | e <;> rw [e] <;> decide)
  have e2 : rk_Q (rk_t (m 5) q) (rk_W m) (rk_r m) (rk_on m q) (m 21 1).toNat (fun k => if k = 0 then x else if k = 1 then y else if k = 2 then z else u) = pd_Q (rk_G (rk_t (m 5) q) (rk_W m) (rk_r m) (rk_on m q) 0 0 (m 21 1).toNat) (rk_G (rk_t (m 5) q) (rk_W m) (rk_r m) (rk_on m q) 0 1 (m 21 1).toNat) (rk_G (rk_t (m 5) q) (rk_W m) (rk_r m) (rk_on m q) 0 2 (m 21 1).toNat) (rk_G (rk_t (m 5) q) (rk_W m) (rk_r m) (rk_on m q) 0 3 (m 21 1).toNat) (rk_G (rk_t (m 5) q) (rk_W m) (rk_r m) (rk_on m q) 1 1 (m 21 1).toNat) (rk_G (rk_t (m 5) q) (rk_W m) (rk_r m) (rk_on m q) 1 2 (m 21 1).toNat) (rk_G (rk_t (m 5) q) (rk_W m) (rk_r m) (rk_on m q) 1 3 (m 21 1).toNat) (rk_G (rk_t (m 5) q) (rk_W m) (rk_r m) (rk_on m q) 2 2 (m 21 1).toNat) (rk_G (rk_t (m 5) q) (rk_W m) (rk_r m) (rk_on m q) 2 3 (m 21 1).toNat) (rk_G (rk_t (m 5) q) (rk_W m) (rk_r m) (rk_on m q) 3 3 (m 21 1).toNat) x y z u := rfl
  rw [e2] at q9
  apply Decidable.byContradiction
  intro hn
  obtain ⟨q1, q2⟩ := q9.2 (by omega)
  have q10 := q1 0 (by decide) (by decide)
  have q11 := q1 1 (by decide) (by decide)
  have q12 := q1 2 (by decide) (by decide)
  have q13 := q1 3 (by decide) (by decide)
  have ex : ∃ w : Int → Int, w 0 = 0 ∧ w 1 = x ∧ w 2 = y ∧ w 3 = z ∧ w 4 = u ∧ ∀ b, ¬ (1 ≤ b ∧ b ≤ 4) → w b = 0 := ⟨fun b => if b = 1 then x else if b = 2 then y else if b = 3 then z else if b = 4 then u else 0, rfl, rfl, rfl, rfl, rfl, fun b hb => by
    show (if b = 1 then x else if b = 2 then y else if b = 3 then z else if b = 4 then u else 0) = 0
    rw [if_neg (by omega), if_neg (by omega), if_neg (by omega), if_neg (by omega)]⟩
  obtain ⟨w, w0, w1, w2, w3, w4, w5⟩ := ex
  have uz : ∀ b, dt_u (m 5) q b = false → w b = 0 := by
    intro b hb
    by_cases hr : 1 ≤ b ∧ b ≤ 4
    · have hc : b = 1 ∨ b = 2 ∨ b = 3 ∨ b = 4 := by omega
      rcases hc with rfl | rfl | rfl | rfl
      · rw [w1]; exact q10 hb
      · rw [w2]; exact q11 hb
      · rw [w3]; exact q12 hb
      · rw [w4]; exact q13 hb
    · exact w5 b hr
  refine hI w uz (fun i i0 i1 => ?_) ?_
  · have t : ∀ b, 0 ≤ b → b < 5 → (i < m 21 1 ∧ i ≠ -1 ∧ xm_io m i = q) → xm_row m (-1) q i b * w b = (if dt_u (m 5) q b = true then xm_gr m i b else 0) * w b := by
      intro b b0 b1 hi
      by_cases hb : dt_u (m 5) q b = true
      · rw [if_pos hb]
        unfold xm_row
        rw [if_pos ⟨hi, (dt_u_iff.mp hb).2⟩]
      · rw [uz b (by simpa using hb), Int.mul_zero, Int.mul_zero]
    by_cases hi : i < m 21 1 ∧ i ≠ -1 ∧ xm_io m i = q
    · have f := q2 i i0 (by omega) (decide_eq_true hi.2.2)
      unfold rk_dot rk_m at f
      have f2 : (if dt_u (m 5) q 1 = true then xm_gr m i 1 else 0) * x + (if dt_u (m 5) q 2 = true then xm_gr m i 2 else 0) * y + (if dt_u (m 5) q 3 = true then xm_gr m i 3 else 0) * z + (if dt_u (m 5) q 4 = true then xm_gr m i 4 else 0) * u = 0 := f
      unfold la_d
      rw [t 0 (by decide) (by decide) hi, t 1 (by decide) (by decide) hi, t 2 (by decide) (by decide) hi, t 3 (by decide) (by decide) hi, t 4 (by decide) (by decide) hi, w0, w1, w2, w3, w4, Int.mul_zero, Int.zero_add]
      exact f2
    · have t0 : ∀ b, xm_row m (-1) q i b = 0 := by
        intro b
        unfold xm_row
        rw [if_neg (fun z => hi z.1)]
      unfold la_d
      rw [t0, t0, t0, t0, t0]
      simp
  · unfold la_nz
    rw [w0, w1, w2, w3, w4]
    omega
