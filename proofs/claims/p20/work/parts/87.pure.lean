/-! PURE 15: powers by a prime -/
def ch : Nat → Nat → Nat
  | _, 0 => 1
  | 0, _ + 1 => 0
  | n + 1, k + 1 => ch n k + ch n (k + 1)
theorem ch_0 (n : Nat) : ch n 0 = 1 := by cases n <;> rfl
theorem ch_gt : ∀ (n k : Nat), n < k → ch n k = 0
  | 0, 0, h => absurd h (by omega)
  | 0, k + 1, _ => rfl
  | n + 1, 0, h => absurd h (by omega)
  | n + 1, k + 1, h => by
    simp only [ch]
    rw [ch_gt n k (by omega), ch_gt n (k + 1) (by omega)]
theorem ch_nn : ∀ n : Nat, ch n n = 1
  | 0 => rfl
  | n + 1 => by
    simp only [ch]
    rw [ch_nn n, ch_gt n (n + 1) (by omega)]
theorem ch_mul : ∀ (n k : Nat), (k + 1) * ch (n + 1) (k + 1) = (n + 1) * ch n k
  | 0, 0 => rfl
  | 0, k + 1 => by simp [ch]
  | n + 1, 0 => by
    have ih := ch_mul n 0
    simp only [ch, ch_0] at ih ⊢
    omega
  | n + 1, k + 1 => by
    have ih1 := ch_mul n k
    have ih2 := ch_mul n (k + 1)
    have e : ch (n + 2) (k + 2) = ch (n + 1) (k + 1) + ch (n + 1) (k + 2) := rfl
    have e2 : ch (n + 1) (k + 1) = ch n k + ch n (k + 1) := rfl
    rw [e, Nat.mul_add, show (k + 1 + 1) * ch (n + 1) (k + 1) = (k + 1) * ch (n + 1) (k + 1) + ch (n + 1) (k + 1) by rw [Nat.add_mul (k + 1) 1, Nat.one_mul], ih1, ih2]
    rw [show (n + 1 + 1) * ch (n + 1) (k + 1) = (n + 1) * ch (n + 1) (k + 1) + ch (n + 1) (k + 1) by rw [Nat.add_mul (n + 1) 1, Nat.one_mul], e2, Nat.mul_add]
    omega
/-- the first n terms of the sum of ch N k times a to the k -/
def bs (N a : Nat) : Nat → Nat
  | 0 => 0
  | k + 1 => bs N a k + ch N k * a ^ k
theorem bs_s (N a : Nat) : ∀ k : Nat, bs (N + 1) a (k + 1) = bs N a (k + 1) + a * bs N a k
  | 0 => by simp [bs, ch_0]
  | k + 1 => by
    have ih := bs_s N a k
    have e : bs (N + 1) a (k + 2) = bs (N + 1) a (k + 1) + ch (N + 1) (k + 1) * a ^ (k + 1) := rfl
    have e2 : bs N a (k + 2) = bs N a (k + 1) + ch N (k + 1) * a ^ (k + 1) := rfl
    have e3 : bs N a (k + 1) = bs N a k + ch N k * a ^ k := rfl
    have e4 : ch (N + 1) (k + 1) = ch N k + ch N (k + 1) := rfl
    have e5 : a * bs N a (k + 1) = a * bs N a k + ch N k * a ^ (k + 1) := by
      rw [e3, Nat.mul_add, Nat.pow_succ, ← Nat.mul_assoc, Nat.mul_comm a (ch N k), Nat.mul_assoc, Nat.mul_comm a (a ^ k)]
    rw [e, ih, e2, e5, e4, Nat.add_mul]
    omega
theorem bs_pow (a : Nat) : ∀ N : Nat, bs N a (N + 1) = (a + 1) ^ N
  | 0 => by simp [bs, ch_0]
  | N + 1 => by
    have ih := bs_pow a N
    rw [bs_s]
    have e : bs N a (N + 2) = bs N a (N + 1) + ch N (N + 1) * a ^ (N + 1) := rfl
    rw [e, ch_gt N (N + 1) (by omega), Nat.zero_mul, Nat.add_zero, ih, Nat.pow_succ, Nat.mul_add, Nat.mul_one, Nat.mul_comm a]
    omega
def pr (p : Nat) : Prop := 2 ≤ p ∧ ∀ d : Nat, d ∣ p → d = 1 ∨ d = p
theorem pr_dvd {p a b : Nat} (hp : pr p) (h : p ∣ a * b) : p ∣ a ∨ p ∣ b := by
  rcases hp.2 (Nat.gcd p a) (Nat.gcd_dvd_left p a) with e | e
  · right
    exact Nat.Coprime.dvd_of_dvd_mul_left (show Nat.gcd p a = 1 from e) h
  · left
    have z := Nat.gcd_dvd_right p a
    rw [e] at z
    exact z
theorem pr_ch {p k : Nat} (hp : pr p) (h0 : 0 < k) (h1 : k < p) : p ∣ ch p k := by
  obtain ⟨n, rfl⟩ : ∃ n, p = n + 1 := ⟨p - 1, by omega⟩
  obtain ⟨j, rfl⟩ : ∃ j, k = j + 1 := ⟨k - 1, by omega⟩
  have e := ch_mul n j
  rcases pr_dvd hp (show n + 1 ∣ (j + 1) * ch (n + 1) (j + 1) from ⟨_, e⟩) with z | z
  · have y := Nat.le_of_dvd (by omega) z
    omega
  · exact z
theorem pr_bs {p a : Nat} (hp : pr p) : ∀ k : Nat, 1 ≤ k → k ≤ p → bs p a k % p = 1 % p
  | 0, h, _ => absurd h (by omega)
  | 1, _, _ => by simp [bs, ch_0]
  | k + 2, _, h => by
    have ih := pr_bs (a := a) hp (k + 1) (by omega) (by omega)
    obtain ⟨c, hc⟩ := pr_ch hp (k := k + 1) (by omega) (by omega)
    have e : bs p a (k + 2) = bs p a (k + 1) + ch p (k + 1) * a ^ (k + 1) := rfl
    rw [e, hc, Nat.mul_assoc, Nat.add_mul_mod_self_left]
    exact ih
/-- Fermat: a to the p is a, by p -/
theorem pr_fermat {p : Nat} (hp : pr p) : ∀ a : Nat, a ^ p % p = a % p
  | 0 => by
    have h := hp.1
    rw [Nat.zero_pow (by omega)]
  | a + 1 => by
    have ih := pr_fermat hp a
    have h := hp.1
    rw [← bs_pow a p]
    have e : bs p a (p + 1) = bs p a p + ch p p * a ^ p := rfl
    rw [e, ch_nn, Nat.one_mul, Nat.add_mod, pr_bs hp p (by omega) (Nat.le_refl _), ih, ← Nat.add_mod, Nat.add_comm]
/-- so that a to the p - 2 is the inverse -/
theorem pr_inv {p a : Nat} (hp : pr p) (ha : ¬ p ∣ a) : a * a ^ (p - 2) % p = 1 := by
  have h := hp.1
  have f := pr_fermat hp a
  have e : a ^ p = a * (a * a ^ (p - 2)) := by
    rw [show a * (a * a ^ (p - 2)) = a ^ (p - 2) * a * a by rw [Nat.mul_comm (a ^ (p - 2)) a, Nat.mul_comm (a * a ^ (p - 2)) a], ← Nat.pow_succ, ← Nat.pow_succ]
    congr 1
    omega
  have apos : 0 < a := by
    apply Decidable.byContradiction
    intro z
    exact ha ⟨0, by omega⟩
  have le : a ≤ a * (a * a ^ (p - 2)) := Nat.le_mul_of_pos_right a (Nat.mul_pos apos (Nat.pow_pos apos))
  have d : p ∣ a * (a * a ^ (p - 2) - 1) := by
    rw [Nat.mul_sub, Nat.mul_one]
    rw [e] at f
    exact Nat.dvd_of_mod_eq_zero (Nat.sub_mod_eq_zero_of_mod_eq f)
  have q : 1 ≤ a * a ^ (p - 2) := Nat.mul_pos apos (Nat.pow_pos apos)
  rcases pr_dvd hp d with z | z
  · exact absurd z ha
  · obtain ⟨k, hk⟩ := z
    rw [show a * a ^ (p - 2) = p * k + 1 by omega, Nat.mul_add_mod]
    exact Nat.mod_eq_of_lt (by omega)
/-- no divisor from 2 to n + 1 -/
def pc (p : Nat) : Nat → Bool
  | 0 => true
  | n + 1 => (p % (n + 2) != 0) && pc p n
theorem pc_spec {p : Nat} : ∀ n : Nat, pc p n = true → ∀ d, 2 ≤ d → d ≤ n + 1 → p % d ≠ 0
  | 0, _, d, h0, h1 => absurd h0 (by omega)
  | n + 1, h, d, h0, h1 => by
    simp only [pc, Bool.and_eq_true, bne_iff_ne] at h
    by_cases e : d = n + 2
    · rw [e]
      exact h.1
    · exact pc_spec n h.2 d h0 (by omega)
theorem pc_pr {p n : Nat} (h : pc p n = true) (hp : 2 ≤ p) (hn : p < (n + 2) * (n + 2)) : pr p := by
  refine ⟨hp, fun d hd => ?_⟩
  obtain ⟨c, hc⟩ := hd
  have cpos : 0 < c := by
    apply Decidable.byContradiction
    intro z
    rw [show c = 0 by omega, Nat.mul_zero] at hc
    omega
  have dpos : 0 < d := by
    apply Decidable.byContradiction
    intro z
    rw [show d = 0 by omega, Nat.zero_mul] at hc
    omega
  by_cases d1 : d = 1
  · exact Or.inl d1
  · by_cases c1 : c = 1
    · right
      rw [c1, Nat.mul_one] at hc
      exact hc.symm
    · have dn : n + 2 ≤ d := by
        apply Decidable.byContradiction
        intro z
        exact pc_spec n h d (by omega) (by omega) (Nat.mod_eq_zero_of_dvd ⟨c, hc⟩)
      have cn : n + 2 ≤ c := by
        apply Decidable.byContradiction
        intro z
        exact pc_spec n h c (by omega) (by omega) (Nat.mod_eq_zero_of_dvd ⟨d, by rw [Nat.mul_comm]; exact hc⟩)
      have z := Nat.mul_le_mul dn cn
      rw [← hc] at z
      omega
set_option maxRecDepth 200000 in
theorem pr_1 : pr 1000003 := pc_pr (n := 1000) (by decide +kernel) (by decide) (by decide)
set_option maxRecDepth 200000 in
theorem pr_2 : pr 998244353 := pc_pr (n := 31600) (by decide +kernel) (by decide) (by decide)
/-! the same over the integers, and the sums of fractions -/
/-- the inverse as the law has it -/
def pwf (P u : Int) : Int := u ^ (P - 2).toNat % P
theorem pwf_inv {P u : Int} (hp : pr P.toNat) (hu : 0 ≤ u) (h : u % P ≠ 0) : P ∣ u * pwf P u - 1 := by
  have p2 := hp.1
  obtain ⟨p, rfl⟩ : ∃ p : Nat, P = (p : Int) := ⟨P.toNat, by omega⟩
  obtain ⟨a, rfl⟩ : ∃ a : Nat, u = (a : Int) := ⟨u.toNat, by omega⟩
  rw [Int.toNat_natCast] at hp p2
  have na : ¬ p ∣ a := by
    intro z
    apply h
    exact Int.emod_eq_zero_of_dvd (Int.natCast_dvd_natCast.mpr z)
  have e := pr_inv hp na
  have e1 : pwf (p : Int) (a : Int) = ((a ^ (p - 2) % p : Nat) : Int) := by
    unfold pwf
    rw [show ((p : Int) - 2).toNat = p - 2 by omega, Int.natCast_emod, Int.natCast_pow]
  rw [e1]
  have e2 : a * (a ^ (p - 2) % p) % p = 1 := by
    rw [Nat.mul_mod, Nat.mod_mod, ← Nat.mul_mod]
    exact e
  have e3 : ((a * (a ^ (p - 2) % p) : Nat) : Int) % (p : Int) = 1 := by
    rw [← Int.natCast_emod, e2]
    rfl
  rw [← Int.natCast_mul]
  rw [Int.emod_def] at e3
  exact ⟨((a * (a ^ (p - 2) % p) : Nat) : Int) / (p : Int), by omega⟩
theorem pi_dvd {P a b : Int} (hp : pr P.toNat) (h : P ∣ a * b) : P ∣ a ∨ P ∣ b := by
  have p2 := hp.1
  have z : P.natAbs ∣ a.natAbs * b.natAbs := by
    rw [← Int.natAbs_mul]
    exact Int.natAbs_dvd_natAbs.mpr h
  rw [show P.natAbs = P.toNat by omega] at z
  rcases pr_dvd hp z with y | y
  · left
    rw [show P.toNat = P.natAbs by omega] at y
    exact Int.natAbs_dvd_natAbs.mp y
  · right
    rw [show P.toNat = P.natAbs by omega] at y
    exact Int.natAbs_dvd_natAbs.mp y
/-- sums over the first n meters that 'on' takes -/
def sm (on : Int → Bool) (f : Int → Int) : Nat → Int
  | 0 => 0
  | n + 1 => if on (n : Int) = true then sm on f n + f (n : Int) else sm on f n
theorem sm_cong {on : Int → Bool} {f g : Int → Int} : ∀ n : Nat, (∀ i, 0 ≤ i → i < (n : Int) → on i = true → f i = g i) → sm on f n = sm on g n
  | 0, _ => rfl
  | n + 1, h => by
    simp only [sm]
    rw [sm_cong n (fun i i0 i1 hi => h i i0 (by omega) hi)]
    by_cases c : on (n : Int) = true
    · rw [if_pos c, if_pos c, h n (by omega) (by omega) c]
    · rw [if_neg c, if_neg c]
theorem sm_mul {on : Int → Bool} {f : Int → Int} (c : Int) : ∀ n : Nat, sm on (fun i => c * f i) n = c * sm on f n
  | 0 => by simp [sm]
  | n + 1 => by
    simp only [sm]
    rw [sm_mul c n]
    split
    · rw [Int.mul_add]
    · rfl
theorem sm_dvd {on : Int → Bool} {f g : Int → Int} {P : Int} : ∀ n : Nat, (∀ i, 0 ≤ i → i < (n : Int) → on i = true → P ∣ f i - g i) → P ∣ sm on f n - sm on g n
  | 0, _ => ⟨0, by simp [sm]⟩
  | n + 1, h => by
    have ih := sm_dvd (on := on) (f := f) (g := g) n (fun i i0 i1 hi => h i i0 (by omega) hi)
    simp only [sm]
    by_cases c : on (n : Int) = true
    · rw [if_pos c, if_pos c]
      have z := Int.dvd_add ih (h n (by omega) (by omega) c)
      rw [show sm on f n + f ↑n - (sm on g n + g ↑n) = sm on f n - sm on g n + (f ↑n - g ↑n) by omega]
      exact z
    · rw [if_neg c, if_neg c]
      exact ih
/-- fractions with numerators o and denominators u over one denominator D: if the sum of a o / u is 0, so is the sum by a prime that divides no u -/
theorem sm_zero {on : Int → Bool} {a o u : Int → Int} {P : Int} {n : Nat} (hp : pr P.toNat) (hu : ∀ i, 0 ≤ i → i < (n : Int) → on i = true → 0 < u i ∧ u i % P ≠ 0) : ∀ (f : Nat) (D : Int) (g : Int → Int), D.toNat ≤ f → 0 < D → (∀ i, 0 ≤ i → i < (n : Int) → on i = true → D = u i * g i) → sm on (fun i => a i * o i * g i) n = 0 → P ∣ sm on (fun i => a i * (o i * pwf P (u i))) n
  | 0, D, g, h1, h2, _, _ => absurd h1 (by omega)
  | f + 1, D, g, h1, h2, h3, h4 => by
    have p2 := hp.1
    by_cases c : P ∣ D
    · obtain ⟨D', rfl⟩ := c
      have D'pos : 0 < D' := by
        apply Decidable.byContradiction
        intro z
        have y := Int.mul_le_mul_of_nonneg_left (show D' ≤ 0 by omega) (show 0 ≤ P by omega)
        rw [Int.mul_zero] at y
        omega
      have gd : ∀ i, 0 ≤ i → i < (n : Int) → on i = true → P ∣ g i := by
        intro i i0 i1 hi
        have e := h3 i i0 i1 hi
        rcases pi_dvd hp (show P ∣ u i * g i from ⟨D', e.symm⟩) with z | z
        · exact absurd (Int.emod_eq_zero_of_dvd z) (hu i i0 i1 hi).2
        · exact z
      have ge : ∀ i, 0 ≤ i → i < (n : Int) → on i = true → g i = P * (g i / P) := fun i i0 i1 hi => (Int.mul_ediv_cancel' (gd i i0 i1 hi)).symm
      refine sm_zero hp hu f D' (fun i => g i / P) ?_ D'pos (fun i i0 i1 hi => ?_) ?_
      · have y := Int.mul_le_mul_of_nonneg_right (show 2 ≤ P by omega) (show 0 ≤ D' by omega)
        omega
      · have e := h3 i i0 i1 hi
        rw [ge i i0 i1 hi] at e
        have e2 : P * D' = P * (u i * (g i / P)) := by
          rw [e, ← Int.mul_assoc, Int.mul_comm (u i) P, Int.mul_assoc]
        exact Int.eq_of_mul_eq_mul_left (by omega) e2
      · have e : sm on (fun i => a i * o i * g i) n = sm on (fun i => P * (a i * o i * (g i / P))) n := sm_cong n (fun i i0 i1 hi => by
          show a i * o i * g i = P * (a i * o i * (g i / P))
          rw [ge i i0 i1 hi, Int.mul_ediv_cancel_left _ (show P ≠ 0 by omega), ← Int.mul_assoc, Int.mul_comm _ P, Int.mul_assoc])
        rw [e, sm_mul] at h4
        rcases Int.mul_eq_zero.mp h4 with z | z
        · omega
        · exact z
    · have e : P ∣ sm on (fun i => D * (a i * (o i * pwf P (u i)))) n - sm on (fun i => a i * o i * g i) n := by
        refine sm_dvd n (fun i i0 i1 hi => ?_)
        have e := h3 i i0 i1 hi
        have y := hu i i0 i1 hi
        obtain ⟨k, hk⟩ := pwf_inv hp (show 0 ≤ u i by omega) y.2
        refine ⟨a i * o i * g i * k, ?_⟩
        show D * (a i * (o i * pwf P (u i))) - a i * o i * g i = _
        rw [e]
        have e2 : u i * pwf P (u i) = P * k + 1 := by omega
        calc u i * g i * (a i * (o i * pwf P (u i))) - a i * o i * g i = a i * o i * g i * (u i * pwf P (u i)) - a i * o i * g i := by grind
          _ = a i * o i * g i * (P * k + 1) - a i * o i * g i := by rw [e2]
          _ = P * (a i * o i * g i * k) := by grind
      rw [h4, Int.sub_zero, sm_mul] at e
      rcases pi_dvd hp e with z | z
      · exact absurd z c
      · exact z
