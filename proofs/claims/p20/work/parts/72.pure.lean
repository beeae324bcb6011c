/-! PURE 4: what a grid keeps between two calls: its parts that speak of lines and meters -/
theorem mb_mul {x y A B : Int} (hx : -A ≤ x ∧ x ≤ A) (hy : -B ≤ y ∧ y ≤ B) : -(A * B) ≤ x * y ∧ x * y ≤ A * B := by
  have h1 : x.natAbs ≤ A.natAbs := by omega
  have h2 : y.natAbs ≤ B.natAbs := by omega
  have h3 := Nat.mul_le_mul h1 h2
  rw [← Int.natAbs_mul, ← Int.natAbs_mul] at h3
  have h4 : 0 ≤ A * B := Int.mul_nonneg (by omega) (by omega)
  omega
def xi_ln (m : en_M) : Prop := (2 ≤ m 0 0 ∧ m 0 0 ≤ 5) ∧ (0 ≤ m 0 1 ∧ m 0 1 ≤ 8) ∧ ∀ j, 0 ≤ j → j < m 0 1 → (0 ≤ m 1 j ∧ m 1 j < m 0 0) ∧ (0 ≤ m 2 j ∧ m 2 j < m 0 0) ∧ (m 4 j = 0 ∨ m 4 j = 1) ∧ (1 ≤ m 3 j ∧ m 3 j ≤ 2) ∧ m 1 j ≠ m 2 j
def xi_mt (m : en_M) : Prop := (0 ≤ m 21 1 ∧ m 21 1 ≤ 10) ∧ ∀ i, 0 ≤ i → i < m 21 1 → ((m 22 i = 1 ∧ 0 ≤ m 23 i ∧ m 23 i < m 0 0) ∨ (m 22 i = 0 ∧ 0 ≤ m 23 i ∧ m 23 i < m 0 1)) ∧ (m 26 i = 0 ∨ m 26 i = 1) ∧ (-50 ≤ m 24 i ∧ m 24 i ≤ 50) ∧ (1 ≤ m 25 i ∧ m 25 i ≤ 2)
def xl_r (m : en_M) : Prop := ∀ b, 0 ≤ b → b < 5 → m 5 b = gs_it (m 0 1).toNat (m 1) (m 2) (m 4) 4 b
def xl_g (m : en_M) : Prop := (∀ j b, 0 ≤ j → j < m 0 1 → 0 ≤ b → b < 5 → m (8 + j) b = gs_fg (m 1) (m 2) (m 3) (m 4) j b) ∧ ∀ p b, 0 ≤ p → p < 5 → 0 ≤ b → b < 5 → m (16 + p) b = gs_ig (m 1) (m 2) (gs_fg (m 1) (m 2) (m 3) (m 4)) (m 0 1).toNat p b
def xl (m : en_M) : Prop := xi_ln m ∧ xi_mt m ∧ xl_r m ∧ xl_g m
theorem gs_ln_off {fi se cl R : Int → Int} {j b : Int} (h : b ≠ fi j ∧ b ≠ se j) : gs_ln fi se cl R j b = R b := by
  unfold gs_ln
  by_cases c : cl j = 0
  · rw [if_pos c]
  · rw [if_neg c, if_neg h.2, if_neg h.1]
theorem gs_rd_off {fi se cl R : Int → Int} {b : Int} : ∀ n : Nat, (∀ j, 0 ≤ j → j < (n : Int) → b ≠ fi j ∧ b ≠ se j) → gs_rd fi se cl R n b = R b
  | 0, _ => rfl
  | n + 1, h => by
    have ih := gs_rd_off (fi := fi) (se := se) (cl := cl) (R := R) (b := b) n (fun j j0 j1 => h j j0 (by omega))
    simp only [gs_rd]
    rw [gs_ln_off (h n (by omega) (by omega)), ih]
theorem gs_it_off {fi se cl : Int → Int} {nl : Nat} {b : Int} (h : ∀ j, 0 ≤ j → j < (nl : Int) → b ≠ fi j ∧ b ≠ se j) : ∀ t : Nat, gs_it nl fi se cl t b = b
  | 0 => rfl
  | t + 1 => by
    simp only [gs_it]
    rw [gs_rd_off nl h, gs_it_off h t]
/-- what is the same at both ends of each closed line is the same at a bus and its reference -/
theorem gs_ln_f {fi se cl R f : Int → Int} {j : Int} (hf : cl j ≠ 0 → f (fi j) = f (se j)) (hR : ∀ b, f (R b) = f b) : ∀ b, f (gs_ln fi se cl R j b) = f b := by
  intro b
  unfold gs_ln
  by_cases c : cl j = 0
  · rw [if_pos c]
    exact hR b
  · rw [if_neg c]
    have e := hf c
    have h1 := hR (fi j)
    have h2 := hR (se j)
    have h3 : f (min (R (fi j)) (R (se j))) = f (se j) := by
      rcases Int.le_total (R (fi j)) (R (se j)) with z | z
      · rw [Int.min_eq_left z, h1, e]
      · rw [Int.min_eq_right z, h2]
    by_cases c1 : b = se j
    · rw [if_pos c1, h3, c1]
    · rw [if_neg c1]
      by_cases c2 : b = fi j
      · rw [if_pos c2, h3, c2, e]
      · rw [if_neg c2]
        exact hR b
theorem gs_rd_f {fi se cl R f : Int → Int} (hR : ∀ b, f (R b) = f b) : ∀ n : Nat, (∀ j, 0 ≤ j → j < (n : Int) → cl j ≠ 0 → f (fi j) = f (se j)) → ∀ b, f (gs_rd fi se cl R n b) = f b
  | 0, _ => hR
  | n + 1, h => by
    simp only [gs_rd]
    exact gs_ln_f (h (n : Int) (by omega) (by omega)) (gs_rd_f hR n (fun j j0 j1 => h j j0 (by omega)))
theorem gs_it_f {fi se cl f : Int → Int} {nl : Nat} (h : ∀ j, 0 ≤ j → j < (nl : Int) → cl j ≠ 0 → f (fi j) = f (se j)) : ∀ (t : Nat) (b : Int), f (gs_it nl fi se cl t b) = f b
  | 0, _ => rfl
  | t + 1, b => by
    simp only [gs_it]
    exact gs_rd_f (gs_it_f h t) nl h b
/-- a place beyond the last bus keeps its number; bus 0 is its own reference -/
theorem lk_off {m : en_M} (h : xl m) {b : Int} (b0 : m 0 0 ≤ b) (b1 : b < 5) : m 5 b = b := by
  obtain ⟨⟨n0, n1, hr⟩, -, h5, -⟩ := h
  rw [h5 b (by omega) b1]
  refine gs_it_off (fun j j0 j1 => ?_) 4
  have z := hr j j0 (by omega)
  omega
theorem lk_rng {m : en_M} (h : xl m) : ∀ b, 0 ≤ b → b < 5 → 0 ≤ m 5 b ∧ m 5 b ≤ b := by
  intro b b0 b1
  obtain ⟨⟨n0, n1, hr⟩, -, h5, -⟩ := h
  rw [h5 b b0 b1]
  exact gs_it_rng (fun j j0 j1 => by have z := hr j j0 (by omega); omega) 4 b b0
theorem lk_0 {m : en_M} (h : xl m) : m 5 0 = 0 := by
  have z := lk_rng h 0 (by decide) (by decide)
  omega
theorem gs_rd_dn (fi se cl R : Int → Int) (b : Int) (n : Nat) : ∀ k : Nat, gs_rd fi se cl R (n + k) b ≤ gs_rd fi se cl R n b
  | 0 => Int.le_refl _
  | k + 1 => by
    have ih := gs_rd_dn fi se cl R b n k
    have z := gs_ln_le fi se cl (gs_rd fi se cl R (n + k)) ((n + k : Nat) : Int) b
    show gs_ln fi se cl (gs_rd fi se cl R (n + k)) ((n + k : Nat) : Int) b ≤ _
    omega
/-- both ends of a closed line have one reference -/
theorem lk_cl {m : en_M} (h : xl m) {j : Int} (j0 : 0 ≤ j) (j1 : j < m 0 1) (hc : m 4 j ≠ 0) : m 5 (m 1 j) = m 5 (m 2 j) := by
  obtain ⟨⟨n0, n1, hr⟩, -, h5, -⟩ := h
  have hr9 : ∀ j, 0 ≤ j → j < ((m 0 1).toNat : Int) → (0 ≤ m 1 j ∧ m 1 j < ((m 0 0).toNat : Int)) ∧ 0 ≤ m 2 j ∧ m 2 j < ((m 0 0).toNat : Int) := fun j j0 j1 => by
    have z := hr j j0 (by omega)
    omega
  have st : ∀ b, 0 ≤ b → b < m 0 0 → gs_rd (m 1) (m 2) (m 4) (gs_it (m 0 1).toNat (m 1) (m 2) (m 4) 4) (m 0 1).toNat b = gs_it (m 0 1).toNat (m 1) (m 2) (m 4) 4 b := by
    intro b b0 b1
    have a := gs_it_settle (fi := m 1) (se := m 2) (cl := m 4) hr9 (by omega) b0 (by omega) (5 - (m 0 0).toNat)
    have c := gs_it_settle (fi := m 1) (se := m 2) (cl := m 4) hr9 (by omega) b0 (by omega) (6 - (m 0 0).toNat)
    rw [show (m 0 0).toNat - 1 + (5 - (m 0 0).toNat) = 4 by omega] at a
    rw [show (m 0 0).toNat - 1 + (6 - (m 0 0).toNat) = 5 by omega] at c
    exact c.trans a.symm
  have z := hr j j0 j1
  generalize hR : gs_it (m 0 1).toNat (m 1) (m 2) (m 4) 4 = R at st
  have mid : ∀ b, 0 ≤ b → b < m 0 0 → gs_rd (m 1) (m 2) (m 4) R j.toNat b = R b ∧ gs_rd (m 1) (m 2) (m 4) R (j.toNat + 1) b = R b := by
    intro b b0 b1
    have s := st b b0 b1
    have d1 := gs_rd_dn (m 1) (m 2) (m 4) R b (j.toNat + 1) ((m 0 1).toNat - (j.toNat + 1))
    rw [show j.toNat + 1 + ((m 0 1).toNat - (j.toNat + 1)) = (m 0 1).toNat by omega] at d1
    have d2 := gs_rd_dn (m 1) (m 2) (m 4) R b j.toNat 1
    have d3 := gs_rd_le (m 1) (m 2) (m 4) R b j.toNat
    omega
  have f1 := mid (m 1 j) (by omega) (by omega)
  have f2 := mid (m 2 j) (by omega) (by omega)
  have e : ∀ b, gs_rd (m 1) (m 2) (m 4) R (j.toNat + 1) b = gs_ln (m 1) (m 2) (m 4) (gs_rd (m 1) (m 2) (m 4) R j.toNat) j b := by
    intro b
    show gs_ln (m 1) (m 2) (m 4) (gs_rd (m 1) (m 2) (m 4) R j.toNat) ((j.toNat : Nat) : Int) b = _
    rw [show ((j.toNat : Nat) : Int) = j by omega]
  have g1 := f1.2
  have g2 := f2.2
  rw [e] at g1 g2
  unfold gs_ln at g1 g2
  rw [if_neg hc] at g1 g2
  rw [if_pos rfl, f1.1, f2.1] at g2
  rw [f1.1, f2.1] at g1
  rw [h5 (m 1 j) (by omega) (by omega), h5 (m 2 j) (by omega) (by omega), hR]
  by_cases c : m 1 j = m 2 j
  · rw [c]
  · rw [if_neg c, if_pos rfl] at g1
    omega
/-- a reference is its own reference -/
theorem lk_ii {m : en_M} (h : xl m) {b : Int} (b0 : 0 ≤ b) (b1 : b < 5) : m 5 (m 5 b) = m 5 b := by
  have z := gs_it_f (fi := m 1) (se := m 2) (cl := m 4) (f := m 5) (nl := (m 0 1).toNat) (fun j j0 j1 c => lk_cl h j0 (by have := h.1.2.1; omega) c) 4 b
  rw [← h.2.2.1 b b0 b1] at z
  exact z
/-- a meter that counts in an island grows with no bus of another one -/
theorem gs_fg_0 {m : en_M} (h : xl m) {q j b : Int} (j0 : 0 ≤ j) (j1 : j < m 0 1) (hj : m 4 j ≠ 0 → m 5 (m 1 j) = q ∨ m 5 (m 2 j) = q) (hb : m 5 b ≠ q) : gs_fg (m 1) (m 2) (m 3) (m 4) j b = 0 := by
  unfold gs_fg
  by_cases c : m 4 j = 0
  · rw [if_pos c]
    split
    · rfl
    · split <;> rfl
  · have e := lk_cl h j0 j1 c
    have z := hj c
    have q1 : m 5 (m 1 j) = q := by
      rcases z with z | z
      · exact z
      · rw [e]; exact z
    have q2 : m 5 (m 2 j) = q := by rw [← e]; exact q1
    rw [if_neg (fun x => hb (by rw [x]; exact q2)), if_neg (fun x => hb (by rw [x]; exact q1))]
theorem gs_ig_0 {m : en_M} (h : xl m) {q p b : Int} (hp : m 5 p = q) (hb : m 5 b ≠ q) : ∀ n : Nat, (n : Int) ≤ m 0 1 → gs_ig (m 1) (m 2) (gs_fg (m 1) (m 2) (m 3) (m 4)) n p b = 0
  | 0, _ => rfl
  | n + 1, hn => by
    have ih := gs_ig_0 h hp hb n (by omega)
    simp only [gs_ig]
    rw [ih]
    have e : p = m 1 (n : Int) ∨ p = m 2 (n : Int) → gs_fg (m 1) (m 2) (m 3) (m 4) (n : Int) b = 0 := fun c => gs_fg_0 h (by omega) (by omega) (fun _ => by rcases c with c | c; exact Or.inl (by rw [← c]; exact hp); exact Or.inr (by rw [← c]; exact hp)) hb
    by_cases c1 : p = m 1 (n : Int)
    · rw [e (Or.inl c1)]
      simp
    · rw [if_neg c1]
      by_cases c2 : p = m 2 (n : Int)
      · rw [e (Or.inr c2)]
        simp
      · rw [if_neg c2]
        rfl
theorem lk_g0 {m : en_M} (h : xl m) {q i b : Int} (q0 : 0 ≤ q) (i0 : 0 ≤ i) (i1 : i < m 21 1) (hi : xm_io m i = q) (b0 : 0 ≤ b) (b1 : b < 5) (hb : m 5 b ≠ q) : xm_gr m i b = 0 := by
  obtain ⟨⟨n0, n1, hr⟩, ⟨n2, hm⟩, h5, hg⟩ := id h
  have hx := (hm i i0 i1).1
  unfold xm_io at hi
  have hu : xm_iu m i = q := by
    by_cases c : m 26 i = 0
    · rw [if_pos c] at hi
      omega
    · rw [if_neg c] at hi
      exact hi
  unfold xm_iu at hu
  unfold xm_gr
  by_cases c : m 22 i = 1
  · rw [if_pos c] at hu ⊢
    rw [hg.2 (m 23 i) b (by omega) (by omega) b0 b1]
    exact gs_ig_0 h hu hb _ (by omega)
  · rw [if_neg c] at hu ⊢
    rw [hg.1 (m 23 i) b (by omega) (by omega) b0 b1]
    refine gs_fg_0 h (by omega) (by omega) (fun c4 => ?_) hb
    rw [if_neg c4] at hu
    exact Or.inl hu
/-- where meters count -/
theorem lk_iu {m : en_M} (h : xl m) {i : Int} (i0 : 0 ≤ i) (i1 : i < m 21 1) : -1 ≤ xm_iu m i ∧ xm_iu m i < m 0 0 ∧ (xm_iu m i ≠ -1 → m 5 (xm_iu m i) = xm_iu m i) := by
  obtain ⟨⟨n0, n1, hr⟩, ⟨n2, hm⟩, -, -⟩ := id h
  have hx := (hm i i0 i1).1
  unfold xm_iu
  by_cases c : m 22 i = 1
  · rw [if_pos c]
    have z := lk_rng h (m 23 i) (by omega) (by omega)
    exact ⟨by omega, by omega, fun _ => lk_ii h (by omega) (by omega)⟩
  · rw [if_neg c]
    by_cases c2 : m 4 (m 23 i) = 0
    · rw [if_pos c2]
      exact ⟨by omega, by omega, fun z => absurd rfl z⟩
    · rw [if_neg c2]
      have y := hr (m 23 i) (by omega) (by omega)
      have z := lk_rng h (m 1 (m 23 i)) (by omega) (by omega)
      exact ⟨by omega, by omega, fun _ => lk_ii h (by omega) (by omega)⟩
theorem lk_io {m : en_M} (h : xl m) {i : Int} (i0 : 0 ≤ i) (i1 : i < m 21 1) : -1 ≤ xm_io m i ∧ xm_io m i < m 0 0 ∧ (xm_io m i ≠ -1 → m 5 (xm_io m i) = xm_io m i ∧ m 26 i = 1 ∧ xm_iu m i = xm_io m i) := by
  have z := lk_iu h i0 i1
  have n := h.1.1
  have u := (h.2.1.2 i i0 i1).2.1
  unfold xm_io
  by_cases c : m 26 i = 0
  · rw [if_pos c]
    exact ⟨by omega, by omega, fun z => absurd rfl z⟩
  · rw [if_neg c]
    exact ⟨z.1, z.2.1, fun y => ⟨z.2.2 y, by omega, rfl⟩⟩
