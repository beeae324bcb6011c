/-! LINEAR ALGEBRA over the whole numbers, five columns: elimination finds the greatest number of independent columns -/
def la_d (r x : Int → Int) : Int := r 0 * x 0 + r 1 * x 1 + r 2 * x 2 + r 3 * x 3 + r 4 * x 4
def la_on (S : Int → Bool) (x : Int → Int) : Prop := ∀ b, S b = false → x b = 0
def la_nz (x : Int → Int) : Prop := x 0 ≠ 0 ∨ x 1 ≠ 0 ∨ x 2 ≠ 0 ∨ x 3 ≠ 0 ∨ x 4 ≠ 0
def la_b (b : Bool) : Nat := if b then 1 else 0
def la_ct (S : Int → Bool) : Nat := la_b (S 0) + la_b (S 1) + la_b (S 2) + la_b (S 3) + la_b (S 4)
theorem la_5 {c : Int} (h0 : 0 ≤ c) (h1 : c < 5) : c = 0 ∨ c = 1 ∨ c = 2 ∨ c = 3 ∨ c = 4 := by omega
/-- S without c -/
def la_rm (S : Int → Bool) (c : Int) : Int → Bool := fun b => S b && !(decide (b = c))
theorem la_ct_rm {S : Int → Bool} {c : Int} (h0 : 0 ≤ c) (h1 : c < 5) (h : S c = true) : la_ct (la_rm S c) + 1 = la_ct S := by
  rcases la_5 h0 h1 with rfl | rfl | rfl | rfl | rfl <;> simp [la_ct, la_rm, la_b, h] <;> omega
theorem la_ct_pos {S : Int → Bool} (h : 0 < la_ct S) : ∃ c, 0 ≤ c ∧ c < 5 ∧ S c = true := by
  apply Classical.byContradiction
  intro hn
  have key : ∀ c, 0 ≤ c → c < 5 → S c = false := fun c h0 h1 => by
    cases e : S c
    · rfl
    · exact absurd ⟨c, h0, h1, e⟩ hn
  simp [la_ct, la_b, key 0 (by omega) (by omega), key 1 (by omega) (by omega), key 2 (by omega) (by omega), key 3 (by omega) (by omega), key 4 (by omega) (by omega)] at h
theorem la_nz_of {x : Int → Int} {c : Int} (h0 : 0 ≤ c) (h1 : c < 5) (h : x c ≠ 0) : la_nz x := by
  rcases la_5 h0 h1 with rfl | rfl | rfl | rfl | rfl
  · exact Or.inl h
  · exact Or.inr (Or.inl h)
  · exact Or.inr (Or.inr (Or.inl h))
  · exact Or.inr (Or.inr (Or.inr (Or.inl h)))
  · exact Or.inr (Or.inr (Or.inr (Or.inr h)))
theorem la_nz_ex {x : Int → Int} (h : la_nz x) : ∃ c, 0 ≤ c ∧ c < 5 ∧ x c ≠ 0 := by
  rcases h with h | h | h | h | h
  · exact ⟨0, by omega, by omega, h⟩
  · exact ⟨1, by omega, by omega, h⟩
  · exact ⟨2, by omega, by omega, h⟩
  · exact ⟨3, by omega, by omega, h⟩
  · exact ⟨4, by omega, by omega, h⟩
/-- the product with a vector that is u times x', but v at c -/
theorem la_d_up (r x' : Int → Int) (u v : Int) {c : Int} (h0 : 0 ≤ c) (h1 : c < 5) (hc : x' c = 0) : la_d r (fun j => if j = c then v else u * x' j) = u * la_d r x' + v * r c := by
  rcases la_5 h0 h1 with rfl | rfl | rfl | rfl | rfl <;> simp [la_d, hc] <;> grind
theorem la_d_lin (r s x : Int → Int) (p f : Int) : la_d (fun j => p * r j - f * s j) x = p * la_d r x - f * la_d s x := by
  simp only [la_d]
  grind
/-- fewer equations than unknowns: there is an answer other than 0 -/
theorem la_more : ∀ (n : Nat) (e : Nat → Int → Int) (S : Int → Bool), n < la_ct S → ∃ x : Int → Int, la_on S x ∧ la_nz x ∧ ∀ i, i < n → la_d (e i) x = 0
  | 0, e, S, h => by
    obtain ⟨c, h0, h1, hc⟩ := la_ct_pos h
    refine ⟨fun j => if j = c then 1 else 0, fun b hb => ?_, la_nz_of h0 h1 (by simp), fun i hi => absurd hi (Nat.not_lt_zero i)⟩
    have : b ≠ c := fun q => by rw [q, hc] at hb; cases hb
    simp [this]
  | n + 1, e, S, h => by
    by_cases hz : ∃ c, 0 ≤ c ∧ c < 5 ∧ S c = true ∧ e n c ≠ 0
    · obtain ⟨c, h0, h1, hc, hne⟩ := hz
      have hct := la_ct_rm h0 h1 hc
      obtain ⟨x', a1, a2, a3⟩ := la_more n (fun i j => e n c * e i j - e i c * e n j) (la_rm S c) (by omega)
      have hxc : x' c = 0 := a1 c (by simp [la_rm])
      obtain ⟨j, j0, j1, hj⟩ := la_nz_ex a2
      have hjc : j ≠ c := fun q => by rw [q] at hj; exact hj hxc
      refine ⟨fun j => if j = c then -(la_d (e n) x') else e n c * x' j, fun b hb => ?_, la_nz_of j0 j1 ?_, fun i hi => ?_⟩
      · have hbc : b ≠ c := fun q => by rw [q, hc] at hb; cases hb
        have : x' b = 0 := a1 b (by simp [la_rm, hb])
        simp [hbc, this]
      · simp only [if_neg hjc]
        exact Int.mul_ne_zero hne hj
      · rw [la_d_up _ _ _ _ h0 h1 hxc]
        by_cases hin : i = n
        · subst hin
          grind
        · have q := a3 i (by omega)
          rw [la_d_lin] at q
          grind
    · have hv : ∀ c, 0 ≤ c → c < 5 → S c = true → e n c = 0 := fun c h0 h1 hc => Decidable.byContradiction fun q => hz ⟨c, h0, h1, hc, q⟩
      obtain ⟨x, a1, a2, a3⟩ := la_more n e S (by omega)
      refine ⟨x, a1, a2, fun i hi => ?_⟩
      by_cases hin : i = n
      · subst hin
        have key : ∀ c, 0 ≤ c → c < 5 → e i c * x c = 0 := fun c h0 h1 => by
          cases hs : S c
          · rw [a1 c hs, Int.mul_zero]
          · rw [hv c h0 h1 hs, Int.zero_mul]
        simp only [la_d, key 0 (by omega) (by omega), key 1 (by omega) (by omega), key 2 (by omega) (by omega), key 3 (by omega) (by omega), key 4 (by omega) (by omega)]
        rfl
      · exact a3 i (by omega)
/-- no vector but 0, with places in S alone, is sent to 0 by the first ten rows -/
def la_ind (A : Int → Int → Int) (S : Int → Bool) : Prop := ∀ x : Int → Int, la_on S x → (∀ i, 0 ≤ i → i < 10 → la_d (A i) x = 0) → ¬ la_nz x
/-- the first row from top on with an entry in a column; 10 if there is none -/
def la_fd (E : Int → Int → Int) (b : Int) : Nat → Int → Int
  | 0, r => r
  | f + 1, r => if E r b ≠ 0 then r else la_fd E b f (r + 1)
def la_sw (E : Int → Int → Int) (i j : Int) : Int → Int → Int := fun r => if r = i then E j else if r = j then E i else E r
def la_cb (E : Int → Int → Int) (top b : Int) : Int → Int → Int := fun r => if top < r then fun c => E top b * E r c - E r b * E top c else E r
/-- one column: the state is (how many found, the rows) -/
def la_st (s : Int × (Int → Int → Int)) (b : Int) : Int × (Int → Int → Int) :=
  if la_fd s.2 b (10 - s.1).toNat s.1 < 10 then (s.1 + 1, la_cb (la_sw s.2 (la_fd s.2 b (10 - s.1).toNat s.1) s.1) s.1 b) else s
def la_el (A : Int → Int → Int) : Nat → Int × (Int → Int → Int)
  | 0 => (0, A)
  | n + 1 => la_st (la_el A n) (n : Int)
theorem la_fd_spec (E : Int → Int → Int) (b : Int) : ∀ (f : Nat) (r : Int), r + f = 10 → (r ≤ la_fd E b f r ∧ la_fd E b f r ≤ 10 ∧ (la_fd E b f r < 10 → E (la_fd E b f r) b ≠ 0) ∧ ∀ j, r ≤ j → j < la_fd E b f r → E j b = 0)
  | 0, r, h => by
    simp only [la_fd]
    exact ⟨Int.le_refl _, by omega, fun q => absurd q (by omega), fun j h1 h2 => absurd h1 (by omega)⟩
  | f + 1, r, h => by
    simp only [la_fd]
    by_cases c : E r b ≠ 0
    · rw [if_pos c]
      exact ⟨Int.le_refl _, by omega, fun _ => c, fun j h1 h2 => absurd h1 (by omega)⟩
    · rw [if_neg c]
      obtain ⟨h1, h2, h3, h4⟩ := la_fd_spec E b f (r + 1) (by omega)
      refine ⟨by omega, h2, h3, fun j a1 a2 => ?_⟩
      by_cases e : j = r
      · rw [e]; exact Decidable.not_not.mp c
      · exact h4 j (by omega) a2
/-- what holds when the columns below n are done -/
def la_inv (A : Int → Int → Int) (n : Nat) (f : Int) (E : Int → Int → Int) (P : Int → Bool) : Prop :=
  0 ≤ f ∧ f ≤ n ∧ ((la_ct P : Nat) : Int) = f ∧ (∀ c, P c = true → 0 ≤ c ∧ c < n) ∧
  (∀ x : Int → Int, (∀ i, 0 ≤ i → i < 10 → la_d (E i) x = 0) ↔ (∀ i, 0 ≤ i → i < 10 → la_d (A i) x = 0)) ∧
  (∀ i c : Int, f ≤ i → i < 10 → 0 ≤ c → c < (n : Int) → E i c = 0) ∧
  (∀ x : Int → Int, la_on P x → (∀ i, 0 ≤ i → i < f → la_d (E i) x = 0) → ¬ la_nz x)
theorem la_inv_0 (A : Int → Int → Int) : la_inv A 0 0 A (fun _ => false) := by
  refine ⟨by omega, by omega, by simp [la_ct, la_b], fun c h => (by cases h), fun x => Iff.rfl, fun i c _ _ h1 h2 => absurd h1 (by omega), fun x hx _ hz => ?_⟩
  obtain ⟨c, _, _, h⟩ := la_nz_ex hz
  exact h (hx c rfl)
theorem la_d_tail {r x : Int → Int} {n : Nat} (hn : n < 5) (hr : ∀ c : Int, 0 ≤ c → c < (n : Int) → r c = 0) (hx : ∀ c, (n : Int) < c → x c = 0) : la_d r x = r (n : Int) * x (n : Int) := by
  have : n = 0 ∨ n = 1 ∨ n = 2 ∨ n = 3 ∨ n = 4 := by omega
  rcases this with rfl | rfl | rfl | rfl | rfl
  · simp [la_d, hx 1 (by omega), hx 2 (by omega), hx 3 (by omega), hx 4 (by omega)]
  · simp [la_d, hr 0 (by omega) (by omega), hx 2 (by omega), hx 3 (by omega), hx 4 (by omega)]
  · simp [la_d, hr 0 (by omega) (by omega), hr 1 (by omega) (by omega), hx 3 (by omega), hx 4 (by omega)]
  · simp [la_d, hr 0 (by omega) (by omega), hr 1 (by omega) (by omega), hr 2 (by omega) (by omega), hx 4 (by omega)]
  · simp [la_d, hr 0 (by omega) (by omega), hr 1 (by omega) (by omega), hr 2 (by omega) (by omega), hr 3 (by omega) (by omega)]
theorem la_inv_s {A : Int → Int → Int} {n : Nat} {f : Int} {E : Int → Int → Int} {P : Int → Bool} (hn : n < 5) (h : la_inv A n f E P) : ∃ P', la_inv A (n + 1) (la_st (f, E) (n : Int)).1 (la_st (f, E) (n : Int)).2 P' := by
  obtain ⟨h0, h1, h2, h3, h4, h5, h6⟩ := h
  obtain ⟨g1, g2, g3, g4⟩ := la_fd_spec E (n : Int) (10 - f).toNat f (by omega)
  unfold la_st
  simp only []
  generalize la_fd E (n : Int) (10 - f).toNat f = p at g1 g2 g3 g4 ⊢
  by_cases hp : p < 10
  · rw [if_pos hp]
    have hpv := g3 hp
    have hPn : P (n : Int) = false := by
      cases e : P (n : Int)
      · rfl
      · exact absurd (h3 _ e).2 (by omega)
    have hsw : ∀ x : Int → Int, (∀ i, 0 ≤ i → i < 10 → la_d (la_sw E p f i) x = 0) ↔ (∀ i, 0 ≤ i → i < 10 → la_d (E i) x = 0) := by
      intro x
      constructor
      · intro q i i0 i1
        by_cases e1 : i = p
        · have := q f (by omega) (by omega)
          unfold la_sw at this
          by_cases e2 : f = p
          · rw [if_pos e2] at this
            rw [e1, ← e2]; exact this
          · rw [if_neg e2, if_pos rfl] at this
            rw [e1]; exact this
        · by_cases e2 : i = f
          · have := q p (by omega) (by omega)
            unfold la_sw at this
            rw [if_pos rfl] at this
            rw [e2]; exact this
          · have := q i i0 i1
            unfold la_sw at this
            rw [if_neg e1, if_neg e2] at this
            exact this
      · intro q i i0 i1
        unfold la_sw
        by_cases e1 : i = p
        · rw [if_pos e1]; exact q f (by omega) (by omega)
        · rw [if_neg e1]
          by_cases e2 : i = f
          · rw [if_pos e2]; exact q p (by omega) (by omega)
          · rw [if_neg e2]; exact q i i0 i1
    have hf : la_sw E p f f = E p := by
      unfold la_sw
      by_cases e : f = p
      · rw [if_pos e, e]
      · rw [if_neg e, if_pos rfl]
    have hz : ∀ i c : Int, f ≤ i → i < 10 → 0 ≤ c → c < (n : Int) → la_sw E p f i c = 0 := by
      intro i c a1 a2 a3 a4
      unfold la_sw
      by_cases e1 : i = p
      · rw [if_pos e1]; exact h5 f c (by omega) (by omega) a3 a4
      · rw [if_neg e1]
        by_cases e2 : i = f
        · rw [if_pos e2]; exact h5 p c (by omega) (by omega) a3 a4
        · rw [if_neg e2]; exact h5 i c a1 a2 a3 a4
    have hlow : ∀ i, i < f → la_sw E p f i = E i := by
      intro i hi
      unfold la_sw
      rw [if_neg (by omega), if_neg (by omega)]
    generalize la_sw E p f = F at hsw hf hz hlow ⊢
    show ∃ P', la_inv A (n + 1) (f + 1) (la_cb F f (n : Int)) P'
    have hpiv : F f (n : Int) ≠ 0 := by rw [hf]; exact hpv
    refine ⟨fun c => P c || decide (c = (n : Int)), by omega, by omega, ?_, fun c hc => ?_, fun x => ?_, fun i c a1 a2 a3 a4 => ?_, fun x hx hr hnz => ?_⟩
    · have e1 : la_ct (la_rm (fun c => P c || decide (c = (n : Int))) (n : Int)) + 1 = la_ct (fun c => P c || decide (c = (n : Int))) := la_ct_rm (by omega) (by omega) (by simp)
      have e2 : la_rm (fun c => P c || decide (c = (n : Int))) (n : Int) = P := by
        funext c
        unfold la_rm
        by_cases e : c = (n : Int)
        · subst e; simp [hPn]
        · simp [e]
      rw [e2] at e1
      omega
    · simp only [Bool.or_eq_true, decide_eq_true_eq] at hc
      rcases hc with hc | hc
      · have := h3 c hc; omega
      · omega
    · rw [← h4 x, ← hsw x]
      have hcb : ∀ i, f < i → la_d (la_cb F f (n : Int) i) x = F f (n : Int) * la_d (F i) x - F i (n : Int) * la_d (F f) x := by
        intro i hi
        unfold la_cb
        rw [if_pos hi, la_d_lin]
      have hcl : ∀ i, ¬ f < i → la_cb F f (n : Int) i = F i := by
        intro i hi
        unfold la_cb
        rw [if_neg hi]
      constructor
      · intro q i i0 i1
        have qf := q f h0 (by omega)
        rw [hcl f (by omega)] at qf
        by_cases hi : f < i
        · have qi := q i i0 i1
          rw [hcb i hi, qf, Int.mul_zero, Int.sub_zero] at qi
          rcases Int.mul_eq_zero.mp qi with z | z
          · exact absurd z hpiv
          · exact z
        · have qi := q i i0 i1
          rw [hcl i hi] at qi
          exact qi
      · intro q i i0 i1
        by_cases hi : f < i
        · rw [hcb i hi, q i i0 i1, q f h0 (by omega), Int.mul_zero, Int.mul_zero]; rfl
        · rw [hcl i hi]; exact q i i0 i1
    · unfold la_cb
      rw [if_pos (by omega)]
      by_cases e : c = (n : Int)
      · rw [e]; grind
      · rw [hz i c (by omega) a2 a3 (by omega), hz f c (by omega) (by omega) a3 (by omega)]; simp
    · have hrow : la_d (F f) x = F f (n : Int) * x (n : Int) := by
        refine la_d_tail hn (fun c c0 c1 => hz f c (Int.le_refl _) (by omega) c0 c1) (fun c hc => hx c ?_)
        cases e : P c
        · simp [e]; omega
        · exact absurd (h3 c e).2 (by omega)
      have qf := hr f h0 (by omega)
      unfold la_cb at qf
      rw [if_neg (by omega), hrow] at qf
      have hxn : x (n : Int) = 0 := by
        rcases Int.mul_eq_zero.mp qf with z | z
        · exact absurd z hpiv
        · exact z
      refine h6 x (fun c hc => ?_) (fun i i0 i1 => ?_) hnz
      · by_cases e : c = (n : Int)
        · rw [e]; exact hxn
        · exact hx c (by simp [hc, e])
      · have qi := hr i i0 (by omega)
        unfold la_cb at qi
        rw [if_neg (by omega), hlow i i1] at qi
        exact qi
  · rw [if_neg hp]
    show ∃ P', la_inv A (n + 1) f E P'
    refine ⟨P, h0, by omega, h2, fun c hc => ?_, h4, fun i c a1 a2 a3 a4 => ?_, h6⟩
    · have := h3 c hc; omega
    · by_cases e : c = (n : Int)
      · rw [e]; exact g4 i a1 (by omega)
      · exact h5 i c a1 a2 a3 (by omega)
theorem la_el_inv (A : Int → Int → Int) : ∀ n : Nat, n ≤ 5 → ∃ P, la_inv A n (la_el A n).1 (la_el A n).2 P
  | 0, _ => ⟨_, la_inv_0 A⟩
  | n + 1, h => by
    obtain ⟨P, hP⟩ := la_el_inv A n (by omega)
    exact la_inv_s (by omega) hP
/-- what elimination answers: as many columns as can be independent -/
theorem la_rank (A : Int → Int → Int) : (∃ S, la_ind A S ∧ ((la_ct S : Nat) : Int) = (la_el A 5).1) ∧ ∀ S, la_ind A S → ((la_ct S : Nat) : Int) ≤ (la_el A 5).1 := by
  obtain ⟨P, h0, h1, h2, h3, h4, h5, h6⟩ := la_el_inv A 5 (Nat.le_refl _)
  generalize la_el A 5 = s at h0 h1 h2 h3 h4 h5 h6 ⊢
  obtain ⟨f, E⟩ := s
  simp only [] at h0 h1 h2 h3 h4 h5 h6 ⊢
  refine ⟨⟨P, fun x hx hA => h6 x hx (fun i i0 i1 => (h4 x).mpr hA i i0 (by omega)), h2⟩, fun S hS => ?_⟩
  apply Int.not_lt.mp
  intro hlt
  obtain ⟨x, a1, a2, a3⟩ := la_more f.toNat (fun i => E (i : Int)) S (by omega)
  refine hS x a1 ((h4 x).mp fun i i0 i1 => ?_) a2
  by_cases hi : i < f
  · have := a3 i.toNat (by omega)
    rw [show ((i.toNat : Nat) : Int) = i by omega] at this
    exact this
  · have hz : ∀ c, 0 ≤ c → c < 5 → E i c = 0 := fun c c0 c1 => h5 i c (by omega) i1 c0 (by omega)
    simp only [la_d, hz 0 (by omega) (by omega), hz 1 (by omega) (by omega), hz 2 (by omega) (by omega), hz 3 (by omega) (by omega), hz 4 (by omega) (by omega)]
    simp
/-! how large the entries get -/
def la_B (f : Int) : Int := if f ≤ 0 then 8 else if f ≤ 1 then 128 else if f ≤ 2 then 32768 else if f ≤ 3 then 2147483648 else 9223372036854775808
theorem la_mb {B a b : Int} (ha : -B ≤ a ∧ a ≤ B) (hb : -B ≤ b ∧ b ≤ B) : -(B * B) ≤ a * b ∧ a * b ≤ B * B := by
  have h0 : 0 ≤ B := by omega
  have h1 : (a * b).natAbs ≤ (B * B).natAbs := by
    rw [Int.natAbs_mul, Int.natAbs_mul]
    exact Nat.mul_le_mul (by omega) (by omega)
  have h2 : 0 ≤ B * B := Int.mul_nonneg h0 h0
  omega
theorem la_el_bd {A : Int → Int → Int} (hA : ∀ i c, 0 ≤ i → i < 10 → 0 ≤ c → c < 5 → -8 ≤ A i c ∧ A i c ≤ 8) : ∀ n : Nat, n ≤ 4 → 0 ≤ (la_el A n).1 ∧ (la_el A n).1 ≤ n ∧ ∀ i c, 0 ≤ i → i < 10 → 0 ≤ c → c < 5 → -(la_B (la_el A n).1) ≤ (la_el A n).2 i c ∧ (la_el A n).2 i c ≤ la_B (la_el A n).1
  | 0, _ => ⟨Int.le_refl _, Int.le_refl _, hA⟩
  | n + 1, h => by
    obtain ⟨h0, h1, h2⟩ := la_el_bd hA n (by omega)
    simp only [la_el]
    generalize la_el A n = s at h0 h1 h2 ⊢
    obtain ⟨f, E⟩ := s
    simp only [] at h0 h1 h2
    obtain ⟨g1, g2, g3, g4⟩ := la_fd_spec E (n : Int) (10 - f).toNat f (by omega)
    unfold la_st
    simp only []
    generalize la_fd E (n : Int) (10 - f).toNat f = p at g1 g2 g3 g4 ⊢
    by_cases hp : p < 10
    · rw [if_pos hp]
      have hsw : ∀ i c, 0 ≤ i → i < 10 → 0 ≤ c → c < 5 → -(la_B f) ≤ la_sw E p f i c ∧ la_sw E p f i c ≤ la_B f := by
        intro i c i0 i1 c0 c1
        unfold la_sw
        by_cases e1 : i = p
        · rw [if_pos e1]; exact h2 f c h0 (by omega) c0 c1
        · rw [if_neg e1]
          by_cases e2 : i = f
          · rw [if_pos e2]; exact h2 p c (by omega) hp c0 c1
          · rw [if_neg e2]; exact h2 i c i0 i1 c0 c1
      generalize la_sw E p f = F at hsw ⊢
      have hB : la_B f ≤ la_B (f + 1) ∧ 2 * (la_B f * la_B f) ≤ la_B (f + 1) := by
        have : f = 0 ∨ f = 1 ∨ f = 2 ∨ f = 3 := by omega
        rcases this with rfl | rfl | rfl | rfl <;> decide
      refine ⟨by show 0 ≤ f + 1; omega, by show f + 1 ≤ ((n + 1 : Nat) : Int); omega, fun i c i0 i1 c0 c1 => ?_⟩
      show -(la_B (f + 1)) ≤ la_cb F f (n : Int) i c ∧ la_cb F f (n : Int) i c ≤ la_B (f + 1)
      unfold la_cb
      by_cases e : f < i
      · rw [if_pos e]
        have q1 := la_mb (hsw f (n : Int) h0 (by omega) (by omega) (by omega)) (hsw i c i0 i1 c0 c1)
        have q2 := la_mb (hsw i (n : Int) i0 i1 (by omega) (by omega)) (hsw f c h0 (by omega) c0 c1)
        omega
      · rw [if_neg e]
        have q := hsw i c i0 i1 c0 c1
        omega
    · rw [if_neg hp]
      exact ⟨h0, by show f ≤ ((n + 1 : Nat) : Int); omega, h2⟩
theorem la_B_le (f : Int) : la_B f ≤ 9223372036854775808 := by
  unfold la_B
  split
  · decide
  · split
    · decide
    · split
      · decide
      · split <;> decide
theorem la_fd_cong {E E' : Int → Int → Int} {b : Int} : ∀ (f : Nat) (r : Int), r + f = 10 → (∀ j, r ≤ j → j < 10 → E j b = E' j b) → la_fd E b f r = la_fd E' b f r
  | 0, _, _, _ => rfl
  | f + 1, r, h, he => by
    simp only [la_fd]
    rw [he r (Int.le_refl _) (by omega), la_fd_cong f (r + 1) (by omega) (fun j j0 j1 => he j (by omega) j1)]
theorem la_el_cong {A A' : Int → Int → Int} (hA : ∀ i c, 0 ≤ i → i < 10 → 0 ≤ c → c < 5 → A i c = A' i c) : ∀ n : Nat, n ≤ 5 → (la_el A n).1 = (la_el A' n).1 ∧ 0 ≤ (la_el A n).1 ∧ (la_el A n).1 ≤ n ∧ ∀ i c, 0 ≤ i → i < 10 → 0 ≤ c → c < 5 → (la_el A n).2 i c = (la_el A' n).2 i c
  | 0, _ => ⟨rfl, Int.le_refl _, Int.le_refl _, hA⟩
  | n + 1, h => by
    obtain ⟨h1, h0, h2, h3⟩ := la_el_cong hA n (by omega)
    simp only [la_el]
    generalize la_el A n = s at h1 h0 h2 h3 ⊢
    generalize la_el A' n = s' at h1 h3 ⊢
    obtain ⟨f, E⟩ := s
    obtain ⟨f', E'⟩ := s'
    simp only [] at h1 h0 h2 h3
    subst h1
    have hfd : la_fd E (n : Int) (10 - f).toNat f = la_fd E' (n : Int) (10 - f).toNat f := la_fd_cong _ _ (by omega) (fun j j0 j1 => h3 j n (by omega) j1 (by omega) (by omega))
    have hsp := la_fd_spec E (n : Int) (10 - f).toNat f (by omega)
    unfold la_st
    simp only []
    rw [← hfd]
    generalize la_fd E (n : Int) (10 - f).toNat f = p at hsp ⊢
    by_cases hp : p < 10
    · rw [if_pos hp, if_pos hp]
      refine ⟨rfl, by show 0 ≤ f + 1; omega, by show f + 1 ≤ ((n + 1 : Nat) : Int); omega, fun i c i0 i1 c0 c1 => ?_⟩
      have key : ∀ i c, 0 ≤ i → i < 10 → 0 ≤ c → c < 5 → la_sw E p f i c = la_sw E' p f i c := by
        intro i c i0 i1 c0 c1
        unfold la_sw
        by_cases e1 : i = p
        · rw [if_pos e1, if_pos e1]; exact h3 f c h0 (by omega) c0 c1
        · rw [if_neg e1, if_neg e1]
          by_cases e2 : i = f
          · rw [if_pos e2, if_pos e2]; exact h3 p c (by omega) (by omega) c0 c1
          · rw [if_neg e2, if_neg e2]; exact h3 i c i0 i1 c0 c1
      show la_cb _ _ _ _ _ = la_cb _ _ _ _ _
      unfold la_cb
      by_cases e : f < i
      · rw [if_pos e, if_pos e, key f (n : Int) h0 (by omega) (by omega) (by omega), key i c i0 i1 c0 c1, key i (n : Int) i0 i1 (by omega) (by omega), key f c h0 (by omega) c0 c1]
      · rw [if_neg e, if_neg e]
        exact key i c i0 i1 c0 c1
    · rw [if_neg hp, if_neg hp]
      exact ⟨rfl, h0, by show f ≤ ((n + 1 : Nat) : Int); omega, h3⟩
