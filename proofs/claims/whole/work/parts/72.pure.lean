/-! PURE 4: the model's rows are the class's growths -/
/-- what a meter's reading grows with the angle of bus b, by the first n lines -/
def ml_full (m : en_M) (i : Int) : Nat → Int → Int
  | 0, _ => 0
  | n + 1, b => ml_full m i n b + (if m 52 (n : Int) = b then ml_sg m i (n : Int) * m 54 (n : Int) else 0) + (if m 53 (n : Int) = b then -ml_sg m i (n : Int) * m 54 (n : Int) else 0)
theorem ml_add_at {ao r : Int → Int} {b b' x nb : Int} (inj : ∀ c c', 0 ≤ c → c < nb → 0 ≤ c' → c' < nb → ao c ≠ -1 → ao c = ao c' → c = c') (b0 : 0 ≤ b ∧ b < nb) (b1 : 0 ≤ b' ∧ b' < nb) (hb : ao b ≠ -1) : ml_add ao r b' x (ao b) = r (ao b) + (if b' = b then x else 0) := by
  unfold ml_add gs_up
  by_cases c : ao b' = -1
  · rw [if_pos c, if_neg (fun e => hb (by rw [← e]; exact c))]
    omega
  · rw [if_neg c]
    by_cases e : ao b = ao b'
    · rw [if_pos e, if_pos (inj b b' b0.1 b0.2 b1.1 b1.2 hb e).symm, e]
    · rw [if_neg e, if_neg (fun z => e (by rw [z]))]
      omega
theorem ml_row_at {m : en_M} {ao : Int → Int} {i nb : Int} (inj : ∀ c c', 0 ≤ c → c < nb → 0 ≤ c' → c' < nb → ao c ≠ -1 → ao c = ao c' → c = c') {b : Int} (b0 : 0 ≤ b ∧ b < nb) (hb : ao b ≠ -1) : ∀ n : Nat, (∀ j, 0 ≤ j → j < (n : Int) → (0 ≤ m 52 j ∧ m 52 j < nb) ∧ 0 ≤ m 53 j ∧ m 53 j < nb) → ml_row m ao i n (ao b) = ml_full m i n b
  | 0, _ => rfl
  | n + 1, hr => by
    have r := hr n (by omega) (by omega)
    simp only [ml_row, ml_full]
    rw [ml_add_at inj b0 ⟨r.2.1, r.2.2⟩ hb, ml_add_at inj b0 ⟨r.1.1, r.1.2⟩ hb, ml_row_at inj b0 hb n (fun j j0 j1 => hr j j0 (by omega))]
theorem ml_row_off {m : en_M} {ao : Int → Int} {i k nb : Int} (hk : ∀ c, 0 ≤ c → c < nb → ao c ≠ k) : ∀ n : Nat, (∀ j, 0 ≤ j → j < (n : Int) → (0 ≤ m 52 j ∧ m 52 j < nb) ∧ 0 ≤ m 53 j ∧ m 53 j < nb) → ml_row m ao i n k = 0
  | 0, _ => rfl
  | n + 1, hr => by
    have r := hr n (by omega) (by omega)
    have ih := ml_row_off hk n (fun j j0 j1 => hr j j0 (by omega)) (m := m) (i := i)
    have key : ∀ (r' : Int → Int) (b x : Int), 0 ≤ b → b < nb → ml_add ao r' b x k = r' k := by
      intro r' b x h0 h1
      unfold ml_add gs_up
      by_cases c : ao b = -1
      · rw [if_pos c]
      · rw [if_neg c, if_neg (fun z => hk b h0 h1 z.symm)]
    simp only [ml_row]
    rw [key _ _ _ r.2.1 r.2.2, key _ _ _ r.1.1 r.1.2, ih]
/-- a flow's row -/
theorem ml_full_flow {m : en_M} {i j : Int} (hk : m 56 i = 0) (hj : m 57 i = j) (j0 : 0 ≤ j) (hne : m 52 j ≠ m 53 j) (b : Int) : ∀ n : Nat, ml_full m i n b = if j < (n : Int) then gs_fg (m 52) (m 53) (m 54) (m 55) j b else 0
  | 0 => by rw [if_neg (by omega)]; rfl
  | n + 1 => by
    have ih := ml_full_flow hk hj j0 hne b n
    simp only [ml_full]
    rw [ih]
    by_cases e : (n : Int) = j
    · have h1 : ¬ j < (n : Int) := by omega
      have h2 : j < ((n + 1 : Nat) : Int) := by omega
      rw [if_neg h1, if_pos h2, e]
      have s : ml_sg m i j = if m 55 j = 0 then 0 else 1 := by
        unfold ml_sg
        by_cases c : m 55 j = 0
        · rw [if_pos c, if_pos c]
        · rw [if_neg c, if_neg c, if_pos (Or.inl ⟨hk, hj⟩)]
      rw [s]
      unfold gs_fg
      by_cases c : m 55 j = 0
      · simp [c]
      · by_cases e1 : b = m 53 j
        · subst e1
          simp [c, hne]
        · have e1' : ¬ m 53 j = b := fun z => e1 z.symm
          by_cases e2 : b = m 52 j
          · subst e2
            simp [c, e1, e1']
          · have e2' : ¬ m 52 j = b := fun z => e2 z.symm
            simp [c, e1, e1', e2, e2']
    · have s : ml_sg m i (n : Int) = 0 := by
        unfold ml_sg
        by_cases c : m 55 (n : Int) = 0
        · rw [if_pos c]
        · rw [if_neg c, if_neg (by rw [hj, hk]; omega), if_neg (by rw [hk]; omega)]
      rw [s]
      simp only [Int.zero_mul, Int.neg_zero, ite_self, Int.add_zero]
      by_cases l : j < (n : Int)
      · rw [if_pos l, if_pos (by omega)]
      · rw [if_neg l, if_neg (by omega)]
/-- an injection's row -/
theorem ml_full_inj {m : en_M} {i p : Int} (hk : m 56 i = 1) (hp : m 57 i = p) (b : Int) : ∀ n : Nat, (∀ j, 0 ≤ j → j < (n : Int) → m 52 j ≠ m 53 j) → ml_full m i n b = gs_ig (m 52) (m 53) (gs_fg (m 52) (m 53) (m 54) (m 55)) n p b
  | 0, _ => rfl
  | n + 1, hne => by
    have ih := ml_full_inj hk hp b n (fun j j0 j1 => hne j j0 (by omega))
    have ne := hne n (by omega) (by omega)
    simp only [ml_full, gs_ig]
    rw [ih]
    have hs : ml_sg m i (n : Int) = if m 55 (n : Int) = 0 then 0 else if m 52 (n : Int) = p then 1 else if m 53 (n : Int) = p then -1 else 0 := by
      unfold ml_sg
      rw [hk, hp]
      by_cases c : m 55 (n : Int) = 0
      · rw [if_pos c, if_pos c]
      · rw [if_neg c, if_neg c]
        by_cases c1 : m 52 (n : Int) = p
        · rw [if_pos c1, if_pos (Or.inr ⟨rfl, c1⟩)]
        · rw [if_neg c1, if_neg (by omega)]
          by_cases c2 : m 53 (n : Int) = p
          · rw [if_pos c2, if_pos ⟨rfl, c2⟩]
          · rw [if_neg c2, if_neg (fun z => c2 z.2)]
    rw [hs]
    clear hs ih hne
    generalize gs_ig (m 52) (m 53) (gs_fg (m 52) (m 53) (m 54) (m 55)) n p b = G
    unfold gs_fg
    generalize m 52 (n : Int) = f at ne ⊢
    generalize m 53 (n : Int) = s at ne ⊢
    generalize m 54 (n : Int) = g
    by_cases c : m 55 (n : Int) = 0
    · simp [c]
    · by_cases c1 : f = p
      · subst c1
        have ne' : ¬ s = f := fun z => ne z.symm
        by_cases e1 : f = b
        · subst e1
          simp [c, ne, ne']
        · have e1' : ¬ b = f := fun z => e1 z.symm
          by_cases e2 : s = b
          · subst e2
            simp [c, ne, ne']
            try omega
          · have e2' : ¬ b = s := fun z => e2 z.symm
            simp [c, ne, ne', e1, e1', e2, e2']
      · have c1' : ¬ p = f := fun z => c1 z.symm
        by_cases c2 : s = p
        · subst c2
          by_cases e1 : f = b
          · subst e1
            simp [c, c1, c1']
            try omega
          · have e1' : ¬ b = f := fun z => e1 z.symm
            by_cases e2 : s = b
            · subst e2
              simp [c, c1, c1']
              try omega
            · have e2' : ¬ b = s := fun z => e2 z.symm
              simp [c, c1, c1', e1, e1', e2, e2']
        · have c2' : ¬ p = s := fun z => c2 z.symm
          simp [c, c1, c1', c2, c2']
