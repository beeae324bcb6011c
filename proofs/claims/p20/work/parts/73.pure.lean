/-! PURE 27: how much a meter grows; what class and model keep -/
/-- how many of the first n lines join p and c -/
def jn (fi se : Int → Int) (p c : Int) : Nat → Int
  | 0 => 0
  | n + 1 => jn fi se p c n + if (fi (n : Int) = p ∧ se (n : Int) = c) ∨ (fi (n : Int) = c ∧ se (n : Int) = p) then 1 else 0
theorem jn_0 (fi se : Int → Int) (p c : Int) : ∀ n : Nat, 0 ≤ jn fi se p c n
  | 0 => Int.le_refl _
  | n + 1 => by
    have ih := jn_0 fi se p c n
    simp only [jn]
    split <;> omega
theorem jn_hb (fi se : Int → Int) (p c : Int) : ∀ n : Nat, jn fi se p c n = 0 ∨ gs_hb fi se p c n = true
  | 0 => Or.inl rfl
  | n + 1 => by
    simp only [jn, gs_hb]
    by_cases e : (fi (n : Int) = p ∧ se (n : Int) = c) ∨ (fi (n : Int) = c ∧ se (n : Int) = p)
    · right
      rw [decide_eq_true e, Bool.or_true]
    · rw [if_neg e, decide_eq_false e, Bool.or_false, Int.add_zero]
      exact jn_hb fi se p c n
theorem gs_hb_sym (fi se : Int → Int) (b o : Int) : ∀ n : Nat, gs_hb fi se b o n = gs_hb fi se o b n
  | 0 => rfl
  | n + 1 => by
    simp only [gs_hb]
    rw [gs_hb_sym fi se b o n]
    congr 1
    by_cases e : (fi (n : Int) = b ∧ se (n : Int) = o) ∨ (fi (n : Int) = o ∧ se (n : Int) = b)
    · rw [decide_eq_true e, decide_eq_true (Or.symm e)]
    · rw [decide_eq_false e, decide_eq_false (fun z => e (Or.symm z))]
theorem jn_1 {fi se : Int → Int} (p c : Int) : ∀ n : Nat, (∀ k : Nat, k < n → gs_hb fi se (fi (k : Int)) (se (k : Int)) k = false) → jn fi se p c n ≤ 1
  | 0, _ => by simp [jn]
  | n + 1, hu => by
    have ih := jn_1 p c n (fun k hk => hu k (by omega))
    have u := hu n (by omega)
    have h := jn_hb fi se p c n
    simp only [jn]
    by_cases e : (fi (n : Int) = p ∧ se (n : Int) = c) ∨ (fi (n : Int) = c ∧ se (n : Int) = p)
    · rw [if_pos e]
      have z : gs_hb fi se p c n = false := by
        rcases e with e | e
        · rw [e.1, e.2] at u
          exact u
        · rw [e.1, e.2, gs_hb_sym] at u
          exact u
      rw [z] at h
      have z2 : jn fi se p c n = 0 := h.resolve_right (fun x => by cases x)
      omega
    · rw [if_neg e]
      omega
section GROW
variable {fi se sg cl : Int → Int}
def gs_w (sg cl : Int → Int) (l : Int) : Int := if cl l = 0 then 0 else sg l
theorem gs_fg_w (l b : Int) : gs_fg fi se sg cl l b = if b = se l then -(gs_w sg cl l) else if b = fi l then gs_w sg cl l else 0 := rfl
/-- with another bus's angle -/
theorem gs_ig_off {p b : Int} (hpb : p ≠ b) : ∀ n : Nat, (∀ j, 0 ≤ j → j < (n : Int) → fi j ≠ se j ∧ 0 ≤ sg j ∧ sg j ≤ 2) → -(2 * jn fi se p b n) ≤ gs_ig fi se (gs_fg fi se sg cl) n p b ∧ gs_ig fi se (gs_fg fi se sg cl) n p b ≤ 2 * jn fi se p b n
  | 0, _ => by simp [gs_ig, jn]
  | n + 1, h => by
    have ih := gs_ig_off hpb n (fun j j0 j1 => h j j0 (by omega))
    obtain ⟨h1, h2, h3⟩ := h (n : Int) (by omega) (by omega)
    have w : 0 ≤ gs_w sg cl (n : Int) ∧ gs_w sg cl (n : Int) ≤ 2 := by
      unfold gs_w
      split <;> omega
    simp only [gs_ig, jn]
    rw [gs_fg_w]
    generalize gs_w sg cl (n : Int) = w9 at w ⊢
    generalize gs_ig fi se (gs_fg fi se sg cl) n p b = g9 at ih ⊢
    generalize jn fi se p b n = j9 at ih ⊢
    by_cases c1 : p = fi (n : Int)
    · rw [if_pos c1, if_neg (show ¬ p = se (n : Int) from fun z => h1 (by rw [← c1, ← z]))]
      by_cases c2 : b = se (n : Int)
      · rw [if_pos c2, if_pos (Or.inl ⟨c1.symm, c2.symm⟩)]
        omega
      · rw [if_neg c2, if_neg (show ¬ b = fi (n : Int) from fun z => hpb (by rw [c1, z]))]
        split <;> omega
    · rw [if_neg c1]
      by_cases c3 : p = se (n : Int)
      · rw [if_pos c3, if_neg (show ¬ b = se (n : Int) from fun z => hpb (by rw [c3, z]))]
        by_cases c2 : b = fi (n : Int)
        · rw [if_pos c2, if_pos (Or.inr ⟨c2.symm, c3.symm⟩)]
          omega
        · rw [if_neg c2]
          split <;> omega
      · rw [if_neg c3]
        split <;> omega
/-- with its own angle -/
theorem gs_ig_on {p : Int} : ∀ n : Nat, (∀ j, 0 ≤ j → j < (n : Int) → fi j ≠ se j ∧ (0 ≤ sg j ∧ sg j ≤ 2) ∧ (0 ≤ fi j ∧ fi j < 5) ∧ 0 ≤ se j ∧ se j < 5) → 0 ≤ gs_ig fi se (gs_fg fi se sg cl) n p p ∧ gs_ig fi se (gs_fg fi se sg cl) n p p ≤ 2 * (jn fi se p 0 n + jn fi se p 1 n + jn fi se p 2 n + jn fi se p 3 n + jn fi se p 4 n)
  | 0, _ => by simp [gs_ig, jn]
  | n + 1, h => by
    have ih := gs_ig_on (p := p) n (fun j j0 j1 => h j j0 (by omega))
    obtain ⟨h1, h2, h3, h4, h5⟩ := h (n : Int) (by omega) (by omega)
    have w : 0 ≤ gs_w sg cl (n : Int) ∧ gs_w sg cl (n : Int) ≤ 2 := by
      unfold gs_w
      split <;> omega
    have i0 : ∀ c : Int, 0 ≤ (if (fi (n : Int) = p ∧ se (n : Int) = c) ∨ (fi (n : Int) = c ∧ se (n : Int) = p) then (1 : Int) else 0) := fun c => by split <;> decide
    have i1 : ∀ c : Int, ((fi (n : Int) = p ∧ se (n : Int) = c) ∨ (fi (n : Int) = c ∧ se (n : Int) = p)) → (if (fi (n : Int) = p ∧ se (n : Int) = c) ∨ (fi (n : Int) = c ∧ se (n : Int) = p) then (1 : Int) else 0) = 1 := fun c hc => if_pos hc
    simp only [gs_ig, jn]
    rw [gs_fg_w]
    have a0 := i0 0
    have a1 := i0 1
    have a2 := i0 2
    have a3 := i0 3
    have a4 := i0 4
    have b0 := i1 0
    have b1 := i1 1
    have b2 := i1 2
    have b3 := i1 3
    have b4 := i1 4
    generalize gs_w sg cl (n : Int) = w9 at w ⊢
    generalize gs_ig fi se (gs_fg fi se sg cl) n p p = g9 at ih ⊢
    generalize (if (fi (n : Int) = p ∧ se (n : Int) = 0) ∨ (fi (n : Int) = 0 ∧ se (n : Int) = p) then (1 : Int) else 0) = x0 at a0 b0 ⊢
    generalize (if (fi (n : Int) = p ∧ se (n : Int) = 1) ∨ (fi (n : Int) = 1 ∧ se (n : Int) = p) then (1 : Int) else 0) = x1 at a1 b1 ⊢
    generalize (if (fi (n : Int) = p ∧ se (n : Int) = 2) ∨ (fi (n : Int) = 2 ∧ se (n : Int) = p) then (1 : Int) else 0) = x2 at a2 b2 ⊢
    generalize (if (fi (n : Int) = p ∧ se (n : Int) = 3) ∨ (fi (n : Int) = 3 ∧ se (n : Int) = p) then (1 : Int) else 0) = x3 at a3 b3 ⊢
    generalize (if (fi (n : Int) = p ∧ se (n : Int) = 4) ∨ (fi (n : Int) = 4 ∧ se (n : Int) = p) then (1 : Int) else 0) = x4 at a4 b4 ⊢
    by_cases c1 : p = fi (n : Int)
    · rw [if_pos c1, if_neg (show ¬ p = se (n : Int) from fun z => h1 (by rw [← c1, ← z])), if_pos c1]
      have hs : se (n : Int) = 0 ∨ se (n : Int) = 1 ∨ se (n : Int) = 2 ∨ se (n : Int) = 3 ∨ se (n : Int) = 4 := by omega
      rcases hs with e | e | e | e | e
      · have z := b0 (Or.inl ⟨c1.symm, e⟩); omega
      · have z := b1 (Or.inl ⟨c1.symm, e⟩); omega
      · have z := b2 (Or.inl ⟨c1.symm, e⟩); omega
      · have z := b3 (Or.inl ⟨c1.symm, e⟩); omega
      · have z := b4 (Or.inl ⟨c1.symm, e⟩); omega
    · rw [if_neg c1]
      by_cases c3 : p = se (n : Int)
      · rw [if_pos c3, if_pos c3]
        have hs : fi (n : Int) = 0 ∨ fi (n : Int) = 1 ∨ fi (n : Int) = 2 ∨ fi (n : Int) = 3 ∨ fi (n : Int) = 4 := by omega
        rcases hs with e | e | e | e | e
        · have z := b0 (Or.inr ⟨e, c3.symm⟩); omega
        · have z := b1 (Or.inr ⟨e, c3.symm⟩); omega
        · have z := b2 (Or.inr ⟨e, c3.symm⟩); omega
        · have z := b3 (Or.inr ⟨e, c3.symm⟩); omega
        · have z := b4 (Or.inr ⟨e, c3.symm⟩); omega
      · rw [if_neg c3]
        omega
theorem jn_self {p : Int} : ∀ n : Nat, (∀ j, 0 ≤ j → j < (n : Int) → fi j ≠ se j) → jn fi se p p n = 0
  | 0, _ => rfl
  | n + 1, h => by
    have ih := jn_self (p := p) n (fun j j0 j1 => h j j0 (by omega))
    have h1 := h (n : Int) (by omega) (by omega)
    simp only [jn]
    rw [ih, if_neg (fun z => by rcases z with z | z <;> exact h1 (by rw [z.1, z.2]))]
    rfl
theorem gs_ig_8 {p b : Int} (p0 : 0 ≤ p ∧ p < 5) (n : Nat) (h : ∀ j, 0 ≤ j → j < (n : Int) → fi j ≠ se j ∧ (0 ≤ sg j ∧ sg j ≤ 2) ∧ (0 ≤ fi j ∧ fi j < 5) ∧ 0 ≤ se j ∧ se j < 5) (hu : ∀ k : Nat, k < n → gs_hb fi se (fi (k : Int)) (se (k : Int)) k = false) : -8 ≤ gs_ig fi se (gs_fg fi se sg cl) n p b ∧ gs_ig fi se (gs_fg fi se sg cl) n p b ≤ 8 := by
  by_cases e : p = b
  · subst e
    have z := gs_ig_on (cl := cl) (p := p) n h
    have s := jn_self (fi := fi) (se := se) (p := p) n (fun j j0 j1 => (h j j0 j1).1)
    have q0 := jn_1 (fi := fi) (se := se) p 0 n hu
    have q1 := jn_1 (fi := fi) (se := se) p 1 n hu
    have q2 := jn_1 (fi := fi) (se := se) p 2 n hu
    have q3 := jn_1 (fi := fi) (se := se) p 3 n hu
    have q4 := jn_1 (fi := fi) (se := se) p 4 n hu
    have hp : p = 0 ∨ p = 1 ∨ p = 2 ∨ p = 3 ∨ p = 4 := by omega
    rcases hp with rfl | rfl | rfl | rfl | rfl <;> omega
  · have z := gs_ig_off (cl := cl) e n (fun j j0 j1 => ⟨(h j j0 j1).1, (h j j0 j1).2.1⟩)
    have q := jn_1 (fi := fi) (se := se) p b n hu
    omega
theorem gs_fg_8 {l b : Int} (h : 0 ≤ sg l ∧ sg l ≤ 2) : -8 ≤ gs_fg fi se sg cl l b ∧ gs_fg fi se sg cl l b ≤ 8 := by
  rw [gs_fg_w]
  have w : 0 ≤ gs_w sg cl l ∧ gs_w sg cl l ≤ 2 := by
    unfold gs_w
    split <;> omega
  split
  · omega
  · split <;> omega
end GROW
