/-! PURE 1: rows written over, references, growths -/
/-- array k, its first N places written over by f -/
def en_ar (m : en_M) (k N : Int) (f : Int → Int) : en_M := fun k' j => if k' = k ∧ 0 ≤ j ∧ j < N then f j else m k' j
/-- rows b .. b + n - 1, the first N places of each written over by f -/
def en_rw (m : en_M) (b n N : Int) (f : Int → Int → Int) : en_M := fun k' j => if b ≤ k' ∧ k' < b + n ∧ 0 ≤ j ∧ j < N then f (k' - b) j else m k' j
def gs_up (f : Int → Int) (i x : Int) : Int → Int := fun j => if j = i then x else f j
theorem en_ar_set {m : en_M} {k N i x : Int} {f : Int → Int} (h0 : 0 ≤ i) (h1 : i < N) : en_set (en_ar m k N f) k i x = en_ar m k N (gs_up f i x) := by
  funext k' j
  unfold en_set en_ar gs_up
  by_cases a : k' = k <;> by_cases b : j = i <;> simp [a, b, h0, h1]
theorem en_ar_push {m : en_M} {k i x : Int} {f : Int → Int} (h0 : 0 ≤ i) (hx : f i = x) : en_set (en_ar m k i f) k i x = en_ar m k (i + 1) f := by
  funext k' j
  unfold en_set en_ar
  by_cases a : k' = k
  · subst a
    by_cases b : j = i
    · subst b
      simp [hx, h0]
      omega
    · by_cases c : 0 ≤ j ∧ j < i
      · rw [if_neg (fun q => b q.2), if_pos ⟨rfl, c⟩, if_pos ⟨rfl, by omega, by omega⟩]
      · rw [if_neg (fun q => b q.2), if_neg (fun q => c q.2), if_neg (fun q => c (by omega))]
  · simp [a]
theorem en_ar_0 {m : en_M} {k : Int} {f : Int → Int} : en_ar m k 0 f = m := by
  funext k' j
  unfold en_ar
  rw [if_neg (by omega)]
theorem en_ar_at {m : en_M} {k N j : Int} {f : Int → Int} (h0 : 0 ≤ j) (h1 : j < N) : en_ar m k N f k j = f j := by
  unfold en_ar
  rw [if_pos ⟨rfl, h0, h1⟩]
theorem en_ar_ne {m : en_M} {k N k' : Int} {f : Int → Int} (h : k' ≠ k) : en_ar m k N f k' = m k' := by
  funext j
  unfold en_ar
  rw [if_neg (fun q => h q.1)]
theorem en_ar_cong {m : en_M} {k N : Int} {f g : Int → Int} (h : ∀ j, 0 ≤ j → j < N → f j = g j) : en_ar m k N f = en_ar m k N g := by
  funext k' j
  unfold en_ar
  by_cases c : k' = k ∧ 0 ≤ j ∧ j < N
  · rw [if_pos c, if_pos c, h j c.2.1 c.2.2]
  · rw [if_neg c, if_neg c]
theorem en_ar_id {m : en_M} {k N : Int} {f : Int → Int} (h : ∀ j, 0 ≤ j → j < N → f j = m k j) : en_ar m k N f = m := by
  funext k' j
  unfold en_ar
  by_cases c : k' = k ∧ 0 ≤ j ∧ j < N
  · rw [if_pos c, h j c.2.1 c.2.2, c.1]
  · rw [if_neg c]
theorem en_set_ne {m : en_M} {k j v k' : Int} (h : k' ≠ k) : en_set m k j v k' = m k' := en_set_k h
theorem en_set_at {m : en_M} {k j v : Int} : en_set m k j v k j = v := by simp [en_set]
theorem en_set_nj {m : en_M} {k j v j' : Int} (h : j' ≠ j) : en_set m k j v k j' = m k j' := by simp [en_set, h]
theorem en_rw_ne {m : en_M} {b n N k' : Int} {f : Int → Int → Int} (h : k' < b ∨ b + n ≤ k') : en_rw m b n N f k' = m k' := by
  funext j
  unfold en_rw
  rw [if_neg (by omega)]
theorem en_rw_at {m : en_M} {b n N i j : Int} {f : Int → Int → Int} (h0 : 0 ≤ i) (h1 : i < n) (h2 : 0 ≤ j) (h3 : j < N) : en_rw m b n N f (b + i) j = f i j := by
  unfold en_rw
  rw [if_pos (by omega), show b + i - b = i by omega]
/-- the rows are as f says -/
theorem en_rw_id {m : en_M} {b n N : Int} {f : Int → Int → Int} (h : ∀ i j, 0 ≤ i → i < n → 0 ≤ j → j < N → f i j = m (b + i) j) : en_rw m b n N f = m := by
  funext k' j
  unfold en_rw
  by_cases c : b ≤ k' ∧ k' < b + n ∧ 0 ≤ j ∧ j < N
  · rw [if_pos c, h (k' - b) j (by omega) (by omega) (by omega) (by omega), show b + (k' - b) = k' by omega]
  · rw [if_neg c]
theorem en_rw_cong {m : en_M} {b n N : Int} {f g : Int → Int → Int} (h : ∀ i j, 0 ≤ i → i < n → 0 ≤ j → j < N → f i j = g i j) : en_rw m b n N f = en_rw m b n N g := by
  funext k' j
  unfold en_rw
  by_cases c : b ≤ k' ∧ k' < b + n ∧ 0 ≤ j ∧ j < N
  · rw [if_pos c, if_pos c, h (k' - b) j (by omega) (by omega) (by omega) (by omega)]
  · rw [if_neg c, if_neg c]
def gs_up2 (f : Int → Int → Int) (i j x : Int) : Int → Int → Int := fun i' j' => if i' = i ∧ j' = j then x else f i' j'
theorem en_rw_set {m : en_M} {b n N i j x : Int} {f : Int → Int → Int} (h0 : 0 ≤ i) (h1 : i < n) (h2 : 0 ≤ j) (h3 : j < N) : en_set (en_rw m b n N f) (b + i) j x = en_rw m b n N (gs_up2 f i j x) := by
  funext k' j'
  unfold en_set en_rw gs_up2
  by_cases c : b ≤ k' ∧ k' < b + n ∧ 0 ≤ j' ∧ j' < N
  · rw [if_pos c, if_pos c]
    by_cases e : k' = b + i ∧ j' = j
    · rw [if_pos e, if_pos (by omega)]
    · rw [if_neg e, if_neg (by omega)]
  · rw [if_neg c, if_neg c, if_neg (by omega)]
theorem ly_row8 {i : Int} (h0 : 0 ≤ i) (h1 : i < 8) : en_ly (8 + i) = .inl (0, 5, 0) := by
  have : i = 0 ∨ i = 1 ∨ i = 2 ∨ i = 3 ∨ i = 4 ∨ i = 5 ∨ i = 6 ∨ i = 7 := by omega
  rcases this with rfl | rfl | rfl | rfl | rfl | rfl | rfl | rfl <;> rfl
theorem ly_row16 {i : Int} (h0 : 0 ≤ i) (h1 : i < 5) : en_ly (16 + i) = .inl (0, 5, 0) := by
  have : i = 0 ∨ i = 1 ∨ i = 2 ∨ i = 3 ∨ i = 4 := by omega
  rcases this with rfl | rfl | rfl | rfl | rfl <;> rfl
theorem ly_row44 {i : Int} (h0 : 0 ≤ i) (h1 : i < 5) : en_ly (44 + i) = .inl (1, 5, 0) := by
  have : i = 0 ∨ i = 1 ∨ i = 2 ∨ i = 3 ∨ i = 4 := by omega
  rcases this with rfl | rfl | rfl | rfl | rfl <;> rfl
theorem ly_rows {p : Int} (h0 : 29 ≤ p) (h1 : p < 39) : en_ly p = .inl (1, 5, 0) := by
  have : p = 29 ∨ p = 30 ∨ p = 31 ∨ p = 32 ∨ p = 33 ∨ p = 34 ∨ p = 35 ∨ p = 36 ∨ p = 37 ∨ p = 38 := by omega
  rcases this with rfl | rfl | rfl | rfl | rfl | rfl | rfl | rfl | rfl | rfl <;> rfl
/-- one line closed: the lower reference for both its buses -/
def gs_ln (fi se cl : Int → Int) (R : Int → Int) (j : Int) : Int → Int := if cl j = 0 then R else fun b => if b = se j then min (R (fi j)) (R (se j)) else if b = fi j then min (R (fi j)) (R (se j)) else R b
def gs_rd (fi se cl : Int → Int) (R : Int → Int) : Nat → Int → Int
  | 0 => R
  | n + 1 => gs_ln fi se cl (gs_rd fi se cl R n) (n : Int)
def gs_it (nl : Nat) (fi se cl : Int → Int) : Nat → Int → Int
  | 0 => fun b => b
  | t + 1 => gs_rd fi se cl (gs_it nl fi se cl t) nl
def gs_fg (fi se sg cl : Int → Int) (l b : Int) : Int := if b = se l then -(if cl l = 0 then 0 else sg l) else if b = fi l then (if cl l = 0 then 0 else sg l) else 0
def gs_ig (fi se : Int → Int) (F : Int → Int → Int) : Nat → Int → Int → Int
  | 0, _, _ => 0
  | n + 1, p, b => (gs_ig fi se F n p b + (if p = fi (n : Int) then F (n : Int) b else 0)) - (if p = se (n : Int) then F (n : Int) b else 0)
/-- a reference never rises and stays a bus's number -/
theorem gs_rd_rng0 {fi se cl R : Int → Int} (hR : ∀ b, 0 ≤ b → 0 ≤ R b ∧ R b ≤ b) : ∀ n : Nat, (∀ j, 0 ≤ j → j < (n : Int) → 0 ≤ fi j ∧ 0 ≤ se j) → ∀ b, 0 ≤ b → 0 ≤ gs_rd fi se cl R n b ∧ gs_rd fi se cl R n b ≤ b
  | 0, _, b, hb => hR b hb
  | n + 1, hr, b, hb => by
    have ih := gs_rd_rng0 (cl := cl) hR n (fun j j0 j1 => hr j j0 (by omega))
    have h1 := hr (n : Int) (by omega) (by omega)
    have h2 := ih (fi n) h1.1
    have h3 := ih (se n) h1.2
    have h4 := ih b hb
    simp only [gs_rd, gs_ln]
    by_cases c : cl (n : Int) = 0
    · rw [if_pos c]; exact h4
    · rw [if_neg c]
      by_cases e1 : b = se (n : Int)
      · rw [if_pos e1, e1]; omega
      · rw [if_neg e1]
        by_cases e2 : b = fi (n : Int)
        · rw [if_pos e2, e2]; omega
        · rw [if_neg e2]; exact h4
theorem gs_it_rng {nl : Nat} {fi se cl : Int → Int} (hr : ∀ j, 0 ≤ j → j < (nl : Int) → 0 ≤ fi j ∧ 0 ≤ se j) : ∀ (t : Nat) (b : Int), 0 ≤ b → 0 ≤ gs_it nl fi se cl t b ∧ gs_it nl fi se cl t b ≤ b
  | 0, b, hb => ⟨hb, Int.le_refl _⟩
  | t + 1, b, hb => gs_rd_rng0 (fun b hb => gs_it_rng hr t b hb) nl hr b hb
theorem gs_rd_rng {nl : Nat} {fi se cl : Int → Int} (t n : Nat) (hn : n ≤ nl) (b : Int) (hb : 0 ≤ b) (hr : ∀ j, 0 ≤ j → j < (nl : Int) → 0 ≤ fi j ∧ 0 ≤ se j) : 0 ≤ gs_rd fi se cl (gs_it nl fi se cl t) n b ∧ gs_rd fi se cl (gs_it nl fi se cl t) n b ≤ b :=
  gs_rd_rng0 (fun b hb => gs_it_rng hr t b hb) n (fun j j0 j1 => hr j j0 (by omega)) b hb
/-- whether a line among the first n joins b and o -/
def gs_hb (fi se : Int → Int) (b o : Int) : Nat → Bool
  | 0 => false
  | n + 1 => gs_hb fi se b o n || decide ((fi (n : Int) = b ∧ se (n : Int) = o) ∨ (fi (n : Int) = o ∧ se (n : Int) = b))
theorem gs_hb_mono {fi se : Int → Int} {b o : Int} {i : Nat} (h : gs_hb fi se b o i = true) : ∀ n, gs_hb fi se b o (i + n) = true
  | 0 => h
  | n + 1 => by
    rw [show i + (n + 1) = (i + n) + 1 by omega]
    simp [gs_hb, gs_hb_mono h n]
