/-! PURE 22: buses and angles, sets of them -/
theorem dt_st (u : Int → Bool) : dt_a u 1 = 0 ∧ dt_a u 2 = dt_a u 1 + (if u 1 = true then 1 else 0) ∧ dt_a u 3 = dt_a u 2 + (if u 2 = true then 1 else 0) ∧ dt_a u 4 = dt_a u 3 + (if u 3 = true then 1 else 0) ∧ dt_a u 5 = dt_a u 4 + (if u 4 = true then 1 else 0) := by
  refine ⟨?_, ?_, ?_, ?_, ?_⟩ <;> simp [dt_a]
theorem dt_i (u : Int → Bool) (b : Int) : 0 ≤ (if u b = true then (1 : Int) else 0) ∧ (if u b = true then (1 : Int) else 0) ≤ 1 := by
  split <;> decide
theorem dt_mono (u : Int → Bool) {r r' : Int} (r0 : 1 ≤ r) (h : r < r') (h' : r' ≤ 5) : dt_a u r + (if u r = true then 1 else 0) ≤ dt_a u r' := by
  obtain ⟨s1, s2, s3, s4, s5⟩ := dt_st u
  have p1 := dt_i u 1
  have p2 := dt_i u 2
  have p3 := dt_i u 3
  have p4 := dt_i u 4
  generalize e1 : (if u 1 = true then (1 : Int) else 0) = i1 at s2 p1
  generalize e2 : (if u 2 = true then (1 : Int) else 0) = i2 at s3 p2
  generalize e3 : (if u 3 = true then (1 : Int) else 0) = i3 at s4 p3
  generalize e4 : (if u 4 = true then (1 : Int) else 0) = i4 at s5 p4
  have hr : r = 1 ∨ r = 2 ∨ r = 3 ∨ r = 4 := by omega
  have hr' : r' = 2 ∨ r' = 3 ∨ r' = 4 ∨ r' = 5 := by omega
  rcases hr with rfl | rfl | rfl | rfl <;> rcases hr' with rfl | rfl | rfl | rfl <;> first | omega | (rw [e1]; omega) | (rw [e2]; omega) | (rw [e3]; omega) | (rw [e4]; omega)
theorem dt_lt (u : Int → Bool) {r : Int} (r0 : 1 ≤ r) (r1 : r ≤ 4) (h : u r = true) : 0 ≤ dt_a u r ∧ dt_a u r < dt_a u 5 ∧ dt_a u r < 4 := by
  have z := dt_mono u r0 (show r < 5 by omega) (Int.le_refl 5)
  rw [if_pos h] at z
  have p : 0 ≤ dt_a u r := by
    unfold dt_a
    have w : ∀ a : Int, 0 ≤ (if a < r ∧ u a = true then (1 : Int) else 0) := fun a => by split <;> decide
    have w1 := w 1
    have w2 := w 2
    have w3 := w 3
    have w4 := w 4
    omega
  have q : dt_a u 5 ≤ 4 := by
    obtain ⟨s1, s2, s3, s4, s5⟩ := dt_st u
    have p1 := dt_i u 1
    have p2 := dt_i u 2
    have p3 := dt_i u 3
    have p4 := dt_i u 4
    omega
  omega
theorem dt_inj (u : Int → Bool) {r r' : Int} (r0 : 1 ≤ r) (r1 : r ≤ 4) (r0' : 1 ≤ r') (r1' : r' ≤ 4) (h : u r = true) (h' : u r' = true) (e : dt_a u r = dt_a u r') : r = r' := by
  apply Decidable.byContradiction
  intro hn
  rcases Int.lt_or_lt_of_ne hn with c | c
  · have z := dt_mono u r0 c (by omega)
    rw [if_pos h] at z
    omega
  · have z := dt_mono u r0' c (by omega)
    rw [if_pos h'] at z
    omega
theorem dt_sur (u : Int → Bool) {k : Int} (h0 : 0 ≤ k) (h1 : k < dt_a u 5) : ∃ b, 1 ≤ b ∧ b ≤ 4 ∧ u b = true ∧ dt_a u b = k := by
  obtain ⟨s1, s2, s3, s4, s5⟩ := dt_st u
  by_cases c4 : dt_a u 4 ≤ k
  · by_cases h : u 4 = true
    · rw [if_pos h] at s5
      exact ⟨4, by decide, by decide, h, by omega⟩
    · rw [if_neg h] at s5
      omega
  · by_cases c3 : dt_a u 3 ≤ k
    · by_cases h : u 3 = true
      · rw [if_pos h] at s4
        exact ⟨3, by decide, by decide, h, by omega⟩
      · rw [if_neg h] at s4
        omega
    · by_cases c2 : dt_a u 2 ≤ k
      · by_cases h : u 2 = true
        · rw [if_pos h] at s3
          exact ⟨2, by decide, by decide, h, by omega⟩
        · rw [if_neg h] at s3
          omega
      · by_cases h : u 1 = true
        · rw [if_pos h] at s2
          exact ⟨1, by decide, by decide, h, by omega⟩
        · rw [if_neg h] at s2
          omega
def dt_f (u1 u2 u3 u4 : Bool) : Int → Bool := fun b => if b = 1 then u1 else if b = 2 then u2 else if b = 3 then u3 else if b = 4 then u4 else false
theorem dt_f_a (u : Int → Bool) (r : Int) : dt_a u r = dt_a (dt_f (u 1) (u 2) (u 3) (u 4)) r := rfl
def dt_sum (S u : Int → Bool) : Int := (if S 1 = true then gm_p (dt_a u 1) else 0) + (if S 2 = true then gm_p (dt_a u 2) else 0) + (if S 3 = true then gm_p (dt_a u 3) else 0) + (if S 4 = true then gm_p (dt_a u 4) else 0)
def dt_ok16 (u1 u2 u3 u4 s1 s2 s3 s4 : Bool) : Bool := !(!s1 || u1) || !(!s2 || u2) || !(!s3 || u3) || !(!s4 || u4) || (decide (0 ≤ dt_sum (dt_f s1 s2 s3 s4) (dt_f u1 u2 u3 u4)) && decide (dt_sum (dt_f s1 s2 s3 s4) (dt_f u1 u2 u3 u4) < gm_p (dt_a (dt_f u1 u2 u3 u4) 5)) && decide (gm_pc (dt_sum (dt_f s1 s2 s3 s4) (dt_f u1 u2 u3 u4)) = (la_b s1 + la_b s2 + la_b s3 + la_b s4 : Nat)) && (!u1 || decide (gm_tb (dt_sum (dt_f s1 s2 s3 s4) (dt_f u1 u2 u3 u4)) (dt_a (dt_f u1 u2 u3 u4) 1) = s1)) && (!u2 || decide (gm_tb (dt_sum (dt_f s1 s2 s3 s4) (dt_f u1 u2 u3 u4)) (dt_a (dt_f u1 u2 u3 u4) 2) = s2)) && (!u3 || decide (gm_tb (dt_sum (dt_f s1 s2 s3 s4) (dt_f u1 u2 u3 u4)) (dt_a (dt_f u1 u2 u3 u4) 3) = s3)) && (!u4 || decide (gm_tb (dt_sum (dt_f s1 s2 s3 s4) (dt_f u1 u2 u3 u4)) (dt_a (dt_f u1 u2 u3 u4) 4) = s4)))
def dt_bb : List Bool := [true, false]
theorem dt_bm (b : Bool) : b ∈ dt_bb := by cases b <;> simp [dt_bb]
theorem dt_all16b : (dt_bb.all fun u1 => dt_bb.all fun u2 => dt_bb.all fun u3 => dt_bb.all fun u4 => dt_bb.all fun s1 => dt_bb.all fun s2 => dt_bb.all fun s3 => dt_bb.all fun s4 => dt_ok16 u1 u2 u3 u4 s1 s2 s3 s4) = true := by decide +kernel
theorem dt_g {a b : Bool} (h : a = true → b = true) : (!(!a || b)) = false := by
  cases a
  · rfl
  · rw [h rfl]; rfl
theorem dt_e {a b : Bool} (h1 : (!a || b) = true) (h2 : a = true) : b = true := by
  rw [h2] at h1
  exact h1
theorem dt_all16 (u1 u2 u3 u4 s1 s2 s3 s4 : Bool) (h1 : s1 = true → u1 = true) (h2 : s2 = true → u2 = true) (h3 : s3 = true → u3 = true) (h4 : s4 = true → u4 = true) :
    0 ≤ dt_sum (dt_f s1 s2 s3 s4) (dt_f u1 u2 u3 u4) ∧ dt_sum (dt_f s1 s2 s3 s4) (dt_f u1 u2 u3 u4) < gm_p (dt_a (dt_f u1 u2 u3 u4) 5) ∧ gm_pc (dt_sum (dt_f s1 s2 s3 s4) (dt_f u1 u2 u3 u4)) = (la_b s1 + la_b s2 + la_b s3 + la_b s4 : Nat) ∧
    (u1 = true → gm_tb (dt_sum (dt_f s1 s2 s3 s4) (dt_f u1 u2 u3 u4)) (dt_a (dt_f u1 u2 u3 u4) 1) = s1) ∧ (u2 = true → gm_tb (dt_sum (dt_f s1 s2 s3 s4) (dt_f u1 u2 u3 u4)) (dt_a (dt_f u1 u2 u3 u4) 2) = s2) ∧ (u3 = true → gm_tb (dt_sum (dt_f s1 s2 s3 s4) (dt_f u1 u2 u3 u4)) (dt_a (dt_f u1 u2 u3 u4) 3) = s3) ∧ (u4 = true → gm_tb (dt_sum (dt_f s1 s2 s3 s4) (dt_f u1 u2 u3 u4)) (dt_a (dt_f u1 u2 u3 u4) 4) = s4) := by
  have z := dt_all16b
  have z := List.all_eq_true.mp z u1 (dt_bm _)
  have z := List.all_eq_true.mp z u2 (dt_bm _)
  have z := List.all_eq_true.mp z u3 (dt_bm _)
  have z := List.all_eq_true.mp z u4 (dt_bm _)
  have z := List.all_eq_true.mp z s1 (dt_bm _)
  have z := List.all_eq_true.mp z s2 (dt_bm _)
  have z := List.all_eq_true.mp z s3 (dt_bm _)
  have z := List.all_eq_true.mp z s4 (dt_bm _)
  unfold dt_ok16 at z
  rw [dt_g h1, dt_g h2, dt_g h3, dt_g h4, Bool.false_or, Bool.false_or, Bool.false_or, Bool.false_or] at z
  rw [Bool.and_eq_true, Bool.and_eq_true, Bool.and_eq_true, Bool.and_eq_true, Bool.and_eq_true, Bool.and_eq_true] at z
  obtain ⟨⟨⟨⟨⟨⟨z1, z2⟩, z3⟩, z4⟩, z5⟩, z6⟩, z7⟩ := z
  exact ⟨of_decide_eq_true z1, of_decide_eq_true z2, of_decide_eq_true z3, fun h => of_decide_eq_true (dt_e z4 h), fun h => of_decide_eq_true (dt_e z5 h), fun h => of_decide_eq_true (dt_e z6 h), fun h => of_decide_eq_true (dt_e z7 h)⟩
/-- a set of buses as a set of angles -/
theorem dt_set {u S : Int → Bool} (h : ∀ r, 1 ≤ r → r ≤ 4 → S r = true → u r = true) : ∃ s : Int, 0 ≤ s ∧ s < gm_p (dt_a u 5) ∧ gm_pc s = (la_b (S 1) + la_b (S 2) + la_b (S 3) + la_b (S 4) : Nat) ∧ ∀ r, 1 ≤ r → r ≤ 4 → u r = true → gm_tb s (dt_a u r) = S r := by
  obtain ⟨a1, a2, a3, b1, b2, b3, b4⟩ := dt_all16 (u 1) (u 2) (u 3) (u 4) (S 1) (S 2) (S 3) (S 4) (h 1 (by decide) (by decide)) (h 2 (by decide) (by decide)) (h 3 (by decide) (by decide)) (h 4 (by decide) (by decide))
  refine ⟨_, a1, a2, a3, fun r r0 r1 hu => ?_⟩
  have hc : r = 1 ∨ r = 2 ∨ r = 3 ∨ r = 4 := by omega
  rcases hc with rfl | rfl | rfl | rfl
  · exact b1 hu
  · exact b2 hu
  · exact b3 hu
  · exact b4 hu
def dt_okpc (u1 u2 u3 u4 : Bool) (s : Int) : Bool := !(decide (s < gm_p (dt_a (dt_f u1 u2 u3 u4) 5))) || decide (gm_pc s = (la_b (u1 && gm_tb s (dt_a (dt_f u1 u2 u3 u4) 1)) + la_b (u2 && gm_tb s (dt_a (dt_f u1 u2 u3 u4) 2)) + la_b (u3 && gm_tb s (dt_a (dt_f u1 u2 u3 u4) 3)) + la_b (u4 && gm_tb s (dt_a (dt_f u1 u2 u3 u4) 4)) : Nat))
theorem dt_pc16b : (dt_bb.all fun u1 => dt_bb.all fun u2 => dt_bb.all fun u3 => dt_bb.all fun u4 => (List.range 32).all fun s => dt_okpc u1 u2 u3 u4 ((s : Nat) : Int)) = true := by decide +kernel
theorem dt_pc16 (u1 u2 u3 u4 : Bool) (s : Nat) (hs : s < 32) (h : ((s : Nat) : Int) < gm_p (dt_a (dt_f u1 u2 u3 u4) 5)) : gm_pc (s : Int) = (la_b (u1 && gm_tb (s : Int) (dt_a (dt_f u1 u2 u3 u4) 1)) + la_b (u2 && gm_tb (s : Int) (dt_a (dt_f u1 u2 u3 u4) 2)) + la_b (u3 && gm_tb (s : Int) (dt_a (dt_f u1 u2 u3 u4) 3)) + la_b (u4 && gm_tb (s : Int) (dt_a (dt_f u1 u2 u3 u4) 4)) : Nat) := by
  have z := dt_pc16b
  have z := List.all_eq_true.mp z u1 (dt_bm _)
  have z := List.all_eq_true.mp z u2 (dt_bm _)
  have z := List.all_eq_true.mp z u3 (dt_bm _)
  have z := List.all_eq_true.mp z u4 (dt_bm _)
  have z := List.all_eq_true.mp z s (List.mem_range.mpr hs)
  unfold dt_okpc at z
  rw [decide_eq_true h] at z
  exact of_decide_eq_true z
/-- a set of angles as a set of buses -/
theorem dt_pc {u : Int → Bool} {s : Int} (h0 : 0 ≤ s) (h1 : s < gm_p (dt_a u 5)) : gm_pc s = (la_b (u 1 && gm_tb s (dt_a u 1)) + la_b (u 2 && gm_tb s (dt_a u 2)) + la_b (u 3 && gm_tb s (dt_a u 3)) + la_b (u 4 && gm_tb s (dt_a u 4)) : Nat) := by
  have p := gm_p_rng (dt_a u 5)
  have e : ((s.toNat : Nat) : Int) = s := by omega
  have q := dt_pc16 (u 1) (u 2) (u 3) (u 4) s.toNat (by omega) (by rw [e]; exact h1)
  rw [e] at q
  exact q
