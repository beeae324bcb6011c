/-! PURE 23: rank and observability, alike -/
theorem lk_rows {m : en_M} (h : xl m) (q : Int) {i : Int} (i0 : 0 ≤ i) (i1 : i < m 21 1) : (∀ r, 1 ≤ r → r ≤ 4 → dt_u (m 5) q r = true → mg_row (mo_qm m 0) q i (dt_a (dt_u (m 5) q) r) = xm_gr m i r) ∧ ∀ k, dt_a (dt_u (m 5) q) 5 ≤ k → mg_row (mo_qm m 0) q i k = 0 := by
  obtain ⟨hk, hl, hm, h5, hg, hne⟩ := id h
  have z0 := lk_0 hk hl h5
  have e1 : (mo_qm m 0 51 1) = m 0 0 := by rw [mo_qm_j (by decide), hk.1]
  refine ⟨fun r r0 r1 hu => ?_, fun k hc => ?_⟩
  · obtain ⟨g1, g2, g3⟩ := lk_un h (by omega) (by omega) (dt_u_iff.mp hu)
    rw [← g3]
    exact lk_row hk hl hm hg hne i0 i1 (by omega) g1 g2
  · have e5 := dt_a_cu (R := m 5) (q := q) z0 5 (Nat.le_refl _)
    rw [show ((5 : Nat) : Int) = 5 from rfl] at e5
    rw [e5, ← lk_cnt h q] at hc
    exact mg_row_off (mo_qm_ln hl) q i (by rw [e1]; exact hc)
theorem rk_dots {g D row T : Int → Int} {u : Int → Bool} (h : rs_H g D row T u) : la_d g D = rk_dot row T := by
  have z : ((((0 * 0 - g 0 * D 0) - g 1 * D 1) - g 2 * D 2) - g 3 * D 3) - g 4 * D 4 = (((0 * 0 - row 0 * T 0) - row 1 * T 1) - row 2 * T 2) - row 3 * T 3 := rs_all (x := 0) (y := 0) h
  unfold la_d rk_dot
  omega
theorem rk_msk {t : Int → Bool} {r y : Int → Int} (hy : ∀ k, 0 ≤ k → k < 4 → t k = false → y k = 0) : rk_dot (rk_m t r) y = rk_dot r y := by
  have e : ∀ k, 0 ≤ k → k < 4 → rk_m t r k * y k = r k * y k := by
    intro k k0 k1
    unfold rk_m
    by_cases c : t k = true
    · rw [if_pos c]
    · rw [hy k k0 k1 (by simpa using c), Int.mul_zero, Int.mul_zero]
  unfold rk_dot
  rw [e 0 (by decide) (by decide), e 1 (by decide) (by decide), e 2 (by decide) (by decide), e 3 (by decide) (by decide)]
/-- the angles of a set, of those that there are -/
def rk_t (u : Int → Bool) (s k : Int) : Bool := decide (k < dt_a u 5) && gm_tb s k
/-- its buses -/
def rk_S (u : Int → Bool) (s b : Int) : Bool := decide (0 ≤ b ∧ b < 5) && (u b && rk_t u s (dt_a u b))
def rk_on (m : en_M) (q lo i : Int) : Bool := decide (i ≠ lo ∧ xm_io m i = q)
theorem rk_S_out {u : Int → Bool} {s b : Int} (b0 : 0 ≤ b) (b1 : b < 5) : rk_S u s b = (u b && rk_t u s (dt_a u b)) := by
  unfold rk_S
  rw [decide_eq_true ⟨b0, b1⟩, Bool.true_and]
theorem rk_link {m : en_M} (h : xl m) (hv : xv_all m) (q lo s : Int) : la_ind (xm_row m lo q) (rk_S (dt_u (m 5) q) s) ↔ rk_I (rk_t (dt_u (m 5) q) s) (mg_row (mo_qm m 0) q) (rk_on m q lo) (m 21 1).toNat := by
  have z0 := lk_0 h.1 h.2.1 h.2.2.2.1
  have n9 := hv.1
  have u0 : dt_u (m 5) q 0 = false := by
    unfold dt_u
    rw [decide_eq_false_iff_not]
    exact fun z => z.2 (by rw [← z.1, z0])
  have rw9 : ∀ i, 0 ≤ i → i < m 21 1 → rk_on m q lo i = true → ∀ b, dt_u (m 5) q b = true → xm_row m lo q i b = xm_gr m i b := by
    intro i i0 i1 ho b hb
    unfold rk_on at ho
    rw [decide_eq_true_iff] at ho
    unfold xm_row
    rw [if_pos ⟨⟨i1, ho⟩, (dt_u_iff.mp hb).2⟩]
  have rs9 : ∀ i, 0 ≤ i → i < m 21 1 → rk_on m q lo i = true → ∀ x y : Int → Int, x 0 = 0 → (∀ r, 1 ≤ r → r ≤ 4 → dt_u (m 5) q r = false → x r = 0) → (∀ r, 1 ≤ r → r ≤ 4 → dt_u (m 5) q r = true → y (dt_a (dt_u (m 5) q) r) = x r) → la_d (xm_row m lo q i) x = rk_dot (mg_row (mo_qm m 0) q i) y := by
    intro i i0 i1 ho x y x0 xr xy
    obtain ⟨g1, g2⟩ := lk_rows h q i0 i1
    exact rk_dots (u := dt_u (m 5) q) ⟨x0, xr, fun r r0 r1 hu => ⟨by rw [g1 r r0 r1 hu, rw9 i i0 i1 ho r hu], xy r r0 r1 hu⟩, fun k k0 k1 hc => g2 k hc⟩
  constructor
  · intro hI y hy hd
    let x : Int → Int := fun b => if (0 ≤ b ∧ b < 5) ∧ dt_u (m 5) q b = true then y (dt_a (dt_u (m 5) q) b) else 0
    have xon : ∀ b, 0 ≤ b → b < 5 → dt_u (m 5) q b = true → x b = y (dt_a (dt_u (m 5) q) b) := fun b b0 b1 hu => if_pos ⟨⟨b0, b1⟩, hu⟩
    have xof : ∀ b, dt_u (m 5) q b = false → x b = 0 := fun b hu => if_neg (fun z => by rw [hu] at z; cases z.2)
    have hx : la_on (rk_S (dt_u (m 5) q) s) x := by
      intro b hb
      by_cases c : (0 ≤ b ∧ b < 5) ∧ dt_u (m 5) q b = true
      · rw [rk_S_out c.1.1 c.1.2, c.2, Bool.true_and] at hb
        have b0 : b ≠ 0 := fun e => by rw [e, u0] at c; cases c.2
        have z := dt_lt (dt_u (m 5) q) (r := b) (by omega) (by omega) c.2
        rw [xon b c.1.1 c.1.2 c.2]
        exact hy _ z.1 z.2.2 hb
      · exact if_neg c
    have hA : ∀ i, 0 ≤ i → i < 10 → la_d (xm_row m lo q i) x = 0 := by
      intro i i0 i1
      by_cases c : i < m 21 1 ∧ rk_on m q lo i = true
      · rw [rs9 i i0 c.1 c.2 x y (xof 0 u0) (fun r r0 r1 hu => xof r hu) (fun r r0 r1 hu => (xon r (by omega) (by omega) hu).symm), ← rk_msk hy]
        exact hd i i0 (by omega) c.2
      · have e : ∀ b, xm_row m lo q i b = 0 := by
          intro b
          unfold xm_row
          refine if_neg (fun z => c ⟨z.1.1, ?_⟩)
          unfold rk_on
          rw [decide_eq_true_iff]
          exact z.1.2
        unfold la_d
        rw [e, e, e, e, e]
        simp
    have nz := hI x hx hA
    intro k k0 k1
    by_cases c : rk_t (dt_u (m 5) q) s k = true
    · have kc : k < dt_a (dt_u (m 5) q) 5 := by
        unfold rk_t at c
        rw [Bool.and_eq_true, decide_eq_true_iff] at c
        exact c.1
      obtain ⟨b, b0, b1, hb, hk⟩ := dt_sur (dt_u (m 5) q) k0 kc
      apply Decidable.byContradiction
      intro hn
      exact nz (la_nz_of (c := b) (by omega) (by omega) (by rw [xon b (by omega) (by omega) hb, hk]; exact hn))
    · exact hy k k0 k1 (by simpa using c)
  · intro hI x hx hA hz
    have xS : ∀ b, 0 ≤ b → b < 5 → dt_u (m 5) q b = false → x b = 0 := fun b b0 b1 hu => hx b (by rw [rk_S_out b0 b1, hu, Bool.false_and])
    have xT : ∀ b, 0 ≤ b → b < 5 → rk_t (dt_u (m 5) q) s (dt_a (dt_u (m 5) q) b) = false → x b = 0 := fun b b0 b1 hu => hx b (by rw [rk_S_out b0 b1, hu, Bool.and_false])
    have ex : ∃ y : Int → Int, (∀ r, 1 ≤ r → r ≤ 4 → dt_u (m 5) q r = true → y (dt_a (dt_u (m 5) q) r) = x r) ∧ ∀ k, rk_t (dt_u (m 5) q) s k = false → y k = 0 := by
      refine ⟨fun k => if dt_u (m 5) q 1 = true ∧ dt_a (dt_u (m 5) q) 1 = k then x 1 else if dt_u (m 5) q 2 = true ∧ dt_a (dt_u (m 5) q) 2 = k then x 2 else if dt_u (m 5) q 3 = true ∧ dt_a (dt_u (m 5) q) 3 = k then x 3 else if dt_u (m 5) q 4 = true ∧ dt_a (dt_u (m 5) q) 4 = k then x 4 else 0, fun r r0 r1 hu => ?_, fun k hk => ?_⟩
      · dsimp only
        have hc : r = 1 ∨ r = 2 ∨ r = 3 ∨ r = 4 := by omega
        rcases hc with rfl | rfl | rfl | rfl
        · rw [if_pos ⟨hu, rfl⟩]
        · rw [if_neg (fun z => absurd (dt_inj (dt_u (m 5) q) (r := 1) (r' := 2) (by decide) (by decide) (by decide) (by decide) z.1 hu z.2) (by decide)), if_pos ⟨hu, rfl⟩]
        · rw [if_neg (fun z => absurd (dt_inj (dt_u (m 5) q) (r := 1) (r' := 3) (by decide) (by decide) (by decide) (by decide) z.1 hu z.2) (by decide)), if_neg (fun z => absurd (dt_inj (dt_u (m 5) q) (r := 2) (r' := 3) (by decide) (by decide) (by decide) (by decide) z.1 hu z.2) (by decide)), if_pos ⟨hu, rfl⟩]
        · rw [if_neg (fun z => absurd (dt_inj (dt_u (m 5) q) (r := 1) (r' := 4) (by decide) (by decide) (by decide) (by decide) z.1 hu z.2) (by decide)), if_neg (fun z => absurd (dt_inj (dt_u (m 5) q) (r := 2) (r' := 4) (by decide) (by decide) (by decide) (by decide) z.1 hu z.2) (by decide)), if_neg (fun z => absurd (dt_inj (dt_u (m 5) q) (r := 3) (r' := 4) (by decide) (by decide) (by decide) (by decide) z.1 hu z.2) (by decide)), if_pos ⟨hu, rfl⟩]
      · dsimp only
        by_cases c1 : dt_u (m 5) q 1 = true ∧ dt_a (dt_u (m 5) q) 1 = k
        · rw [if_pos c1]
          exact xT 1 (by decide) (by decide) (by rw [c1.2]; exact hk)
        by_cases c2 : dt_u (m 5) q 2 = true ∧ dt_a (dt_u (m 5) q) 2 = k
        · rw [if_neg c1, if_pos c2]
          exact xT 2 (by decide) (by decide) (by rw [c2.2]; exact hk)
        by_cases c3 : dt_u (m 5) q 3 = true ∧ dt_a (dt_u (m 5) q) 3 = k
        · rw [if_neg c1, if_neg c2, if_pos c3]
          exact xT 3 (by decide) (by decide) (by rw [c3.2]; exact hk)
        by_cases c4 : dt_u (m 5) q 4 = true ∧ dt_a (dt_u (m 5) q) 4 = k
        · rw [if_neg c1, if_neg c2, if_neg c3, if_pos c4]
          exact xT 4 (by decide) (by decide) (by rw [c4.2]; exact hk)
        rw [if_neg c1, if_neg c2, if_neg c3, if_neg c4]
    obtain ⟨y, y1, y2⟩ := ex
    have hy : ∀ k, 0 ≤ k → k < 4 → rk_t (dt_u (m 5) q) s k = false → y k = 0 := fun k _ _ hk => y2 k hk
    have f := hI y hy (fun i i0 i1 ho => by
      rw [rk_msk hy, ← rs9 i i0 (by omega) ho x y (xS 0 (by decide) (by decide) u0) (fun r r0 r1 hu => xS r (by omega) (by omega) hu) y1]
      exact hA i i0 (by omega))
    obtain ⟨b, b0, b1, hb⟩ := la_nz_ex hz
    apply hb
    by_cases c : dt_u (m 5) q b = true
    · have bne : b ≠ 0 := fun e => by rw [e, u0] at c; cases c
      have z := dt_lt (dt_u (m 5) q) (r := b) (by omega) (by omega) c
      rw [← y1 b (by omega) (by omega) c]
      exact f _ z.1 z.2.2
    · exact xS b b0 b1 (by simpa using c)
def rk_W (m : en_M) (i : Int) : Int := m 25 i * m 25 i
/-- the cells of a part are the masked sums -/
theorem rk_cell {m : en_M} (h : xl m) (q lo s : Int) {k : Int} (k0 : 0 ≤ k) (k1 : k < 16) : ∀ n : Nat, (n : Int) ≤ m 21 1 → mp_c (mg_P (mo_qm m 0) q lo n) s k = rk_G (rk_t (dt_u (m 5) q) s) (rk_W m) (mg_row (mo_qm m 0) q) (rk_on m q lo) (k / 4) (k % 4) n := by
  have e5 := dt_a_cu (R := m 5) (q := q) (lk_0 h.1 h.2.1 h.2.2.2.1) 5 (Nat.le_refl _)
  rw [show ((5 : Nat) : Int) = 5 from rfl] at e5
  have ec : gs_cu (mo_qm m 0 61) q (mo_qm m 0 51 1).toNat = dt_a (dt_u (m 5) q) 5 := by rw [mo_qm_j (by decide), h.1.1, lk_cnt h q, e5]
  intro n
  by_cases hb : gm_tb s (k / 4) = true ∧ gm_tb s (k % 4) = true
  · induction n with
    | zero =>
      intro _
      unfold mp_c
      rw [if_pos hb]
      simp only [mg_P, mg_B, rk_G]
      rw [ec]
      by_cases c : k % 5 = 0
      · rw [if_pos (show k / 4 = k % 4 by omega)]
        unfold rk_e
        by_cases c2 : dt_a (dt_u (m 5) q) 5 ≤ k / 5
        · have e9 : ¬ rk_t (dt_u (m 5) q) s (k / 4) = true := by
            unfold rk_t
            rw [decide_eq_false (show ¬ k / 4 < dt_a (dt_u (m 5) q) 5 by omega), Bool.false_and]
            exact fun z => by cases z
          rw [if_pos ⟨c, c2⟩, if_neg e9]
        · have e9 : rk_t (dt_u (m 5) q) s (k / 4) = true := by
            unfold rk_t
            rw [decide_eq_true (show k / 4 < dt_a (dt_u (m 5) q) 5 by omega), Bool.true_and]
            exact hb.1
          rw [if_neg (fun z => c2 z.2), if_pos e9]
      · rw [if_neg (fun z => c z.1), if_neg (by omega)]
    | succ n ih =>
      intro hn
      have ih := ih (by omega)
      unfold mp_c at ih ⊢
      rw [if_pos hb] at ih ⊢
      simp only [mg_P, rk_G]
      have eio := lk_io h.1 h.2.1 h.2.2.1 h.2.2.2.1 (i := (n : Int)) (by omega) (by omega)
      have mk : ∀ a, gm_tb s a = true → rk_m (rk_t (dt_u (m 5) q) s) (mg_row (mo_qm m 0) q (n : Int)) a = mg_row (mo_qm m 0) q (n : Int) a := by
        intro a ha
        unfold rk_m
        by_cases c : a < dt_a (dt_u (m 5) q) 5
        · rw [if_pos (show rk_t (dt_u (m 5) q) s a = true by unfold rk_t; rw [ha, decide_eq_true c]; rfl)]
        · rw [if_neg (show ¬ rk_t (dt_u (m 5) q) s a = true by unfold rk_t; rw [decide_eq_false c, Bool.false_and]; exact fun z => by cases z), (lk_rows h q (i := (n : Int)) (by omega) (by omega)).2 a (by omega)]
      rw [eio]
      by_cases c : (n : Int) ≠ lo ∧ xm_io m (n : Int) = q
      · rw [if_pos c, if_pos (show rk_on m q lo (n : Int) = true from decide_eq_true c), mk _ hb.1, mk _ hb.2, ← ih, mo_qm_kk (k := 59) (by decide) (by decide), h.1.2.2.2.2.2.2.2.2.2.2.1]
        rfl
      · rw [if_neg c, if_neg (show ¬ rk_on m q lo (n : Int) = true from fun z => c (of_decide_eq_true z))]
        exact ih
  · have e0 : mp_c (mg_P (mo_qm m 0) q lo n) s k = if k % 5 = 0 then 1 else 0 := by
      unfold mp_c
      rw [if_neg hb]
    have tf : k / 4 = k % 4 → rk_t (dt_u (m 5) q) s (k / 4) = false := by
      intro e
      have z : ¬ gm_tb s (k / 4) = true := fun z => hb ⟨z, by rw [← e]; exact z⟩
      unfold rk_t
      rw [show gm_tb s (k / 4) = false by simpa using z, Bool.and_false]
    have p0 : ∀ r : Int → Int, rk_m (rk_t (dt_u (m 5) q) s) r (k / 4) = 0 ∨ rk_m (rk_t (dt_u (m 5) q) s) r (k % 4) = 0 := by
      intro r
      by_cases c : gm_tb s (k / 4) = true
      · right
        have z : ¬ gm_tb s (k % 4) = true := fun z => hb ⟨c, z⟩
        exact if_neg (show ¬ rk_t (dt_u (m 5) q) s (k % 4) = true by unfold rk_t; rw [show gm_tb s (k % 4) = false by simpa using z, Bool.and_false]; exact fun z => by cases z)
      · left
        exact if_neg (show ¬ rk_t (dt_u (m 5) q) s (k / 4) = true by unfold rk_t; rw [show gm_tb s (k / 4) = false by simpa using c, Bool.and_false]; exact fun z => by cases z)
    intro _
    rw [e0]
    clear e0
    induction n with
    | zero =>
      simp only [rk_G, rk_e]
      by_cases c : k % 5 = 0
      · rw [if_pos c, if_pos (show k / 4 = k % 4 by omega), tf (by omega)]
        rfl
      · rw [if_neg c, if_neg (by omega)]
    | succ n ih =>
      have ih := ih (by omega)
      simp only [rk_G]
      by_cases c : rk_on m q lo (n : Int) = true
      · rw [if_pos c]
        rcases p0 (mg_row (mo_qm m 0) q (n : Int)) with e | e
        · rw [e, Int.mul_zero, Int.zero_mul, Int.add_zero]
          exact ih
        · rw [e, Int.mul_zero, Int.add_zero]
          exact ih
      · rw [if_neg c]
        exact ih
theorem lk_rbd {m : en_M} (h : xl m) (hv : xv_all m) (q : Int) {i k : Int} (i0 : 0 ≤ i) (i1 : i < m 21 1) (k0 : 0 ≤ k) : -8 ≤ mg_row (mo_qm m 0) q i k ∧ mg_row (mo_qm m 0) q i k ≤ 8 := by
  obtain ⟨g1, g2⟩ := lk_rows h q i0 i1
  by_cases c : k < dt_a (dt_u (m 5) q) 5
  · obtain ⟨b, b0, b1, hb, hk⟩ := dt_sur (dt_u (m 5) q) k0 c
    rw [← hk, g1 b b0 b1 hb]
    exact (hv.2.1 i i0 i1).2.2.2 b (by omega) (by omega)
  · rw [g2 k (by omega)]
    decide
theorem rk_part {m : en_M} (h : xl m) (hv : xv_all m) (hd : xv_rd m) (q lo s : Int) : en_w64 (md (mp_c (mg_P (mo_qm m 0) q lo (m 21 1).toNat) s)) = md (mp_c (mg_P (mo_qm m 0) q lo (m 21 1).toNat) s) ∧ (md (mp_c (mg_P (mo_qm m 0) q lo (m 21 1).toNat) s) ≠ 0 ↔ la_ind (xm_row m lo q) (rk_S (dt_u (m 5) q) s)) ∧ 0 ≤ md (mp_c (mg_P (mo_qm m 0) q lo (m 21 1).toNat) s) := by
  have n9 := hv.1
  have hC := fun k k0 k1 => rk_cell h q lo s (k := k) k0 k1 (m 21 1).toNat (by omega)
  have hW : ∀ i, 0 ≤ i → i < ((m 21 1).toNat : Int) → 1 ≤ rk_W m i ∧ rk_W m i ≤ 4 := by
    intro i i0 i1
    unfold rk_W
    have z := (hd i i0 (by omega)).2
    have hc : m 25 i = 1 ∨ m 25 i = 2 := by omega
    rcases hc with e | e <;> rw [e] <;> decide
  obtain ⟨d1, d2⟩ := rk_det (t := rk_t (dt_u (m 5) q) s) (W := rk_W m) (r := mg_row (mo_qm m 0) q) (on := rk_on m q lo) (n := (m 21 1).toNat) (fun i i0 i1 => (hW i i0 i1).1) hC
  refine ⟨en_w64_id ?_, by rw [d1, rk_link h hv], d2⟩
  have bd := md_bd (C := mp_c (mg_P (mo_qm m 0) q lo (m 21 1).toNat) s) (fun k k0 k1 => by
    rw [hC k k0 k1]
    have z := rk_G_bd (t := rk_t (dt_u (m 5) q) s) (W := rk_W m) (r := mg_row (mo_qm m 0) q) (on := rk_on m q lo) (k := k / 4) (l := k % 4) (by omega) (by omega) (m 21 1).toNat (fun i i0 i1 => ⟨hW i i0 i1, fun k k0 k1 => lk_rbd h hv q i0 (by omega) k0⟩)
    omega)
  omega
