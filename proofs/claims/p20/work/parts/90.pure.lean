/-! PURE 16: what 'holds' asks -/
theorem xg_pos (x y : Int) : 0 < xg x y := by
  unfold xg
  omega
theorem xg_d {x y : Int} (hy : y ≠ 0) : (∃ k, x = xg x y * k) ∧ ∃ k, y = xg x y * k := by
  have g0 : 0 < Nat.gcd y.natAbs x.natAbs := Nat.gcd_pos_of_pos_left _ (by omega)
  have e : xg x y = ((Nat.gcd y.natAbs x.natAbs : Nat) : Int) := by
    unfold xg
    omega
  rw [e]
  exact ⟨Int.natAbs_dvd_natAbs.mp (by rw [Int.natAbs_natCast]; exact Nat.gcd_dvd_right _ _), Int.natAbs_dvd_natAbs.mp (by rw [Int.natAbs_natCast]; exact Nat.gcd_dvd_left _ _)⟩
theorem xg_q {x y : Int} (hy : y ≠ 0) : x.tdiv (xg x y) * xg x y = x ∧ y.tdiv (xg x y) * xg x y = y := by
  obtain ⟨⟨k, hk⟩, ⟨j, hj⟩⟩ := xg_d (x := x) hy
  have p := xg_pos x y
  constructor
  · exact Int.tdiv_mul_cancel ⟨k, hk⟩
  · exact Int.tdiv_mul_cancel ⟨j, hj⟩
theorem xg_0 {y : Int} (hy : 0 < y) : y.tdiv (xg 0 y) = 1 := by
  have e : xg 0 y = y := by
    unfold xg
    simp
    omega
  rw [e]
  exact Int.tdiv_self (by omega)
theorem xg_1 {x y : Int} (hy : 0 < y) : 1 ≤ y.tdiv (xg x y) := by
  have q := (xg_q (x := x) (show y ≠ 0 by omega)).2
  have p := xg_pos x y
  apply Decidable.byContradiction
  intro z
  have z2 := Int.mul_le_mul_of_nonneg_right (show y.tdiv (xg x y) ≤ 0 by omega) (show 0 ≤ xg x y by omega)
  omega
theorem xg_n {x y : Int} (hy : 0 < y) (hx : x ≠ 0) : x.tdiv (xg x y) ≠ 0 := by
  intro z
  have q := (xg_q (x := x) (show y ≠ 0 by omega)).1
  rw [z, Int.zero_mul] at q
  exact hx q.symm
/-- how many buses have a reference -/
def szc (R : Int → Int) (q : Int) : Nat → Int
  | 0 => 0
  | n + 1 => szc R q n + (if R (n : Int) = q then 1 else 0)
theorem szc_r (R : Int → Int) (q : Int) : ∀ n : Nat, 0 ≤ szc R q n ∧ szc R q n ≤ n
  | 0 => by simp [szc]
  | n + 1 => by
    have ih := szc_r R q n
    simp only [szc]
    split <;> omega
theorem szc_cu {R : Int → Int} {q : Int} (hq : R q = q) (q0 : 0 ≤ q) : ∀ n : Nat, szc R q n = gs_cu R q n + (if q < (n : Int) then 1 else 0)
  | 0 => by
    rw [if_neg (by omega)]
    rfl
  | n + 1 => by
    have ih := szc_cu hq q0 n
    simp only [szc, gs_cu]
    rw [ih]
    by_cases e : (n : Int) = q
    · have c1 : R (n : Int) = q := by rw [e]; exact hq
      rw [if_pos c1, if_neg (show ¬ (R (n : Int) = q ∧ (n : Int) ≠ q) from fun z => z.2 e), if_neg (show ¬ q < (n : Int) by omega), if_pos (show q < ((n + 1 : Nat) : Int) by omega)]
    · have e2 : (if q < ((n + 1 : Nat) : Int) then (1 : Int) else 0) = if q < (n : Int) then 1 else 0 := by
        by_cases c2 : q < (n : Int)
        · rw [if_pos c2, if_pos (show q < ((n + 1 : Nat) : Int) by omega)]
        · rw [if_neg c2, if_neg (show ¬ q < ((n + 1 : Nat) : Int) by omega)]
      rw [e2]
      by_cases c : R (n : Int) = q
      · rw [if_pos c, if_pos (show R (n : Int) = q ∧ (n : Int) ≠ q from ⟨c, e⟩)]
        omega
      · rw [if_neg c, if_neg (show ¬ (R (n : Int) = q ∧ (n : Int) ≠ q) from fun z => c z.1)]
        omega
theorem gs_cu_beyond {R : Int → Int} {q : Int} {a : Nat} : ∀ k : Nat, (∀ b, (a : Int) ≤ b → b < (a : Int) + k → R b = b) → gs_cu R q (a + k) = gs_cu R q a
  | 0, _ => rfl
  | k + 1, h => by
    show gs_cu R q (a + k) + _ = _
    have e := h ((a + k : Nat) : Int) (by omega) (by omega)
    rw [if_neg (fun z => z.2 (by rw [← z.1]; exact e.symm)), gs_cu_beyond k (fun b b0 b1 => h b b0 (by omega))]
    omega
theorem h_size {m : en_M} (h : xl m) {b : Int} (hb : pB m b) : szc (m 5) (m 5 b) (m 0 0).toNat = gs_cu (m 5) (m 5 b) 5 + 1 := by
  have n := h.1.1
  have r := lk_rng h b hb.1 (by omega)
  rw [szc_cu (lk_ii h hb.1 (by omega)) r.1, if_pos (by omega)]
  have e := gs_cu_beyond (R := m 5) (q := m 5 b) (a := (m 0 0).toNat) (5 - (m 0 0).toNat) (fun c c0 c1 => lk_off h (by omega) (by omega))
  rw [show (m 0 0).toNat + (5 - (m 0 0).toNat) = 5 by omega] at e
  omega
/-- how many meters count in an island -/
def myc (io : Int → Int) (q : Int) : Nat → Int
  | 0 => 0
  | n + 1 => myc io q n + (if io (n : Int) = q then 1 else 0)
theorem myc_r (io : Int → Int) (q : Int) : ∀ n : Nat, 0 ≤ myc io q n ∧ myc io q n ≤ n
  | 0 => by simp [myc]
  | n + 1 => by
    have ih := myc_r io q n
    simp only [myc]
    split <;> omega
theorem myc_e (io : Int → Int) (q : Int) (r : Int → Int → Int) : ∀ n : Nat, ∃ e : Nat → Int → Int, ∀ i, 0 ≤ i → i < (n : Int) → io i = q → ∃ j : Nat, j < (myc io q n).toNat ∧ e j = r i
  | 0 => ⟨fun _ _ => 0, fun i i0 i1 => absurd i1 (by omega)⟩
  | n + 1 => by
    obtain ⟨e, he⟩ := myc_e io q r n
    have b := myc_r io q n
    simp only [myc]
    by_cases c : io (n : Int) = q
    · refine ⟨fun j => if j = (myc io q n).toNat then r (n : Int) else e j, fun i i0 i1 hi => ?_⟩
      rw [if_pos c]
      by_cases en : i = (n : Int)
      · exact ⟨(myc io q n).toNat, by omega, by rw [en]; exact if_pos rfl⟩
      · obtain ⟨j, j1, j2⟩ := he i i0 (by omega) hi
        exact ⟨j, by omega, by rw [← j2]; exact if_neg (by omega)⟩
    · refine ⟨e, fun i i0 i1 hi => ?_⟩
      rw [if_neg c, Int.add_zero]
      have ne : i ≠ (n : Int) := fun z => c (by rw [← z]; exact hi)
      exact he i i0 (by omega) hi
theorem h_many {m : en_M} (h : xl m) (lo q : Int) : xm_rk m lo q ≤ myc (xm_io m) q (m 21 1).toNat := by
  obtain ⟨⟨S, s1, s2⟩, -⟩ := la_rank (xm_row m lo q)
  obtain ⟨e, he⟩ := myc_e (xm_io m) q (xm_row m lo q) (m 21 1).toNat
  have b := myc_r (xm_io m) q (m 21 1).toNat
  have n := h.2.1.1
  unfold xm_rk
  apply Decidable.byContradiction
  intro z
  obtain ⟨x, x1, x2, x3⟩ := la_more (myc (xm_io m) q (m 21 1).toNat).toNat e S (by omega)
  refine s1 x x1 (fun i i0 i1 => ?_) x2
  by_cases c : i < m 21 1 ∧ i ≠ lo ∧ xm_io m i = q
  · obtain ⟨j, j1, j2⟩ := he i i0 (by omega) c.2.2
    rw [← j2]
    exact x3 j j1
  · have t0 : ∀ b, xm_row m lo q i b = 0 := by
      intro b
      unfold xm_row
      rw [if_neg (fun z => c z.1)]
    unfold la_d
    rw [t0, t0, t0, t0, t0]
    simp
/-- the worst meter counts there, and its residual isn't 0 -/
theorem wm_spec {io ws : Int → Int} {q : Int} : ∀ n : Nat, (∀ i, 0 ≤ i → i < (n : Int) → en_i64 (ws i)) → gm_wm io ws q n = (-1, 0) ∨ ((0 ≤ (gm_wm io ws q n).1 ∧ (gm_wm io ws q n).1 < (n : Int)) ∧ io (gm_wm io ws q n).1 = q ∧ ws (gm_wm io ws q n).1 = (gm_wm io ws q n).2 ∧ 0 < (gm_wm io ws q n).2)
  | 0, _ => Or.inl rfl
  | n + 1, h => by
    have ih := wm_spec (io := io) (ws := ws) (q := q) n (fun i i0 i1 => h i i0 (by omega))
    have r := h (n : Int) (by omega) (by omega)
    simp only [gm_wm]
    by_cases c : io (n : Int) = q ∧ en_w64 (gm_wm io ws q n).2 < en_w64 (ws (n : Int))
    · rw [if_pos c]
      right
      refine ⟨⟨by omega, by omega⟩, c.1, rfl, ?_⟩
      have c2 := c.2
      rw [en_w64_id r] at c2
      rcases ih with e | ⟨a, b1, b2, b3⟩
      · rw [e, en_w64_id (show en_i64 0 by decide)] at c2
        exact c2
      · have r2 := h (gm_wm io ws q n).1 a.1 (by omega)
        rw [b2] at r2
        rw [en_w64_id r2] at c2
        exact Int.lt_trans b3 c2
    · rw [if_neg c]
      rcases ih with e | ⟨a, b⟩
      · exact Or.inl e
      · exact Or.inr ⟨⟨a.1, by omega⟩, b⟩
theorem h_worst {m : en_M} (hI : INV m) {q : Int} : xe_wm m q = -1 ∨ (pM m (xe_wm m q) ∧ xm_io m (xe_wm m q) = q ∧ xe_rs m q (xe_wm m q) ≠ 0) := by
  have x := inv_xc hI
  have n := inv_n hI
  have r : ∀ i, 0 ≤ i → i < m 21 1 → en_i64 (xe_ws m q i) := by
    intro i i0 i1
    have b := bd_rs hI.1 x.2.2.1 x.2.2.2 q i0 i1
    have a := (x.2.2.2 i i0 i1).2
    have c : -592705486848000000 ≤ gm_ab (xe_rs m q i) ∧ gm_ab (xe_rs m q i) ≤ 592705486848000000 := by
      unfold gm_ab
      split <;> omega
    have p := mb_mul (x := m 25 i) (y := gm_ab (xe_rs m q i)) (A := 2) (B := 592705486848000000) (by omega) (by omega)
    unfold xe_ws
    constructor <;> omega
  rcases wm_spec (io := xm_io m) (ws := xe_ws m q) (q := q) (m 21 1).toNat (fun i i0 i1 => r i i0 (by omega)) with e | ⟨a, b1, b2, b3⟩
  · left
    unfold xe_wm
    rw [e]
  · right
    refine ⟨⟨a.1, by unfold xe_wm; omega⟩, b1, fun z => ?_⟩
    have e : xe_ws m q (xe_wm m q) = 0 := by
      unfold xe_ws
      rw [z]
      unfold gm_ab
      split <;> omega
    have e2 : xe_ws m q (xe_wm m q) = (gm_wm (xm_io m) (xe_ws m q) q (m 21 1).toNat).2 := b2
    omega
/-- dropping a meter -/
theorem h_drop {m : en_M} (hI : INV m) {i q : Int} (q0 : 0 ≤ q) (i0 : 0 ≤ i) : xm_rk (en_set m 26 i 0) (-1) q = xm_rk m i q := by
  have e : ∀ (k : Int), k ≠ 26 → en_set m 26 i 0 k = m k := fun k hk => en_set_ne hk
  have iu : ∀ j, xm_iu (en_set m 26 i 0) j = xm_iu m j := by
    intro j
    unfold xm_iu
    rw [e 22 (by decide), e 23 (by decide), e 5 (by decide), e 4 (by decide), e 1 (by decide)]
  have gr : ∀ j b, 0 ≤ m 23 j → m 23 j < 8 → xm_gr (en_set m 26 i 0) j b = xm_gr m j b := by
    intro j b p0 p1
    unfold xm_gr
    rw [e 22 (by decide), e 23 (by decide), e (16 + m 23 j) (by omega), e (8 + m 23 j) (by omega)]
  have io : ∀ j, xm_io (en_set m 26 i 0) j = if j = i then -1 else xm_io m j := by
    intro j
    unfold xm_io
    rw [iu, en_set_f]
    by_cases c : j = i
    · rw [c, upd1_at, if_pos rfl, if_pos rfl]
    · rw [upd1_ne c, if_neg c]
  have n := inv_n hI
  unfold xm_rk
  refine (la_el_cong (fun j b j0 j1 b0 b1 => ?_) 5 (Nat.le_refl _)).1
  unfold xm_row
  rw [e 21 (by decide), io j]
  by_cases c : (j < m 21 1 ∧ j ≠ i ∧ xm_io m j = q) ∧ b ≠ q
  · have k := (inv_mt hI j j0 c.1.1).1
    rw [if_pos c, if_neg c.1.2.1, if_pos ⟨⟨c.1.1, by omega, c.1.2.2⟩, c.2⟩]
    exact gr j b (by omega) (by omega)
  · rw [if_neg c]
    by_cases ji : j = i
    · rw [if_pos ji, if_neg (fun z => by have := z.1.2.2; omega)]
    · rw [if_neg ji, if_neg (fun z => c ⟨⟨z.1.1, ji, z.1.2.2⟩, z.2⟩)]
theorem h_obs {m : en_M} (hI : INV m) {i q : Int} (q0 : 0 ≤ q) (i0 : 0 ≤ i) : obs (en_set m 26 i 0) q ↔ xm_rk m i q = gs_cu (m 5) q 5 := by
  unfold obs
  rw [h_drop hI q0 i0, en_set_ne (show (5 : Int) ≠ 26 by decide)]
theorem h_nd {m : en_M} (hI : INV m) {i : Int} (hi : pM m i) (hq : xm_io m i ≠ -1) (ho : obs m (xm_io m i)) : xm_nd m i ↔ ¬ obs (en_set m 26 i 0) (xm_io m i) := by
  have z := lk_io hI.1 hi.1 hi.2
  have q0 : 0 ≤ xm_io m i := by omega
  rw [h_obs hI q0 hi.1]
  have l := rk_le hI.1 q0 i
  unfold xm_nd
  constructor
  · rintro ⟨a, b, c⟩
    omega
  · intro c
    exact ⟨hq, ho, by omega⟩
theorem cq_io {M m : en_M} (h : cq M m) : xm_io M = xm_io m := by
  funext i
  unfold xm_io xm_iu
  rw [h.1 26 (by decide), h.1 22 (by decide), h.1 23 (by decide), h.1 5 (by decide), h.1 4 (by decide), h.1 1 (by decide)]
theorem cq_iu {M m : en_M} (h : cq M m) : xm_iu M = xm_iu m := by
  funext i
  unfold xm_iu
  rw [h.1 22 (by decide), h.1 23 (by decide), h.1 5 (by decide), h.1 4 (by decide), h.1 1 (by decide)]
