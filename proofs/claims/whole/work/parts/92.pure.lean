/-! PURE 25: a meter of an island grows with no bus of another one -/
theorem gs_rd_dn (fi se cl R : Int → Int) (b : Int) (n : Nat) : ∀ k : Nat, gs_rd fi se cl R (n + k) b ≤ gs_rd fi se cl R n b
  | 0 => Int.le_refl _
  | k + 1 => by
    have ih := gs_rd_dn fi se cl R b n k
    have z := gs_ln_le fi se cl (gs_rd fi se cl R (n + k)) ((n + k : Nat) : Int) b
    show gs_ln fi se cl (gs_rd fi se cl R (n + k)) ((n + k : Nat) : Int) b ≤ _
    omega
/-- both ends of a closed line have one reference -/
theorem lk_cl {m : en_M} (h : xl m) {j : Int} (j0 : 0 ≤ j) (j1 : j < m 0 1) (hc : m 4 j ≠ 0) : m 5 (m 1 j) = m 5 (m 2 j) := by
  obtain ⟨hk, hl, hm, h5, hg, hne⟩ := h
  obtain ⟨k1, k2, k3, k4, k5, k6, k7, -⟩ := hk
  obtain ⟨n0, n1, hr⟩ := hl
  rw [k1] at n0
  rw [k2] at n1
  rw [k1, k2, k4, k5] at hr
  have hr9 : ∀ j, 0 ≤ j → j < ((m 0 1).toNat : Int) → (0 ≤ m 1 j ∧ m 1 j < ((m 0 0).toNat : Int)) ∧ 0 ≤ m 2 j ∧ m 2 j < ((m 0 0).toNat : Int) := fun j j0 j1 => by
    have z := hr j j0 (by omega)
    omega
  have st : ∀ b, 0 ≤ b → b < m 0 0 → gs_rd (m 1) (m 2) (m 4) (gs_it (m 0 1).toNat (m 1) (m 2) (m 4) 4) (m 0 1).toNat b = gs_it (m 0 1).toNat (m 1) (m 2) (m 4) 4 b := by
    intro b b0 b1
    have a := gs_it_settle (fi := m 1) (se := m 2) (cl := m 4) hr9 (by omega) b0 (by omega) (5 - (m 0 0).toNat)
    have c := gs_it_settle (fi := m 1) (se := m 2) (cl := m 4) hr9 (by omega) b0 (by omega) (6 - (m 0 0).toNat)
    rw [show (m 0 0).toNat - 1 + (5 - (m 0 0).toNat) = 4 by omega] at a
    rw [show (m 0 0).toNat - 1 + (6 - (m 0 0).toNat) = 5 by omega] at c
    exact c.trans a.symm
  have z := hr j j0 j1
  generalize hR : gs_it (m 0 1).toNat (m 1) (m 2) (m 4) 4 = R at st
  have mid : ∀ b, 0 ≤ b → b < m 0 0 → gs_rd (m 1) (m 2) (m 4) R j.toNat b = R b ∧ gs_rd (m 1) (m 2) (m 4) R (j.toNat + 1) b = R b := by
    intro b b0 b1
    have s := st b b0 b1
    have d1 := gs_rd_dn (m 1) (m 2) (m 4) R b (j.toNat + 1) ((m 0 1).toNat - (j.toNat + 1))
    rw [show j.toNat + 1 + ((m 0 1).toNat - (j.toNat + 1)) = (m 0 1).toNat by omega] at d1
    have d2 := gs_rd_dn (m 1) (m 2) (m 4) R b j.toNat 1
    have d3 := gs_rd_le (m 1) (m 2) (m 4) R b j.toNat
    omega
  have f1 := mid (m 1 j) (by omega) (by omega)
  have f2 := mid (m 2 j) (by omega) (by omega)
  have e : ∀ b, gs_rd (m 1) (m 2) (m 4) R (j.toNat + 1) b = gs_ln (m 1) (m 2) (m 4) (gs_rd (m 1) (m 2) (m 4) R j.toNat) j b := by
    intro b
    show gs_ln (m 1) (m 2) (m 4) (gs_rd (m 1) (m 2) (m 4) R j.toNat) ((j.toNat : Nat) : Int) b = _
    rw [show ((j.toNat : Nat) : Int) = j by omega]
  have g1 := f1.2
  have g2 := f2.2
  rw [e] at g1 g2
  unfold gs_ln at g1 g2
  rw [if_neg hc] at g1 g2
  rw [if_pos rfl, f1.1, f2.1] at g2
  rw [f1.1, f2.1] at g1
  rw [h5 (m 1 j) (by omega) (by omega), h5 (m 2 j) (by omega) (by omega), hR]
  by_cases c : m 1 j = m 2 j
  · rw [c]
  · rw [if_neg c, if_pos rfl] at g1
    omega
theorem gs_fg_0 {m : en_M} (h : xl m) {q j b : Int} (j0 : 0 ≤ j) (j1 : j < m 0 1) (hj : m 4 j ≠ 0 → m 5 (m 1 j) = q ∨ m 5 (m 2 j) = q) (hb : m 5 b ≠ q) : gs_fg (m 1) (m 2) (m 3) (m 4) j b = 0 := by
  unfold gs_fg
  by_cases c : m 4 j = 0
  · rw [if_pos c]
    split
    · rfl
    · split <;> rfl
  · have e := lk_cl h j0 j1 c
    have z := hj c
    have q1 : m 5 (m 1 j) = q := by
      rcases z with z | z
      · exact z
      · rw [e]; exact z
    have q2 : m 5 (m 2 j) = q := by rw [← e]; exact q1
    rw [if_neg (fun x => hb (by rw [x]; exact q2)), if_neg (fun x => hb (by rw [x]; exact q1))]
theorem gs_ig_0 {m : en_M} (h : xl m) {q p b : Int} (hp : m 5 p = q) (hb : m 5 b ≠ q) : ∀ n : Nat, (n : Int) ≤ m 0 1 → gs_ig (m 1) (m 2) (gs_fg (m 1) (m 2) (m 3) (m 4)) n p b = 0
  | 0, _ => rfl
  | n + 1, hn => by
    have ih := gs_ig_0 h hp hb n (by omega)
    simp only [gs_ig]
    rw [ih]
    have e : p = m 1 (n : Int) ∨ p = m 2 (n : Int) → gs_fg (m 1) (m 2) (m 3) (m 4) (n : Int) b = 0 := fun c => gs_fg_0 h (by omega) (by omega) (fun _ => by rcases c with c | c; exact Or.inl (by rw [← c]; exact hp); exact Or.inr (by rw [← c]; exact hp)) hb
    by_cases c1 : p = m 1 (n : Int)
    · rw [e (Or.inl c1)]
      simp
    · rw [if_neg c1]
      by_cases c2 : p = m 2 (n : Int)
      · rw [e (Or.inr c2)]
        simp
      · rw [if_neg c2]
        rfl
theorem lk_g0 {m : en_M} (h : xl m) {q i b : Int} (q0 : 0 ≤ q) (i0 : 0 ≤ i) (i1 : i < m 21 1) (hi : xm_io m i = q) (b0 : 0 ≤ b) (b1 : b < 5) (hb : m 5 b ≠ q) : xm_gr m i b = 0 := by
  obtain ⟨hk, hl, hm, h5, hg, hne⟩ := id h
  obtain ⟨k1, k2, k3, k4, k5, k6, k7, k8, k9, k10, k11, k12⟩ := hk
  have hx := (hm.2 i i0 (by omega)).1
  have n0 := hl.1
  have n1 := hl.2.1
  rw [k1] at n0
  rw [k2] at n1
  unfold xo_m at hx
  rw [k8, k9, k1, k2] at hx
  unfold xm_io at hi
  have hu : xm_iu m i = q := by
    by_cases c : m 26 i = 0
    · rw [if_pos c] at hi
      omega
    · rw [if_neg c] at hi
      exact hi
  unfold xm_iu at hu
  unfold xm_gr
  by_cases c : m 22 i = 1
  · rw [if_pos c] at hu ⊢
    rw [hg.2 (m 23 i) b (by omega) (by omega) b0 b1]
    exact gs_ig_0 h hu hb _ (by omega)
  · rw [if_neg c] at hu ⊢
    rw [hg.1 (m 23 i) b (by omega) (by omega) b0 b1]
    refine gs_fg_0 h (by omega) (by omega) (fun c4 => ?_) hb
    rw [if_neg c4] at hu
    exact Or.inl hu
/-! PURE 26: rank, observability, needed meters, alike -/
theorem mr_rk_spec (P : Int → Int) : ∀ n : Nat, (mr_rk P n = 0 ∨ ∃ s : Nat, s < n ∧ mr_rk P n = gm_pc (s : Int) ∧ en_w64 (md (mp_c P (s : Int))) ≠ 0) ∧ ∀ s : Nat, s < n → en_w64 (md (mp_c P (s : Int))) ≠ 0 → gm_pc (s : Int) ≤ mr_rk P n
  | 0 => ⟨Or.inl rfl, fun s h => absurd h (by omega)⟩
  | n + 1 => by
    obtain ⟨g1, g2⟩ := mr_rk_spec P n
    simp only [mr_rk]
    by_cases c : mr_rk P n < gm_pc (n : Int) ∧ en_w64 (md (mp_c P (n : Int))) ≠ 0
    · rw [if_pos c]
      refine ⟨Or.inr ⟨n, by omega, rfl, c.2⟩, fun s hs he => ?_⟩
      by_cases e : s = n
      · rw [e]
        exact Int.le_refl _
      · have := g2 s (by omega) he
        omega
    · rw [if_neg c]
      refine ⟨?_, fun s hs he => ?_⟩
      · rcases g1 with g1 | ⟨s, s1, s2, s3⟩
        · exact Or.inl g1
        · exact Or.inr ⟨s, by omega, s2, s3⟩
      · by_cases e : s = n
        · subst e
          apply Decidable.byContradiction
          intro hn
          exact c ⟨by omega, he⟩
        · exact g2 s (by omega) he
theorem la_ind_mono {A : Int → Int → Int} {S S' : Int → Bool} (hI : la_ind A S) (h : ∀ b, 0 ≤ b → b < 5 → S b = false → S' b = false) : la_ind A S' := by
  intro x hx hA hz
  have ex : ∃ x' : Int → Int, (∀ b, 0 ≤ b → b < 5 → x' b = x b) ∧ ∀ b, ¬ (0 ≤ b ∧ b < 5) → x' b = 0 := ⟨fun b => if 0 ≤ b ∧ b < 5 then x b else 0, fun b h0 h1 => if_pos ⟨h0, h1⟩, fun b hb => if_neg hb⟩
  obtain ⟨x', e, e2⟩ := ex
  refine hI x' (fun b hb => ?_) (fun i i0 i1 => ?_) ?_
  · by_cases c : 0 ≤ b ∧ b < 5
    · rw [e b c.1 c.2]
      exact hx b (h b c.1 c.2 hb)
    · exact e2 b c
  · have z := hA i i0 i1
    unfold la_d at z ⊢
    rw [e 0 (by decide) (by decide), e 1 (by decide) (by decide), e 2 (by decide) (by decide), e 3 (by decide) (by decide), e 4 (by decide) (by decide)]
    exact z
  · unfold la_nz at hz ⊢
    rw [e 0 (by decide) (by decide), e 1 (by decide) (by decide), e 2 (by decide) (by decide), e 3 (by decide) (by decide), e 4 (by decide) (by decide)]
    exact hz
theorem la_ct_sub {S U : Int → Bool} (h : ∀ b, 0 ≤ b → b < 5 → S b = true → U b = true) : la_ct S ≤ la_ct U ∧ (la_ct S = la_ct U → ∀ b, 0 ≤ b → b < 5 → U b = true → S b = true) := by
  have p : ∀ b, 0 ≤ b → b < 5 → la_b (S b) ≤ la_b (U b) ∧ (la_b (S b) = la_b (U b) → U b = true → S b = true) := by
    intro b b0 b1
    have z := h b b0 b1
    cases hs : S b <;> cases hu : U b <;> simp [hs, hu, la_b] at z ⊢
  have p0 := p 0 (by decide) (by decide)
  have p1 := p 1 (by decide) (by decide)
  have p2 := p 2 (by decide) (by decide)
  have p3 := p 3 (by decide) (by decide)
  have p4 := p 4 (by decide) (by decide)
  unfold la_ct
  refine ⟨by omega, fun e b b0 b1 hu => ?_⟩
  rcases la_5 b0 b1 with rfl | rfl | rfl | rfl | rfl
  · exact p0.2 (by omega) hu
  · exact p1.2 (by omega) hu
  · exact p2.2 (by omega) hu
  · exact p3.2 (by omega) hu
  · exact p4.2 (by omega) hu
theorem dt_ct {u : Int → Bool} (h0 : u 0 = false) : ((la_ct u : Nat) : Int) = dt_a u 5 := by
  cases h1 : u 1 <;> cases h2 : u 2 <;> cases h3 : u 3 <;> cases h4 : u 4 <;> simp [la_ct, la_b, dt_a, h0, h1, h2, h3, h4]
theorem rk_ct {u : Int → Bool} {s : Int} (h0 : u 0 = false) (s0 : 0 ≤ s) (s1 : s < gm_p (dt_a u 5)) : ((la_ct (rk_S u s) : Nat) : Int) = gm_pc s := by
  rw [dt_pc s0 s1]
  have e : ∀ r, 1 ≤ r → r ≤ 4 → rk_S u s r = (u r && gm_tb s (dt_a u r)) := by
    intro r r0 r1
    rw [rk_S_out (by omega) (by omega)]
    unfold rk_t
    cases hu : u r with
    | false => rfl
    | true => rw [decide_eq_true (dt_lt u r0 r1 hu).2.1, Bool.true_and]
  unfold la_ct
  rw [e 1 (by decide) (by decide), e 2 (by decide) (by decide), e 3 (by decide) (by decide), e 4 (by decide) (by decide), rk_S_out (by decide) (by decide), h0, Bool.false_and]
  simp [la_b]
theorem rk_u0 {m : en_M} (h : xl m) (q : Int) : dt_u (m 5) q 0 = false := by
  have z0 := lk_0 h.1 h.2.1 h.2.2.2.1
  unfold dt_u
  rw [decide_eq_false_iff_not]
  exact fun z => z.2 (by rw [← z.1, z0])
theorem rk_cu {m : en_M} (h : xl m) (q : Int) : gs_cu (m 5) q 5 = dt_a (dt_u (m 5) q) 5 := by
  have e5 := dt_a_cu (R := m 5) (q := q) (lk_0 h.1 h.2.1 h.2.2.2.1) 5 (Nat.le_refl _)
  rw [show ((5 : Nat) : Int) = 5 from rfl] at e5
  exact e5.symm
/-- independent buses are unknown ones -/
theorem rk_sub {m : en_M} (h : xl m) {q lo : Int} (q0 : 0 ≤ q) {S : Int → Bool} (hI : la_ind (xm_row m lo q) S) : ∀ b, 0 ≤ b → b < 5 → S b = true → dt_u (m 5) q b = true := by
  intro b b0 b1 hS
  apply Decidable.byContradiction
  intro hu
  have ex : ∃ x : Int → Int, x b = 1 ∧ ∀ c, c ≠ b → x c = 0 := ⟨fun c => if c = b then 1 else 0, if_pos rfl, fun c hc => if_neg hc⟩
  obtain ⟨x, x1, x2⟩ := ex
  refine hI x (fun c hc => x2 c (fun e => by rw [e, hS] at hc; cases hc)) (fun i i0 i1 => ?_) (la_nz_of b0 b1 (by rw [x1]; decide))
  have z : xm_row m lo q i b = 0 := by
    unfold xm_row
    by_cases c : (i < m 21 1 ∧ i ≠ lo ∧ xm_io m i = q) ∧ b ≠ q
    · rw [if_pos c]
      exact lk_g0 h q0 i0 c.1.1 c.1.2.2 b0 b1 (fun e => hu (dt_u_iff.mpr ⟨e, c.2⟩))
    · exact if_neg c
  have t : ∀ c, 0 ≤ c → c < 5 → xm_row m lo q i c * x c = 0 := by
    intro c c0 c1
    by_cases e : c = b
    · rw [e, z, Int.zero_mul]
    · rw [x2 c e, Int.mul_zero]
  unfold la_d
  rw [t 0 (by decide) (by decide), t 1 (by decide) (by decide), t 2 (by decide) (by decide), t 3 (by decide) (by decide), t 4 (by decide) (by decide)]
  rfl
theorem rk_le {m : en_M} (h : xl m) {q : Int} (q0 : 0 ≤ q) (lo : Int) : xm_rk m lo q ≤ gs_cu (m 5) q 5 := by
  obtain ⟨⟨S, s1, s2⟩, -⟩ := la_rank (xm_row m lo q)
  have z := (la_ct_sub (rk_sub h q0 s1)).1
  have d := dt_ct (rk_u0 h q)
  rw [rk_cu h q]
  unfold xm_rk
  omega
theorem rk_rank {m : en_M} (h : xl m) (hv : xv_all m) (hd : xv_rd m) {q : Int} (q0 : 0 ≤ q) (lo : Int) : mr_rk (mg_P (mo_qm m 0) q lo (m 21 1).toNat) (gm_p (gs_cu (m 5) q 5)).toNat = xm_rk m lo q := by
  have u0 := rk_u0 h q
  rw [rk_cu h q]
  have pr := gm_p_rng (dt_a (dt_u (m 5) q) 5)
  obtain ⟨⟨S, s1, s2⟩, s3⟩ := la_rank (xm_row m lo q)
  obtain ⟨g1, g2⟩ := mr_rk_spec (mg_P (mo_qm m 0) q lo (m 21 1).toNat) (gm_p (dt_a (dt_u (m 5) q) 5)).toNat
  have sub := rk_sub h q0 s1
  unfold xm_rk
  have le : mr_rk (mg_P (mo_qm m 0) q lo (m 21 1).toNat) (gm_p (dt_a (dt_u (m 5) q) 5)).toNat ≤ (la_el (xm_row m lo q) 5).1 := by
    rcases g1 with g1 | ⟨s, f1, f2, f3⟩
    · rw [g1, ← s2]
      omega
    · obtain ⟨r1, r2, r3⟩ := rk_part h hv hd q lo (s : Int)
      rw [r1] at f3
      have z := s3 _ (r2.mp f3)
      rw [rk_ct u0 (by omega) (by omega)] at z
      rw [f2]
      exact z
  have ge : (la_el (xm_row m lo q) 5).1 ≤ mr_rk (mg_P (mo_qm m 0) q lo (m 21 1).toNat) (gm_p (dt_a (dt_u (m 5) q) 5)).toNat := by
    obtain ⟨s, a0, a1, a2, a3⟩ := dt_set (u := dt_u (m 5) q) (S := S) (fun r r0 r1 hr => sub r (by omega) (by omega) hr)
    have S0 : S 0 = false := by
      cases hS : S 0 with
      | false => rfl
      | true =>
        have z := sub 0 (by decide) (by decide) hS
        rw [u0] at z
        cases z
    have ct : ((la_ct S : Nat) : Int) = gm_pc s := by
      rw [a2]
      unfold la_ct
      rw [S0]
      simp [la_b]
    have ind : la_ind (xm_row m lo q) (rk_S (dt_u (m 5) q) s) := by
      refine la_ind_mono s1 (fun b b0 b1 hb => ?_)
      rw [rk_S_out b0 b1]
      cases hu : dt_u (m 5) q b with
      | false => rfl
      | true =>
        have bne : b ≠ 0 := fun e => by rw [e, u0] at hu; cases hu
        unfold rk_t
        rw [a3 b (by omega) (by omega) hu, hb, Bool.and_false]
        rfl
    obtain ⟨r1, r2, r3⟩ := rk_part h hv hd q lo s
    have z := g2 s.toNat (by omega) (by rw [show ((s.toNat : Nat) : Int) = s by omega, r1]; exact r2.mpr ind)
    rw [show ((s.toNat : Nat) : Int) = s by omega] at z
    omega
  omega
theorem rk_obs {m : en_M} (h : xl m) (hv : xv_all m) (hd : xv_rd m) {q : Int} (q0 : 0 ≤ q) (lo : Int) : md (mp_c (mg_P (mo_qm m 0) q lo (m 21 1).toNat) 15) ≠ 0 ↔ xm_rk m lo q = gs_cu (m 5) q 5 := by
  have u0 := rk_u0 h q
  have d := dt_ct u0
  have le := rk_le h q0 lo
  obtain ⟨r1, r2, r3⟩ := rk_part h hv hd q lo 15
  have e15 : ∀ b, 0 ≤ b → b < 5 → rk_S (dt_u (m 5) q) 15 b = dt_u (m 5) q b := by
    intro b b0 b1
    rw [rk_S_out b0 b1]
    cases hu : dt_u (m 5) q b with
    | false => rfl
    | true =>
      have bne : b ≠ 0 := fun e => by rw [e, u0] at hu; cases hu
      have z := dt_lt (dt_u (m 5) q) (r := b) (by omega) (by omega) hu
      have t : gm_tb 15 (dt_a (dt_u (m 5) q) b) = true := by
        have hc : dt_a (dt_u (m 5) q) b = 0 ∨ dt_a (dt_u (m 5) q) b = 1 ∨ dt_a (dt_u (m 5) q) b = 2 ∨ dt_a (dt_u (m 5) q) b = 3 := by omega
        rcases hc with e | e | e | e <;> rw [e] <;> decide
      unfold rk_t
      rw [decide_eq_true z.2.1, t]
      rfl
  have ct15 : la_ct (rk_S (dt_u (m 5) q) 15) = la_ct (dt_u (m 5) q) := by
    unfold la_ct
    rw [e15 0 (by decide) (by decide), e15 1 (by decide) (by decide), e15 2 (by decide) (by decide), e15 3 (by decide) (by decide), e15 4 (by decide) (by decide)]
  obtain ⟨⟨S, s1, s2⟩, s3⟩ := la_rank (xm_row m lo q)
  have sub := rk_sub h q0 s1
  rw [r2]
  rw [rk_cu h q] at le ⊢
  unfold xm_rk at le ⊢
  constructor
  · intro hI
    have z := s3 _ hI
    rw [ct15] at z
    omega
  · intro e
    obtain ⟨-, t2⟩ := la_ct_sub sub
    have u := t2 (by omega)
    refine la_ind_mono s1 (fun b b0 b1 hb => ?_)
    rw [e15 b b0 b1]
    cases hu : dt_u (m 5) q b with
    | false => rfl
    | true =>
      have z := u b b0 b1 hu
      rw [hb] at z
      cases z
theorem lk_e7 {m : en_M} (h : xl m) : mo_qm m 0 51 7 = m 21 1 := by rw [mo_qm_j (by decide), h.1.2.2.1]
theorem lk_e1 {m : en_M} (h : xl m) : mo_qm m 0 51 1 = m 0 0 := by rw [mo_qm_j (by decide), h.1.1]
theorem lk_rk {m : en_M} (h : xl m) (hv : xv_all m) (hd : xv_rd m) {q : Int} (q0 : 0 ≤ q) : mo_rk (mo_qm m 0) q = xm_rk m (-1) q := by
  unfold mo_rk
  rw [lk_e7 h, lk_e1 h, lk_cnt h q]
  exact rk_rank h hv hd q0 (-1)
theorem lk_ob9 {m : en_M} (h : xl m) (hv : xv_all m) (hd : xv_rd m) {q : Int} (q0 : 0 ≤ q) (lo : Int) : en_w64 (mg_D (mo_qm m 0) q lo) ≠ 0 ↔ xm_rk m lo q = gs_cu (m 5) q 5 := by
  unfold mg_D
  rw [lk_e7 h, (rk_part h hv hd q lo 15).1]
  exact rk_obs h hv hd q0 lo
theorem lk_ob {m : en_M} (h : xl m) (hv : xv_all m) (hd : xv_rd m) {q : Int} (q0 : 0 ≤ q) : en_w64 (mg_D (mo_qm m 0) q (-1)) ≠ 0 ↔ xm_ob m q := lk_ob9 h hv hd q0 (-1)
theorem lk_pos {m : en_M} (h : xl m) (hv : xv_all m) (hd : xv_rd m) {q : Int} (q0 : 0 ≤ q) (ho : xm_ob m q) : 0 < gl_D m q (-1) := by
  have z := (rk_obs h hv hd q0 (-1)).mpr ho
  have p := (rk_part h hv hd q (-1) 15).2.2
  have e : mg_D (mo_qm m 0) q (-1) = gl_D m q (-1) := lk_D h q
  unfold mg_D at e
  rw [lk_e7 h] at e
  omega
theorem lk_nd {m : en_M} (h : xl m) (hv : xv_all m) (hd : xv_rd m) {i : Int} (i0 : 0 ≤ i) (i1 : i < m 21 1) : mo_nd (mo_qm m 0) i ↔ xm_nd m i := by
  unfold mo_nd xm_nd
  rw [lk_io h.1 h.2.1 h.2.2.1 h.2.2.2.1 i0 i1]
  by_cases c : xm_io m i = -1
  · exact ⟨fun z => absurd c z.1, fun z => absurd c z.1⟩
  · have q0 : 0 ≤ xm_io m i := by
      have r : -1 ≤ xm_io m i := by
        have z := (mo_io_32 (mo_qm_ln (c := 0) h.2.1) (mo_qm_mt h.2.2.1) (mo_qm_rf h.2.1) (i := i) ⟨i0, by rw [lk_e7 h]; exact i1⟩).1
        rw [lk_io h.1 h.2.1 h.2.2.1 h.2.2.2.1 i0 i1] at z
        exact z
      omega
    have a := lk_ob9 h hv hd q0 (-1)
    have b := lk_ob9 h hv hd q0 i
    have l := rk_le h q0 i
    constructor
    · rintro ⟨z1, z2, z3⟩
      refine ⟨z1, a.mp z2, ?_⟩
      have n : xm_rk m i (xm_io m i) ≠ gs_cu (m 5) (xm_io m i) 5 := fun e => b.mpr e z3
      omega
    · rintro ⟨z1, z2, z3⟩
      refine ⟨z1, a.mpr z2, ?_⟩
      apply Decidable.byContradiction
      intro n
      have := b.mp n
      omega
