/-! MODEL 5: the sums of products -/
theorem td5 (k : Nat) : (k : Int).tdiv 5 = (k : Int) / 5 := Int.tdiv_eq_ediv_of_nonneg (Int.natCast_nonneg k)
theorem td4 (k : Nat) : (k : Int).tdiv 4 = (k : Int) / 4 := Int.tdiv_eq_ediv_of_nonneg (Int.natCast_nonneg k)
/-- at which place an angle is looked for -/
def ma_ao (R : Int → Int) (q b : Int) : Int := if R b = q ∧ b ≠ q then gs_cu R q b.toNat else -1
def ma_M (m : en_M) (q : Int) (n : Nat) : en_M := en_set (en_ar m 62 n (ma_ao (m 61) q)) 51 15 (gs_cu (m 61) q n)
theorem ma_ao_rng (R : Int → Int) (q b : Int) (b0 : 0 ≤ b) : -1 ≤ ma_ao R q b ∧ ma_ao R q b ≤ b := by
  unfold ma_ao
  have z := gs_cu_rng R q b.toNat
  split <;> omega
theorem gs_cu_lt {R : Int → Int} {q : Int} (q0 : 0 ≤ q) : ∀ n : Nat, q < (n : Int) → gs_cu R q n ≤ (n : Int) - 1
  | 0, h => by omega
  | n + 1, h => by
    simp only [gs_cu]
    by_cases c : q = (n : Int)
    · have z := gs_cu_rng R q n
      rw [if_neg (fun x => x.2 c.symm)]
      omega
    · have z := gs_cu_lt (R := R) q0 n (by omega)
      split <;> omega
theorem ma_ao_lt {R : Int → Int} {q b : Int} (b0 : 0 ≤ b) (b1 : b < 5) (h : 0 ≤ R b ∧ R b ≤ b) : -1 ≤ ma_ao R q b ∧ ma_ao R q b < 4 := by
  have z := gs_cu_rng R q b.toNat
  unfold ma_ao
  by_cases c : R b = q ∧ b ≠ q
  · have z2 := gs_cu_lt (R := R) (q := q) (by omega) b.toNat (by omega)
    rw [if_pos c]
    omega
  · rw [if_neg c]
    omega
theorem ma_M_k {m : en_M} {q : Int} {n : Nat} {k : Int} (h : k ≠ 51) (h2 : k ≠ 62) : ma_M m q n k = m k := by
  unfold ma_M
  rw [en_set_ne h, en_ar_ne h2]
theorem ma_M_j {m : en_M} {q : Int} {n : Nat} {j : Int} (h : j ≠ 15) : ma_M m q n 51 j = m 51 j := by
  unfold ma_M
  rw [en_set_nj h, en_ar_ne (by decide)]
theorem ma_M_15 {m : en_M} {q : Int} {n : Nat} : ma_M m q n 51 15 = gs_cu (m 61) q n := en_set_at
theorem ma_M_62 {m : en_M} {q : Int} {n : Nat} {b : Int} (b0 : 0 ≤ b) (b1 : b < n) : ma_M m q n 62 b = ma_ao (m 61) q b := by
  unfold ma_M
  rw [en_set_ne (by decide), en_ar_at b0 b1]
theorem ma_M_step {m : en_M} {q v x : Int} {n : Nat} (hv : v = ma_ao (m 61) q n) (hx : x = gs_cu (m 61) q (n + 1)) : en_set (en_set (ma_M m q n) 62 n v) 51 15 x = ma_M m q (n + 1) := by
  subst hv hx
  unfold ma_M
  rw [show ((n + 1 : Nat) : Int) = (n : Int) + 1 by omega, ← en_ar_push (m := m) (k := 62) (i := (n : Int)) (f := ma_ao (m 61) q) (by omega) rfl]
  funext k j
  unfold en_set
  by_cases c : k = 51
  · subst c
    by_cases c2 : j = 15 <;> simp [c2]
  · simp [c]
def mg_B (c : Int) (k : Int) : Int := if k % 5 = 0 ∧ c ≤ k / 5 then 1 else 0
def mg_row (m : en_M) (q i : Int) : Int → Int := ml_row m (ma_ao (m 61) q) i (m 51 2).toNat
def mg_P (m : en_M) (q ex : Int) : Nat → Int → Int
  | 0 => mg_B (gs_cu (m 61) q (m 51 1).toNat)
  | n + 1 => if (n : Int) ≠ ex ∧ mo_io m (n : Int) = q then fun k => mg_P m q ex n k + m 59 (n : Int) * m 59 (n : Int) * mg_row m q (n : Int) (k / 4) * mg_row m q (n : Int) (k % 4) else mg_P m q ex n
def mg_S (m : en_M) (q ex : Int) : Nat → Int → Int
  | 0 => fun _ => 0
  | n + 1 => if (n : Int) ≠ ex ∧ mo_io m (n : Int) = q then fun k => mg_S m q ex n k + m 59 (n : Int) * m 59 (n : Int) * mg_row m q (n : Int) k * m 58 (n : Int) else mg_S m q ex n
/-- the sums of products lie there -/
def mg_in (M m : en_M) (q ex : Int) (n : Nat) : Prop := (∀ k, k ≠ 51 → (k < 62 ∨ 67 < k) → M k = m k) ∧ (∀ j, j < 15 → M 51 j = m 51 j) ∧ M 51 15 = gs_cu (m 61) q (m 51 1).toNat ∧ (∀ b, 0 ≤ b → b < m 51 1 → M 62 b = ma_ao (m 61) q b) ∧ (∀ k, 0 ≤ k → k < 16 → M 64 k = mg_P m q ex n k) ∧ ∀ k, 0 ≤ k → k < 4 → M 65 k = mg_S m q ex n k
theorem ml_add_cong {ao ao' r : Int → Int} {b x : Int} (h : ao b = ao' b) : ml_add ao r b x = ml_add ao' r b x := by
  unfold ml_add
  rw [h]
theorem ml_row_cong {M m : en_M} {ao ao' : Int → Int} {i : Int} (h : ∀ k, k ≠ 51 → (k < 62 ∨ 67 < k) → M k = m k) : ∀ n : Nat, (∀ j, 0 ≤ j → j < (n : Int) → ao (m 52 j) = ao' (m 52 j) ∧ ao (m 53 j) = ao' (m 53 j)) → ml_row M ao i n = ml_row m ao' i n
  | 0, _ => rfl
  | n + 1, ha => by
    have e := ha n (by omega) (by omega)
    simp only [ml_row]
    rw [ml_row_cong h n (fun j j0 j1 => ha j j0 (by omega))]
    have es : ml_sg M i n = ml_sg m i n := by
      unfold ml_sg
      rw [h 55 (by decide) (by decide), h 56 (by decide) (by decide), h 57 (by decide) (by decide), h 52 (by decide) (by decide), h 53 (by decide) (by decide)]
    rw [es, h 52 (by decide) (by decide), h 53 (by decide) (by decide), h 54 (by decide) (by decide), ml_add_cong e.1, ml_add_cong e.2]
theorem mg_in_row {M m : en_M} {q ex i : Int} {n : Nat} (h : mg_in M m q ex n) (hl : xo_ln m) : ml_row M (M 62) i (M 51 2).toNat = mg_row m q i := by
  obtain ⟨h1, h2, -, h4, -⟩ := h
  obtain ⟨n0, n1, hr⟩ := hl
  unfold mg_row
  rw [h2 2 (by decide)]
  exact ml_row_cong h1 _ (fun j j0 j1 => ⟨h4 _ (hr j j0 (by omega)).1.1 (hr j j0 (by omega)).1.2, h4 _ (hr j j0 (by omega)).2.1.1 (hr j j0 (by omega)).2.1.2⟩)
theorem mg_in_io {M m : en_M} {q ex i : Int} {n : Nat} (h : mg_in M m q ex n) : mo_io M i = mo_io m i := by
  obtain ⟨h1, -⟩ := h
  unfold mo_io mo_iu
  rw [h1 60 (by decide) (by decide), h1 56 (by decide) (by decide), h1 57 (by decide) (by decide), h1 61 (by decide) (by decide), h1 55 (by decide) (by decide), h1 52 (by decide) (by decide)]
theorem mg_in_ln {M m : en_M} {q ex : Int} {n : Nat} (h : mg_in M m q ex n) (hl : xo_ln m) : xo_ln M := xo_ln_k (fun k hk => h.1 k (by omega) (by omega)) (h.2.1 1 (by decide)) (h.2.1 2 (by decide)) hl
theorem mg_in_mt {M m : en_M} {q ex : Int} {n : Nat} (h : mg_in M m q ex n) (hm : xo_mt m) : xo_mt M := xo_mt_k (fun k hk => h.1 k (by omega) (by omega)) (h.2.1 1 (by decide)) (h.2.1 2 (by decide)) (h.2.1 7 (by decide)) hm
theorem mg_row_bd {m : en_M} (hl : xo_ln m) (q i k : Int) : -32 ≤ mg_row m q i k ∧ mg_row m q i k ≤ 32 := by
  obtain ⟨n0, n1, hr⟩ := hl
  have z := ml_row_bd (m := m) (ao := ma_ao (m 61) q) (i := i) (m 51 2).toNat (fun j j0 j1 => (hr j j0 (by omega)).2.2.2) k
  unfold mg_row
  omega
theorem mg_p32 {a x y : Int} (ha : 1 ≤ a ∧ a ≤ 2) (hx : -32 ≤ x ∧ x ≤ 32) (hy : -50 ≤ y ∧ y ≤ 50) : en_i32 (a * a * x * y) := by
  have h1 := mb_mul (x := a) (y := a) (A := 2) (B := 2) (by omega) (by omega)
  have h2 := mb_mul (x := a * a) (y := x) (A := 4) (B := 32) (by omega) (by omega)
  have h3 := mb_mul (x := a * a * x) (y := y) (A := 128) (B := 50) (by omega) (by omega)
  omega
abbrev rm_X5_gather : Room := { frames := 3, cells := 0, slots := 0, locals := 48 }
theorem my_X5_gather : en_MY yX5_gather RX5 cX5_gather 6 none wsX5_gather 2 := ⟨⟨_, rfl⟩, rfl, by decide, by decide, by decide +kernel, by decide +kernel⟩
set_option maxRecDepth 20000 in
theorem fl_X5_gather_29 : en_FL wsX5_gather RX5 29 5 10 := ⟨_, _, _, rfl, by decide, by decide +kernel, Or.inl (by decide +kernel)⟩
set_option maxRecDepth 20000 in
theorem fl_X5_gather_32 : en_FL wsX5_gather RX5 32 5 11 := ⟨_, _, _, rfl, by decide, by decide +kernel, Or.inl (by decide +kernel)⟩
set_option maxRecDepth 20000 in
theorem fl_X5_gather_38 : en_FL wsX5_gather RX5 38 5 13 := ⟨_, _, _, rfl, by decide, by decide +kernel, Or.inl (by decide +kernel)⟩
set_option maxRecDepth 20000 in
theorem fl_X5_gather_41 : en_FL wsX5_gather RX5 41 5 14 := ⟨_, _, _, rfl, by decide, by decide +kernel, Or.inl (by decide +kernel)⟩
set_option maxRecDepth 20000 in
theorem fl_X5_gather_44 : en_FL wsX5_gather RX5 44 5 16 := ⟨_, _, _, rfl, by decide, by decide +kernel, Or.inl (by decide +kernel)⟩
set_option maxRecDepth 20000 in
theorem fl_X5_gather_47 : en_FL wsX5_gather RX5 47 5 17 := ⟨_, _, _, rfl, by decide, by decide +kernel, Or.inl (by decide +kernel)⟩
set_option maxRecDepth 20000 in
theorem fl_X5_gather_51 : en_FL wsX5_gather RX5 51 5 18 := ⟨_, _, _, rfl, by decide, by decide +kernel, Or.inl (by decide +kernel)⟩
set_option maxRecDepth 20000 in
theorem fl_X5_gather_60 : en_FL wsX5_gather RX5 60 5 1 := ⟨_, _, _, rfl, by decide, by decide +kernel, Or.inl (by decide +kernel)⟩
set_option maxRecDepth 20000 in
theorem fl_X5_gather_74 : en_FL wsX5_gather RX5 74 5 7 := ⟨_, _, _, rfl, by decide, by decide +kernel, Or.inl (by decide +kernel)⟩
set_option maxRecDepth 20000 in
theorem fl_X5_gather_107 : en_FL wsX5_gather RX5 107 5 15 := ⟨_, _, _, rfl, by decide, by decide +kernel, Or.inl (by decide +kernel)⟩
set_option maxRecDepth 100000 in
set_option maxHeartbeats 4000000 in
theorem lp_X5_gather_A {κ : en_C} {m : en_M} {q ex : Int} (hP : en_Has (en_w κ) 0 68) (h : en_Ok κ RX5 cX5_gather 6 wsX5_gather rm_X5_gather) (hl : xo_ln m) (hq : en_i32 q) (hr : ∀ b, 0 ≤ b → b < m 51 1 → en_i32 (m 61 b)) (K : ∀ i o, en_G κ 81 [some (en_R 51), some (en_I q), some (en_I ex), some (en_I i), o, none] [] (ma_M m q (m 51 1).toNat) 0 0) : ∀ (f b : Nat), (f : Int) + b = m 51 1 → ∀ o, en_G κ 7 [some (en_R 51), some (en_I q), some (en_I ex), some (en_I (b : Int)), o, none] [] (ma_M m q b) 0 0 := by
  have hI : ∀ k, 0 ≤ k → k < 68 → en_in κ k := hP
  obtain ⟨n0, n1, -⟩ := hl
  intro f
  induction f with
  | zero =>
    intro b hb o
    refine en_iload_n (i := 3) h dX5_gather_7 rfl rfl ?_
    refine en_aload_n (i := 0) h dX5_gather_8 rfl rfl ?_
    refine en_getI (i := 1) h dX5_gather_9 fl_X5_gather_60 (hI _ (by omega) (by omega)) rfl rfl rfl (v9 := m 51 1) (ma_M_j (by decide)) ?_
    refine en_icmp_ge (tgt := 81) h dX5_gather_12 (by decide) (by omega) (by omega) (fun c_12 => ?_) (fun c_12 => ?_)
    · rw [show b = (m 51 1).toNat by omega]
      exact K _ _
    · exact absurd c_12 (by omega)
  | succ f ih =>
    intro b hb o
    have r := hr b (by omega) (by omega)
    have z := gs_cu_rng (m 61) q b
    have s : ∀ (x : Int) o, (x = if m 61 b = q ∧ (b : Int) ≠ q then 1 else 0) → en_G κ 35 [some (en_R 51), some (en_I q), some (en_I ex), some (en_I (b : Int)), o, none] [en_I x] (ma_M m q b) 0 0 := by
      intro x o hx
      have hc : gs_cu (m 61) q (b + 1) = gs_cu (m 61) q b + x := by rw [hx]; rfl
      have x9 : x = 0 ∨ x = 1 := by rw [hx]; split <;> simp
      refine en_istore (i := 4) h dX5_gather_35 (by decide) ?_
      refine en_aload_n (i := 0) h dX5_gather_37 rfl rfl ?_
      refine en_getR h dX5_gather_38 fl_X5_gather_41 (hI _ (by omega) (by omega)) rfl rfl ?_
      refine en_iload_n (i := 3) h dX5_gather_41 rfl rfl ?_
      refine en_iload (i := 4) h dX5_gather_42 rfl ?_
      refine en_if_eq (tgt := 54) h dX5_gather_44 (by decide) (by omega) (fun c_44 => ?_) (fun c_44 => ?_)
      · have c0 : ¬ (m 61 b = q ∧ (b : Int) ≠ q) := fun z => by rw [if_pos z] at hx; omega
        refine en_iconst h dX5_gather_54 ?_
        refine en_iastore h dX5_gather_55 (hI _ (by omega) (by omega)) rfl (by omega) ?_
        refine en_aload_n (i := 0) h dX5_gather_56 rfl rfl ?_
        refine en_dupa h dX5_gather_57 ?_
        refine en_getI (i := 15) h dX5_gather_58 fl_X5_gather_107 (hI _ (by omega) (by omega)) rfl rfl rfl (v9 := gs_cu (m 61) q b) (by rw [en_set_ne (by decide)]; exact ma_M_15) ?_
        refine en_iload (i := 4) h dX5_gather_61 rfl ?_
        refine en_if_eq (tgt := 70) h dX5_gather_63 (by decide) (by omega) (fun c_63 => ?_) (fun c_63 => ?_)
        · refine en_iconst h dX5_gather_70 ?_
          refine en_iadd h dX5_gather_71 ?_
          refine en_putI (i := 15) h dX5_gather_72 fl_X5_gather_107 fp_5_15 (hI _ (by omega) (by omega)) rfl rfl rfl ?_
          refine en_iinc h dX5_gather_75 rfl (by decide) ?_
          refine en_goto (tgt := 7) h dX5_gather_78 (by decide) ?_
          rw [ma_M_step (by unfold ma_ao; rw [if_neg c0]) (by rw [hc]; omega)]
          exact ih (b + 1) (by omega) _
        · exact absurd c_63 (by omega)
      · have c0 : (m 61 b = q ∧ (b : Int) ≠ q) := by apply Decidable.byContradiction; intro z; rw [if_neg z] at hx; omega
        refine en_aload_n (i := 0) h dX5_gather_47 rfl rfl ?_
        refine en_getI (i := 15) h dX5_gather_48 fl_X5_gather_107 (hI _ (by omega) (by omega)) rfl rfl rfl (v9 := gs_cu (m 61) q b) ma_M_15 ?_
        refine en_goto (tgt := 55) h dX5_gather_51 (by decide) ?_
        refine en_iastore h dX5_gather_55 (hI _ (by omega) (by omega)) rfl (by omega) ?_
        refine en_aload_n (i := 0) h dX5_gather_56 rfl rfl ?_
        refine en_dupa h dX5_gather_57 ?_
        refine en_getI (i := 15) h dX5_gather_58 fl_X5_gather_107 (hI _ (by omega) (by omega)) rfl rfl rfl (v9 := gs_cu (m 61) q b) (by rw [en_set_ne (by decide)]; exact ma_M_15) ?_
        refine en_iload (i := 4) h dX5_gather_61 rfl ?_
        refine en_if_eq (tgt := 70) h dX5_gather_63 (by decide) (by omega) (fun c_63 => ?_) (fun c_63 => ?_)
        · exact absurd c_63 (by omega)
        · refine en_iconst h dX5_gather_66 ?_
          refine en_goto (tgt := 71) h dX5_gather_67 (by decide) ?_
          refine en_iadd h dX5_gather_71 ?_
          refine en_putI (i := 15) h dX5_gather_72 fl_X5_gather_107 fp_5_15 (hI _ (by omega) (by omega)) rfl rfl rfl ?_
          refine en_iinc h dX5_gather_75 rfl (by decide) ?_
          refine en_goto (tgt := 7) h dX5_gather_78 (by decide) ?_
          rw [ma_M_step (by unfold ma_ao; rw [if_pos c0]; simp) (by rw [hc]; omega)]
          exact ih (b + 1) (by omega) _
    refine en_iload_n (i := 3) h dX5_gather_7 rfl rfl ?_
    refine en_aload_n (i := 0) h dX5_gather_8 rfl rfl ?_
    refine en_getI (i := 1) h dX5_gather_9 fl_X5_gather_60 (hI _ (by omega) (by omega)) rfl rfl rfl (v9 := m 51 1) (ma_M_j (by decide)) ?_
    refine en_icmp_ge (tgt := 81) h dX5_gather_12 (by decide) (by omega) (by omega) (fun c_12 => ?_) (fun c_12 => ?_)
    · exact absurd c_12 (by omega)
    · refine en_aload_n (i := 0) h dX5_gather_15 rfl rfl ?_
      refine en_getR h dX5_gather_16 fl_X5_gather_38 (hI _ (by omega) (by omega)) rfl rfl ?_
      refine en_iload_n (i := 3) h dX5_gather_19 rfl rfl ?_
      refine en_iaload h dX5_gather_20 (hI _ (by omega) (by omega)) rfl (by omega) (v9 := m 61 b) (by rw [ma_M_k (by decide) (by decide)]) ?_
      refine en_iload_n (i := 1) h dX5_gather_21 rfl rfl ?_
      refine en_icmp_ne (tgt := 34) h dX5_gather_22 (by decide) (by omega) (by omega) (fun c_22 => ?_) (fun c_22 => ?_)
      · refine en_iconst h dX5_gather_34 ?_
        exact s 0 _ (by rw [if_neg (fun q => c_22 q.1)])
      · refine en_iload_n (i := 3) h dX5_gather_25 rfl rfl ?_
        refine en_iload_n (i := 1) h dX5_gather_26 rfl rfl ?_
        refine en_icmp_eq (tgt := 34) h dX5_gather_27 (by decide) (by omega) (by omega) (fun c_27 => ?_) (fun c_27 => ?_)
        · refine en_iconst h dX5_gather_34 ?_
          exact s 0 _ (by rw [if_neg (fun q => q.2 c_27)])
        · refine en_iconst h dX5_gather_30 ?_
          refine en_goto (tgt := 35) h dX5_gather_31 (by decide) ?_
          exact s 1 _ (by rw [if_pos ⟨c_22, c_27⟩])
set_option maxRecDepth 100000 in
set_option maxHeartbeats 4000000 in
theorem lp_X5_gather_B {κ : en_C} {m : en_M} {q ex c : Int} {o4 : Option en_V} (hP : en_Has (en_w κ) 0 68) (h : en_Ok κ RX5 cX5_gather 6 wsX5_gather rm_X5_gather) (h15 : m 51 15 = c) (hc : en_i32 c) (K : ∀ i, en_G κ 122 [some (en_R 51), some (en_I q), some (en_I ex), some (en_I i), o4, none] [] (en_ar m 64 16 (mg_B c)) 0 0) : ∀ (f k : Nat), f + k = 16 → en_G κ 83 [some (en_R 51), some (en_I q), some (en_I ex), some (en_I (k : Int)), o4, none] [] (en_ar m 64 k (mg_B c)) 0 0 := by
  have hI : ∀ k, 0 ≤ k → k < 68 → en_in κ k := hP
  intro f
  induction f with
  | zero =>
    intro k hk
    refine en_iload_n (i := 3) h dX5_gather_83 rfl rfl ?_
    refine en_bipush h dX5_gather_84 (by decide) ?_
    refine en_icmp_ge (tgt := 122) h dX5_gather_86 (by decide) (by omega) (by omega) (fun c_86 => ?_) (fun c_86 => ?_)
    · have e : (k : Int) = 16 := by omega
      rw [e]
      exact K _
    · exact absurd c_86 (by omega)
  | succ f ih =>
    intro k hk
    have ih9 := ih (k + 1) (by omega)
    rw [show ((k + 1 : Nat) : Int) = (k : Int) + 1 by omega] at ih9
    refine en_iload_n (i := 3) h dX5_gather_83 rfl rfl ?_
    refine en_bipush h dX5_gather_84 (by decide) ?_
    refine en_icmp_ge (tgt := 122) h dX5_gather_86 (by decide) (by omega) (by omega) (fun c_86 => ?_) (fun c_86 => ?_)
    · exact absurd c_86 (by omega)
    · refine en_aload_n (i := 0) h dX5_gather_89 rfl rfl ?_
      refine en_getR h dX5_gather_90 fl_X5_gather_47 (hI _ (by omega) (by omega)) rfl rfl ?_
      refine en_iload_n (i := 3) h dX5_gather_93 rfl rfl ?_
      refine en_iload_n (i := 3) h dX5_gather_94 rfl rfl ?_
      refine en_iconst h dX5_gather_95 ?_
      refine en_irem h dX5_gather_96 (by omega) (by omega) ?_
      rw [td5]
      refine en_if_ne (tgt := 114) h dX5_gather_97 (by decide) (by omega) (fun c_97 => ?_) (fun c_97 => ?_)
      · rw [← en_ar_push (x := 0) (by omega) (by unfold mg_B; rw [if_neg (by omega)])] at ih9
        refine en_lconst (z := 0) h dX5_gather_114 rfl ?_
        refine en_lastore h dX5_gather_115 (hI _ (by omega) (by omega)) rfl (by omega) ?_
        refine en_iinc h dX5_gather_116 rfl (by decide) ?_
        refine en_goto (tgt := 83) h dX5_gather_119 (by decide) ?_
        exact ih9
      · refine en_iload_n (i := 3) h dX5_gather_100 rfl rfl ?_
        refine en_iconst h dX5_gather_101 ?_
        refine en_idiv h dX5_gather_102 (by omega) (by omega) ?_
        rw [td5]
        refine en_aload_n (i := 0) h dX5_gather_103 rfl rfl ?_
        refine en_getI (i := 15) h dX5_gather_104 fl_X5_gather_107 (hI _ (by omega) (by omega)) rfl rfl rfl (v9 := c) (by rw [en_ar_ne (by decide)]; exact h15) ?_
        refine en_icmp_lt (tgt := 114) h dX5_gather_107 (by decide) (by omega) (by omega) (fun c_107 => ?_) (fun c_107 => ?_)
        · rw [← en_ar_push (x := 0) (by omega) (by unfold mg_B; rw [if_neg (by omega)])] at ih9
          refine en_lconst (z := 0) h dX5_gather_114 rfl ?_
          refine en_lastore h dX5_gather_115 (hI _ (by omega) (by omega)) rfl (by omega) ?_
          refine en_iinc h dX5_gather_116 rfl (by decide) ?_
          refine en_goto (tgt := 83) h dX5_gather_119 (by decide) ?_
          exact ih9
        · rw [← en_ar_push (x := 1) (by omega) (by unfold mg_B; rw [if_pos (by omega)])] at ih9
          refine en_lconst (z := 1) h dX5_gather_110 rfl ?_
          refine en_goto (tgt := 115) h dX5_gather_111 (by decide) ?_
          refine en_lastore h dX5_gather_115 (hI _ (by omega) (by omega)) rfl (by omega) ?_
          refine en_iinc h dX5_gather_116 rfl (by decide) ?_
          refine en_goto (tgt := 83) h dX5_gather_119 (by decide) ?_
          exact ih9
set_option maxRecDepth 100000 in
set_option maxHeartbeats 4000000 in
theorem lp_X5_gather_C {κ : en_C} {m : en_M} {q ex : Int} {o4 : Option en_V} (hP : en_Has (en_w κ) 0 68) (h : en_Ok κ RX5 cX5_gather 6 wsX5_gather rm_X5_gather) (K : ∀ i, en_G κ 142 [some (en_R 51), some (en_I q), some (en_I ex), some (en_I i), o4, none] [] (en_ar m 65 4 (fun _ => 0)) 0 0) : ∀ (f k : Nat), f + k = 4 → en_G κ 124 [some (en_R 51), some (en_I q), some (en_I ex), some (en_I (k : Int)), o4, none] [] (en_ar m 65 k (fun _ => 0)) 0 0 := by
  have hI : ∀ k, 0 ≤ k → k < 68 → en_in κ k := hP
  intro f
  induction f with
  | zero =>
    intro k hk
    refine en_iload_n (i := 3) h dX5_gather_124 rfl rfl ?_
    refine en_iconst h dX5_gather_125 ?_
    refine en_icmp_ge (tgt := 142) h dX5_gather_126 (by decide) (by omega) (by omega) (fun c_126 => ?_) (fun c_126 => ?_)
    · have e : (k : Int) = 4 := by omega
      rw [e]
      exact K _
    · exact absurd c_126 (by omega)
  | succ f ih =>
    intro k hk
    refine en_iload_n (i := 3) h dX5_gather_124 rfl rfl ?_
    refine en_iconst h dX5_gather_125 ?_
    refine en_icmp_ge (tgt := 142) h dX5_gather_126 (by decide) (by omega) (by omega) (fun c_126 => ?_) (fun c_126 => ?_)
    · exact absurd c_126 (by omega)
    · refine en_aload_n (i := 0) h dX5_gather_129 rfl rfl ?_
      refine en_getR h dX5_gather_130 fl_X5_gather_51 (hI _ (by omega) (by omega)) rfl rfl ?_
      refine en_iload_n (i := 3) h dX5_gather_133 rfl rfl ?_
      refine en_lconst (z := 0) h dX5_gather_134 rfl ?_
      refine en_lastore h dX5_gather_135 (hI _ (by omega) (by omega)) rfl (by omega) ?_
      refine en_iinc h dX5_gather_136 rfl (by decide) ?_
      refine en_goto (tgt := 124) h dX5_gather_139 (by decide) ?_
      rw [en_ar_push (by omega) rfl]
      exact ih (k + 1) (by omega)
set_option maxRecDepth 100000 in
set_option maxHeartbeats 4000000 in
theorem lp_X5_gather_E {κ : en_C} {m : en_M} {q ex i wt : Int} {r : Int → Int} (hP : en_Has (en_w κ) 0 68) (h : en_Ok κ RX5 cX5_gather 6 wsX5_gather rm_X5_gather) (hr : ∀ k, 0 ≤ k → k < 4 → m 63 k = r k) (hb : ∀ j k, 0 ≤ j → j < 4 → 0 ≤ k → k < 4 → en_i32 (wt * r j * r k)) (K : ∀ k, en_G κ 235 [some (en_R 51), some (en_I q), some (en_I ex), some (en_I i), some (en_I wt), some (en_I k)] [] (en_ar m 64 16 (fun k => m 64 k + wt * r (k / 4) * r (k % 4))) 0 0) : ∀ (f k : Nat), f + k = 16 → en_G κ 189 [some (en_R 51), some (en_I q), some (en_I ex), some (en_I i), some (en_I wt), some (en_I (k : Int))] [] (en_ar m 64 k (fun k => m 64 k + wt * r (k / 4) * r (k % 4))) 0 0 := by
  have hI : ∀ k, 0 ≤ k → k < 68 → en_in κ k := hP
  intro f
  induction f with
  | zero =>
    intro k hk
    refine en_iload (i := 5) h dX5_gather_189 rfl ?_
    refine en_bipush h dX5_gather_191 (by decide) ?_
    refine en_icmp_ge (tgt := 235) h dX5_gather_193 (by decide) (by omega) (by omega) (fun c_193 => ?_) (fun c_193 => ?_)
    · have e : (k : Int) = 16 := by omega
      rw [e]
      exact K _
    · exact absurd c_193 (by omega)
  | succ f ih =>
    intro k hk
    refine en_iload (i := 5) h dX5_gather_189 rfl ?_
    refine en_bipush h dX5_gather_191 (by decide) ?_
    refine en_icmp_ge (tgt := 235) h dX5_gather_193 (by decide) (by omega) (by omega) (fun c_193 => ?_) (fun c_193 => ?_)
    · exact absurd c_193 (by omega)
    · refine en_aload_n (i := 0) h dX5_gather_196 rfl rfl ?_
      refine en_getR h dX5_gather_197 fl_X5_gather_47 (hI _ (by omega) (by omega)) rfl rfl ?_
      refine en_iload (i := 5) h dX5_gather_200 rfl ?_
      refine en_dup2 h dX5_gather_202 ?_
      refine en_laload h dX5_gather_203 (hI _ (by omega) (by omega)) rfl (by omega) (v9 := m 64 k) (en_ar_out (by omega)) ?_
      refine en_iload (i := 4) h dX5_gather_204 rfl ?_
      refine en_aload_n (i := 0) h dX5_gather_206 rfl rfl ?_
      refine en_getR h dX5_gather_207 fl_X5_gather_44 (hI _ (by omega) (by omega)) rfl rfl ?_
      refine en_iload (i := 5) h dX5_gather_210 rfl ?_
      refine en_iconst h dX5_gather_212 ?_
      refine en_idiv h dX5_gather_213 (by omega) (by omega) ?_
      rw [td4]
      refine en_iaload h dX5_gather_214 (hI _ (by omega) (by omega)) rfl (by omega) (v9 := r (k / 4)) (by rw [en_ar_ne (by decide)]; exact hr _ (by omega) (by omega)) ?_
      refine en_imul h dX5_gather_215 ?_
      refine en_aload_n (i := 0) h dX5_gather_216 rfl rfl ?_
      refine en_getR h dX5_gather_217 fl_X5_gather_44 (hI _ (by omega) (by omega)) rfl rfl ?_
      refine en_iload (i := 5) h dX5_gather_220 rfl ?_
      refine en_iconst h dX5_gather_222 ?_
      refine en_irem h dX5_gather_223 (by omega) (by omega) ?_
      rw [td4, show (k : Int) - (k : Int) / 4 * 4 = (k : Int) % 4 by omega]
      refine en_iaload h dX5_gather_224 (hI _ (by omega) (by omega)) rfl (by omega) (v9 := r (k % 4)) (by rw [en_ar_ne (by decide)]; exact hr _ (by omega) (by omega)) ?_
      refine en_imul h dX5_gather_225 ?_
      refine en_i2l h dX5_gather_226 (hb _ _ (by omega) (by omega) (by omega) (by omega)) ?_
      refine en_ladd h dX5_gather_227 ?_
      refine en_lastore h dX5_gather_228 (hI _ (by omega) (by omega)) rfl (by omega) ?_
      refine en_iinc h dX5_gather_229 rfl (by decide) ?_
      refine en_goto (tgt := 189) h dX5_gather_232 (by decide) ?_
      rw [en_ar_push (by omega) rfl]
      exact ih (k + 1) (by omega)
set_option maxRecDepth 100000 in
set_option maxHeartbeats 4000000 in
theorem lp_X5_gather_F {κ : en_C} {m : en_M} {q ex i wt rd : Int} {r : Int → Int} (hP : en_Has (en_w κ) 0 68) (h : en_Ok κ RX5 cX5_gather 6 wsX5_gather rm_X5_gather) (i0 : 0 ≤ i ∧ i < 10) (hr : ∀ k, 0 ≤ k → k < 4 → m 63 k = r k) (hrd : m 58 i = rd) (hb : ∀ j, 0 ≤ j → j < 4 → en_i32 (wt * r j * rd)) (K : ∀ k, en_G κ 278 [some (en_R 51), some (en_I q), some (en_I ex), some (en_I i), some (en_I wt), some (en_I k)] [] (en_ar m 65 4 (fun k => m 65 k + wt * r k * rd)) 0 0) : ∀ (f k : Nat), f + k = 4 → en_G κ 238 [some (en_R 51), some (en_I q), some (en_I ex), some (en_I i), some (en_I wt), some (en_I (k : Int))] [] (en_ar m 65 k (fun k => m 65 k + wt * r k * rd)) 0 0 := by
  have hI : ∀ k, 0 ≤ k → k < 68 → en_in κ k := hP
  intro f
  induction f with
  | zero =>
    intro k hk
    refine en_iload (i := 5) h dX5_gather_238 rfl ?_
    refine en_iconst h dX5_gather_240 ?_
    refine en_icmp_ge (tgt := 278) h dX5_gather_241 (by decide) (by omega) (by omega) (fun c_241 => ?_) (fun c_241 => ?_)
    · have e : (k : Int) = 4 := by omega
      rw [e]
      exact K _
    · exact absurd c_241 (by omega)
  | succ f ih =>
    intro k hk
    refine en_iload (i := 5) h dX5_gather_238 rfl ?_
    refine en_iconst h dX5_gather_240 ?_
    refine en_icmp_ge (tgt := 278) h dX5_gather_241 (by decide) (by omega) (by omega) (fun c_241 => ?_) (fun c_241 => ?_)
    · exact absurd c_241 (by omega)
    · refine en_aload_n (i := 0) h dX5_gather_244 rfl rfl ?_
      refine en_getR h dX5_gather_245 fl_X5_gather_51 (hI _ (by omega) (by omega)) rfl rfl ?_
      refine en_iload (i := 5) h dX5_gather_248 rfl ?_
      refine en_dup2 h dX5_gather_250 ?_
      refine en_laload h dX5_gather_251 (hI _ (by omega) (by omega)) rfl (by omega) (v9 := m 65 k) (en_ar_out (by omega)) ?_
      refine en_iload (i := 4) h dX5_gather_252 rfl ?_
      refine en_aload_n (i := 0) h dX5_gather_254 rfl rfl ?_
      refine en_getR h dX5_gather_255 fl_X5_gather_44 (hI _ (by omega) (by omega)) rfl rfl ?_
      refine en_iload (i := 5) h dX5_gather_258 rfl ?_
      refine en_iaload h dX5_gather_260 (hI _ (by omega) (by omega)) rfl (by omega) (v9 := r k) (by rw [en_ar_ne (by decide)]; exact hr _ (by omega) (by omega)) ?_
      refine en_imul h dX5_gather_261 ?_
      refine en_aload_n (i := 0) h dX5_gather_262 rfl rfl ?_
      refine en_getR h dX5_gather_263 fl_X5_gather_29 (hI _ (by omega) (by omega)) rfl rfl ?_
      refine en_iload_n (i := 3) h dX5_gather_266 rfl rfl ?_
      refine en_iaload h dX5_gather_267 (hI _ (by omega) (by omega)) rfl (by omega) (v9 := rd) (by rw [en_ar_ne (by decide)]; exact hrd) ?_
      refine en_imul h dX5_gather_268 ?_
      refine en_i2l h dX5_gather_269 (hb _ (by omega) (by omega)) ?_
      refine en_ladd h dX5_gather_270 ?_
      refine en_lastore h dX5_gather_271 (hI _ (by omega) (by omega)) rfl (by omega) ?_
      refine en_iinc h dX5_gather_272 rfl (by decide) ?_
      refine en_goto (tgt := 238) h dX5_gather_275 (by decide) ?_
      rw [en_ar_push (by omega) rfl]
      exact ih (k + 1) (by omega)
set_option maxRecDepth 100000 in
set_option maxHeartbeats 4000000 in
theorem lp_X5_gather_D {κ : en_C} {m : en_M} {q ex : Int} (hW : en_Wok (en_w κ)) (hP : en_Has (en_w κ) 0 68) (h : en_Ok κ RX5 cX5_gather 6 wsX5_gather rm_X5_gather) (hf : en_fin κ rm_X5_gather none (fun r m' => r = none ∧ mg_in m' m q ex (m 51 7).toNat)) (hl : xo_ln m) (hm : xo_mt m) (hq : en_i32 q) (hex : en_i32 ex) (hr : ∀ b, 0 ≤ b → b < m 51 1 → 0 ≤ m 61 b ∧ m 61 b ≤ b) : ∀ (f i : Nat), (f : Int) + i = m 51 7 → ∀ (M : en_M) o o', mg_in M m q ex i → en_G κ 144 [some (en_R 51), some (en_I q), some (en_I ex), some (en_I (i : Int)), o, o'] [] M 0 0 := by
  have hI : ∀ k, 0 ≤ k → k < 68 → en_in κ k := hP
  have n7 := hm.1
  have n1 := hl.1
  have n2 := hl.2.1
  intro f
  induction f with
  | zero =>
    intro i hi M o o' hM
    refine en_iload_n (i := 3) h dX5_gather_144 rfl rfl ?_
    refine en_aload_n (i := 0) h dX5_gather_145 rfl rfl ?_
    refine en_getI (i := 7) h dX5_gather_146 fl_X5_gather_74 (hI _ (by omega) (by omega)) rfl rfl rfl (v9 := m 51 7) (hM.2.1 7 (by decide)) ?_
    refine en_icmp_ge (tgt := 284) h dX5_gather_149 (by decide) (by omega) (by omega) (fun c_149 => ?_) (fun c_149 => ?_)
    · exact en_vret h hf dX5_gather_284 ⟨by decide, by decide⟩ ⟨rfl, by rw [show (m 51 7).toNat = i by omega]; exact hM⟩
    · exact absurd c_149 (by omega)
  | succ f ih =>
    intro i hi M o o' hM
    have lM := mg_in_ln hM hl
    have mM := mg_in_mt hM hm
    have e7 := hM.2.1 7 (by decide)
    have v := mM.2 i (by omega) (by omega)
    have v0 := hm.2 i (by omega) (by omega)
    have skip : ∀ o o', ¬ ((i : Int) ≠ ex ∧ mo_io m (i : Int) = q) → en_G κ 278 [some (en_R 51), some (en_I q), some (en_I ex), some (en_I (i : Int)), o, o'] [] M 0 0 := by
      intro o o' hn
      refine en_iinc h dX5_gather_278 rfl (by decide) ?_
      refine en_goto (tgt := 144) h dX5_gather_281 (by decide) ?_
      refine ih (i + 1) (by omega) M _ _ ?_
      obtain ⟨h1, h2, h3, h4, h5, h6⟩ := hM
      exact ⟨h1, h2, h3, h4, fun k k0 k1 => by rw [h5 k k0 k1]; simp only [mg_P]; rw [if_neg hn], fun k k0 k1 => by rw [h6 k k0 k1]; simp only [mg_S]; rw [if_neg hn]⟩
    have io9 : en_i32 (mo_io M i) := by
      unfold mo_io mo_iu
      have e61 := hM.1 61 (by decide) (by decide)
      rw [e61]
      split
      · omega
      · rcases v.1 with ⟨g1, g2, g3⟩ | ⟨g1, g2, g3⟩
        · rw [if_pos g1]
          rw [hM.2.1 1 (by decide)] at g3
          have z := hr _ g2 g3
          omega
        · rw [if_neg (by omega)]
          split
          · omega
          · have y := lM.2.2 _ g2 g3
            rw [hM.2.1 1 (by decide)] at y
            have z := hr _ y.1.1 y.1.2
            omega
    refine en_iload_n (i := 3) h dX5_gather_144 rfl rfl ?_
    refine en_aload_n (i := 0) h dX5_gather_145 rfl rfl ?_
    refine en_getI (i := 7) h dX5_gather_146 fl_X5_gather_74 (hI _ (by omega) (by omega)) rfl rfl rfl (v9 := m 51 7) (hM.2.1 7 (by decide)) ?_
    refine en_icmp_ge (tgt := 284) h dX5_gather_149 (by decide) (by omega) (by omega) (fun c_149 => ?_) (fun c_149 => ?_)
    · exact absurd c_149 (by omega)
    · refine en_iload_n (i := 3) h dX5_gather_152 rfl rfl ?_
      refine en_iload_n (i := 2) h dX5_gather_153 rfl rfl ?_
      refine en_icmp_eq (tgt := 278) h dX5_gather_154 (by decide) (by omega) (by omega) (fun c_154 => ?_) (fun c_154 => ?_)
      · exact skip _ _ (fun z => z.1 c_154)
      · refine en_aload_n (i := 0) h dX5_gather_157 rfl rfl ?_
        refine en_iload_n (i := 3) h dX5_gather_158 rfl rfl ?_
        refine en_callV h (k_X5_countedIn hW hI lM ⟨by omega, by omega⟩ v.1 v.2.1) my_X5_countedIn gX5_gather_X5_countedIn (hI _ (by omega) (by omega)) rfl rfl rfl rfl ⟨by decide, by decide⟩ ⟨by decide, by decide⟩ (Nat.le_of_ble_eq_true rfl) dX5_gather_159 (fun r M0 hp => ?_)
        obtain ⟨rfl, e0⟩ := hp
        subst e0
        refine en_iload_n (i := 1) h dX5_gather_162 rfl rfl ?_
        refine en_icmp_ne (tgt := 278) h dX5_gather_163 (by decide) (by omega) (by omega) (fun c_163 => ?_) (fun c_163 => ?_)
        · rw [mg_in_io hM] at c_163
          exact skip _ _ (fun z => c_163 z.2)
        · rw [mg_in_io hM] at c_163
          refine en_aload_n (i := 0) h dX5_gather_166 rfl rfl ?_
          refine en_iload_n (i := 3) h dX5_gather_167 rfl rfl ?_
          refine en_callV h (k_X5_layRow hW hI lM ⟨by omega, by omega⟩ v.1 (fun b b0 b1 => by rw [hM.2.1 1 (by decide)] at b1; rw [hM.2.2.2.1 b b0 b1]; exact ma_ao_lt b0 (by omega) (hr b b0 b1))) my_X5_layRow gX5_gather_X5_layRow (hI _ (by omega) (by omega)) rfl rfl rfl rfl ⟨by decide, by decide⟩ ⟨by decide, by decide⟩ (Nat.le_of_ble_eq_true rfl) dX5_gather_168 (fun r M1 hp => ?_)
          obtain ⟨rfl, e1⟩ := hp
          rw [mg_in_row hM hl] at e1
          have q59 : M1 59 i = m 59 i := by rw [e1, en_ar_ne (by decide), hM.1 59 (by decide) (by decide)]
          have q58 : M1 58 i = m 58 i := by rw [e1, en_ar_ne (by decide), hM.1 58 (by decide) (by decide)]
          have q63 : ∀ k, 0 ≤ k → k < 4 → M1 63 k = mg_row m q i k := fun k k0 k1 => by rw [e1, en_ar_at k0 k1]
          have q64 : M1 64 = M0 64 := by rw [e1, en_ar_ne (by decide)]
          have q65 : M1 65 = M0 65 := by rw [e1, en_ar_ne (by decide)]
          have qk : ∀ k, k ≠ 63 → M1 k = M0 k := fun k hk => by rw [e1, en_ar_ne hk]
          clear e1
          refine en_aload_n (i := 0) h dX5_gather_171 rfl rfl ?_
          refine en_getR h dX5_gather_172 fl_X5_gather_32 (hI _ (by omega) (by omega)) rfl rfl ?_
          refine en_iload_n (i := 3) h dX5_gather_175 rfl rfl ?_
          refine en_iaload h dX5_gather_176 (hI _ (by omega) (by omega)) rfl (by omega) q59 ?_
          refine en_aload_n (i := 0) h dX5_gather_177 rfl rfl ?_
          refine en_getR h dX5_gather_178 fl_X5_gather_32 (hI _ (by omega) (by omega)) rfl rfl ?_
          refine en_iload_n (i := 3) h dX5_gather_181 rfl rfl ?_
          refine en_iaload h dX5_gather_182 (hI _ (by omega) (by omega)) rfl (by omega) q59 ?_
          refine en_imul h dX5_gather_183 ?_
          refine en_istore (i := 4) h dX5_gather_184 (by decide) ?_
          refine en_iconst h dX5_gather_186 ?_
          refine en_istore (i := 5) h dX5_gather_187 (by decide) ?_
          rw [← en_ar_0 (m := M1) (k := 64) (f := fun k => M1 64 k + m 59 i * m 59 i * mg_row m q i (k / 4) * mg_row m q i (k % 4))]
          refine lp_X5_gather_E hP h q63 (fun j k j0 j1 k0 k1 => mg_p32 v0.2.2.2 (mg_row_bd hl q i j) (by have z := mg_row_bd hl q i k; omega)) (fun k9 => ?_) 16 0 rfl
          refine en_iconst h dX5_gather_235 ?_
          refine en_istore (i := 5) h dX5_gather_236 (by decide) ?_
          rw [← en_ar_0 (m := en_ar M1 64 16 (fun k => M1 64 k + m 59 i * m 59 i * mg_row m q i (k / 4) * mg_row m q i (k % 4))) (k := 65) (f := fun k => en_ar M1 64 16 (fun k => M1 64 k + m 59 i * m 59 i * mg_row m q i (k / 4) * mg_row m q i (k % 4)) 65 k + m 59 i * m 59 i * mg_row m q i k * m 58 i)]
          refine lp_X5_gather_F hP h ⟨by omega, by omega⟩ (fun k k0 k1 => by rw [en_ar_ne (by decide)]; exact q63 k k0 k1) (by rw [en_ar_ne (by decide)]; exact q58) (fun j j0 j1 => mg_p32 v0.2.2.2 (mg_row_bd hl q i j) v0.2.2.1) (fun k9 => ?_) 4 0 rfl
          refine en_iinc h dX5_gather_278 rfl (by decide) ?_
          refine en_goto (tgt := 144) h dX5_gather_281 (by decide) ?_
          refine ih (i + 1) (by omega) _ _ _ ?_
          obtain ⟨h1, h2, h3, h4, h5, h6⟩ := hM
          refine ⟨fun k k0 k1 => by rw [en_ar_ne (by omega), en_ar_ne (by omega), qk k (by omega)]; exact h1 k k0 k1, fun j hj => by rw [en_ar_ne (by decide), en_ar_ne (by decide), qk 51 (by decide)]; exact h2 j hj, by rw [en_ar_ne (by decide), en_ar_ne (by decide), qk 51 (by decide)]; exact h3, fun b b0 b1 => by rw [en_ar_ne (by decide), en_ar_ne (by decide), qk 62 (by decide)]; exact h4 b b0 b1, fun k k0 k1 => ?_, fun k k0 k1 => ?_⟩
          · rw [en_ar_ne (by decide), en_ar_at k0 k1, q64, h5 k k0 k1]
            simp only [mg_P]
            rw [if_pos ⟨c_154, c_163⟩]
          · rw [en_ar_at k0 k1, en_ar_ne (by decide), q65, h6 k k0 k1]
            simp only [mg_S]
            rw [if_pos ⟨c_154, c_163⟩]
set_option maxRecDepth 100000 in
set_option maxHeartbeats 4000000 in
theorem k_X5_gather {l : Launch} {w : en_W} {m : en_M} {q ex : Int} (hw : en_Wok w) (hp : en_Has w 0 68) (hl : xo_ln m) (hm : xo_mt m) (hq : en_i32 q) (hex : en_i32 ex) (hr : ∀ b, 0 ≤ b → b < m 51 1 → 0 ≤ m 61 b ∧ m 61 b ≤ b) : en_Met l w yX5_gather wsX5_gather rm_X5_gather [en_R 51, en_I q, en_I ex] m (fun r m' => r = none ∧ mg_in m' m q ex (m 51 7).toNat) := by
  refine en_met my_X5_gather hw (Nat.le_of_ble_eq_true rfl) ?_
  intro κ hl9 hw9 h hf
  subst hw9
  subst hl9
  have hI : ∀ k, 0 ≤ k → k < 68 → en_in κ k := hp
  have n1 := hl.1
  have n7 := hm.1
  have z := gs_cu_rng (m 61) q (m 51 1).toNat
  refine en_aload_n (i := 0) h dX5_gather_0 rfl rfl ?_
  refine en_iconst h dX5_gather_1 ?_
  refine en_putI (i := 15) h dX5_gather_2 fl_X5_gather_107 fp_5_15 (hI _ (by omega) (by omega)) rfl rfl rfl ?_
  refine en_iconst h dX5_gather_5 ?_
  refine en_istore_n (i := 3) h dX5_gather_6 rfl (by decide) ?_
  have e0 : en_set m 51 15 0 = ma_M m q 0 := by
    unfold ma_M
    rw [show ((0 : Nat) : Int) = 0 from rfl, en_ar_0]
    rfl
  rw [e0]
  refine lp_X5_gather_A hp h hl hq (fun b b0 b1 => by have z := hr b b0 b1; omega) (fun i o => ?_) (m 51 1).toNat 0 (by omega) _
  refine en_iconst h dX5_gather_81 ?_
  refine en_istore_n (i := 3) h dX5_gather_82 rfl (by decide) ?_
  rw [← en_ar_0 (m := ma_M m q (m 51 1).toNat) (k := 64) (f := mg_B (gs_cu (m 61) q (m 51 1).toNat))]
  refine lp_X5_gather_B hp h ma_M_15 (by omega) (fun i => ?_) 16 0 rfl
  refine en_iconst h dX5_gather_122 ?_
  refine en_istore_n (i := 3) h dX5_gather_123 rfl (by decide) ?_
  rw [← en_ar_0 (m := en_ar (ma_M m q (m 51 1).toNat) 64 16 (mg_B (gs_cu (m 61) q (m 51 1).toNat))) (k := 65) (f := fun _ => 0)]
  refine lp_X5_gather_C hp h (fun i => ?_) 4 0 rfl
  refine en_iconst h dX5_gather_142 ?_
  refine en_istore_n (i := 3) h dX5_gather_143 rfl (by decide) ?_
  refine lp_X5_gather_D hw hp h hf hl hm hq hex hr (m 51 7).toNat 0 (by omega) _ _ _ ?_
  refine ⟨fun k k0 k1 => by rw [en_ar_ne (by omega), en_ar_ne (by omega), ma_M_k k0 (by omega)], fun j hj => by rw [en_ar_ne (by decide), en_ar_ne (by decide), ma_M_j (by omega)], by rw [en_ar_ne (by decide), en_ar_ne (by decide), ma_M_15], fun b b0 b1 => by rw [en_ar_ne (by decide), en_ar_ne (by decide), ma_M_62 b0 (by omega)], fun k k0 k1 => by rw [en_ar_ne (by decide), en_ar_at k0 k1]; rfl, fun k k0 k1 => by rw [en_ar_at k0 k1]; rfl⟩
