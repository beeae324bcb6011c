/-! ESTIMATE 3: the answer, residuals, the worst meter -/
def gl_L (m : en_M) (q : Int) : Nat → Int → Int → Int
  | 0 => gl_L0 (m 5) q
  | n + 1 => if xm_io m (n : Int) = q then gl_La (m 5) q (m 25 (n : Int) * m 25 (n : Int)) (xm_gr m (n : Int)) (gl_L m q n) else gl_L m q n
def gl_R (m : en_M) (q : Int) : Nat → Int → Int
  | 0 => fun _ => 0
  | n + 1 => if xm_io m (n : Int) = q then gl_Ra (m 5) q (m 25 (n : Int) * m 25 (n : Int)) (m 24 (n : Int)) (xm_gr m (n : Int)) (gl_R m q n) else gl_R m q n
/-- the equations of an island, the right side standing in a column -/
def gl_E (m : en_M) (q rep : Int) : Int → Int → Int := fun r c => if c = rep then gl_R m q (m 21 1).toNat r else gl_L m q (m 21 1).toNat r c
def gl_D (m : en_M) (q rep : Int) : Int := gm_D (gl_E m q rep) 5 31
theorem gl_La_cong {R : Int → Int} {q wt : Int} {g : Int → Int} {L L' : Int → Int → Int} {b o : Int} (h : L b o = L' b o) : gl_La R q wt g L b o = gl_La R q wt g L' b o := by
  unfold gl_La
  rw [h]
theorem gl_Ra_cong {R : Int → Int} {q wt rd : Int} {g : Int → Int} {L L' : Int → Int} {b : Int} (h : L b = L' b) : gl_Ra R q wt rd g L b = gl_Ra R q wt rd g L' b := by
  unfold gl_Ra
  rw [h]
/-- readings and accuracies -/
def xv_rd (m : en_M) : Prop := ∀ i, 0 ≤ i → i < m 21 1 → (-50 ≤ m 24 i ∧ m 24 i ≤ 50) ∧ (1 ≤ m 25 i ∧ m 25 i ≤ 2)
theorem xv_rd_ag {M m : en_M} (h : en_ag M m) (hv : xv_rd m) : xv_rd M := fun i i0 i1 => by
  rw [h 21 (by decide)] at i1
  rw [h 24 (by decide), h 25 (by decide)]
  exact hv i i0 i1
abbrev rm_X0_solve : Room := { frames := 3, cells := 0, slots := 0, locals := 53 }
theorem my_X0_solve : en_MY yX0_solve RX0 cX0_solve 3 none wsX0_solve 1 := ⟨⟨_, rfl⟩, rfl, by decide, by decide, by decide +kernel, by decide +kernel⟩
set_option maxRecDepth 20000 in
theorem fl_X0_solve_23 : en_FL wsX0_solve RX0 23 0 5 := ⟨_, _, _, rfl, by decide, by decide +kernel, Or.inl (by decide +kernel)⟩
set_option maxRecDepth 20000 in
theorem fl_X0_solve_26 : en_FL wsX0_solve RX0 26 0 6 := ⟨_, _, _, rfl, by decide, by decide +kernel, Or.inl (by decide +kernel)⟩
set_option maxRecDepth 20000 in
theorem fl_X0_solve_34 : en_FL wsX0_solve RX0 34 0 1 := ⟨_, _, _, rfl, by decide, by decide +kernel, Or.inl (by decide +kernel)⟩
set_option maxRecDepth 20000 in
theorem fl_X0_solve_42 : en_FL wsX0_solve RX0 42 2 1 := ⟨_, _, _, rfl, by decide, by decide +kernel, Or.inr (by decide +kernel)⟩
set_option maxRecDepth 100000 in
set_option maxHeartbeats 4000000 in
theorem lp_X0_solve_B {κ : en_C} {m : en_M} {q : Int} (hW : en_Wok (en_w κ)) (hP : en_Has (en_w κ) 0 49) (h : en_Ok κ RX0 cX0_solve 3 wsX0_solve rm_X0_solve) (hf : en_fin κ rm_X0_solve none (fun r m' => r = none ∧ en_oe m' m ∧ m' 39 6 = gl_D m q (-1) ∧ ∀ b, 0 ≤ b → b < 5 → m' 43 b = gl_D m q b)) : ∀ (f b : Nat), f + b = 5 → ∀ M : en_M, en_oe M m → M 39 6 = gl_D m q (-1) → (∀ r c, 0 ≤ r → r < 5 → 0 ≤ c → c < 5 → M (44 + r) c = gl_L m q (m 21 1).toNat r c) → (∀ r, 0 ≤ r → r < 5 → M 41 r = gl_R m q (m 21 1).toNat r) → (∀ c, 0 ≤ c → c < (b : Int) → M 43 c = gl_D m q c) → en_G κ 53 [some (en_R 39), some (en_I q), some (en_I (b : Int))] [] M 0 0 := by
  have hI : ∀ k, 0 ≤ k → k < 49 → en_in κ k := hP
  intro f
  induction f with
  | zero =>
    intro b hb M h1 h2 h3 h4 h5
    refine en_iload_n (i := 2) h dX0_solve_53 rfl rfl ?_
    refine en_iconst h dX0_solve_54 ?_
    refine en_icmp_ge (tgt := 75) h dX0_solve_55 (by decide) (by omega) (by omega) (fun c_55 => ?_) (fun c_55 => ?_)
    · exact en_vret h hf dX0_solve_75 ⟨by decide, by decide⟩ ⟨rfl, h1, h2, fun c c0 c1 => h5 c c0 (by omega)⟩
    · exact absurd c_55 (by omega)
  | succ f ih =>
    intro b hb M h1 h2 h3 h4 h5
    refine en_iload_n (i := 2) h dX0_solve_53 rfl rfl ?_
    refine en_iconst h dX0_solve_54 ?_
    refine en_icmp_ge (tgt := 75) h dX0_solve_55 (by decide) (by omega) (by omega) (fun c_55 => ?_) (fun c_55 => ?_)
    · exact absurd c_55 (by omega)
    · refine en_aload_n (i := 0) h dX0_solve_58 rfl rfl ?_
      refine en_getR h dX0_solve_59 fl_X0_solve_23 (hI _ (by omega) (by omega)) rfl rfl ?_
      refine en_iload_n (i := 2) h dX0_solve_62 rfl rfl ?_
      refine en_aload_n (i := 0) h dX0_solve_63 rfl rfl ?_
      refine en_iload_n (i := 2) h dX0_solve_64 rfl rfl ?_
      refine en_callV h (k_X0_determinant (E := gl_E m q (b : Int)) hW hI (by omega) (fun r c r0 r1 c0 c1 => by unfold xm_E gl_E; rw [h4 r r0 r1, h3 r c r0 r1 c0 c1])) my_X0_determinant gX0_solve_X0_determinant (hI _ (by omega) (by omega)) rfl rfl rfl rfl ⟨by decide, by decide⟩ ⟨by decide, by decide⟩ (Nat.le_of_ble_eq_true rfl) dX0_solve_65 (fun r M1 hp => ?_)
      obtain ⟨rfl, e1⟩ := hp
      refine en_lastore h dX0_solve_68 (hI _ (by omega) (by omega)) rfl (by omega) ?_
      refine en_iinc h dX0_solve_69 rfl (by decide) ?_
      refine en_goto (tgt := 53) h dX0_solve_72 (by decide) ?_
      refine ih (b + 1) (by omega) _ (fun k hk => by rw [en_set_ne (by omega), e1 k (by omega)]; exact h1 k hk) (by rw [en_set_ne (by decide), e1 39 (by decide)]; exact h2) (fun r c r0 r1 c0 c1 => by rw [en_set_ne (by omega), e1 _ (by omega)]; exact h3 r c r0 r1 c0 c1) (fun r r0 r1 => by rw [en_set_ne (by decide), e1 41 (by decide)]; exact h4 r r0 r1) (fun c c0 c1 => ?_)
      by_cases e : c = (b : Int)
      · rw [e, en_set_at]; rfl
      · rw [en_set_nj e, e1 43 (by decide)]; exact h5 c c0 (by omega)
set_option maxRecDepth 100000 in
set_option maxHeartbeats 4000000 in
theorem lp_X0_solve_A {κ : en_C} {m : en_M} {q : Int} (hW : en_Wok (en_w κ)) (hP : en_Has (en_w κ) 0 49) (h : en_Ok κ RX0 cX0_solve 3 wsX0_solve rm_X0_solve) (hf : en_fin κ rm_X0_solve none (fun r m' => r = none ∧ en_oe m' m ∧ m' 39 6 = gl_D m q (-1) ∧ ∀ b, 0 ≤ b → b < 5 → m' 43 b = gl_D m q b)) (hq : en_i32 q) (hv : xv_all m) (hd : xv_rd m) : ∀ (f i : Nat), (f : Int) + i = m 21 1 → ∀ M : en_M, en_oe M m → (∀ r c, 0 ≤ r → r < 5 → 0 ≤ c → c < 5 → M (44 + r) c = gl_L m q i r c) → (∀ r, 0 ≤ r → r < 5 → M 41 r = gl_R m q i r) → en_G κ 7 [some (en_R 39), some (en_I q), some (en_I (i : Int))] [] M 0 0 := by
  have hI : ∀ k, 0 ≤ k → k < 49 → en_in κ k := hP
  intro f
  induction f with
  | zero =>
    intro i hi M h1 h3 h4
    have n9 := hv.1
    have e21 : M 21 1 = m 21 1 := by rw [h1 21 (by decide)]
    have ei : i = (m 21 1).toNat := by omega
    refine en_iload_n (i := 2) h dX0_solve_7 rfl rfl ?_
    refine en_aload_n (i := 0) h dX0_solve_8 rfl rfl ?_
    refine en_getR h dX0_solve_9 fl_X0_solve_34 (hI _ (by omega) (by omega)) rfl rfl ?_
    refine en_getI (i := 1) h dX0_solve_12 fl_X0_solve_42 (hI _ (by omega) (by omega)) rfl rfl rfl e21 ?_
    refine en_icmp_ge (tgt := 42) h dX0_solve_15 (by decide) (by omega) (by omega) (fun c_15 => ?_) (fun c_15 => ?_)
    · refine en_aload_n (i := 0) h dX0_solve_42 rfl rfl ?_
      refine en_aload_n (i := 0) h dX0_solve_43 rfl rfl ?_
      refine en_iconst h dX0_solve_44 ?_
      refine en_callV h (k_X0_determinant (E := gl_E m q (-1)) hW hI (by decide) (fun r c r0 r1 c0 c1 => by unfold xm_E gl_E; rw [h4 r r0 r1, h3 r c r0 r1 c0 c1, ei])) my_X0_determinant gX0_solve_X0_determinant (hI _ (by omega) (by omega)) rfl rfl rfl rfl ⟨by decide, by decide⟩ ⟨by decide, by decide⟩ (Nat.le_of_ble_eq_true rfl) dX0_solve_45 (fun r M1 hp => ?_)
      obtain ⟨rfl, e1⟩ := hp
      refine en_putL (i := 6) h dX0_solve_48 fl_X0_solve_26 fp_0_6 (hI _ (by omega) (by omega)) rfl rfl rfl ?_
      refine en_iconst h dX0_solve_51 ?_
      refine en_istore_n (i := 2) h dX0_solve_52 rfl (by decide) ?_
      exact lp_X0_solve_B hW hP h hf 5 0 rfl _ (fun k hk => by rw [en_set_ne (by omega), e1 k (by omega)]; exact h1 k hk) (by rw [en_set_at]; rfl) (fun r c r0 r1 c0 c1 => by rw [en_set_ne (by omega), e1 _ (by omega), ← ei]; exact h3 r c r0 r1 c0 c1) (fun r r0 r1 => by rw [en_set_ne (by decide), e1 41 (by decide), ← ei]; exact h4 r r0 r1) (fun c c0 c1 => absurd c1 (by omega))
    · exact absurd c_15 (by omega)
  | succ f ih =>
    intro i hi M h1 h3 h4
    have n9 := hv.1
    have v := hv.2.1 i (by omega) (by omega)
    have d := hd i (by omega) (by omega)
    have ag := en_oe_ag h1
    have e21 : M 21 1 = m 21 1 := by rw [h1 21 (by decide)]
    refine en_iload_n (i := 2) h dX0_solve_7 rfl rfl ?_
    refine en_aload_n (i := 0) h dX0_solve_8 rfl rfl ?_
    refine en_getR h dX0_solve_9 fl_X0_solve_34 (hI _ (by omega) (by omega)) rfl rfl ?_
    refine en_getI (i := 1) h dX0_solve_12 fl_X0_solve_42 (hI _ (by omega) (by omega)) rfl rfl rfl e21 ?_
    refine en_icmp_ge (tgt := 42) h dX0_solve_15 (by decide) (by omega) (by omega) (fun c_15 => ?_) (fun c_15 => ?_)
    · exact absurd c_15 (by omega)
    · refine en_aload_n (i := 0) h dX0_solve_18 rfl rfl ?_
      refine en_getR h dX0_solve_19 fl_X0_solve_34 (hI _ (by omega) (by omega)) rfl rfl ?_
      refine en_iload_n (i := 2) h dX0_solve_22 rfl rfl ?_
      refine en_callV h (k_X2_islandOf hW (fun k k0 k1 => hI k k0 (by omega)) ⟨by omega, by omega⟩ (xv_m_ag ag v.1) (by rw [h1 26 (by decide)]; exact v.2.1)) my_X2_islandOf gX0_solve_X2_islandOf (hI _ (by omega) (by omega)) rfl rfl rfl rfl ⟨by decide, by decide⟩ ⟨by decide, by decide⟩ (Nat.le_of_ble_eq_true rfl) dX0_solve_23 (fun r M1 hp => ?_)
      obtain ⟨rfl, e1⟩ := hp
      subst e1
      rw [xm_io_ag ag]
      refine en_iload_n (i := 1) h dX0_solve_26 rfl rfl ?_
      refine en_icmp_ne (tgt := 36) h dX0_solve_27 (by decide) (xm_io_32 hv (by omega) (by omega)) hq (fun c_27 => ?_) (fun c_27 => ?_)
      · refine en_iinc h dX0_solve_36 rfl (by decide) ?_
        refine en_goto (tgt := 7) h dX0_solve_39 (by decide) ?_
        refine ih (i + 1) (by omega) M1 h1 (fun r c r0 r1 c0 c1 => by rw [h3 r c r0 r1 c0 c1]; simp only [gl_L]; rw [if_neg c_27]) (fun r r0 r1 => by rw [h4 r r0 r1]; simp only [gl_R]; rw [if_neg c_27])
      · refine en_aload_n (i := 0) h dX0_solve_30 rfl rfl ?_
        refine en_iload_n (i := 2) h dX0_solve_31 rfl rfl ?_
        refine en_iload_n (i := 1) h dX0_solve_32 rfl rfl ?_
        refine en_callV h (k_X0_addToEquations (g := xm_gr m (i : Int)) hW hI ⟨by omega, by omega⟩ hq (fun b b0 b1 => by rw [h1 5 (by decide)]; exact hv.2.2 b b0 b1) (xv_m_ag ag v.1) (fun b b0 b1 => ⟨xm_gr_ag ag v.1 b, by have z := v.2.2.2 b b0 b1; omega⟩) (by rw [h1 24 (by decide)]; omega) (by rw [h1 25 (by decide)]; omega)) my_X0_addToEquations gX0_solve_X0_addToEquations (hI _ (by omega) (by omega)) rfl rfl rfl rfl ⟨by decide, by decide⟩ ⟨by decide, by decide⟩ (Nat.le_of_ble_eq_true rfl) dX0_solve_33 (fun r M2 hp => ?_)
        obtain ⟨rfl, g1, g2, g3, g4⟩ := hp
        refine en_iinc h dX0_solve_36 rfl (by decide) ?_
        refine en_goto (tgt := 7) h dX0_solve_39 (by decide) ?_
        refine ih (i + 1) (by omega) M2 (en_oe_tr g1 h1) (fun r c r0 r1 c0 c1 => ?_) (fun r r0 r1 => ?_)
        · rw [g3 r c r0 r1 c0 c1, h1 5 (by decide), h1 25 (by decide)]
          simp only [gl_L]
          rw [if_pos c_27]
          exact gl_La_cong (h3 r c r0 r1 c0 c1)
        · rw [g4 r r0 r1, h1 5 (by decide), h1 25 (by decide), h1 24 (by decide)]
          simp only [gl_R]
          rw [if_pos c_27]
          exact gl_Ra_cong (h4 r r0 r1)
set_option maxRecDepth 100000 in
set_option maxHeartbeats 4000000 in
theorem k_X0_solve {l : Launch} {w : en_W} {m : en_M} {q : Int} (hw : en_Wok w) (hp : en_Has w 0 49) (hq : en_i32 q) (hv : xv_all m) (hd : xv_rd m) : en_Met l w yX0_solve wsX0_solve rm_X0_solve [en_R 39, en_I q] m (fun r m' => r = none ∧ en_oe m' m ∧ m' 39 6 = gl_D m q (-1) ∧ ∀ b, 0 ≤ b → b < 5 → m' 43 b = gl_D m q b) := by
  refine en_met my_X0_solve hw (Nat.le_of_ble_eq_true rfl) ?_
  intro κ hl9 hw9 h hf
  subst hw9
  subst hl9
  have hI : ∀ k, 0 ≤ k → k < 49 → en_in κ k := hp
  have n9 := hv.1
  refine en_aload_n (i := 0) h dX0_solve_0 rfl rfl ?_
  refine en_iload_n (i := 1) h dX0_solve_1 rfl rfl ?_
  refine en_callV h (k_X0_startEquations hw hI hq hv.2.2) my_X0_startEquations gX0_solve_X0_startEquations (hI _ (by omega) (by omega)) rfl rfl rfl rfl ⟨by decide, by decide⟩ ⟨by decide, by decide⟩ (Nat.le_of_ble_eq_true rfl) dX0_solve_2 (fun r M1 hp => ?_)
  obtain ⟨rfl, g1, g2, g3, g4⟩ := hp
  refine en_iconst h dX0_solve_5 ?_
  refine en_istore_n (i := 2) h dX0_solve_6 rfl (by decide) ?_
  exact lp_X0_solve_A hw hp h hf hq hv hd (m 21 1).toNat 0 (by omega) M1 g1 g3 g4
abbrev rm_X0_residual : Room := { frames := 2, cells := 0, slots := 0, locals := 23 }
theorem my_X0_residual : en_MY yX0_residual RX0 cX0_residual 5 (some .long) wsX0_residual 1 := ⟨⟨_, rfl⟩, rfl, by decide, by decide, by decide +kernel, by decide +kernel⟩
set_option maxRecDepth 20000 in
theorem fl_X0_residual_23 : en_FL wsX0_residual RX0 23 0 5 := ⟨_, _, _, rfl, by decide, by decide +kernel, Or.inl (by decide +kernel)⟩
set_option maxRecDepth 20000 in
theorem fl_X0_residual_26 : en_FL wsX0_residual RX0 26 0 6 := ⟨_, _, _, rfl, by decide, by decide +kernel, Or.inl (by decide +kernel)⟩
set_option maxRecDepth 20000 in
theorem fl_X0_residual_34 : en_FL wsX0_residual RX0 34 0 1 := ⟨_, _, _, rfl, by decide, by decide +kernel, Or.inl (by decide +kernel)⟩
set_option maxRecDepth 20000 in
theorem fl_X0_residual_74 : en_FL wsX0_residual RX0 74 2 4 := ⟨_, _, _, rfl, by decide, by decide +kernel, Or.inr (by decide +kernel)⟩
/-- the residual, times the denominator -/
def gm_rs (rd D : Int) (g a : Int → Int) : Nat → Int
  | 0 => rd * D
  | n + 1 => gm_rs rd D g a n - g (n : Int) * a (n : Int)
def xm_rs (m : en_M) (i : Int) : Int := gm_rs (m 24 i) (m 39 6) (xm_gr m i) (m 43) 5
set_option maxRecDepth 100000 in
set_option maxHeartbeats 4000000 in
theorem lp_X0_residual {κ : en_C} {m : en_M} {i : Int} (hW : en_Wok (en_w κ)) (hP : en_Has (en_w κ) 0 49) (h : en_Ok κ RX0 cX0_residual 5 wsX0_residual rm_X0_residual) (hf : en_fin κ rm_X0_residual (some .long) (fun r m' => r = some (en_L (xm_rs m i)) ∧ m' = m)) (hi : 0 ≤ i ∧ i < 10) (hv : xv_m m i) (hg : ∀ b, 0 ≤ b → b < 5 → en_i32 (xm_gr m i b)) : ∀ (f b : Nat), f + b = 5 → en_G κ 19 [some (en_R 39), some (en_I i), some (en_L (gm_rs (m 24 i) (m 39 6) (xm_gr m i) (m 43) b)), none, some (en_I (b : Int))] [] m 0 0 := by
  have hI : ∀ k, 0 ≤ k → k < 49 → en_in κ k := hP
  intro f
  induction f with
  | zero =>
    intro b hb
    refine en_iload (i := 4) h dX0_residual_19 rfl ?_
    refine en_iconst h dX0_residual_21 ?_
    refine en_icmp_ge (tgt := 53) h dX0_residual_22 (by decide) (by omega) (by omega) (fun c_22 => ?_) (fun c_22 => ?_)
    · refine en_lload_n (i := 2) h dX0_residual_53 rfl rfl ?_
      exact en_lret h hf dX0_residual_54 ⟨by decide, by decide⟩ ⟨by rw [show b = 5 by omega]; rfl, rfl⟩
    · exact absurd c_22 (by omega)
  | succ f ih =>
    intro b hb
    refine en_iload (i := 4) h dX0_residual_19 rfl ?_
    refine en_iconst h dX0_residual_21 ?_
    refine en_icmp_ge (tgt := 53) h dX0_residual_22 (by decide) (by omega) (by omega) (fun c_22 => ?_) (fun c_22 => ?_)
    · exact absurd c_22 (by omega)
    · refine en_lload_n (i := 2) h dX0_residual_25 rfl rfl ?_
      refine en_aload_n (i := 0) h dX0_residual_26 rfl rfl ?_
      refine en_getR h dX0_residual_27 fl_X0_residual_34 (hI _ (by omega) (by omega)) rfl rfl ?_
      refine en_iload_n (i := 1) h dX0_residual_30 rfl rfl ?_
      refine en_iload (i := 4) h dX0_residual_31 rfl ?_
      refine en_callV h (k_X2_growth hW (fun k k0 k1 => hI k k0 (by omega)) hi ⟨by omega, by omega⟩ hv) my_X2_growth gX0_residual_X2_growth (hI _ (by omega) (by omega)) rfl rfl rfl rfl ⟨by decide, by decide⟩ ⟨by decide, by decide⟩ (Nat.le_of_ble_eq_true rfl) dX0_residual_33 (fun r M1 hp => ?_)
      obtain ⟨rfl, e1⟩ := hp
      subst e1
      refine en_i2l h dX0_residual_36 (hg b (by omega) (by omega)) ?_
      refine en_aload_n (i := 0) h dX0_residual_37 rfl rfl ?_
      refine en_getR h dX0_residual_38 fl_X0_residual_23 (hI _ (by omega) (by omega)) rfl rfl ?_
      refine en_iload (i := 4) h dX0_residual_41 rfl ?_
      refine en_laload h dX0_residual_43 (hI _ (by omega) (by omega)) rfl (by omega) rfl ?_
      refine en_lmul h dX0_residual_44 ?_
      refine en_lsub h dX0_residual_45 ?_
      refine en_lstore_n (i := 2) h dX0_residual_46 rfl (by decide) ?_
      refine en_iinc h dX0_residual_47 rfl (by decide) ?_
      refine en_goto (tgt := 19) h dX0_residual_50 (by decide) ?_
      exact ih (b + 1) (by omega)
set_option maxRecDepth 100000 in
set_option maxHeartbeats 4000000 in
theorem k_X0_residual {l : Launch} {w : en_W} {m : en_M} {i : Int} (hw : en_Wok w) (hp : en_Has w 0 49) (hi : 0 ≤ i ∧ i < 10) (hv : xv_m m i) (hg : ∀ b, 0 ≤ b → b < 5 → en_i32 (xm_gr m i b)) (hrd : en_i32 (m 24 i)) : en_Met l w yX0_residual wsX0_residual rm_X0_residual [en_R 39, en_I i] m (fun r m' => r = some (en_L (xm_rs m i)) ∧ m' = m) := by
  refine en_met my_X0_residual hw (Nat.le_of_ble_eq_true rfl) ?_
  intro κ hl9 hw9 h hf
  subst hw9
  subst hl9
  have hI : ∀ k, 0 ≤ k → k < 49 → en_in κ k := hp
  refine en_aload_n (i := 0) h dX0_residual_0 rfl rfl ?_
  refine en_getR h dX0_residual_1 fl_X0_residual_34 (hI _ (by omega) (by omega)) rfl rfl ?_
  refine en_getR h dX0_residual_4 fl_X0_residual_74 (hI _ (by omega) (by omega)) rfl rfl ?_
  refine en_iload_n (i := 1) h dX0_residual_7 rfl rfl ?_
  refine en_iaload h dX0_residual_8 (hI _ (by omega) (by omega)) rfl (by omega) rfl ?_
  refine en_i2l h dX0_residual_9 hrd ?_
  refine en_aload_n (i := 0) h dX0_residual_10 rfl rfl ?_
  refine en_getL (i := 6) h dX0_residual_11 fl_X0_residual_26 (hI _ (by omega) (by omega)) rfl rfl rfl rfl ?_
  refine en_lmul h dX0_residual_14 ?_
  refine en_lstore_n (i := 2) h dX0_residual_15 rfl (by decide) ?_
  refine en_iconst h dX0_residual_16 ?_
  refine en_istore (i := 4) h dX0_residual_17 (by decide) ?_
  exact lp_X0_residual hw hp h hf hi hv hg 5 0 rfl
abbrev rm_X0_weightedSize : Room := { frames := 3, cells := 0, slots := 0, locals := 47 }
theorem my_X0_weightedSize : en_MY yX0_weightedSize RX0 cX0_weightedSize 2 (some .long) wsX0_weightedSize 1 := ⟨⟨_, rfl⟩, rfl, by decide, by decide, by decide +kernel, by decide +kernel⟩
set_option maxRecDepth 20000 in
theorem fl_X0_weightedSize_34 : en_FL wsX0_weightedSize RX0 34 0 1 := ⟨_, _, _, rfl, by decide, by decide +kernel, Or.inl (by decide +kernel)⟩
set_option maxRecDepth 20000 in
theorem fl_X0_weightedSize_66 : en_FL wsX0_weightedSize RX0 66 2 5 := ⟨_, _, _, rfl, by decide, by decide +kernel, Or.inr (by decide +kernel)⟩
def gm_ab (x : Int) : Int := if 0 < en_w64 x then x else -x
def xm_ws (m : en_M) (i : Int) : Int := m 25 i * gm_ab (xm_rs m i)
theorem jj_X0_weightedSize : en_J wsX0_weightedSize RX0 89 Lib.MathLoose.abs_long.x Lib.MathLoose.abs_long.code 2 (some .long) := ⟨by decide +kernel, by decide +kernel, by decide +kernel, by decide +kernel⟩
set_option maxRecDepth 100000 in
set_option maxHeartbeats 4000000 in
theorem k_X0_weightedSize {l : Launch} {w : en_W} {m : en_M} {i : Int} (hw : en_Wok w) (hp : en_Has w 0 49) (hi : 0 ≤ i ∧ i < 10) (hv : xv_m m i) (hg : ∀ b, 0 ≤ b → b < 5 → en_i32 (xm_gr m i b)) (hrd : en_i32 (m 24 i)) (hac : en_i32 (m 25 i)) : en_Met l w yX0_weightedSize wsX0_weightedSize rm_X0_weightedSize [en_R 39, en_I i] m (fun r m' => r = some (en_L (xm_ws m i)) ∧ m' = m) := by
  refine en_met my_X0_weightedSize hw (Nat.le_of_ble_eq_true rfl) ?_
  intro κ hl9 hw9 h hf
  subst hw9
  subst hl9
  have hI : ∀ k, 0 ≤ k → k < 49 → en_in κ k := hp
  refine en_aload_n (i := 0) h dX0_weightedSize_0 rfl rfl ?_
  refine en_getR h dX0_weightedSize_1 fl_X0_weightedSize_34 (hI _ (by omega) (by omega)) rfl rfl ?_
  refine en_getR h dX0_weightedSize_4 fl_X0_weightedSize_66 (hI _ (by omega) (by omega)) rfl rfl ?_
  refine en_iload_n (i := 1) h dX0_weightedSize_7 rfl rfl ?_
  refine en_iaload h dX0_weightedSize_8 (hI _ (by omega) (by omega)) rfl (by omega) rfl ?_
  refine en_i2l h dX0_weightedSize_9 hac ?_
  refine en_aload_n (i := 0) h dX0_weightedSize_10 rfl rfl ?_
  refine en_iload_n (i := 1) h dX0_weightedSize_11 rfl rfl ?_
  refine en_callV h (k_X0_residual hw hI hi hv hg hrd) my_X0_residual gX0_weightedSize_X0_residual (hI _ (by omega) (by omega)) rfl rfl rfl rfl ⟨by decide, by decide⟩ ⟨by decide, by decide⟩ (Nat.le_of_ble_eq_true rfl) dX0_weightedSize_12 (fun r M1 hp => ?_)
  obtain ⟨rfl, e1⟩ := hp
  subst e1
  refine en_mabs h jj_X0_weightedSize ⟨by decide, by decide⟩ (by decide) (Nat.le_of_ble_eq_true rfl) dX0_weightedSize_15 ?_
  refine en_lmul h dX0_weightedSize_18 ?_
  exact en_lret h hf dX0_weightedSize_19 ⟨by decide, by decide⟩ ⟨rfl, rfl⟩
abbrev rm_X0_isAbove : Room := { frames := 4, cells := 0, slots := 0, locals := 68 }
theorem my_X0_isAbove : en_MY yX0_isAbove RX0 cX0_isAbove 3 (some .boolean) wsX0_isAbove 2 := ⟨⟨_, rfl⟩, rfl, by decide, by decide, by decide +kernel, by decide +kernel⟩
set_option maxRecDepth 20000 in
theorem fl_X0_isAbove_26 : en_FL wsX0_isAbove RX0 26 0 6 := ⟨_, _, _, rfl, by decide, by decide +kernel, Or.inl (by decide +kernel)⟩
set_option maxRecDepth 100000 in
set_option maxHeartbeats 4000000 in
theorem k_X0_isAbove {l : Launch} {w : en_W} {m : en_M} {i lim : Int} (hw : en_Wok w) (hp : en_Has w 0 49) (hi : 0 ≤ i ∧ i < 10) (hv : xv_m m i) (hg : ∀ b, 0 ≤ b → b < 5 → en_i32 (xm_gr m i b)) (hrd : en_i32 (m 24 i)) (hac : en_i32 (m 25 i)) (hlim : en_i32 lim) : en_Met l w yX0_isAbove wsX0_isAbove rm_X0_isAbove [en_R 39, en_I i, en_I lim] m (fun r m' => r = some (en_I (if en_w64 (lim * m 39 6) < en_w64 (xm_ws m i) then 1 else 0)) ∧ m' = m) := by
  refine en_met my_X0_isAbove hw (Nat.le_of_ble_eq_true rfl) ?_
  intro κ hl9 hw9 h hf
  subst hw9
  subst hl9
  have hI : ∀ k, 0 ≤ k → k < 49 → en_in κ k := hp
  refine en_aload_n (i := 0) h dX0_isAbove_0 rfl rfl ?_
  refine en_iload_n (i := 1) h dX0_isAbove_1 rfl rfl ?_
  refine en_callV h (k_X0_weightedSize hw hI hi hv hg hrd hac) my_X0_weightedSize gX0_isAbove_X0_weightedSize (hI _ (by omega) (by omega)) rfl rfl rfl rfl ⟨by decide, by decide⟩ ⟨by decide, by decide⟩ (Nat.le_of_ble_eq_true rfl) dX0_isAbove_2 (fun r M1 hp => ?_)
  obtain ⟨rfl, e1⟩ := hp
  subst e1
  refine en_iload_n (i := 2) h dX0_isAbove_5 rfl rfl ?_
  refine en_i2l h dX0_isAbove_6 hlim ?_
  refine en_aload_n (i := 0) h dX0_isAbove_7 rfl rfl ?_
  refine en_getL (i := 6) h dX0_isAbove_8 fl_X0_isAbove_26 (hI _ (by omega) (by omega)) rfl rfl rfl rfl ?_
  refine en_lmul h dX0_isAbove_11 ?_
  refine en_lcmp h dX0_isAbove_12 ?_
  refine en_if_le (tgt := 20) h dX0_isAbove_13 (by decide) (en_cmp_r _ _) (fun c_13 => ?_) (fun c_13 => ?_)
  · refine en_iconst h dX0_isAbove_20 ?_
    exact en_zret h hf dX0_isAbove_21 ⟨by decide, by decide⟩ (by omega) ⟨by rw [if_neg (by have z := (en_cmp_le _ _).mp c_13; omega)], rfl⟩
  · refine en_iconst h dX0_isAbove_16 ?_
    refine en_goto (tgt := 21) h dX0_isAbove_17 (by decide) ?_
    exact en_zret h hf dX0_isAbove_21 ⟨by decide, by decide⟩ (by omega) ⟨by rw [if_pos ((en_cmp_gt _ _).mp c_13)], rfl⟩
abbrev rm_X0_worstMeter : Room := { frames := 4, cells := 0, slots := 0, locals := 68 }
theorem my_X0_worstMeter : en_MY yX0_worstMeter RX0 cX0_worstMeter 6 (some .int) wsX0_worstMeter 1 := ⟨⟨_, rfl⟩, rfl, by decide, by decide, by decide +kernel, by decide +kernel⟩
set_option maxRecDepth 20000 in
theorem fl_X0_worstMeter_34 : en_FL wsX0_worstMeter RX0 34 0 1 := ⟨_, _, _, rfl, by decide, by decide +kernel, Or.inl (by decide +kernel)⟩
set_option maxRecDepth 20000 in
theorem fl_X0_worstMeter_42 : en_FL wsX0_worstMeter RX0 42 2 1 := ⟨_, _, _, rfl, by decide, by decide +kernel, Or.inr (by decide +kernel)⟩
def gm_wm (io ws : Int → Int) (q : Int) : Nat → Int × Int
  | 0 => (-1, 0)
  | n + 1 => if io (n : Int) = q ∧ en_w64 (gm_wm io ws q n).2 < en_w64 (ws (n : Int)) then ((n : Int), ws (n : Int)) else gm_wm io ws q n
theorem gm_wm_rng (io ws : Int → Int) (q : Int) : ∀ n : Nat, -1 ≤ (gm_wm io ws q n).1 ∧ (gm_wm io ws q n).1 < n
  | 0 => ⟨by simp [gm_wm], by simp [gm_wm]⟩
  | n + 1 => by
    have h := gm_wm_rng io ws q n
    simp only [gm_wm]
    split
    · exact ⟨by simp only []; omega, by simp only []; omega⟩
    · omega
def xm_wm (m : en_M) (q : Int) : Int := (gm_wm (xm_io m) (xm_ws m) q (m 21 1).toNat).1
set_option maxRecDepth 100000 in
set_option maxHeartbeats 4000000 in
theorem lp_X0_worstMeter {κ : en_C} {m : en_M} {q : Int} (hW : en_Wok (en_w κ)) (hP : en_Has (en_w κ) 0 49) (h : en_Ok κ RX0 cX0_worstMeter 6 wsX0_worstMeter rm_X0_worstMeter) (hf : en_fin κ rm_X0_worstMeter (some .int) (fun r m' => r = some (en_I (xm_wm m q)) ∧ m' = m)) (hq : en_i32 q) (hv : xv_all m) (hd : xv_rd m) : ∀ (f i : Nat), (f : Int) + i = m 21 1 → en_G κ 7 [some (en_R 39), some (en_I q), some (en_I (gm_wm (xm_io m) (xm_ws m) q i).1), some (en_L (gm_wm (xm_io m) (xm_ws m) q i).2), none, some (en_I (i : Int))] [] m 0 0 := by
  have hI : ∀ k, 0 ≤ k → k < 49 → en_in κ k := hP
  intro f
  induction f with
  | zero =>
    intro i hi
    have n9 := hv.1
    refine en_iload (i := 5) h dX0_worstMeter_7 rfl ?_
    refine en_aload_n (i := 0) h dX0_worstMeter_9 rfl rfl ?_
    refine en_getR h dX0_worstMeter_10 fl_X0_worstMeter_34 (hI _ (by omega) (by omega)) rfl rfl ?_
    refine en_getI (i := 1) h dX0_worstMeter_13 fl_X0_worstMeter_42 (hI _ (by omega) (by omega)) rfl rfl rfl rfl ?_
    refine en_icmp_ge (tgt := 59) h dX0_worstMeter_16 (by decide) (by omega) (by omega) (fun c_16 => ?_) (fun c_16 => ?_)
    · refine en_iload_n (i := 2) h dX0_worstMeter_59 rfl rfl ?_
      exact en_iret h hf dX0_worstMeter_60 ⟨by decide, by decide⟩ ⟨by unfold xm_wm; rw [show (m 21 1).toNat = i by omega], rfl⟩
    · exact absurd c_16 (by omega)
  | succ f ih =>
    intro i hi
    have n9 := hv.1
    have v := hv.2.1 i (by omega) (by omega)
    have d := hd i (by omega) (by omega)
    have hg : ∀ b, 0 ≤ b → b < 5 → en_i32 (xm_gr m (i : Int) b) := fun b b0 b1 => by have z := v.2.2.2 b b0 b1; omega
    have ih9 := ih (i + 1) (by omega)
    simp only [gm_wm] at ih9
    refine en_iload (i := 5) h dX0_worstMeter_7 rfl ?_
    refine en_aload_n (i := 0) h dX0_worstMeter_9 rfl rfl ?_
    refine en_getR h dX0_worstMeter_10 fl_X0_worstMeter_34 (hI _ (by omega) (by omega)) rfl rfl ?_
    refine en_getI (i := 1) h dX0_worstMeter_13 fl_X0_worstMeter_42 (hI _ (by omega) (by omega)) rfl rfl rfl rfl ?_
    refine en_icmp_ge (tgt := 59) h dX0_worstMeter_16 (by decide) (by omega) (by omega) (fun c_16 => ?_) (fun c_16 => ?_)
    · exact absurd c_16 (by omega)
    · refine en_aload_n (i := 0) h dX0_worstMeter_19 rfl rfl ?_
      refine en_getR h dX0_worstMeter_20 fl_X0_worstMeter_34 (hI _ (by omega) (by omega)) rfl rfl ?_
      refine en_iload (i := 5) h dX0_worstMeter_23 rfl ?_
      refine en_callV h (k_X2_islandOf hW (fun k k0 k1 => hI k k0 (by omega)) ⟨by omega, by omega⟩ v.1 v.2.1) my_X2_islandOf gX0_worstMeter_X2_islandOf (hI _ (by omega) (by omega)) rfl rfl rfl rfl ⟨by decide, by decide⟩ ⟨by decide, by decide⟩ (Nat.le_of_ble_eq_true rfl) dX0_worstMeter_25 (fun r M1 hp => ?_)
      obtain ⟨rfl, e1⟩ := hp
      subst e1
      refine en_iload_n (i := 1) h dX0_worstMeter_28 rfl rfl ?_
      refine en_icmp_ne (tgt := 53) h dX0_worstMeter_29 (by decide) (xm_io_32 hv (by omega) (by omega)) hq (fun c_29 => ?_) (fun c_29 => ?_)
      · rw [if_neg (fun z => c_29 z.1)] at ih9
        refine en_iinc h dX0_worstMeter_53 rfl (by decide) ?_
        refine en_goto (tgt := 7) h dX0_worstMeter_56 (by decide) ?_
        exact ih9
      · refine en_aload_n (i := 0) h dX0_worstMeter_32 rfl rfl ?_
        refine en_iload (i := 5) h dX0_worstMeter_33 rfl ?_
        refine en_callV h (k_X0_weightedSize hW hI ⟨by omega, by omega⟩ v.1 hg (by omega) (by omega)) my_X0_weightedSize gX0_worstMeter_X0_weightedSize (hI _ (by omega) (by omega)) rfl rfl rfl rfl ⟨by decide, by decide⟩ ⟨by decide, by decide⟩ (Nat.le_of_ble_eq_true rfl) dX0_worstMeter_35 (fun r M2 hp => ?_)
        obtain ⟨rfl, e2⟩ := hp
        subst e2
        refine en_lload_n (i := 3) h dX0_worstMeter_38 rfl rfl ?_
        refine en_lcmp h dX0_worstMeter_39 ?_
        refine en_if_le (tgt := 53) h dX0_worstMeter_40 (by decide) (en_cmp_r _ _) (fun c_40 => ?_) (fun c_40 => ?_)
        · rw [if_neg (fun z => by have z2 := (en_cmp_le _ _).mp c_40; omega)] at ih9
          refine en_iinc h dX0_worstMeter_53 rfl (by decide) ?_
          refine en_goto (tgt := 7) h dX0_worstMeter_56 (by decide) ?_
          exact ih9
        · rw [if_pos ⟨c_29, (en_cmp_gt _ _).mp c_40⟩] at ih9
          refine en_iload (i := 5) h dX0_worstMeter_43 rfl ?_
          refine en_istore_n (i := 2) h dX0_worstMeter_45 rfl (by decide) ?_
          refine en_aload_n (i := 0) h dX0_worstMeter_46 rfl rfl ?_
          refine en_iload (i := 5) h dX0_worstMeter_47 rfl ?_
          refine en_callV h (k_X0_weightedSize hW hI ⟨by omega, by omega⟩ v.1 hg (by omega) (by omega)) my_X0_weightedSize gX0_worstMeter_X0_weightedSize (hI _ (by omega) (by omega)) rfl rfl rfl rfl ⟨by decide, by decide⟩ ⟨by decide, by decide⟩ (Nat.le_of_ble_eq_true rfl) dX0_worstMeter_49 (fun r M3 hp => ?_)
          obtain ⟨rfl, e3⟩ := hp
          subst e3
          refine en_lstore_n (i := 3) h dX0_worstMeter_52 rfl (by decide) ?_
          refine en_iinc h dX0_worstMeter_53 rfl (by decide) ?_
          refine en_goto (tgt := 7) h dX0_worstMeter_56 (by decide) ?_
          exact ih9
set_option maxRecDepth 100000 in
set_option maxHeartbeats 4000000 in
theorem k_X0_worstMeter {l : Launch} {w : en_W} {m : en_M} {q : Int} (hw : en_Wok w) (hp : en_Has w 0 49) (hq : en_i32 q) (hv : xv_all m) (hd : xv_rd m) : en_Met l w yX0_worstMeter wsX0_worstMeter rm_X0_worstMeter [en_R 39, en_I q] m (fun r m' => r = some (en_I (xm_wm m q)) ∧ m' = m) := by
  refine en_met my_X0_worstMeter hw (Nat.le_of_ble_eq_true rfl) ?_
  intro κ hl9 hw9 h hf
  subst hw9
  subst hl9
  have hI : ∀ k, 0 ≤ k → k < 49 → en_in κ k := hp
  have n9 := hv.1
  refine en_iconst h dX0_worstMeter_0 ?_
  refine en_istore_n (i := 2) h dX0_worstMeter_1 rfl (by decide) ?_
  refine en_lconst (z := 0) h dX0_worstMeter_2 rfl ?_
  refine en_lstore_n (i := 3) h dX0_worstMeter_3 rfl (by decide) ?_
  refine en_iconst h dX0_worstMeter_4 ?_
  refine en_istore (i := 5) h dX0_worstMeter_5 (by decide) ?_
  exact lp_X0_worstMeter hw hp h hf hq hv hd (m 21 1).toNat 0 (by omega)
