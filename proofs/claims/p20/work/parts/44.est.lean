/-! ESTIMATE 2: minors and determinants -/
abbrev rm_X0_minor : Room := { frames := 1, cells := 0, slots := 0, locals := 0 }
theorem my_X0_minor : en_MY yX0_minor RX0 cX0_minor 11 (some .long) wsX0_minor 3 := ⟨⟨_, rfl⟩, rfl, by decide, by decide, by decide +kernel, by decide +kernel⟩
set_option maxRecDepth 20000 in
theorem fl_X0_minor_11 : en_FL wsX0_minor RX0 11 0 2 := ⟨_, _, _, rfl, by decide, by decide +kernel, Or.inl (by decide +kernel)⟩
set_option maxRecDepth 20000 in
theorem fl_X0_minor_16 : en_FL wsX0_minor RX0 16 0 3 := ⟨_, _, _, rfl, by decide, by decide +kernel, Or.inl (by decide +kernel)⟩
set_option maxRecDepth 20000 in
theorem fl_X0_minor_20 : en_FL wsX0_minor RX0 20 0 4 := ⟨_, _, _, rfl, by decide, by decide +kernel, Or.inl (by decide +kernel)⟩
/-- the left side, the right side standing in a column -/
def xm_E (m : en_M) (rep : Int) : Int → Int → Int := fun r c => if c = rep then m 41 r else m (44 + r) c
set_option maxRecDepth 100000 in
set_option maxHeartbeats 4000000 in
theorem lp_X0_minor {κ : en_C} {m : en_M} {row s rep : Int} {E : Int → Int → Int} {D : Int → Int} (hP : en_Has (en_w κ) 0 49) (h : en_Ok κ RX0 cX0_minor 11 wsX0_minor rm_X0_minor) (hf : en_fin κ rm_X0_minor (some .long) (fun r m' => r = some (en_L (gm_go E D row s 5 0 1)) ∧ m' = m)) (hr : 0 ≤ row ∧ row < 5) (hs : 0 ≤ s ∧ s < 32) (hrep : en_i32 rep) (hE : ∀ c, 0 ≤ c → c < 5 → (if c = rep then m 41 row else m (44 + row) c) = E row c) (hD : ∀ c, 0 ≤ c → c < 5 → gm_tb s c = true → m 42 (s - gm_p c) = D (s - gm_p c)) : ∀ (f : Nat) (sum sg : Int) (o o' : Option en_V), f ≤ 5 → (sg = 1 ∨ sg = -1) → gm_go E D row s 5 0 1 = gm_go E D row s f sum sg → en_G κ 9 [some (en_R 39), some (en_I row), some (en_I s), some (en_I rep), some (en_L sum), none, some (en_I sg), some (en_I ((f : Int) - 1)), o, o', none] [] m 0 0 := by
  have hI : ∀ k, 0 ≤ k → k < 49 → en_in κ k := hP
  intro f
  induction f with
  | zero =>
    intro sum sg o o' hf5 hsg he
    refine en_iload (i := 7) h dX0_minor_9 rfl ?_
    refine en_if_lt (tgt := 85) h dX0_minor_11 (by decide) (by omega) (fun c_11 => ?_) (fun c_11 => ?_)
    · refine en_lload (i := 4) h dX0_minor_85 rfl ?_
      exact en_lret h hf dX0_minor_87 ⟨by decide, by decide⟩ ⟨by rw [he]; rfl, rfl⟩
    · exact absurd c_11 (by omega)
  | succ f ih =>
    intro sum sg o o' hf5 hsg he
    have ec : ((f + 1 : Nat) : Int) - 1 = (f : Int) := by omega
    rw [ec]
    have pr := gm_p_rng (f : Int)
    simp only [gm_go] at he
    refine en_iload (i := 7) h dX0_minor_9 rfl ?_
    refine en_if_lt (tgt := 85) h dX0_minor_11 (by decide) (by omega) (fun c_11 => ?_) (fun c_11 => ?_)
    · exact absurd c_11 (by omega)
    · refine en_iconst h dX0_minor_14 ?_
      refine en_iload (i := 7) h dX0_minor_15 rfl ?_
      refine en_ishl h dX0_minor_17 _ (gm_shl (by omega) (by omega)) ?_
      refine en_istore (i := 8) h dX0_minor_18 (by decide) ?_
      refine en_iload_n (i := 2) h dX0_minor_20 rfl rfl ?_
      refine en_iload (i := 8) h dX0_minor_21 rfl ?_
      refine en_iand h dX0_minor_23 _ (gm_and hs.1 hs.2 (by omega) (by omega)) ?_
      refine en_if_eq (tgt := 79) h dX0_minor_24 (by decide) (by split <;> omega) (fun c_24 => ?_) (fun c_24 => ?_)
      · have tb : ¬ gm_tb s (f : Int) = true := fun z => by rw [if_pos z] at c_24; omega
        rw [if_neg tb] at he
        refine en_iinc h dX0_minor_79 rfl (by decide) ?_
        refine en_goto (tgt := 9) h dX0_minor_82 (by decide) ?_
        exact ih _ _ _ _ (by omega) hsg he
      · have tb : gm_tb s (f : Int) = true := by apply Decidable.byContradiction; intro z; rw [if_neg z] at c_24; omega
        rw [if_pos tb] at he
        have sb := gm_sub hs.1 hs.2 (show 0 ≤ (f : Int) by omega) (by omega) tb
        have e9 := hE f (by omega) (by omega)
        refine en_iload (i := 7) h dX0_minor_27 rfl ?_
        refine en_iload_n (i := 3) h dX0_minor_29 rfl rfl ?_
        refine en_icmp_ne (tgt := 42) h dX0_minor_30 (by decide) (by omega) (by omega) (fun c_30 => ?_) (fun c_30 => ?_)
        · have e8 : m (44 + row) (f : Int) = E row f := by rw [← e9, if_neg c_30]
          refine en_aload_n (i := 0) h dX0_minor_42 rfl rfl ?_
          refine en_getR h dX0_minor_43 fl_X0_minor_11 (hI _ (by omega) (by omega)) rfl rfl ?_
          refine en_iload_n (i := 1) h dX0_minor_46 rfl rfl ?_
          refine en_aaloadS4 h dX0_minor_47 (hI _ (by omega) (by omega)) rfl (by decide) (by omega) ?_
          refine en_iload (i := 7) h dX0_minor_48 rfl ?_
          refine en_laload h dX0_minor_50 (hI _ (by omega) (by omega)) (ly_row44 (by omega) (by omega)) (by omega) e8 ?_
          refine en_lstore (i := 9) h dX0_minor_51 (by decide) ?_
          refine en_lload (i := 4) h dX0_minor_53 rfl ?_
          refine en_iload (i := 6) h dX0_minor_55 rfl ?_
          refine en_i2l h dX0_minor_57 (by omega) ?_
          refine en_lload (i := 9) h dX0_minor_58 rfl ?_
          refine en_lmul h dX0_minor_60 ?_
          refine en_aload_n (i := 0) h dX0_minor_61 rfl rfl ?_
          refine en_getR h dX0_minor_62 fl_X0_minor_20 (hI _ (by omega) (by omega)) rfl rfl ?_
          refine en_iload_n (i := 2) h dX0_minor_65 rfl rfl ?_
          refine en_iload (i := 8) h dX0_minor_66 rfl ?_
          refine en_isub h dX0_minor_68 ?_
          refine en_laload h dX0_minor_69 (hI _ (by omega) (by omega)) rfl (by omega) (hD f (by omega) (by omega) tb) ?_
          refine en_lmul h dX0_minor_70 ?_
          refine en_ladd h dX0_minor_71 ?_
          refine en_lstore (i := 4) h dX0_minor_72 (by decide) ?_
          refine en_iload (i := 6) h dX0_minor_74 rfl ?_
          refine en_ineg h dX0_minor_76 ?_
          refine en_istore (i := 6) h dX0_minor_77 (by decide) ?_
          refine en_iinc h dX0_minor_79 rfl (by decide) ?_
          refine en_goto (tgt := 9) h dX0_minor_82 (by decide) ?_
          have ih9 := ih _ (-sg) (some (en_I (gm_p (f : Int)))) (some (en_L (E row f))) (by omega) (by omega) he
          exact ih9
        · have e8 : m 41 row = E row f := by rw [← e9, if_pos c_30]
          refine en_aload_n (i := 0) h dX0_minor_33 rfl rfl ?_
          refine en_getR h dX0_minor_34 fl_X0_minor_16 (hI _ (by omega) (by omega)) rfl rfl ?_
          refine en_iload_n (i := 1) h dX0_minor_37 rfl rfl ?_
          refine en_laload h dX0_minor_38 (hI _ (by omega) (by omega)) rfl (by omega) e8 ?_
          refine en_goto (tgt := 51) h dX0_minor_39 (by decide) ?_
          refine en_lstore (i := 9) h dX0_minor_51 (by decide) ?_
          refine en_lload (i := 4) h dX0_minor_53 rfl ?_
          refine en_iload (i := 6) h dX0_minor_55 rfl ?_
          refine en_i2l h dX0_minor_57 (by omega) ?_
          refine en_lload (i := 9) h dX0_minor_58 rfl ?_
          refine en_lmul h dX0_minor_60 ?_
          refine en_aload_n (i := 0) h dX0_minor_61 rfl rfl ?_
          refine en_getR h dX0_minor_62 fl_X0_minor_20 (hI _ (by omega) (by omega)) rfl rfl ?_
          refine en_iload_n (i := 2) h dX0_minor_65 rfl rfl ?_
          refine en_iload (i := 8) h dX0_minor_66 rfl ?_
          refine en_isub h dX0_minor_68 ?_
          refine en_laload h dX0_minor_69 (hI _ (by omega) (by omega)) rfl (by omega) (hD f (by omega) (by omega) tb) ?_
          refine en_lmul h dX0_minor_70 ?_
          refine en_ladd h dX0_minor_71 ?_
          refine en_lstore (i := 4) h dX0_minor_72 (by decide) ?_
          refine en_iload (i := 6) h dX0_minor_74 rfl ?_
          refine en_ineg h dX0_minor_76 ?_
          refine en_istore (i := 6) h dX0_minor_77 (by decide) ?_
          refine en_iinc h dX0_minor_79 rfl (by decide) ?_
          refine en_goto (tgt := 9) h dX0_minor_82 (by decide) ?_
          have ih9 := ih _ (-sg) (some (en_I (gm_p (f : Int)))) (some (en_L (E row f))) (by omega) (by omega) he
          exact ih9
set_option maxRecDepth 100000 in
set_option maxHeartbeats 4000000 in
theorem k_X0_minor {l : Launch} {w : en_W} {m : en_M} {row s rep : Int} {E : Int → Int → Int} {D : Int → Int} (hw : en_Wok w) (hp : en_Has w 0 49) (hr : 0 ≤ row ∧ row < 5) (hs : 0 ≤ s ∧ s < 32) (hrep : en_i32 rep) (hE : ∀ c, 0 ≤ c → c < 5 → (if c = rep then m 41 row else m (44 + row) c) = E row c) (hD : ∀ c, 0 ≤ c → c < 5 → gm_tb s c = true → m 42 (s - gm_p c) = D (s - gm_p c)) : en_Met l w yX0_minor wsX0_minor rm_X0_minor [en_R 39, en_I row, en_I s, en_I rep] m (fun r m' => r = some (en_L (gm_go E D row s 5 0 1)) ∧ m' = m) := by
  refine en_met my_X0_minor hw (Nat.le_of_ble_eq_true rfl) ?_
  intro κ hl9 hw9 h hf
  subst hw9
  subst hl9
  have hI : ∀ k, 0 ≤ k → k < 49 → en_in κ k := hp
  refine en_lconst (z := 0) h dX0_minor_0 rfl ?_
  refine en_lstore (i := 4) h dX0_minor_1 (by decide) ?_
  refine en_iconst h dX0_minor_3 ?_
  refine en_istore (i := 6) h dX0_minor_4 (by decide) ?_
  refine en_iconst h dX0_minor_6 ?_
  refine en_istore (i := 7) h dX0_minor_7 (by decide) ?_
  exact lp_X0_minor hp h hf hr hs hrep hE hD 5 0 1 none none (by omega) (Or.inl rfl) rfl
abbrev rm_X0_determinant : Room := { frames := 2, cells := 0, slots := 0, locals := 30 }
theorem my_X0_determinant : en_MY yX0_determinant RX0 cX0_determinant 4 (some .long) wsX0_determinant 1 := ⟨⟨_, rfl⟩, rfl, by decide, by decide, by decide +kernel, by decide +kernel⟩
set_option maxRecDepth 20000 in
theorem fl_X0_determinant_20 : en_FL wsX0_determinant RX0 20 0 4 := ⟨_, _, _, rfl, by decide, by decide +kernel, Or.inl (by decide +kernel)⟩
set_option maxRecDepth 100000 in
set_option maxHeartbeats 4000000 in
theorem lp_X0_determinant_B {κ : en_C} {m : en_M} {rep : Int} {r : Nat} {E : Int → Int → Int} (hW : en_Wok (en_w κ)) (hP : en_Has (en_w κ) 0 49) (h : en_Ok κ RX0 cX0_determinant 4 wsX0_determinant rm_X0_determinant) (hr : r < 5) (hrep : en_i32 rep) (hE : ∀ r c, 0 ≤ r → r < 5 → 0 ≤ c → c < 5 → xm_E m rep r c = E r c) (K : ∀ (M : en_M) (o : Option en_V), (∀ k, k ≠ 42 → M k = m k) → (∀ s, 0 ≤ s → s < 32 → gm_pc s ≤ (r : Int) + 1 → M 42 s = gm_D E (gm_pc s).toNat s) → en_G κ 51 [some (en_R 39), some (en_I rep), some (en_I (r : Int)), o] [] M 0 0) : ∀ (f s : Nat), f + s = 32 → ∀ M : en_M, (∀ k, k ≠ 42 → M k = m k) → (∀ q, 0 ≤ q → q < 32 → (gm_pc q ≤ (r : Int) ∨ (q < (s : Int) ∧ gm_pc q ≤ (r : Int) + 1)) → M 42 q = gm_D E (gm_pc q).toNat q) → en_G κ 16 [some (en_R 39), some (en_I rep), some (en_I (r : Int)), some (en_I (s : Int))] [] M 0 0 := by
  have hI : ∀ k, 0 ≤ k → k < 49 → en_in κ k := hP
  intro f
  induction f with
  | zero =>
    intro s hs M h1 h2
    refine en_iload_n (i := 3) h dX0_determinant_16 rfl rfl ?_
    refine en_bipush h dX0_determinant_17 (by decide) ?_
    refine en_icmp_ge (tgt := 51) h dX0_determinant_19 (by decide) (by omega) (by omega) (fun c_19 => ?_) (fun c_19 => ?_)
    · exact K M _ h1 (fun q q0 q1 q2 => h2 q q0 q1 (Or.inr ⟨by omega, q2⟩))
    · exact absurd c_19 (by omega)
  | succ f ih =>
    intro s hs M h1 h2
    have pcr := gm_pc_rng (s := (s : Int)) (by omega) (by omega)
    refine en_iload_n (i := 3) h dX0_determinant_16 rfl rfl ?_
    refine en_bipush h dX0_determinant_17 (by decide) ?_
    refine en_icmp_ge (tgt := 51) h dX0_determinant_19 (by decide) (by omega) (by omega) (fun c_19 => ?_) (fun c_19 => ?_)
    · exact absurd c_19 (by omega)
    · refine en_iload_n (i := 3) h dX0_determinant_22 rfl rfl ?_
      refine en_callS h (k_J6_bitCount_0f7a4 hW (by omega) (by omega)) my_J6_bitCount_0f7a4 gX0_determinant_J6_bitCount_0f7a4 rfl rfl ⟨by decide, by decide⟩ ⟨by decide, by decide⟩ (Nat.le_of_ble_eq_true rfl) dX0_determinant_23 (fun r M1 hp => ?_)
      obtain ⟨rfl, e1⟩ := hp
      subst e1
      refine en_iload_n (i := 2) h dX0_determinant_26 rfl rfl ?_
      refine en_iconst h dX0_determinant_27 ?_
      refine en_iadd h dX0_determinant_28 ?_
      refine en_icmp_ne (tgt := 45) h dX0_determinant_29 (by decide) (by omega) (by omega) (fun c_29 => ?_) (fun c_29 => ?_)
      · refine en_iinc h dX0_determinant_45 rfl (by decide) ?_
        refine en_goto (tgt := 16) h dX0_determinant_48 (by decide) ?_
        refine ih (s + 1) (by omega) M1 h1 (fun q q0 q1 q2 => h2 q q0 q1 ?_)
        rcases q2 with q2 | ⟨q2, q3⟩
        · exact Or.inl q2
        · by_cases e : q = (s : Int)
          · rw [e] at q3 ⊢; exact Or.inl (by omega)
          · exact Or.inr ⟨by omega, q3⟩
      · refine en_aload_n (i := 0) h dX0_determinant_32 rfl rfl ?_
        refine en_getR h dX0_determinant_33 fl_X0_determinant_20 (hI _ (by omega) (by omega)) rfl rfl ?_
        refine en_iload_n (i := 3) h dX0_determinant_36 rfl rfl ?_
        refine en_aload_n (i := 0) h dX0_determinant_37 rfl rfl ?_
        refine en_iload_n (i := 2) h dX0_determinant_38 rfl rfl ?_
        refine en_iload_n (i := 3) h dX0_determinant_39 rfl rfl ?_
        refine en_iload_n (i := 1) h dX0_determinant_40 rfl rfl ?_
        refine en_callV h (k_X0_minor (E := E) (D := gm_D E r) hW hI ⟨by omega, by omega⟩ ⟨by omega, by omega⟩ hrep (fun c c0 c1 => by have z := hE r c (by omega) (by omega) c0 c1; unfold xm_E at z; rw [h1 41 (by decide), h1 (44 + (r : Int)) (by omega)]; exact z) (fun c c0 c1 tb => by have sb := gm_sub (s := (s : Int)) (by omega) (by omega) c0 c1 tb; have p1 := gm_p_rng c; rw [h2 _ sb.1 (by omega) (Or.inl (by omega)), sb.2, c_29, show ((r : Int) + 1 - 1).toNat = r by omega])) my_X0_minor gX0_determinant_X0_minor (hI _ (by omega) (by omega)) rfl rfl rfl rfl ⟨by decide, by decide⟩ ⟨by decide, by decide⟩ (Nat.le_of_ble_eq_true rfl) dX0_determinant_41 (fun r M2 hp => ?_)
        obtain ⟨rfl, e2⟩ := hp
        subst e2
        refine en_lastore h dX0_determinant_44 (hI _ (by omega) (by omega)) rfl (by omega) ?_
        refine en_iinc h dX0_determinant_45 rfl (by decide) ?_
        refine en_goto (tgt := 16) h dX0_determinant_48 (by decide) ?_
        refine ih (s + 1) (by omega) _ (fun k hk => by rw [en_set_ne hk]; exact h1 k hk) (fun q q0 q1 q2 => ?_)
        by_cases e : q = (s : Int)
        · rw [e, en_set_at, c_29, show ((r : Int) + 1).toNat = r + 1 by omega]
          rfl
        · rw [en_set_nj e]
          refine h2 q q0 q1 ?_
          rcases q2 with q2 | ⟨q2, q3⟩
          · exact Or.inl q2
          · exact Or.inr ⟨by omega, q3⟩
set_option maxRecDepth 100000 in
set_option maxHeartbeats 4000000 in
theorem lp_X0_determinant_A {κ : en_C} {m : en_M} {rep : Int} {E : Int → Int → Int} (hW : en_Wok (en_w κ)) (hP : en_Has (en_w κ) 0 49) (h : en_Ok κ RX0 cX0_determinant 4 wsX0_determinant rm_X0_determinant) (hf : en_fin κ rm_X0_determinant (some .long) (fun r m' => r = some (en_L (gm_D E 5 31)) ∧ ∀ k, k ≠ 42 → m' k = m k)) (hrep : en_i32 rep) (hE : ∀ r c, 0 ≤ r → r < 5 → 0 ≤ c → c < 5 → xm_E m rep r c = E r c) : ∀ (f r : Nat), f + r = 5 → ∀ (M : en_M) (o : Option en_V), (∀ k, k ≠ 42 → M k = m k) → (∀ s, 0 ≤ s → s < 32 → gm_pc s ≤ (r : Int) → M 42 s = gm_D E (gm_pc s).toNat s) → en_G κ 9 [some (en_R 39), some (en_I rep), some (en_I (r : Int)), o] [] M 0 0 := by
  have hI : ∀ k, 0 ≤ k → k < 49 → en_in κ k := hP
  intro f
  induction f with
  | zero =>
    intro r hr M o h1 h2
    refine en_iload_n (i := 2) h dX0_determinant_9 rfl rfl ?_
    refine en_iconst h dX0_determinant_10 ?_
    refine en_icmp_ge (tgt := 57) h dX0_determinant_11 (by decide) (by omega) (by omega) (fun c_11 => ?_) (fun c_11 => ?_)
    · refine en_aload_n (i := 0) h dX0_determinant_57 rfl rfl ?_
      refine en_getR h dX0_determinant_58 fl_X0_determinant_20 (hI _ (by omega) (by omega)) rfl rfl ?_
      refine en_bipush h dX0_determinant_61 (by decide) ?_
      refine en_laload h dX0_determinant_63 (hI _ (by omega) (by omega)) rfl (by omega) (show M 42 31 = gm_D E 5 31 from h2 31 (by decide) (by decide) (by rw [show gm_pc 31 = 5 from by decide]; omega)) ?_
      exact en_lret h hf dX0_determinant_64 ⟨by decide, by decide⟩ ⟨rfl, h1⟩
    · exact absurd c_11 (by omega)
  | succ f ih =>
    intro r hr M o h1 h2
    refine en_iload_n (i := 2) h dX0_determinant_9 rfl rfl ?_
    refine en_iconst h dX0_determinant_10 ?_
    refine en_icmp_ge (tgt := 57) h dX0_determinant_11 (by decide) (by omega) (by omega) (fun c_11 => ?_) (fun c_11 => ?_)
    · exact absurd c_11 (by omega)
    · refine en_iconst h dX0_determinant_14 ?_
      refine en_istore_n (i := 3) h dX0_determinant_15 rfl (by decide) ?_
      refine lp_X0_determinant_B (m := m) (E := E) hW hP h (by omega) hrep hE (fun M' o' g1 g2 => ?_) 32 0 rfl M h1 (fun q q0 q1 q2 => h2 q q0 q1 (by rcases q2 with q2 | q2 <;> omega))
      refine en_iinc h dX0_determinant_51 rfl (by decide) ?_
      refine en_goto (tgt := 9) h dX0_determinant_54 (by decide) ?_
      exact ih (r + 1) (by omega) M' _ g1 (fun s s0 s1 s2 => g2 s s0 s1 (by omega))
set_option maxRecDepth 100000 in
set_option maxHeartbeats 4000000 in
theorem k_X0_determinant {l : Launch} {w : en_W} {m : en_M} {rep : Int} {E : Int → Int → Int} (hw : en_Wok w) (hp : en_Has w 0 49) (hrep : en_i32 rep) (hE : ∀ r c, 0 ≤ r → r < 5 → 0 ≤ c → c < 5 → xm_E m rep r c = E r c) : en_Met l w yX0_determinant wsX0_determinant rm_X0_determinant [en_R 39, en_I rep] m (fun r m' => r = some (en_L (gm_D E 5 31)) ∧ ∀ k, k ≠ 42 → m' k = m k) := by
  refine en_met my_X0_determinant hw (Nat.le_of_ble_eq_true rfl) ?_
  intro κ hl9 hw9 h hf
  subst hw9
  subst hl9
  have hI : ∀ k, 0 ≤ k → k < 49 → en_in κ k := hp
  refine en_aload_n (i := 0) h dX0_determinant_0 rfl rfl ?_
  refine en_getR h dX0_determinant_1 fl_X0_determinant_20 (hI _ (by omega) (by omega)) rfl rfl ?_
  refine en_iconst h dX0_determinant_4 ?_
  refine en_lconst (z := 1) h dX0_determinant_5 rfl ?_
  refine en_lastore h dX0_determinant_6 (hI _ (by omega) (by omega)) rfl (by omega) ?_
  refine en_iconst h dX0_determinant_7 ?_
  refine en_istore_n (i := 2) h dX0_determinant_8 rfl (by decide) ?_
  refine lp_X0_determinant_A (m := m) hw hp h hf hrep hE 5 0 rfl _ none (fun k hk => en_set_ne hk) (fun s s0 s1 s2 => ?_)
  have pr := gm_pc_rng s0 s1
  have e := gm_pc_0 s0 s1 (by omega)
  subst e
  rw [en_set_at]
  rfl
