/-! ESTIMATE: the equations and their answer by minors, over the places 0 to 48 -/
theorem fp_0_6 : en_FP 0 6 .long := ⟨_, _, _, rfl, ⟨tyX0, tyX0_ok⟩, nmX0, by decide +kernel, by decide +kernel⟩
/-- the same but for what is worked out -/
def en_oe (M m : en_M) : Prop := ∀ k, (k < 39 ∨ 49 ≤ k) → M k = m k
theorem en_oe_ag {M m : en_M} (h : en_oe M m) : en_ag M m := fun k hk => h k (Or.inl (by omega))
theorem en_oe_tr {M m m0 : en_M} (h : en_oe M m) (h2 : en_oe m m0) : en_oe M m0 := fun k hk => (h k hk).trans (h2 k hk)
/-- whether a bus is unknown in an island -/
def gs_un (R : Int → Int) (q b : Int) : Prop := R b = q ∧ b ≠ q
def gl_L0 (R : Int → Int) (q : Int) : Int → Int → Int := fun b o => if b = o then (if R b = q ∧ b ≠ q then 0 else 1) else 0
abbrev rm_X0_startEquations : Room := { frames := 2, cells := 0, slots := 0, locals := 22 }
theorem my_X0_startEquations : en_MY yX0_startEquations RX0 cX0_startEquations 4 none wsX0_startEquations 1 := ⟨⟨_, rfl⟩, rfl, by decide, by decide, by decide +kernel, by decide +kernel⟩
set_option maxRecDepth 20000 in
theorem fl_X0_startEquations_11 : en_FL wsX0_startEquations RX0 11 0 2 := ⟨_, _, _, rfl, by decide, by decide +kernel, Or.inl (by decide +kernel)⟩
set_option maxRecDepth 20000 in
theorem fl_X0_startEquations_16 : en_FL wsX0_startEquations RX0 16 0 3 := ⟨_, _, _, rfl, by decide, by decide +kernel, Or.inl (by decide +kernel)⟩
set_option maxRecDepth 20000 in
theorem fl_X0_startEquations_30 : en_FL wsX0_startEquations RX0 30 0 0 := ⟨_, _, _, rfl, by decide, by decide +kernel, Or.inl (by decide +kernel)⟩
set_option maxRecDepth 100000 in
set_option maxHeartbeats 4000000 in
theorem lp_X0_startEquations_B {κ : en_C} {m : en_M} {q b : Int} (hP : en_Has (en_w κ) 0 49) (h : en_Ok κ RX0 cX0_startEquations 4 wsX0_startEquations rm_X0_startEquations) (hb : 0 ≤ b ∧ b < 5) (K : ∀ o, en_G κ 29 [some (en_R 39), some (en_I q), some (en_I b), o] [] (en_ar m (44 + b) 5 (fun _ => 0)) 0 0) : ∀ (f c : Nat), f + c = 5 → en_G κ 9 [some (en_R 39), some (en_I q), some (en_I b), some (en_I (c : Int))] [] (en_ar m (44 + b) c (fun _ => 0)) 0 0 := by
  have hI : ∀ k, 0 ≤ k → k < 49 → en_in κ k := hP
  intro f
  induction f with
  | zero =>
    intro c hc
    refine en_iload_n (i := 3) h dX0_startEquations_9 rfl rfl ?_
    refine en_iconst h dX0_startEquations_10 ?_
    refine en_icmp_ge (tgt := 29) h dX0_startEquations_11 (by decide) (by omega) (by omega) (fun c_11 => ?_) (fun c_11 => ?_)
    · rw [show (c : Int) = 5 by omega]
      exact K _
    · exact absurd c_11 (by omega)
  | succ f ih =>
    intro c hc
    refine en_iload_n (i := 3) h dX0_startEquations_9 rfl rfl ?_
    refine en_iconst h dX0_startEquations_10 ?_
    refine en_icmp_ge (tgt := 29) h dX0_startEquations_11 (by decide) (by omega) (by omega) (fun c_11 => ?_) (fun c_11 => ?_)
    · exact absurd c_11 (by omega)
    · refine en_aload_n (i := 0) h dX0_startEquations_14 rfl rfl ?_
      refine en_getR h dX0_startEquations_15 fl_X0_startEquations_11 (hI _ (by omega) (by omega)) rfl rfl ?_
      refine en_iload_n (i := 2) h dX0_startEquations_18 rfl rfl ?_
      refine en_aaloadS4 h dX0_startEquations_19 (hI _ (by omega) (by omega)) rfl (by decide) (by omega) ?_
      refine en_iload_n (i := 3) h dX0_startEquations_20 rfl rfl ?_
      refine en_lconst (z := 0) h dX0_startEquations_21 rfl ?_
      refine en_lastore h dX0_startEquations_22 (hI _ (by omega) (by omega)) (ly_row44 (by omega) (by omega)) (by omega) ?_
      refine en_iinc h dX0_startEquations_23 rfl (by decide) ?_
      refine en_goto (tgt := 9) h dX0_startEquations_26 (by decide) ?_
      rw [en_ar_push (by omega) rfl]
      exact ih (c + 1) (by omega)
set_option maxRecDepth 100000 in
set_option maxHeartbeats 4000000 in
theorem lp_X0_startEquations_A {κ : en_C} {m : en_M} {q : Int} (hW : en_Wok (en_w κ)) (hP : en_Has (en_w κ) 0 49) (h : en_Ok κ RX0 cX0_startEquations 4 wsX0_startEquations rm_X0_startEquations) (hf : en_fin κ rm_X0_startEquations none (fun r m' => r = none ∧ en_oe m' m ∧ m' 39 = m 39 ∧ (∀ b o, 0 ≤ b → b < 5 → 0 ≤ o → o < 5 → m' (44 + b) o = gl_L0 (m 5) q b o) ∧ ∀ b, 0 ≤ b → b < 5 → m' 41 b = 0)) (hq : en_i32 q) (hr : ∀ b, 0 ≤ b → b < 5 → en_i32 (m 5 b)) : ∀ (f i : Nat), f + i = 5 → ∀ (M : en_M) (o : Option en_V), en_oe M m → M 39 = m 39 → (∀ b o, 0 ≤ b → b < (i : Int) → 0 ≤ o → o < 5 → M (44 + b) o = gl_L0 (m 5) q b o) → (∀ b, 0 ≤ b → b < (i : Int) → M 41 b = 0) → en_G κ 2 [some (en_R 39), some (en_I q), some (en_I (i : Int)), o] [] M 0 0 := by
  have hI : ∀ k, 0 ≤ k → k < 49 → en_in κ k := hP
  intro f
  induction f with
  | zero =>
    intro i hi M o h1 h2 h3 h4
    refine en_iload_n (i := 2) h dX0_startEquations_2 rfl rfl ?_
    refine en_iconst h dX0_startEquations_3 ?_
    refine en_icmp_ge (tgt := 67) h dX0_startEquations_4 (by decide) (by omega) (by omega) (fun c_4 => ?_) (fun c_4 => ?_)
    · exact en_vret h hf dX0_startEquations_67 ⟨by decide, by decide⟩ ⟨rfl, h1, h2, fun b o b0 b1 => h3 b o b0 (by omega), fun b b0 b1 => h4 b b0 (by omega)⟩
    · exact absurd c_4 (by omega)
  | succ f ih =>
    intro i hi M o h1 h2 h3 h4
    refine en_iload_n (i := 2) h dX0_startEquations_2 rfl rfl ?_
    refine en_iconst h dX0_startEquations_3 ?_
    refine en_icmp_ge (tgt := 67) h dX0_startEquations_4 (by decide) (by omega) (by omega) (fun c_4 => ?_) (fun c_4 => ?_)
    · exact absurd c_4 (by omega)
    · refine en_iconst h dX0_startEquations_7 ?_
      refine en_istore_n (i := 3) h dX0_startEquations_8 rfl (by decide) ?_
      have e0 : M = en_ar M (44 + (i : Int)) ((0 : Nat) : Int) (fun _ => 0) := en_ar_0.symm
      rw [e0]
      refine lp_X0_startEquations_B hP h ⟨by omega, by omega⟩ (fun o' => ?_) 5 0 rfl
      have e5 : en_ar M (44 + (i : Int)) 5 (fun _ => 0) 5 = m 5 := by rw [en_ar_ne (by omega)]; exact h1 5 (by decide)
      have go : ∀ (N : en_M) (d : Int), N = en_set (en_set (en_ar M (44 + (i : Int)) 5 (fun _ => 0)) (44 + (i : Int)) i d) 41 i 0 → d = (if m 5 (i : Int) = q ∧ (i : Int) ≠ q then 0 else 1) → en_G κ 2 [some (en_R 39), some (en_I q), some (en_I ((i : Int) + 1)), o'] [] N 0 0 := by
        intro N d hN hd
        subst hN
        refine ih (i + 1) (by omega) _ _ (fun k hk => ?_) ?_ (fun b o b0 b1 o0 o1 => ?_) (fun b b0 b1 => ?_)
        · rw [en_set_ne (by omega), en_set_ne (by omega), en_ar_ne (by omega)]; exact h1 k hk
        · rw [en_set_ne (by omega), en_set_ne (by omega), en_ar_ne (by omega)]; exact h2
        · rw [en_set_ne (by omega)]
          by_cases e : b = (i : Int)
          · subst e
            unfold gl_L0
            by_cases e2 : (i : Int) = o
            · rw [← e2, en_set_at, if_pos rfl, hd]
            · rw [en_set_nj (fun z => e2 z.symm), en_ar_at o0 o1, if_neg e2]
          · rw [en_set_ne (by omega), en_ar_ne (by omega)]
            exact h3 b o b0 (by omega) o0 o1
        · by_cases e : b = (i : Int)
          · rw [e, en_set_at]
          · rw [en_set_nj e, en_set_ne (by omega), en_ar_ne (by omega)]
            exact h4 b b0 (by omega)
      refine en_aload_n (i := 0) h dX0_startEquations_29 rfl rfl ?_
      refine en_getR h dX0_startEquations_30 fl_X0_startEquations_11 (hI _ (by omega) (by omega)) rfl rfl ?_
      refine en_iload_n (i := 2) h dX0_startEquations_33 rfl rfl ?_
      refine en_aaloadS4 h dX0_startEquations_34 (hI _ (by omega) (by omega)) rfl (by decide) (by omega) ?_
      refine en_iload_n (i := 2) h dX0_startEquations_35 rfl rfl ?_
      refine en_aload_n (i := 0) h dX0_startEquations_36 rfl rfl ?_
      refine en_getR h dX0_startEquations_37 fl_X0_startEquations_30 (hI _ (by omega) (by omega)) rfl rfl ?_
      refine en_iload_n (i := 2) h dX0_startEquations_40 rfl rfl ?_
      refine en_iload_n (i := 1) h dX0_startEquations_41 rfl rfl ?_
      refine en_callV h (k_X1_isUnknown hW (fun k k0 k1 => hI k k0 (by omega)) (by omega) (by omega) (by rw [e5]; exact hr _ (by omega) (by omega)) hq) my_X1_isUnknown gX0_startEquations_X1_isUnknown (hI _ (by omega) (by omega)) rfl rfl rfl rfl ⟨by decide, by decide⟩ ⟨by decide, by decide⟩ (Nat.le_of_ble_eq_true rfl) dX0_startEquations_42 (fun r M1 hp => ?_)
      obtain ⟨rfl, e1⟩ := hp
      subst e1
      rw [e5]
      refine en_if_eq (tgt := 52) h dX0_startEquations_45 (by decide) (by split <;> decide) (fun c_45 => ?_) (fun c_45 => ?_)
      · refine en_lconst (z := 1) h dX0_startEquations_52 rfl ?_
        refine en_lastore h dX0_startEquations_53 (hI _ (by omega) (by omega)) (ly_row44 (by omega) (by omega)) (by omega) ?_
        refine en_aload_n (i := 0) h dX0_startEquations_54 rfl rfl ?_
        refine en_getR h dX0_startEquations_55 fl_X0_startEquations_16 (hI _ (by omega) (by omega)) rfl rfl ?_
        refine en_iload_n (i := 2) h dX0_startEquations_58 rfl rfl ?_
        refine en_lconst (z := 0) h dX0_startEquations_59 rfl ?_
        refine en_lastore h dX0_startEquations_60 (hI _ (by omega) (by omega)) rfl (by omega) ?_
        refine en_iinc h dX0_startEquations_61 rfl (by decide) ?_
        refine en_goto (tgt := 2) h dX0_startEquations_64 (by decide) ?_
        exact go _ 1 rfl (by by_cases z : m 5 (i : Int) = q ∧ (i : Int) ≠ q; exact absurd c_45 (by rw [if_pos z]; decide); rw [if_neg z])
      · refine en_lconst (z := 0) h dX0_startEquations_48 rfl ?_
        refine en_goto (tgt := 53) h dX0_startEquations_49 (by decide) ?_
        refine en_lastore h dX0_startEquations_53 (hI _ (by omega) (by omega)) (ly_row44 (by omega) (by omega)) (by omega) ?_
        refine en_aload_n (i := 0) h dX0_startEquations_54 rfl rfl ?_
        refine en_getR h dX0_startEquations_55 fl_X0_startEquations_16 (hI _ (by omega) (by omega)) rfl rfl ?_
        refine en_iload_n (i := 2) h dX0_startEquations_58 rfl rfl ?_
        refine en_lconst (z := 0) h dX0_startEquations_59 rfl ?_
        refine en_lastore h dX0_startEquations_60 (hI _ (by omega) (by omega)) rfl (by omega) ?_
        refine en_iinc h dX0_startEquations_61 rfl (by decide) ?_
        refine en_goto (tgt := 2) h dX0_startEquations_64 (by decide) ?_
        exact go _ 0 rfl (by by_cases z : m 5 (i : Int) = q ∧ (i : Int) ≠ q; rw [if_pos z]; exact absurd (by rw [if_neg z]) c_45)
set_option maxRecDepth 100000 in
set_option maxHeartbeats 4000000 in
theorem k_X0_startEquations {l : Launch} {w : en_W} {m : en_M} {q : Int} (hw : en_Wok w) (hp : en_Has w 0 49) (hq : en_i32 q) (hr : ∀ b, 0 ≤ b → b < 5 → en_i32 (m 5 b)) : en_Met l w yX0_startEquations wsX0_startEquations rm_X0_startEquations [en_R 39, en_I q] m (fun r m' => r = none ∧ en_oe m' m ∧ m' 39 = m 39 ∧ (∀ b o, 0 ≤ b → b < 5 → 0 ≤ o → o < 5 → m' (44 + b) o = gl_L0 (m 5) q b o) ∧ ∀ b, 0 ≤ b → b < 5 → m' 41 b = 0) := by
  refine en_met my_X0_startEquations hw (Nat.le_of_ble_eq_true rfl) ?_
  intro κ hl9 hw9 h hf
  subst hw9
  subst hl9
  have hI : ∀ k, 0 ≤ k → k < 49 → en_in κ k := hp
  refine en_iconst h dX0_startEquations_0 ?_
  refine en_istore_n (i := 2) h dX0_startEquations_1 rfl (by decide) ?_
  exact lp_X0_startEquations_A hw hp h hf hq hr 5 0 rfl m none (fun k _ => rfl) rfl (fun b o b0 b1 => absurd b1 (by omega)) (fun b b0 b1 => absurd b1 (by omega))
abbrev rm_X0_addToEquations : Room := { frames := 2, cells := 0, slots := 0, locals := 23 }
theorem my_X0_addToEquations : en_MY yX0_addToEquations RX0 cX0_addToEquations 9 none wsX0_addToEquations 2 := ⟨⟨_, rfl⟩, rfl, by decide, by decide, by decide +kernel, by decide +kernel⟩
set_option maxRecDepth 20000 in
theorem fl_X0_addToEquations_11 : en_FL wsX0_addToEquations RX0 11 0 2 := ⟨_, _, _, rfl, by decide, by decide +kernel, Or.inl (by decide +kernel)⟩
set_option maxRecDepth 20000 in
theorem fl_X0_addToEquations_16 : en_FL wsX0_addToEquations RX0 16 0 3 := ⟨_, _, _, rfl, by decide, by decide +kernel, Or.inl (by decide +kernel)⟩
set_option maxRecDepth 20000 in
theorem fl_X0_addToEquations_30 : en_FL wsX0_addToEquations RX0 30 0 0 := ⟨_, _, _, rfl, by decide, by decide +kernel, Or.inl (by decide +kernel)⟩
set_option maxRecDepth 20000 in
theorem fl_X0_addToEquations_34 : en_FL wsX0_addToEquations RX0 34 0 1 := ⟨_, _, _, rfl, by decide, by decide +kernel, Or.inl (by decide +kernel)⟩
set_option maxRecDepth 20000 in
theorem fl_X0_addToEquations_66 : en_FL wsX0_addToEquations RX0 66 2 5 := ⟨_, _, _, rfl, by decide, by decide +kernel, Or.inr (by decide +kernel)⟩
set_option maxRecDepth 20000 in
theorem fl_X0_addToEquations_74 : en_FL wsX0_addToEquations RX0 74 2 4 := ⟨_, _, _, rfl, by decide, by decide +kernel, Or.inr (by decide +kernel)⟩
/-- the equations with a meter more -/
def gl_La (R : Int → Int) (q wt : Int) (g : Int → Int) (L : Int → Int → Int) : Int → Int → Int := fun b o => if (R b = q ∧ b ≠ q) ∧ (R o = q ∧ o ≠ q) then L b o + wt * g b * g o else L b o
def gl_Ra (R : Int → Int) (q wt rd : Int) (g : Int → Int) (L : Int → Int) : Int → Int := fun b => if R b = q ∧ b ≠ q then L b + wt * g b * rd else L b
set_option maxRecDepth 100000 in
set_option maxHeartbeats 4000000 in
theorem lp_X0_addToEquations_B {κ : en_C} {m : en_M} {q i b wt : Int} {g : Int → Int} (hW : en_Wok (en_w κ)) (hP : en_Has (en_w κ) 0 49) (h : en_Ok κ RX0 cX0_addToEquations 9 wsX0_addToEquations rm_X0_addToEquations) (hi : 0 ≤ i ∧ i < 10) (hb : 0 ≤ b ∧ b < 5) (hq : en_i32 q) (hr : ∀ b, 0 ≤ b → b < 5 → en_i32 (m 5 b)) (hv : xv_m m i) (hg : ∀ b, 0 ≤ b → b < 5 → xm_gr m i b = g b ∧ en_i32 (g b)) (K : ∀ o, en_G κ 137 [some (en_R 39), some (en_I i), some (en_I q), some (en_L wt), none, some (en_I b), some (en_L (wt * g b)), none, o] [] (en_ar m (44 + b) 5 (fun o => if m 5 o = q ∧ o ≠ q then m (44 + b) o + wt * g b * g o else m (44 + b) o)) 0 0) : ∀ (f c : Nat), f + c = 5 → en_G κ 85 [some (en_R 39), some (en_I i), some (en_I q), some (en_L wt), none, some (en_I b), some (en_L (wt * g b)), none, some (en_I (c : Int))] [] (en_ar m (44 + b) c (fun o => if m 5 o = q ∧ o ≠ q then m (44 + b) o + wt * g b * g o else m (44 + b) o)) 0 0 := by
  have hI : ∀ k, 0 ≤ k → k < 49 → en_in κ k := hP
  intro f
  induction f with
  | zero =>
    intro c hc
    refine en_iload (i := 8) h dX0_addToEquations_85 rfl ?_
    refine en_iconst h dX0_addToEquations_87 ?_
    refine en_icmp_ge (tgt := 137) h dX0_addToEquations_88 (by decide) (by omega) (by omega) (fun c_88 => ?_) (fun c_88 => ?_)
    · rw [show (c : Int) = 5 by omega]
      exact K _
    · exact absurd c_88 (by omega)
  | succ f ih =>
    intro c hc
    generalize hF : (fun o => if m 5 o = q ∧ o ≠ q then m (44 + b) o + wt * g b * g o else m (44 + b) o) = F at K ih ⊢
    have hFc : ∀ o, F o = if m 5 o = q ∧ o ≠ q then m (44 + b) o + wt * g b * g o else m (44 + b) o := fun o => by rw [← hF]
    have e5 : en_ar m (44 + b) c F 5 = m 5 := by rw [en_ar_ne (by omega)]
    have ag : en_ag (en_ar m (44 + b) c F) m := fun k hk => en_ar_ne (by omega)
    have ec : en_ar m (44 + b) c F (44 + b) c = m (44 + b) c := by unfold en_ar; rw [if_neg (by omega)]
    have q9 := hg c (by omega) (by omega)
    refine en_iload (i := 8) h dX0_addToEquations_85 rfl ?_
    refine en_iconst h dX0_addToEquations_87 ?_
    refine en_icmp_ge (tgt := 137) h dX0_addToEquations_88 (by decide) (by omega) (by omega) (fun c_88 => ?_) (fun c_88 => ?_)
    · exact absurd c_88 (by omega)
    · refine en_aload_n (i := 0) h dX0_addToEquations_91 rfl rfl ?_
      refine en_getR h dX0_addToEquations_92 fl_X0_addToEquations_30 (hI _ (by omega) (by omega)) rfl rfl ?_
      refine en_iload (i := 8) h dX0_addToEquations_95 rfl ?_
      refine en_iload_n (i := 2) h dX0_addToEquations_97 rfl rfl ?_
      refine en_callV h (k_X1_isUnknown hW (fun k k0 k1 => hI k k0 (by omega)) (by omega) (by omega) (by rw [e5]; exact hr _ (by omega) (by omega)) hq) my_X1_isUnknown gX0_addToEquations_X1_isUnknown (hI _ (by omega) (by omega)) rfl rfl rfl rfl ⟨by decide, by decide⟩ ⟨by decide, by decide⟩ (Nat.le_of_ble_eq_true rfl) dX0_addToEquations_98 (fun r M1 hp => ?_)
      obtain ⟨rfl, e1⟩ := hp
      subst e1
      rw [e5]
      refine en_if_eq (tgt := 131) h dX0_addToEquations_101 (by decide) (by split <;> decide) (fun c_101 => ?_) (fun c_101 => ?_)
      · refine en_iinc h dX0_addToEquations_131 rfl (by decide) ?_
        refine en_goto (tgt := 85) h dX0_addToEquations_134 (by decide) ?_
        have e7 : en_ar m (44 + b) c F = en_ar m (44 + b) ((c + 1 : Nat) : Int) F := by
          have e8 : en_set (en_ar m (44 + b) c F) (44 + b) c (F c) = en_ar m (44 + b) ((c + 1 : Nat) : Int) F := en_ar_push (by omega) rfl
          rw [← e8]
          have e9 : F c = en_ar m (44 + b) c F (44 + b) c := by
            rw [ec, hFc, if_neg (fun z => by rw [if_pos z] at c_101; omega)]
          rw [e9]
          funext k' j'
          unfold en_set
          by_cases e10 : k' = 44 + b ∧ j' = (c : Int)
          · rw [if_pos e10, e10.1, e10.2]
          · rw [if_neg e10]
        rw [e7]
        exact ih (c + 1) (by omega)
      · refine en_aload_n (i := 0) h dX0_addToEquations_104 rfl rfl ?_
        refine en_getR h dX0_addToEquations_105 fl_X0_addToEquations_11 (hI _ (by omega) (by omega)) rfl rfl ?_
        refine en_iload (i := 5) h dX0_addToEquations_108 rfl ?_
        refine en_aaloadS4 h dX0_addToEquations_110 (hI _ (by omega) (by omega)) rfl (by decide) (by omega) ?_
        refine en_iload (i := 8) h dX0_addToEquations_111 rfl ?_
        refine en_dup2 h dX0_addToEquations_113 ?_
        refine en_laload h dX0_addToEquations_114 (hI _ (by omega) (by omega)) (ly_row44 (by omega) (by omega)) (by omega) ec ?_
        refine en_lload (i := 6) h dX0_addToEquations_115 rfl ?_
        refine en_aload_n (i := 0) h dX0_addToEquations_117 rfl rfl ?_
        refine en_getR h dX0_addToEquations_118 fl_X0_addToEquations_34 (hI _ (by omega) (by omega)) rfl rfl ?_
        refine en_iload_n (i := 1) h dX0_addToEquations_121 rfl rfl ?_
        refine en_iload (i := 8) h dX0_addToEquations_122 rfl ?_
        refine en_callV h (k_X2_growth hW (fun k k0 k1 => hI k k0 (by omega)) hi ⟨by omega, by omega⟩ (xv_m_ag ag hv)) my_X2_growth gX0_addToEquations_X2_growth (hI _ (by omega) (by omega)) rfl rfl rfl rfl ⟨by decide, by decide⟩ ⟨by decide, by decide⟩ (Nat.le_of_ble_eq_true rfl) dX0_addToEquations_124 (fun r M2 hp => ?_)
        obtain ⟨rfl, e1⟩ := hp
        subst e1
        rw [xm_gr_ag ag hv, q9.1]
        refine en_i2l h dX0_addToEquations_127 q9.2 ?_
        refine en_lmul h dX0_addToEquations_128 ?_
        refine en_ladd h dX0_addToEquations_129 ?_
        refine en_lastore h dX0_addToEquations_130 (hI _ (by omega) (by omega)) (ly_row44 (by omega) (by omega)) (by omega) ?_
        refine en_iinc h dX0_addToEquations_131 rfl (by decide) ?_
        refine en_goto (tgt := 85) h dX0_addToEquations_134 (by decide) ?_
        rw [en_ar_push (by omega) (by rw [hFc, if_pos]; apply Decidable.byContradiction; intro z; rw [if_neg z] at c_101; omega)]
        exact ih (c + 1) (by omega)
set_option maxRecDepth 100000 in
set_option maxHeartbeats 4000000 in
theorem lp_X0_addToEquations_A {κ : en_C} {m : en_M} {q i wt : Int} {g : Int → Int} (hW : en_Wok (en_w κ)) (hP : en_Has (en_w κ) 0 49) (h : en_Ok κ RX0 cX0_addToEquations 9 wsX0_addToEquations rm_X0_addToEquations) (hf : en_fin κ rm_X0_addToEquations none (fun r m' => r = none ∧ en_oe m' m ∧ m' 39 = m 39 ∧ (∀ b o, 0 ≤ b → b < 5 → 0 ≤ o → o < 5 → m' (44 + b) o = gl_La (m 5) q wt g (fun b o => m (44 + b) o) b o) ∧ ∀ b, 0 ≤ b → b < 5 → m' 41 b = gl_Ra (m 5) q wt (m 24 i) g (m 41) b)) (hi : 0 ≤ i ∧ i < 10) (hq : en_i32 q) (hr : ∀ b, 0 ≤ b → b < 5 → en_i32 (m 5 b)) (hv : xv_m m i) (hg : ∀ b, 0 ≤ b → b < 5 → xm_gr m i b = g b ∧ en_i32 (g b)) (hrd : en_i32 (m 24 i)) : ∀ (f b : Nat), f + b = 5 → ∀ (M : en_M) (o o' : Option en_V), en_oe M m → M 39 = m 39 → (∀ c o, 0 ≤ c → c < 5 → 0 ≤ o → o < 5 → M (44 + c) o = if c < (b : Int) then gl_La (m 5) q wt g (fun b o => m (44 + b) o) c o else m (44 + c) o) → (∀ c, 0 ≤ c → c < 5 → M 41 c = if c < (b : Int) then gl_Ra (m 5) q wt (m 24 i) g (m 41) c else m 41 c) → en_G κ 25 [some (en_R 39), some (en_I i), some (en_I q), some (en_L wt), none, some (en_I (b : Int)), o, none, o'] [] M 0 0 := by
  have hI : ∀ k, 0 ≤ k → k < 49 → en_in κ k := hP
  intro f
  induction f with
  | zero =>
    intro b hb M o o' h1 h2 h3 h4
    refine en_iload (i := 5) h dX0_addToEquations_25 rfl ?_
    refine en_iconst h dX0_addToEquations_27 ?_
    refine en_icmp_ge (tgt := 143) h dX0_addToEquations_28 (by decide) (by omega) (by omega) (fun c_28 => ?_) (fun c_28 => ?_)
    · exact en_vret h hf dX0_addToEquations_143 ⟨by decide, by decide⟩ ⟨rfl, h1, h2, fun c o c0 c1 o0 o1 => by rw [h3 c o c0 c1 o0 o1, if_pos (by omega)], fun c c0 c1 => by rw [h4 c c0 c1, if_pos (by omega)]⟩
    · exact absurd c_28 (by omega)
  | succ f ih =>
    intro b hb M o o' h1 h2 h3 h4
    have e5 : M 5 = m 5 := h1 5 (by decide)
    have ag := en_oe_ag h1
    have q9 := hg b (by omega) (by omega)
    refine en_iload (i := 5) h dX0_addToEquations_25 rfl ?_
    refine en_iconst h dX0_addToEquations_27 ?_
    refine en_icmp_ge (tgt := 143) h dX0_addToEquations_28 (by decide) (by omega) (by omega) (fun c_28 => ?_) (fun c_28 => ?_)
    · exact absurd c_28 (by omega)
    · refine en_aload_n (i := 0) h dX0_addToEquations_31 rfl rfl ?_
      refine en_getR h dX0_addToEquations_32 fl_X0_addToEquations_30 (hI _ (by omega) (by omega)) rfl rfl ?_
      refine en_iload (i := 5) h dX0_addToEquations_35 rfl ?_
      refine en_iload_n (i := 2) h dX0_addToEquations_37 rfl rfl ?_
      refine en_callV h (k_X1_isUnknown hW (fun k k0 k1 => hI k k0 (by omega)) (by omega) (by omega) (by rw [e5]; exact hr _ (by omega) (by omega)) hq) my_X1_isUnknown gX0_addToEquations_X1_isUnknown (hI _ (by omega) (by omega)) rfl rfl rfl rfl ⟨by decide, by decide⟩ ⟨by decide, by decide⟩ (Nat.le_of_ble_eq_true rfl) dX0_addToEquations_38 (fun r M1 hp => ?_)
      obtain ⟨rfl, e1⟩ := hp
      subst e1
      rw [e5]
      refine en_if_eq (tgt := 137) h dX0_addToEquations_41 (by decide) (by split <;> decide) (fun c_41 => ?_) (fun c_41 => ?_)
      · have un : ¬ (m 5 (b : Int) = q ∧ (b : Int) ≠ q) := fun z => by rw [if_pos z] at c_41; omega
        refine en_iinc h dX0_addToEquations_137 rfl (by decide) ?_
        refine en_goto (tgt := 25) h dX0_addToEquations_140 (by decide) ?_
        refine ih (b + 1) (by omega) M1 _ _ h1 h2 (fun c o c0 c1 o0 o1 => ?_) (fun c c0 c1 => ?_)
        · rw [h3 c o c0 c1 o0 o1]
          by_cases e : c = (b : Int)
          · rw [e, if_neg (by omega), if_pos (by omega)]
            unfold gl_La
            rw [if_neg (fun z => un z.1)]
          · by_cases e2 : c < (b : Int)
            · rw [if_pos e2, if_pos (by omega)]
            · rw [if_neg e2, if_neg (by omega)]
        · rw [h4 c c0 c1]
          by_cases e : c = (b : Int)
          · rw [e, if_neg (by omega), if_pos (by omega)]
            unfold gl_Ra
            rw [if_neg un]
          · by_cases e2 : c < (b : Int)
            · rw [if_pos e2, if_pos (by omega)]
            · rw [if_neg e2, if_neg (by omega)]
      · have un : m 5 (b : Int) = q ∧ (b : Int) ≠ q := by apply Decidable.byContradiction; intro z; rw [if_neg z] at c_41; omega
        refine en_lload_n (i := 3) h dX0_addToEquations_44 rfl rfl ?_
        refine en_aload_n (i := 0) h dX0_addToEquations_45 rfl rfl ?_
        refine en_getR h dX0_addToEquations_46 fl_X0_addToEquations_34 (hI _ (by omega) (by omega)) rfl rfl ?_
        refine en_iload_n (i := 1) h dX0_addToEquations_49 rfl rfl ?_
        refine en_iload (i := 5) h dX0_addToEquations_50 rfl ?_
        refine en_callV h (k_X2_growth hW (fun k k0 k1 => hI k k0 (by omega)) hi ⟨by omega, by omega⟩ (xv_m_ag ag hv)) my_X2_growth gX0_addToEquations_X2_growth (hI _ (by omega) (by omega)) rfl rfl rfl rfl ⟨by decide, by decide⟩ ⟨by decide, by decide⟩ (Nat.le_of_ble_eq_true rfl) dX0_addToEquations_52 (fun r M2 hp => ?_)
        obtain ⟨rfl, e1⟩ := hp
        subst e1
        rw [xm_gr_ag ag hv, q9.1]
        have r9 : M2 41 (b : Int) = m 41 b := by rw [h4 b (by omega) (by omega), if_neg (by omega)]
        have d9 : M2 24 i = m 24 i := by rw [h1 24 (by decide)]
        refine en_i2l h dX0_addToEquations_55 q9.2 ?_
        refine en_lmul h dX0_addToEquations_56 ?_
        refine en_lstore (i := 6) h dX0_addToEquations_57 (by decide) ?_
        refine en_aload_n (i := 0) h dX0_addToEquations_59 rfl rfl ?_
        refine en_getR h dX0_addToEquations_60 fl_X0_addToEquations_16 (hI _ (by omega) (by omega)) rfl rfl ?_
        refine en_iload (i := 5) h dX0_addToEquations_63 rfl ?_
        refine en_dup2 h dX0_addToEquations_65 ?_
        refine en_laload h dX0_addToEquations_66 (hI _ (by omega) (by omega)) rfl (by omega) r9 ?_
        refine en_lload (i := 6) h dX0_addToEquations_67 rfl ?_
        refine en_aload_n (i := 0) h dX0_addToEquations_69 rfl rfl ?_
        refine en_getR h dX0_addToEquations_70 fl_X0_addToEquations_34 (hI _ (by omega) (by omega)) rfl rfl ?_
        refine en_getR h dX0_addToEquations_73 fl_X0_addToEquations_74 (hI _ (by omega) (by omega)) rfl rfl ?_
        refine en_iload_n (i := 1) h dX0_addToEquations_76 rfl rfl ?_
        refine en_iaload h dX0_addToEquations_77 (hI _ (by omega) (by omega)) rfl (by omega) d9 ?_
        refine en_i2l h dX0_addToEquations_78 hrd ?_
        refine en_lmul h dX0_addToEquations_79 ?_
        refine en_ladd h dX0_addToEquations_80 ?_
        refine en_lastore h dX0_addToEquations_81 (hI _ (by omega) (by omega)) rfl (by omega) ?_
        refine en_iconst h dX0_addToEquations_82 ?_
        refine en_istore (i := 8) h dX0_addToEquations_83 (by decide) ?_
        generalize hN : en_set M2 41 (b : Int) (m 41 (b : Int) + wt * g (b : Int) * m 24 i) = N
        have n0 : ∀ k, k ≠ 41 → N k = M2 k := fun k hk => by rw [← hN, en_set_ne hk]
        have agN : en_ag N m := fun k hk => by rw [n0 k (by omega)]; exact ag k hk
        have e0 : N = en_ar N (44 + (b : Int)) ((0 : Nat) : Int) (fun o => if N 5 o = q ∧ o ≠ q then N (44 + (b : Int)) o + wt * g b * g o else N (44 + (b : Int)) o) := en_ar_0.symm
        rw [e0]
        refine lp_X0_addToEquations_B hW hP h hi ⟨by omega, by omega⟩ hq (fun b b0 b1 => by rw [agN 5 (by decide)]; exact hr b b0 b1) (xv_m_ag agN hv) (fun b b0 b1 => by rw [xm_gr_ag agN hv]; exact hg b b0 b1) (fun o'' => ?_) 5 0 rfl
        refine en_iinc h dX0_addToEquations_137 rfl (by decide) ?_
        refine en_goto (tgt := 25) h dX0_addToEquations_140 (by decide) ?_
        refine ih (b + 1) (by omega) _ _ _ (fun k hk => by rw [en_ar_ne (by omega), n0 k (by omega)]; exact h1 k hk) (by rw [en_ar_ne (by omega), n0 39 (by decide)]; exact h2) (fun c o c0 c1 o0 o1 => ?_) (fun c c0 c1 => ?_)
        · by_cases e : c = (b : Int)
          · rw [e, en_ar_at o0 o1, if_pos (show (b : Int) < ((b + 1 : Nat) : Int) by omega), n0 (44 + (b : Int)) (by omega), h3 b o (by omega) (by omega) o0 o1, if_neg (show ¬ (b : Int) < (b : Int) by omega), n0 5 (by decide), e5]
            unfold gl_La
            by_cases e3 : m 5 o = q ∧ o ≠ q
            · rw [if_pos e3, if_pos ⟨un, e3⟩]
            · rw [if_neg e3, if_neg (fun z => e3 z.2)]
          · rw [en_ar_ne (by omega), n0 _ (by omega), h3 c o c0 c1 o0 o1]
            by_cases e2 : c < (b : Int)
            · rw [if_pos e2, if_pos (by omega)]
            · rw [if_neg e2, if_neg (by omega)]
        · rw [en_ar_ne (by omega), ← hN]
          by_cases e : c = (b : Int)
          · rw [e, en_set_at, if_pos (by omega)]
            unfold gl_Ra
            rw [if_pos un]
          · rw [en_set_nj e, h4 c c0 c1]
            by_cases e2 : c < (b : Int)
            · rw [if_pos e2, if_pos (by omega)]
            · rw [if_neg e2, if_neg (by omega)]
set_option maxRecDepth 100000 in
set_option maxHeartbeats 4000000 in
theorem k_X0_addToEquations {l : Launch} {w : en_W} {m : en_M} {q i : Int} {g : Int → Int} (hw : en_Wok w) (hp : en_Has w 0 49) (hi : 0 ≤ i ∧ i < 10) (hq : en_i32 q) (hr : ∀ b, 0 ≤ b → b < 5 → en_i32 (m 5 b)) (hv : xv_m m i) (hg : ∀ b, 0 ≤ b → b < 5 → xm_gr m i b = g b ∧ en_i32 (g b)) (hrd : en_i32 (m 24 i)) (hac : en_i32 (m 25 i)) : en_Met l w yX0_addToEquations wsX0_addToEquations rm_X0_addToEquations [en_R 39, en_I i, en_I q] m (fun r m' => r = none ∧ en_oe m' m ∧ m' 39 = m 39 ∧ (∀ b o, 0 ≤ b → b < 5 → 0 ≤ o → o < 5 → m' (44 + b) o = gl_La (m 5) q (m 25 i * m 25 i) g (fun b o => m (44 + b) o) b o) ∧ ∀ b, 0 ≤ b → b < 5 → m' 41 b = gl_Ra (m 5) q (m 25 i * m 25 i) (m 24 i) g (m 41) b) := by
  refine en_met my_X0_addToEquations hw (Nat.le_of_ble_eq_true rfl) ?_
  intro κ hl9 hw9 h hf
  subst hw9
  subst hl9
  have hI : ∀ k, 0 ≤ k → k < 49 → en_in κ k := hp
  refine en_aload_n (i := 0) h dX0_addToEquations_0 rfl rfl ?_
  refine en_getR h dX0_addToEquations_1 fl_X0_addToEquations_34 (hI _ (by omega) (by omega)) rfl rfl ?_
  refine en_getR h dX0_addToEquations_4 fl_X0_addToEquations_66 (hI _ (by omega) (by omega)) rfl rfl ?_
  refine en_iload_n (i := 1) h dX0_addToEquations_7 rfl rfl ?_
  refine en_iaload h dX0_addToEquations_8 (hI _ (by omega) (by omega)) rfl (by omega) rfl ?_
  refine en_i2l h dX0_addToEquations_9 hac ?_
  refine en_aload_n (i := 0) h dX0_addToEquations_10 rfl rfl ?_
  refine en_getR h dX0_addToEquations_11 fl_X0_addToEquations_34 (hI _ (by omega) (by omega)) rfl rfl ?_
  refine en_getR h dX0_addToEquations_14 fl_X0_addToEquations_66 (hI _ (by omega) (by omega)) rfl rfl ?_
  refine en_iload_n (i := 1) h dX0_addToEquations_17 rfl rfl ?_
  refine en_iaload h dX0_addToEquations_18 (hI _ (by omega) (by omega)) rfl (by omega) rfl ?_
  refine en_i2l h dX0_addToEquations_19 hac ?_
  refine en_lmul h dX0_addToEquations_20 ?_
  refine en_lstore_n (i := 3) h dX0_addToEquations_21 rfl (by decide) ?_
  refine en_iconst h dX0_addToEquations_22 ?_
  refine en_istore (i := 5) h dX0_addToEquations_23 (by decide) ?_
  exact lp_X0_addToEquations_A hw hp h hf hi hq hr hv hg hrd 5 0 rfl m none none (fun k _ => rfl) rfl (fun c o c0 c1 o0 o1 => by rw [if_neg (by omega)]) (fun c c0 c1 => by rw [if_neg (by omega)])
