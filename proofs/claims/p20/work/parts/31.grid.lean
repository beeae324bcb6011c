/-! GRID 2: what follows from the lines -/
abbrev rm_X1_hasLineBetween : Room := { frames := 1, cells := 0, slots := 0, locals := 0 }
theorem my_X1_hasLineBetween : en_MY yX1_hasLineBetween RX1 cX1_hasLineBetween 4 (some .boolean) wsX1_hasLineBetween 2 := ⟨⟨_, rfl⟩, rfl, by decide, by decide, by decide +kernel, by decide +kernel⟩
set_option maxRecDepth 20000 in
theorem fl_X1_hasLineBetween_9 : en_FL wsX1_hasLineBetween RX1 9 1 1 := ⟨_, _, _, rfl, by decide, by decide +kernel, Or.inl (by decide +kernel)⟩
set_option maxRecDepth 20000 in
theorem fl_X1_hasLineBetween_15 : en_FL wsX1_hasLineBetween RX1 15 1 2 := ⟨_, _, _, rfl, by decide, by decide +kernel, Or.inl (by decide +kernel)⟩
set_option maxRecDepth 20000 in
theorem fl_X1_hasLineBetween_19 : en_FL wsX1_hasLineBetween RX1 19 1 3 := ⟨_, _, _, rfl, by decide, by decide +kernel, Or.inl (by decide +kernel)⟩
set_option maxRecDepth 100000 in
set_option maxHeartbeats 4000000 in
theorem lp_X1_hasLineBetween {κ : en_C} {m : en_M} {b o : Int} (hP : en_Has (en_w κ) 0 21) (h : en_Ok κ RX1 cX1_hasLineBetween 4 wsX1_hasLineBetween rm_X1_hasLineBetween) (hf : en_fin κ rm_X1_hasLineBetween (some .boolean) (fun r m' => r = some (en_I (if gs_hb (m 1) (m 2) b o (m 0 1).toNat = true then 1 else 0)) ∧ m' = m)) (hn : 0 ≤ m 0 1 ∧ m 0 1 ≤ 8) (hr : ∀ j, 0 ≤ j → j < m 0 1 → 0 ≤ m 1 j ∧ m 1 j < 5 ∧ 0 ≤ m 2 j ∧ m 2 j < 5) (rb : en_i32 b) (ro : en_i32 o) : ∀ (f i : Nat), (f : Int) + i = m 0 1 → gs_hb (m 1) (m 2) b o i = false → en_G κ 2 [some (en_R 0), some (en_I b), some (en_I o), some (en_I (i : Int))] [] m 0 0 := by
  have hI : ∀ k, 0 ≤ k → k < 21 → en_in κ k := hP
  intro f
  induction f with
  | zero =>
    intro i hi hb
    refine en_iload_n (i := 3) h dX1_hasLineBetween_2 rfl rfl ?_
    refine en_aload_n (i := 0) h dX1_hasLineBetween_3 rfl rfl ?_
    refine en_getI (i := 1) h dX1_hasLineBetween_4 fl_X1_hasLineBetween_9 (hI _ (by omega) (by omega)) rfl rfl rfl rfl ?_
    refine en_icmp_ge (tgt := 58) h dX1_hasLineBetween_7 (by decide) (by omega) (by omega) (fun c_7 => ?_) (fun c_7 => ?_)
    · refine en_iconst h dX1_hasLineBetween_58 ?_
      exact en_zret h hf dX1_hasLineBetween_59 ⟨by decide, by decide⟩ (by omega) ⟨by rw [show (m 0 1).toNat = i by omega, hb]; rfl, rfl⟩
    · exact absurd c_7 (by omega)
  | succ f ih =>
    intro i hi hb
    have r := hr i (by omega) (by omega)
    have e1 : ∀ q : Bool, gs_hb (m 1) (m 2) b o (i + 1) = q → q = true → gs_hb (m 1) (m 2) b o (m 0 1).toNat = true := fun q h1 h2 => by
      rw [show (m 0 1).toNat = (i + 1) + f by omega]
      exact gs_hb_mono (h1.trans h2) f
    refine en_iload_n (i := 3) h dX1_hasLineBetween_2 rfl rfl ?_
    refine en_aload_n (i := 0) h dX1_hasLineBetween_3 rfl rfl ?_
    refine en_getI (i := 1) h dX1_hasLineBetween_4 fl_X1_hasLineBetween_9 (hI _ (by omega) (by omega)) rfl rfl rfl rfl ?_
    refine en_icmp_ge (tgt := 58) h dX1_hasLineBetween_7 (by decide) (by omega) (by omega) (fun c_7 => ?_) (fun c_7 => ?_)
    · exact absurd c_7 (by omega)
    · refine en_aload_n (i := 0) h dX1_hasLineBetween_10 rfl rfl ?_
      refine en_getR h dX1_hasLineBetween_11 fl_X1_hasLineBetween_15 (hI _ (by omega) (by omega)) rfl rfl ?_
      refine en_iload_n (i := 3) h dX1_hasLineBetween_14 rfl rfl ?_
      refine en_iaload h dX1_hasLineBetween_15 (hI _ (by omega) (by omega)) rfl (by omega) rfl ?_
      refine en_iload_n (i := 1) h dX1_hasLineBetween_16 rfl rfl ?_
      refine en_icmp_ne (tgt := 30) h dX1_hasLineBetween_17 (by decide) (by omega) (by omega) (fun c_17 => ?_) (fun c_17 => ?_)
      · refine en_aload_n (i := 0) h dX1_hasLineBetween_30 rfl rfl ?_
        refine en_getR h dX1_hasLineBetween_31 fl_X1_hasLineBetween_15 (hI _ (by omega) (by omega)) rfl rfl ?_
        refine en_iload_n (i := 3) h dX1_hasLineBetween_34 rfl rfl ?_
        refine en_iaload h dX1_hasLineBetween_35 (hI _ (by omega) (by omega)) rfl (by omega) rfl ?_
        refine en_iload_n (i := 2) h dX1_hasLineBetween_36 rfl rfl ?_
        refine en_icmp_ne (tgt := 52) h dX1_hasLineBetween_37 (by decide) (by omega) (by omega) (fun c_37 => ?_) (fun c_37 => ?_)
        · refine en_iinc h dX1_hasLineBetween_52 rfl (by decide) ?_
          refine en_goto (tgt := 2) h dX1_hasLineBetween_55 (by decide) ?_
          exact ih (i + 1) (by omega) (by simp only [gs_hb, hb, Bool.false_or, decide_eq_false_iff_not]; omega)
        · refine en_aload_n (i := 0) h dX1_hasLineBetween_40 rfl rfl ?_
          refine en_getR h dX1_hasLineBetween_41 fl_X1_hasLineBetween_19 (hI _ (by omega) (by omega)) rfl rfl ?_
          refine en_iload_n (i := 3) h dX1_hasLineBetween_44 rfl rfl ?_
          refine en_iaload h dX1_hasLineBetween_45 (hI _ (by omega) (by omega)) rfl (by omega) rfl ?_
          refine en_iload_n (i := 1) h dX1_hasLineBetween_46 rfl rfl ?_
          refine en_icmp_ne (tgt := 52) h dX1_hasLineBetween_47 (by decide) (by omega) (by omega) (fun c_47 => ?_) (fun c_47 => ?_)
          · refine en_iinc h dX1_hasLineBetween_52 rfl (by decide) ?_
            refine en_goto (tgt := 2) h dX1_hasLineBetween_55 (by decide) ?_
            exact ih (i + 1) (by omega) (by simp only [gs_hb, hb, Bool.false_or, decide_eq_false_iff_not]; omega)
          · refine en_iconst h dX1_hasLineBetween_50 ?_
            exact en_zret h hf dX1_hasLineBetween_51 ⟨by decide, by decide⟩ (by omega) ⟨by rw [e1 true (by simp [gs_hb, c_37, c_47]) rfl]; rfl, rfl⟩
      · refine en_aload_n (i := 0) h dX1_hasLineBetween_20 rfl rfl ?_
        refine en_getR h dX1_hasLineBetween_21 fl_X1_hasLineBetween_19 (hI _ (by omega) (by omega)) rfl rfl ?_
        refine en_iload_n (i := 3) h dX1_hasLineBetween_24 rfl rfl ?_
        refine en_iaload h dX1_hasLineBetween_25 (hI _ (by omega) (by omega)) rfl (by omega) rfl ?_
        refine en_iload_n (i := 2) h dX1_hasLineBetween_26 rfl rfl ?_
        refine en_icmp_eq (tgt := 50) h dX1_hasLineBetween_27 (by decide) (by omega) (by omega) (fun c_27 => ?_) (fun c_27 => ?_)
        · refine en_iconst h dX1_hasLineBetween_50 ?_
          exact en_zret h hf dX1_hasLineBetween_51 ⟨by decide, by decide⟩ (by omega) ⟨by rw [e1 true (by simp [gs_hb, c_17, c_27]) rfl]; rfl, rfl⟩
        · refine en_aload_n (i := 0) h dX1_hasLineBetween_30 rfl rfl ?_
          refine en_getR h dX1_hasLineBetween_31 fl_X1_hasLineBetween_15 (hI _ (by omega) (by omega)) rfl rfl ?_
          refine en_iload_n (i := 3) h dX1_hasLineBetween_34 rfl rfl ?_
          refine en_iaload h dX1_hasLineBetween_35 (hI _ (by omega) (by omega)) rfl (by omega) rfl ?_
          refine en_iload_n (i := 2) h dX1_hasLineBetween_36 rfl rfl ?_
          refine en_icmp_ne (tgt := 52) h dX1_hasLineBetween_37 (by decide) (by omega) (by omega) (fun c_37 => ?_) (fun c_37 => ?_)
          · refine en_iinc h dX1_hasLineBetween_52 rfl (by decide) ?_
            refine en_goto (tgt := 2) h dX1_hasLineBetween_55 (by decide) ?_
            exact ih (i + 1) (by omega) (by simp only [gs_hb, hb, Bool.false_or, decide_eq_false_iff_not]; omega)
          · refine en_aload_n (i := 0) h dX1_hasLineBetween_40 rfl rfl ?_
            refine en_getR h dX1_hasLineBetween_41 fl_X1_hasLineBetween_19 (hI _ (by omega) (by omega)) rfl rfl ?_
            refine en_iload_n (i := 3) h dX1_hasLineBetween_44 rfl rfl ?_
            refine en_iaload h dX1_hasLineBetween_45 (hI _ (by omega) (by omega)) rfl (by omega) rfl ?_
            refine en_iload_n (i := 1) h dX1_hasLineBetween_46 rfl rfl ?_
            refine en_icmp_ne (tgt := 52) h dX1_hasLineBetween_47 (by decide) (by omega) (by omega) (fun c_47 => ?_) (fun c_47 => ?_)
            · refine en_iinc h dX1_hasLineBetween_52 rfl (by decide) ?_
              refine en_goto (tgt := 2) h dX1_hasLineBetween_55 (by decide) ?_
              exact ih (i + 1) (by omega) (by simp only [gs_hb, hb, Bool.false_or, decide_eq_false_iff_not]; omega)
            · refine en_iconst h dX1_hasLineBetween_50 ?_
              exact en_zret h hf dX1_hasLineBetween_51 ⟨by decide, by decide⟩ (by omega) ⟨by rw [e1 true (by simp [gs_hb, c_37, c_47]) rfl]; rfl, rfl⟩
set_option maxRecDepth 100000 in
set_option maxHeartbeats 4000000 in
theorem k_X1_hasLineBetween {l : Launch} {w : en_W} {m : en_M} (hw : en_Wok w) (hp : en_Has w 0 21) {b o : Int} (hn : 0 ≤ m 0 1 ∧ m 0 1 ≤ 8) (hr : ∀ j, 0 ≤ j → j < m 0 1 → 0 ≤ m 1 j ∧ m 1 j < 5 ∧ 0 ≤ m 2 j ∧ m 2 j < 5) (rb : en_i32 b) (ro : en_i32 o) : en_Met l w yX1_hasLineBetween wsX1_hasLineBetween rm_X1_hasLineBetween [en_R 0, en_I b, en_I o] m (fun r m' => r = some (en_I (if gs_hb (m 1) (m 2) b o (m 0 1).toNat = true then 1 else 0)) ∧ m' = m) := by
  refine en_met my_X1_hasLineBetween hw (Nat.le_of_ble_eq_true rfl) ?_
  intro κ hl9 hw9 h hf
  subst hw9
  subst hl9
  have hI : ∀ k, 0 ≤ k → k < 21 → en_in κ k := hp
  refine en_iconst h dX1_hasLineBetween_0 ?_
  refine en_istore_n (i := 3) h dX1_hasLineBetween_1 rfl (by decide) ?_
  exact lp_X1_hasLineBetween hp h hf hn hr rb ro (m 0 1).toNat 0 (by omega) rfl
abbrev rm_X1_shareReference : Room := { frames := 1, cells := 0, slots := 0, locals := 23 }
theorem my_X1_shareReference : en_MY yX1_shareReference RX1 cX1_shareReference 4 none wsX1_shareReference 2 := ⟨⟨_, rfl⟩, rfl, by decide, by decide, by decide +kernel, by decide +kernel⟩
set_option maxRecDepth 20000 in
theorem fl_X1_shareReference_29 : en_FL wsX1_shareReference RX1 29 1 6 := ⟨_, _, _, rfl, by decide, by decide +kernel, Or.inl (by decide +kernel)⟩
theorem jj_X1_shareReference : en_J wsX1_shareReference RX1 59 Lib.Math.min.name Lib.Math.min.code 2 (some .int) := ⟨by decide +kernel, by decide +kernel, by decide +kernel, by decide +kernel⟩
set_option maxRecDepth 100000 in
set_option maxHeartbeats 4000000 in
theorem k_X1_shareReference {l : Launch} {w : en_W} {m : en_M} (hw : en_Wok w) (hp : en_Has w 0 21) {b o : Int} (h0 : 0 ≤ b) (h1 : b < 5) (h2 : 0 ≤ o) (h3 : o < 5) (r1 : en_i32 (m 5 b)) (r2 : en_i32 (m 5 o)) : en_Met l w yX1_shareReference wsX1_shareReference rm_X1_shareReference [en_R 0, en_I b, en_I o] m (fun r m' => r = none ∧ m' = en_set (en_set m 5 b (min (m 5 b) (m 5 o))) 5 o (min (m 5 b) (m 5 o))) := by
  refine en_met my_X1_shareReference hw (Nat.le_of_ble_eq_true rfl) ?_
  intro κ hl9 hw9 h hf
  subst hw9
  subst hl9
  have hI : ∀ k, 0 ≤ k → k < 21 → en_in κ k := hp
  refine en_aload_n (i := 0) h dX1_shareReference_0 rfl rfl ?_
  refine en_getR h dX1_shareReference_1 fl_X1_shareReference_29 (hI _ (by omega) (by omega)) rfl rfl ?_
  refine en_iload_n (i := 1) h dX1_shareReference_4 rfl rfl ?_
  refine en_iaload h dX1_shareReference_5 (hI _ (by omega) (by omega)) rfl (by omega) rfl ?_
  refine en_aload_n (i := 0) h dX1_shareReference_6 rfl rfl ?_
  refine en_getR h dX1_shareReference_7 fl_X1_shareReference_29 (hI _ (by omega) (by omega)) rfl rfl ?_
  refine en_iload_n (i := 2) h dX1_shareReference_10 rfl rfl ?_
  refine en_iaload h dX1_shareReference_11 (hI _ (by omega) (by omega)) rfl (by omega) rfl ?_
  refine en_mmin h jj_X1_shareReference ⟨by decide, by decide⟩ (by decide) (by decide) dX1_shareReference_12 r1 r2 ?_
  refine en_istore_n (i := 3) h dX1_shareReference_15 rfl (by decide) ?_
  refine en_aload_n (i := 0) h dX1_shareReference_16 rfl rfl ?_
  refine en_getR h dX1_shareReference_17 fl_X1_shareReference_29 (hI _ (by omega) (by omega)) rfl rfl ?_
  refine en_iload_n (i := 1) h dX1_shareReference_20 rfl rfl ?_
  refine en_iload_n (i := 3) h dX1_shareReference_21 rfl rfl ?_
  refine en_iastore h dX1_shareReference_22 (hI _ (by omega) (by omega)) rfl (by omega) ?_
  refine en_aload_n (i := 0) h dX1_shareReference_23 rfl rfl ?_
  refine en_getR h dX1_shareReference_24 fl_X1_shareReference_29 (hI _ (by omega) (by omega)) rfl rfl ?_
  refine en_iload_n (i := 2) h dX1_shareReference_27 rfl rfl ?_
  refine en_iload_n (i := 3) h dX1_shareReference_28 rfl rfl ?_
  refine en_iastore h dX1_shareReference_29 (hI _ (by omega) (by omega)) rfl (by omega) ?_
  exact en_vret h hf dX1_shareReference_30 ⟨by decide, by decide⟩ ⟨rfl, rfl⟩
abbrev rm_X1_findReferences : Room := { frames := 2, cells := 0, slots := 0, locals := 46 }
theorem my_X1_findReferences : en_MY yX1_findReferences RX1 cX1_findReferences 3 none wsX1_findReferences 0 := ⟨⟨_, rfl⟩, rfl, by decide, by decide, by decide +kernel, by decide +kernel⟩
set_option maxRecDepth 20000 in
theorem fl_X1_findReferences_9 : en_FL wsX1_findReferences RX1 9 1 1 := ⟨_, _, _, rfl, by decide, by decide +kernel, Or.inl (by decide +kernel)⟩
set_option maxRecDepth 20000 in
theorem fl_X1_findReferences_15 : en_FL wsX1_findReferences RX1 15 1 2 := ⟨_, _, _, rfl, by decide, by decide +kernel, Or.inl (by decide +kernel)⟩
set_option maxRecDepth 20000 in
theorem fl_X1_findReferences_19 : en_FL wsX1_findReferences RX1 19 1 3 := ⟨_, _, _, rfl, by decide, by decide +kernel, Or.inl (by decide +kernel)⟩
set_option maxRecDepth 20000 in
theorem fl_X1_findReferences_25 : en_FL wsX1_findReferences RX1 25 1 5 := ⟨_, _, _, rfl, by decide, by decide +kernel, Or.inl (by decide +kernel)⟩
set_option maxRecDepth 20000 in
theorem fl_X1_findReferences_29 : en_FL wsX1_findReferences RX1 29 1 6 := ⟨_, _, _, rfl, by decide, by decide +kernel, Or.inl (by decide +kernel)⟩
set_option maxRecDepth 100000 in
set_option maxHeartbeats 4000000 in
theorem lp_X1_findReferences_A {κ : en_C} {m : en_M} (hP : en_Has (en_w κ) 0 21) (h : en_Ok κ RX1 cX1_findReferences 3 wsX1_findReferences rm_X1_findReferences) (K : en_G κ 20 [some (en_R 0), some (en_I 5), none] [] (en_ar m 5 5 (fun b => b)) 0 0) : ∀ (f i : Nat), f + i = 5 → en_G κ 2 [some (en_R 0), some (en_I (i : Int)), none] [] (en_ar m 5 i (fun b => b)) 0 0 := by
  have hI : ∀ k, 0 ≤ k → k < 21 → en_in κ k := hP
  intro f
  induction f with
  | zero =>
    intro i hi
    refine en_iload_n (i := 1) h dX1_findReferences_2 rfl rfl ?_
    refine en_iconst h dX1_findReferences_3 ?_
    refine en_icmp_ge (tgt := 20) h dX1_findReferences_4 (by decide) (by omega) (by omega) (fun c_4 => ?_) (fun c_4 => ?_)
    · have e : (i : Int) = 5 := by omega
      rw [e]
      exact K
    · exact absurd c_4 (by omega)
  | succ f ih =>
    intro i hi
    refine en_iload_n (i := 1) h dX1_findReferences_2 rfl rfl ?_
    refine en_iconst h dX1_findReferences_3 ?_
    refine en_icmp_ge (tgt := 20) h dX1_findReferences_4 (by decide) (by omega) (by omega) (fun c_4 => ?_) (fun c_4 => ?_)
    · exact absurd c_4 (by omega)
    · refine en_aload_n (i := 0) h dX1_findReferences_7 rfl rfl ?_
      refine en_getR h dX1_findReferences_8 fl_X1_findReferences_29 (hI _ (by omega) (by omega)) rfl rfl ?_
      refine en_iload_n (i := 1) h dX1_findReferences_11 rfl rfl ?_
      refine en_iload_n (i := 1) h dX1_findReferences_12 rfl rfl ?_
      refine en_iastore h dX1_findReferences_13 (hI _ (by omega) (by omega)) rfl (by omega) ?_
      refine en_iinc h dX1_findReferences_14 rfl (by decide) ?_
      refine en_goto (tgt := 2) h dX1_findReferences_17 (by decide) ?_
      rw [en_ar_push (by omega) rfl]
      exact ih (i + 1) (by omega)
set_option maxRecDepth 100000 in
set_option maxHeartbeats 4000000 in
theorem lp_X1_findReferences_C {κ : en_C} {m : en_M} {t : Int} {R : Int → Int} (hW : en_Wok (en_w κ)) (hP : en_Has (en_w κ) 0 21) (h : en_Ok κ RX1 cX1_findReferences 3 wsX1_findReferences rm_X1_findReferences) (hn : 0 ≤ m 0 1 ∧ m 0 1 ≤ 8) (hr : ∀ j, 0 ≤ j → j < m 0 1 → 0 ≤ m 1 j ∧ m 1 j < 5 ∧ 0 ≤ m 2 j ∧ m 2 j < 5 ∧ (m 4 j = 0 ∨ m 4 j = 1)) (hR : ∀ (n : Nat), (n : Int) ≤ m 0 1 → ∀ b, 0 ≤ b → b < 5 → 0 ≤ gs_rd (m 1) (m 2) (m 4) R n b ∧ gs_rd (m 1) (m 2) (m 4) R n b ≤ b) (K : ∀ i : Int, en_G κ 68 [some (en_R 0), some (en_I t), some (en_I i)] [] (en_ar m 5 5 (gs_rd (m 1) (m 2) (m 4) R (m 0 1).toNat)) 0 0) : ∀ (f i : Nat), (f : Int) + i = m 0 1 → en_G κ 29 [some (en_R 0), some (en_I t), some (en_I (i : Int))] [] (en_ar m 5 5 (gs_rd (m 1) (m 2) (m 4) R i)) 0 0 := by
  have hI : ∀ k, 0 ≤ k → k < 21 → en_in κ k := hP
  intro f
  induction f with
  | zero =>
    intro i hi
    refine en_iload_n (i := 2) h dX1_findReferences_29 rfl rfl ?_
    refine en_aload_n (i := 0) h dX1_findReferences_30 rfl rfl ?_
    refine en_getI (i := 1) h dX1_findReferences_31 fl_X1_findReferences_9 (hI _ (by omega) (by omega)) rfl rfl rfl (v9 := m 0 1) (by rw [en_ar_ne (by decide)]) ?_
    refine en_icmp_ge (tgt := 68) h dX1_findReferences_34 (by decide) (by omega) (by omega) (fun c_34 => ?_) (fun c_34 => ?_)
    · have e : i = (m 0 1).toNat := by omega
      rw [e]
      exact K _
    · exact absurd c_34 (by omega)
  | succ f ih =>
    intro i hi
    have r := hr i (by omega) (by omega)
    have q1 := hR i (by omega) (m 1 i) (by omega) (by omega)
    have q2 := hR i (by omega) (m 2 i) (by omega) (by omega)
    refine en_iload_n (i := 2) h dX1_findReferences_29 rfl rfl ?_
    refine en_aload_n (i := 0) h dX1_findReferences_30 rfl rfl ?_
    refine en_getI (i := 1) h dX1_findReferences_31 fl_X1_findReferences_9 (hI _ (by omega) (by omega)) rfl rfl rfl (v9 := m 0 1) (by rw [en_ar_ne (by decide)]) ?_
    refine en_icmp_ge (tgt := 68) h dX1_findReferences_34 (by decide) (by omega) (by omega) (fun c_34 => ?_) (fun c_34 => ?_)
    · exact absurd c_34 (by omega)
    · refine en_aload_n (i := 0) h dX1_findReferences_37 rfl rfl ?_
      refine en_getR h dX1_findReferences_38 fl_X1_findReferences_25 (hI _ (by omega) (by omega)) rfl rfl ?_
      refine en_iload_n (i := 2) h dX1_findReferences_41 rfl rfl ?_
      refine en_zaload h dX1_findReferences_42 (hI _ (by omega) (by omega)) rfl (by omega) (v9 := m 4 i) (by rw [en_ar_ne (by decide)]) ?_
      refine en_if_eq (tgt := 62) h dX1_findReferences_43 (by decide) (by omega) (fun c_43 => ?_) (fun c_43 => ?_)
      · refine en_iinc h dX1_findReferences_62 rfl (by decide) ?_
        refine en_goto (tgt := 29) h dX1_findReferences_65 (by decide) ?_
        have e : gs_rd (m 1) (m 2) (m 4) R i = gs_rd (m 1) (m 2) (m 4) R (i + 1) := by
          simp only [gs_rd, gs_ln]
          rw [if_pos c_43]
        rw [e]
        exact ih (i + 1) (by omega)
      · refine en_aload_n (i := 0) h dX1_findReferences_46 rfl rfl ?_
        refine en_aload_n (i := 0) h dX1_findReferences_47 rfl rfl ?_
        refine en_getR h dX1_findReferences_48 fl_X1_findReferences_15 (hI _ (by omega) (by omega)) rfl rfl ?_
        refine en_iload_n (i := 2) h dX1_findReferences_51 rfl rfl ?_
        refine en_iaload h dX1_findReferences_52 (hI _ (by omega) (by omega)) rfl (by omega) (v9 := m 1 i) (by rw [en_ar_ne (by decide)]) ?_
        refine en_aload_n (i := 0) h dX1_findReferences_53 rfl rfl ?_
        refine en_getR h dX1_findReferences_54 fl_X1_findReferences_19 (hI _ (by omega) (by omega)) rfl rfl ?_
        refine en_iload_n (i := 2) h dX1_findReferences_57 rfl rfl ?_
        refine en_iaload h dX1_findReferences_58 (hI _ (by omega) (by omega)) rfl (by omega) (v9 := m 2 i) (by rw [en_ar_ne (by decide)]) ?_
        refine en_callV h (k_X1_shareReference hW hP (by omega) (by omega) (by omega) (by omega) (by rw [en_ar_at (by omega) (by omega)]; omega) (by rw [en_ar_at (by omega) (by omega)]; omega)) my_X1_shareReference gX1_findReferences_X1_shareReference (hI _ (by omega) (by omega)) rfl rfl rfl rfl ⟨by decide, by decide⟩ ⟨by decide, by decide⟩ (Nat.le_of_ble_eq_true rfl) dX1_findReferences_59 (fun r m' hp => ?_)
        obtain ⟨rfl, rfl⟩ := hp
        refine en_iinc h dX1_findReferences_62 rfl (by decide) ?_
        refine en_goto (tgt := 29) h dX1_findReferences_65 (by decide) ?_
        have e : en_set (en_set (en_ar m 5 5 (gs_rd (m 1) (m 2) (m 4) R i)) 5 (m 1 i) (min (en_ar m 5 5 (gs_rd (m 1) (m 2) (m 4) R i) 5 (m 1 i)) (en_ar m 5 5 (gs_rd (m 1) (m 2) (m 4) R i) 5 (m 2 i)))) 5 (m 2 i) (min (en_ar m 5 5 (gs_rd (m 1) (m 2) (m 4) R i) 5 (m 1 i)) (en_ar m 5 5 (gs_rd (m 1) (m 2) (m 4) R i) 5 (m 2 i))) = en_ar m 5 5 (gs_rd (m 1) (m 2) (m 4) R (i + 1)) := by
          rw [en_ar_at (by omega) (by omega), en_ar_at (by omega) (by omega), en_ar_set (by omega) (by omega), en_ar_set (by omega) (by omega)]
          congr 1
          funext b
          simp only [gs_rd, gs_ln, gs_up]
          rw [if_neg c_43]
        rw [e]
        exact ih (i + 1) (by omega)
set_option maxRecDepth 100000 in
set_option maxHeartbeats 4000000 in
theorem lp_X1_findReferences_B {κ : en_C} {m : en_M} (hW : en_Wok (en_w κ)) (hP : en_Has (en_w κ) 0 21) (h : en_Ok κ RX1 cX1_findReferences 3 wsX1_findReferences rm_X1_findReferences) (hf : en_fin κ rm_X1_findReferences none (fun r m' => r = none ∧ m' = en_ar m 5 5 (gs_it (m 0 1).toNat (m 1) (m 2) (m 4) 4))) (hn : 0 ≤ m 0 1 ∧ m 0 1 ≤ 8) (hr : ∀ j, 0 ≤ j → j < m 0 1 → 0 ≤ m 1 j ∧ m 1 j < 5 ∧ 0 ≤ m 2 j ∧ m 2 j < 5 ∧ (m 4 j = 0 ∨ m 4 j = 1)) : ∀ (f i : Nat), f + i = 4 → ∀ o, en_G κ 22 [some (en_R 0), some (en_I ((i : Int) + 1)), o] [] (en_ar m 5 5 (gs_it (m 0 1).toNat (m 1) (m 2) (m 4) i)) 0 0 := by
  have hI : ∀ k, 0 ≤ k → k < 21 → en_in κ k := hP
  intro f
  induction f with
  | zero =>
    intro i hi o
    refine en_iload_n (i := 1) h dX1_findReferences_22 rfl rfl ?_
    refine en_iconst h dX1_findReferences_23 ?_
    refine en_icmp_ge (tgt := 74) h dX1_findReferences_24 (by decide) (by omega) (by omega) (fun c_24 => ?_) (fun c_24 => ?_)
    · exact en_vret h hf dX1_findReferences_74 ⟨by decide, by decide⟩ ⟨rfl, by rw [show i = 4 by omega]⟩
    · exact absurd c_24 (by omega)
  | succ f ih =>
    intro i hi o
    refine en_iload_n (i := 1) h dX1_findReferences_22 rfl rfl ?_
    refine en_iconst h dX1_findReferences_23 ?_
    refine en_icmp_ge (tgt := 74) h dX1_findReferences_24 (by decide) (by omega) (by omega) (fun c_24 => ?_) (fun c_24 => ?_)
    · exact absurd c_24 (by omega)
    · refine en_iconst h dX1_findReferences_27 ?_
      refine en_istore_n (i := 2) h dX1_findReferences_28 rfl (by decide) ?_
      refine lp_X1_findReferences_C (R := gs_it (m 0 1).toNat (m 1) (m 2) (m 4) i) hW hP h hn hr ?_ ?_ (m 0 1).toNat 0 (by omega)
      · intro n hn2 b b0 b1
        exact gs_rd_rng i n (by omega) b b0 (fun j j0 j1 => ⟨(hr j j0 (by omega)).1, (hr j j0 (by omega)).2.2.1⟩)
      · intro i2
        refine en_iinc h dX1_findReferences_68 rfl (by decide) ?_
        refine en_goto (tgt := 22) h dX1_findReferences_71 (by decide) ?_
        exact ih (i + 1) (by omega) _
set_option maxRecDepth 100000 in
set_option maxHeartbeats 4000000 in
theorem k_X1_findReferences {l : Launch} {w : en_W} {m : en_M} (hw : en_Wok w) (hp : en_Has w 0 21) (hn : 0 ≤ m 0 1 ∧ m 0 1 ≤ 8) (hr : ∀ j, 0 ≤ j → j < m 0 1 → 0 ≤ m 1 j ∧ m 1 j < 5 ∧ 0 ≤ m 2 j ∧ m 2 j < 5 ∧ (m 4 j = 0 ∨ m 4 j = 1)) : en_Met l w yX1_findReferences wsX1_findReferences rm_X1_findReferences [en_R 0] m (fun r m' => r = none ∧ m' = en_ar m 5 5 (gs_it (m 0 1).toNat (m 1) (m 2) (m 4) 4)) := by
  refine en_met my_X1_findReferences hw (Nat.le_of_ble_eq_true rfl) ?_
  intro κ hl9 hw9 h hf
  subst hw9
  subst hl9
  have hI : ∀ k, 0 ≤ k → k < 21 → en_in κ k := hp
  refine en_iconst h dX1_findReferences_0 ?_
  refine en_istore_n (i := 1) h dX1_findReferences_1 rfl (by decide) ?_
  rw [← en_ar_0 (m := m) (k := 5) (f := fun b => b)]
  refine lp_X1_findReferences_A hp h ?_ 5 0 rfl
  refine en_iconst h dX1_findReferences_20 ?_
  refine en_istore_n (i := 1) h dX1_findReferences_21 rfl (by decide) ?_
  exact lp_X1_findReferences_B hw hp h hf hn hr 4 0 rfl _
abbrev rm_X1_findFlowGrowths : Room := { frames := 1, cells := 0, slots := 0, locals := 0 }
theorem my_X1_findFlowGrowths : en_MY yX1_findFlowGrowths RX1 cX1_findFlowGrowths 3 none wsX1_findFlowGrowths 0 := ⟨⟨_, rfl⟩, rfl, by decide, by decide, by decide +kernel, by decide +kernel⟩
set_option maxRecDepth 20000 in
theorem fl_X1_findFlowGrowths_9 : en_FL wsX1_findFlowGrowths RX1 9 1 1 := ⟨_, _, _, rfl, by decide, by decide +kernel, Or.inl (by decide +kernel)⟩
set_option maxRecDepth 20000 in
theorem fl_X1_findFlowGrowths_15 : en_FL wsX1_findFlowGrowths RX1 15 1 2 := ⟨_, _, _, rfl, by decide, by decide +kernel, Or.inl (by decide +kernel)⟩
set_option maxRecDepth 20000 in
theorem fl_X1_findFlowGrowths_19 : en_FL wsX1_findFlowGrowths RX1 19 1 3 := ⟨_, _, _, rfl, by decide, by decide +kernel, Or.inl (by decide +kernel)⟩
set_option maxRecDepth 20000 in
theorem fl_X1_findFlowGrowths_22 : en_FL wsX1_findFlowGrowths RX1 22 1 4 := ⟨_, _, _, rfl, by decide, by decide +kernel, Or.inl (by decide +kernel)⟩
set_option maxRecDepth 20000 in
theorem fl_X1_findFlowGrowths_25 : en_FL wsX1_findFlowGrowths RX1 25 1 5 := ⟨_, _, _, rfl, by decide, by decide +kernel, Or.inl (by decide +kernel)⟩
set_option maxRecDepth 20000 in
theorem fl_X1_findFlowGrowths_34 : en_FL wsX1_findFlowGrowths RX1 34 1 7 := ⟨_, _, _, rfl, by decide, by decide +kernel, Or.inl (by decide +kernel)⟩
set_option maxRecDepth 100000 in
set_option maxHeartbeats 4000000 in
theorem lp_X1_findFlowGrowths {κ : en_C} {m : en_M} (hP : en_Has (en_w κ) 0 21) (h : en_Ok κ RX1 cX1_findFlowGrowths 3 wsX1_findFlowGrowths rm_X1_findFlowGrowths) (hf : en_fin κ rm_X1_findFlowGrowths none (fun r m' => r = none ∧ m' = en_rw m 8 (m 0 1) 5 (gs_fg (m 1) (m 2) (m 3) (m 4)))) (hn : 0 ≤ m 0 1 ∧ m 0 1 ≤ 8) (hr : ∀ j, 0 ≤ j → j < m 0 1 → 0 ≤ m 1 j ∧ m 1 j < 5 ∧ 0 ≤ m 2 j ∧ m 2 j < 5 ∧ (m 4 j = 0 ∨ m 4 j = 1)) (hz : ∀ j b, 0 ≤ j → j < m 0 1 → 0 ≤ b → b < 5 → b ≠ m 1 j → b ≠ m 2 j → m (8 + j) b = 0) : ∀ (f i : Nat), (f : Int) + i = m 0 1 → ∀ o, en_G κ 2 [some (en_R 0), some (en_I (i : Int)), o] [] (en_rw m 8 i 5 (gs_fg (m 1) (m 2) (m 3) (m 4))) 0 0 := by
  have hI : ∀ k, 0 ≤ k → k < 21 → en_in κ k := hP
  intro f
  induction f with
  | zero =>
    intro i hi o
    refine en_iload_n (i := 1) h dX1_findFlowGrowths_2 rfl rfl ?_
    refine en_aload_n (i := 0) h dX1_findFlowGrowths_3 rfl rfl ?_
    refine en_getI (i := 1) h dX1_findFlowGrowths_4 fl_X1_findFlowGrowths_9 (hI _ (by omega) (by omega)) rfl rfl rfl (v9 := m 0 1) (by rw [en_rw_ne (by omega)]) ?_
    refine en_icmp_ge (tgt := 65) h dX1_findFlowGrowths_7 (by decide) (by omega) (by omega) (fun c_7 => ?_) (fun c_7 => ?_)
    · exact en_vret h hf dX1_findFlowGrowths_65 ⟨by decide, by decide⟩ ⟨rfl, by rw [show (i : Int) = m 0 1 by omega]⟩
    · exact absurd c_7 (by omega)
  | succ f ih =>
    intro i hi o
    have r := hr i (by omega) (by omega)
    have key : ∀ s : Int, s = (if m 4 (i : Int) = 0 then 0 else m 3 (i : Int)) → en_set (en_set (en_rw m 8 i 5 (gs_fg (m 1) (m 2) (m 3) (m 4))) (8 + (i : Int)) (m 1 i) s) (8 + (i : Int)) (m 2 i) (-s) = en_rw m 8 ((i + 1 : Nat) : Int) 5 (gs_fg (m 1) (m 2) (m 3) (m 4)) := by
      intro s hs
      funext k' j
      unfold en_set en_rw gs_fg
      by_cases c1 : k' = 8 + (i : Int)
      · subst c1
        by_cases c2 : 0 ≤ j ∧ j < 5
        · rw [if_pos (show 8 ≤ 8 + (i : Int) ∧ 8 + (i : Int) < 8 + ((i + 1 : Nat) : Int) ∧ 0 ≤ j ∧ j < 5 by omega), show 8 + (i : Int) - 8 = i by omega, ← hs]
          by_cases c3 : j = m 2 i
          · rw [if_pos ⟨rfl, c3⟩, if_pos c3]
          · rw [if_neg (fun q => c3 q.2), if_neg c3]
            by_cases c4 : j = m 1 i
            · rw [if_pos ⟨rfl, c4⟩, if_pos c4]
            · rw [if_neg (fun q => c4 q.2), if_neg c4, if_neg (by omega)]
              exact hz i j (by omega) (by omega) c2.1 c2.2 c4 c3
        · rw [if_neg (by omega), if_neg (by omega), if_neg (by omega), if_neg (by omega)]
      · rw [if_neg (fun q => c1 q.1), if_neg (fun q => c1 q.1)]
        by_cases c2 : 8 ≤ k' ∧ k' < 8 + (i : Int) ∧ 0 ≤ j ∧ j < 5
        · rw [if_pos c2, if_pos (show 8 ≤ k' ∧ k' < 8 + ((i + 1 : Nat) : Int) ∧ 0 ≤ j ∧ j < 5 by omega)]
        · rw [if_neg c2, if_neg (show ¬ (8 ≤ k' ∧ k' < 8 + ((i + 1 : Nat) : Int) ∧ 0 ≤ j ∧ j < 5) by omega)]
    refine en_iload_n (i := 1) h dX1_findFlowGrowths_2 rfl rfl ?_
    refine en_aload_n (i := 0) h dX1_findFlowGrowths_3 rfl rfl ?_
    refine en_getI (i := 1) h dX1_findFlowGrowths_4 fl_X1_findFlowGrowths_9 (hI _ (by omega) (by omega)) rfl rfl rfl (v9 := m 0 1) (by rw [en_rw_ne (by omega)]) ?_
    refine en_icmp_ge (tgt := 65) h dX1_findFlowGrowths_7 (by decide) (by omega) (by omega) (fun c_7 => ?_) (fun c_7 => ?_)
    · exact absurd c_7 (by omega)
    · refine en_aload_n (i := 0) h dX1_findFlowGrowths_10 rfl rfl ?_
      refine en_getR h dX1_findFlowGrowths_11 fl_X1_findFlowGrowths_25 (hI _ (by omega) (by omega)) rfl rfl ?_
      refine en_iload_n (i := 1) h dX1_findFlowGrowths_14 rfl rfl ?_
      refine en_zaload h dX1_findFlowGrowths_15 (hI _ (by omega) (by omega)) rfl (by omega) (v9 := m 4 i) (by rw [en_rw_ne (by omega)]) ?_
      refine en_if_eq (tgt := 28) h dX1_findFlowGrowths_16 (by decide) (by omega) (fun c_16 => ?_) (fun c_16 => ?_)
      · refine en_iconst h dX1_findFlowGrowths_28 ?_
        refine en_istore_n (i := 2) h dX1_findFlowGrowths_29 rfl (by decide) ?_
        refine en_aload_n (i := 0) h dX1_findFlowGrowths_30 rfl rfl ?_
        refine en_getR h dX1_findFlowGrowths_31 fl_X1_findFlowGrowths_34 (hI _ (by omega) (by omega)) rfl rfl ?_
        refine en_iload_n (i := 1) h dX1_findFlowGrowths_34 rfl rfl ?_
        refine en_aaloadS3 h dX1_findFlowGrowths_35 (hI _ (by omega) (by omega)) rfl (by decide) (by omega) ?_
        refine en_aload_n (i := 0) h dX1_findFlowGrowths_36 rfl rfl ?_
        refine en_getR h dX1_findFlowGrowths_37 fl_X1_findFlowGrowths_15 (hI _ (by omega) (by omega)) rfl rfl ?_
        refine en_iload_n (i := 1) h dX1_findFlowGrowths_40 rfl rfl ?_
        refine en_iaload h dX1_findFlowGrowths_41 (hI _ (by omega) (by omega)) rfl (by omega) (v9 := m 1 i) (by rw [en_rw_ne (by omega)]) ?_
        refine en_iload_n (i := 2) h dX1_findFlowGrowths_42 rfl rfl ?_
        refine en_iastore h dX1_findFlowGrowths_43 (hI _ (by omega) (by omega)) (ly_row8 (by omega) (by omega)) (by omega) ?_
        refine en_aload_n (i := 0) h dX1_findFlowGrowths_44 rfl rfl ?_
        refine en_getR h dX1_findFlowGrowths_45 fl_X1_findFlowGrowths_34 (hI _ (by omega) (by omega)) rfl rfl ?_
        refine en_iload_n (i := 1) h dX1_findFlowGrowths_48 rfl rfl ?_
        refine en_aaloadS3 h dX1_findFlowGrowths_49 (hI _ (by omega) (by omega)) rfl (by decide) (by omega) ?_
        refine en_aload_n (i := 0) h dX1_findFlowGrowths_50 rfl rfl ?_
        refine en_getR h dX1_findFlowGrowths_51 fl_X1_findFlowGrowths_19 (hI _ (by omega) (by omega)) rfl rfl ?_
        refine en_iload_n (i := 1) h dX1_findFlowGrowths_54 rfl rfl ?_
        refine en_iaload h dX1_findFlowGrowths_55 (hI _ (by omega) (by omega)) rfl (by omega) (v9 := m 2 i) (by rw [en_set_ne (by omega), en_rw_ne (by omega)]) ?_
        refine en_iload_n (i := 2) h dX1_findFlowGrowths_56 rfl rfl ?_
        refine en_ineg h dX1_findFlowGrowths_57 ?_
        refine en_iastore h dX1_findFlowGrowths_58 (hI _ (by omega) (by omega)) (ly_row8 (by omega) (by omega)) (by omega) ?_
        refine en_iinc h dX1_findFlowGrowths_59 rfl (by decide) ?_
        refine en_goto (tgt := 2) h dX1_findFlowGrowths_62 (by decide) ?_
        rw [key 0 (by rw [if_pos c_16])]
        exact ih (i + 1) (by omega) _
      · refine en_aload_n (i := 0) h dX1_findFlowGrowths_19 rfl rfl ?_
        refine en_getR h dX1_findFlowGrowths_20 fl_X1_findFlowGrowths_22 (hI _ (by omega) (by omega)) rfl rfl ?_
        refine en_iload_n (i := 1) h dX1_findFlowGrowths_23 rfl rfl ?_
        refine en_iaload h dX1_findFlowGrowths_24 (hI _ (by omega) (by omega)) rfl (by omega) (v9 := m 3 i) (by rw [en_rw_ne (by omega)]) ?_
        refine en_goto (tgt := 29) h dX1_findFlowGrowths_25 (by decide) ?_
        refine en_istore_n (i := 2) h dX1_findFlowGrowths_29 rfl (by decide) ?_
        refine en_aload_n (i := 0) h dX1_findFlowGrowths_30 rfl rfl ?_
        refine en_getR h dX1_findFlowGrowths_31 fl_X1_findFlowGrowths_34 (hI _ (by omega) (by omega)) rfl rfl ?_
        refine en_iload_n (i := 1) h dX1_findFlowGrowths_34 rfl rfl ?_
        refine en_aaloadS3 h dX1_findFlowGrowths_35 (hI _ (by omega) (by omega)) rfl (by decide) (by omega) ?_
        refine en_aload_n (i := 0) h dX1_findFlowGrowths_36 rfl rfl ?_
        refine en_getR h dX1_findFlowGrowths_37 fl_X1_findFlowGrowths_15 (hI _ (by omega) (by omega)) rfl rfl ?_
        refine en_iload_n (i := 1) h dX1_findFlowGrowths_40 rfl rfl ?_
        refine en_iaload h dX1_findFlowGrowths_41 (hI _ (by omega) (by omega)) rfl (by omega) (v9 := m 1 i) (by rw [en_rw_ne (by omega)]) ?_
        refine en_iload_n (i := 2) h dX1_findFlowGrowths_42 rfl rfl ?_
        refine en_iastore h dX1_findFlowGrowths_43 (hI _ (by omega) (by omega)) (ly_row8 (by omega) (by omega)) (by omega) ?_
        refine en_aload_n (i := 0) h dX1_findFlowGrowths_44 rfl rfl ?_
        refine en_getR h dX1_findFlowGrowths_45 fl_X1_findFlowGrowths_34 (hI _ (by omega) (by omega)) rfl rfl ?_
        refine en_iload_n (i := 1) h dX1_findFlowGrowths_48 rfl rfl ?_
        refine en_aaloadS3 h dX1_findFlowGrowths_49 (hI _ (by omega) (by omega)) rfl (by decide) (by omega) ?_
        refine en_aload_n (i := 0) h dX1_findFlowGrowths_50 rfl rfl ?_
        refine en_getR h dX1_findFlowGrowths_51 fl_X1_findFlowGrowths_19 (hI _ (by omega) (by omega)) rfl rfl ?_
        refine en_iload_n (i := 1) h dX1_findFlowGrowths_54 rfl rfl ?_
        refine en_iaload h dX1_findFlowGrowths_55 (hI _ (by omega) (by omega)) rfl (by omega) (v9 := m 2 i) (by rw [en_set_ne (by omega), en_rw_ne (by omega)]) ?_
        refine en_iload_n (i := 2) h dX1_findFlowGrowths_56 rfl rfl ?_
        refine en_ineg h dX1_findFlowGrowths_57 ?_
        refine en_iastore h dX1_findFlowGrowths_58 (hI _ (by omega) (by omega)) (ly_row8 (by omega) (by omega)) (by omega) ?_
        refine en_iinc h dX1_findFlowGrowths_59 rfl (by decide) ?_
        refine en_goto (tgt := 2) h dX1_findFlowGrowths_62 (by decide) ?_
        rw [key (m 3 i) (by rw [if_neg c_16])]
        exact ih (i + 1) (by omega) _
set_option maxRecDepth 100000 in
set_option maxHeartbeats 4000000 in
theorem k_X1_findFlowGrowths {l : Launch} {w : en_W} {m : en_M} (hw : en_Wok w) (hp : en_Has w 0 21) (hn : 0 ≤ m 0 1 ∧ m 0 1 ≤ 8) (hr : ∀ j, 0 ≤ j → j < m 0 1 → 0 ≤ m 1 j ∧ m 1 j < 5 ∧ 0 ≤ m 2 j ∧ m 2 j < 5 ∧ (m 4 j = 0 ∨ m 4 j = 1)) (hz : ∀ j b, 0 ≤ j → j < m 0 1 → 0 ≤ b → b < 5 → b ≠ m 1 j → b ≠ m 2 j → m (8 + j) b = 0) : en_Met l w yX1_findFlowGrowths wsX1_findFlowGrowths rm_X1_findFlowGrowths [en_R 0] m (fun r m' => r = none ∧ m' = en_rw m 8 (m 0 1) 5 (gs_fg (m 1) (m 2) (m 3) (m 4))) := by
  refine en_met my_X1_findFlowGrowths hw (Nat.le_of_ble_eq_true rfl) ?_
  intro κ hl9 hw9 h hf
  subst hw9
  subst hl9
  have hI : ∀ k, 0 ≤ k → k < 21 → en_in κ k := hp
  refine en_iconst h dX1_findFlowGrowths_0 ?_
  refine en_istore_n (i := 1) h dX1_findFlowGrowths_1 rfl (by decide) ?_
  have q := lp_X1_findFlowGrowths hp h hf hn hr hz (m 0 1).toNat 0 (by omega) none
  rw [show en_rw m 8 ((0 : Nat) : Int) 5 (gs_fg (m 1) (m 2) (m 3) (m 4)) = m from by funext k' j; unfold en_rw; rw [if_neg (by omega)]] at q
  exact q
abbrev rm_X1_findInjectionGrowths : Room := { frames := 1, cells := 0, slots := 0, locals := 0 }
theorem my_X1_findInjectionGrowths : en_MY yX1_findInjectionGrowths RX1 cX1_findInjectionGrowths 3 none wsX1_findInjectionGrowths 0 := ⟨⟨_, rfl⟩, rfl, by decide, by decide, by decide +kernel, by decide +kernel⟩
set_option maxRecDepth 20000 in
theorem fl_X1_findInjectionGrowths_9 : en_FL wsX1_findInjectionGrowths RX1 9 1 1 := ⟨_, _, _, rfl, by decide, by decide +kernel, Or.inl (by decide +kernel)⟩
set_option maxRecDepth 20000 in
theorem fl_X1_findInjectionGrowths_15 : en_FL wsX1_findInjectionGrowths RX1 15 1 2 := ⟨_, _, _, rfl, by decide, by decide +kernel, Or.inl (by decide +kernel)⟩
set_option maxRecDepth 20000 in
theorem fl_X1_findInjectionGrowths_19 : en_FL wsX1_findInjectionGrowths RX1 19 1 3 := ⟨_, _, _, rfl, by decide, by decide +kernel, Or.inl (by decide +kernel)⟩
set_option maxRecDepth 20000 in
theorem fl_X1_findInjectionGrowths_34 : en_FL wsX1_findInjectionGrowths RX1 34 1 7 := ⟨_, _, _, rfl, by decide, by decide +kernel, Or.inl (by decide +kernel)⟩
set_option maxRecDepth 20000 in
theorem fl_X1_findInjectionGrowths_37 : en_FL wsX1_findInjectionGrowths RX1 37 1 8 := ⟨_, _, _, rfl, by decide, by decide +kernel, Or.inl (by decide +kernel)⟩
/-- columns below b as they shall be, column b by g, the others as before -/
def gs_col (m : en_M) (ig : Int → Int → Int) (b : Int) (g : Int → Int) : Int → Int → Int := fun p c => if c < b then ig p c else if c = b then g p else m (16 + p) c
theorem gs_col_set {m : en_M} {ig : Int → Int → Int} {b i x : Int} {g : Int → Int} : gs_up2 (gs_col m ig b g) i b x = gs_col m ig b (gs_up g i x) := by
  funext p c
  unfold gs_up2 gs_col gs_up
  by_cases c1 : c = b
  · subst c1
    by_cases c2 : p = i
    · rw [if_pos ⟨c2, rfl⟩, if_neg (by omega), if_pos rfl, if_pos c2]
    · rw [if_neg (fun q => c2 q.1), if_neg (by omega), if_pos rfl, if_neg (by omega), if_pos rfl, if_neg c2]
  · rw [if_neg (fun q => c1 q.2)]
    by_cases c2 : c < b
    · rw [if_pos c2, if_pos c2]
    · rw [if_neg c2, if_neg c1, if_neg c2, if_neg c1]
set_option maxRecDepth 100000 in
set_option maxHeartbeats 4000000 in
theorem lp_X1_findInjectionGrowths_A {κ : en_C} {m : en_M} {ig : Int → Int → Int} {b : Int} {o : Option en_V} (hP : en_Has (en_w κ) 0 21) (h : en_Ok κ RX1 cX1_findInjectionGrowths 3 wsX1_findInjectionGrowths rm_X1_findInjectionGrowths) (hb : 0 ≤ b ∧ b < 5) (K : ∀ i : Int, en_G κ 29 [some (en_R 0), some (en_I b), some (en_I i)] [] (en_rw m 16 5 5 (gs_col m ig b (fun _ => 0))) 0 0) : ∀ (f i : Nat), f + i = 5 → en_G κ 9 [some (en_R 0), some (en_I b), some (en_I (i : Int))] [] (en_rw m 16 5 5 (gs_col m ig b (fun p => if p < i then 0 else m (16 + p) b))) 0 0 := by
  have hI : ∀ k, 0 ≤ k → k < 21 → en_in κ k := hP
  intro f
  induction f with
  | zero =>
    intro i hi
    refine en_iload_n (i := 2) h dX1_findInjectionGrowths_9 rfl rfl ?_
    refine en_iconst h dX1_findInjectionGrowths_10 ?_
    refine en_icmp_ge (tgt := 29) h dX1_findInjectionGrowths_11 (by decide) (by omega) (by omega) (fun c_11 => ?_) (fun c_11 => ?_)
    · rw [en_rw_cong (g := gs_col m ig b (fun _ => 0))]
      · exact K _
      · intro p c p0 p1 q0 q1
        unfold gs_col
        dsimp only
        rw [if_pos (show p < (i : Int) by omega)]
    · exact absurd c_11 (by omega)
  | succ f ih =>
    intro i hi
    refine en_iload_n (i := 2) h dX1_findInjectionGrowths_9 rfl rfl ?_
    refine en_iconst h dX1_findInjectionGrowths_10 ?_
    refine en_icmp_ge (tgt := 29) h dX1_findInjectionGrowths_11 (by decide) (by omega) (by omega) (fun c_11 => ?_) (fun c_11 => ?_)
    · exact absurd c_11 (by omega)
    · refine en_aload_n (i := 0) h dX1_findInjectionGrowths_14 rfl rfl ?_
      refine en_getR h dX1_findInjectionGrowths_15 fl_X1_findInjectionGrowths_37 (hI _ (by omega) (by omega)) rfl rfl ?_
      refine en_iload_n (i := 2) h dX1_findInjectionGrowths_18 rfl rfl ?_
      refine en_aaloadS3 h dX1_findInjectionGrowths_19 (hI _ (by omega) (by omega)) rfl (by decide) (by omega) ?_
      refine en_iload_n (i := 1) h dX1_findInjectionGrowths_20 rfl rfl ?_
      refine en_iconst h dX1_findInjectionGrowths_21 ?_
      refine en_iastore h dX1_findInjectionGrowths_22 (hI _ (by omega) (by omega)) (ly_row16 (by omega) (by omega)) (by omega) ?_
      refine en_iinc h dX1_findInjectionGrowths_23 rfl (by decide) ?_
      refine en_goto (tgt := 9) h dX1_findInjectionGrowths_26 (by decide) ?_
      rw [en_rw_set (by omega) (by omega) (by omega) (by omega), gs_col_set]
      have e : gs_up (fun p => if p < (i : Int) then 0 else m (16 + p) b) i 0 = (fun p => if p < ((i + 1 : Nat) : Int) then 0 else m (16 + p) b) := by
        funext p
        unfold gs_up
        by_cases c1 : p = (i : Int)
        · rw [if_pos c1, if_pos (by omega)]
        · rw [if_neg c1]
          dsimp only
          by_cases c2 : p < (i : Int)
          · rw [if_pos c2, if_pos (show p < ((i + 1 : Nat) : Int) by omega)]
          · rw [if_neg c2, if_neg (show ¬ p < ((i + 1 : Nat) : Int) by omega)]
      rw [e]
      exact ih (i + 1) (by omega)
set_option maxRecDepth 100000 in
set_option maxHeartbeats 4000000 in
theorem lp_X1_findInjectionGrowths_B {κ : en_C} {m : en_M} {ig : Int → Int → Int} {b : Int} (hP : en_Has (en_w κ) 0 21) (h : en_Ok κ RX1 cX1_findInjectionGrowths 3 wsX1_findInjectionGrowths rm_X1_findInjectionGrowths) (hb : 0 ≤ b ∧ b < 5) (hn : 0 ≤ m 0 1 ∧ m 0 1 ≤ 8) (hr : ∀ j, 0 ≤ j → j < m 0 1 → 0 ≤ m 1 j ∧ m 1 j < 5 ∧ 0 ≤ m 2 j ∧ m 2 j < 5) (K : ∀ i : Int, en_G κ 93 [some (en_R 0), some (en_I b), some (en_I i)] [] (en_rw m 16 5 5 (gs_col m ig b (fun p => gs_ig (m 1) (m 2) (fun l c => m (8 + l) c) (m 0 1).toNat p b))) 0 0) : ∀ (f i : Nat), (f : Int) + i = m 0 1 → en_G κ 31 [some (en_R 0), some (en_I b), some (en_I (i : Int))] [] (en_rw m 16 5 5 (gs_col m ig b (fun p => gs_ig (m 1) (m 2) (fun l c => m (8 + l) c) i p b))) 0 0 := by
  have hI : ∀ k, 0 ≤ k → k < 21 → en_in κ k := hP
  intro f
  induction f with
  | zero =>
    intro i hi
    refine en_iload_n (i := 2) h dX1_findInjectionGrowths_31 rfl rfl ?_
    refine en_aload_n (i := 0) h dX1_findInjectionGrowths_32 rfl rfl ?_
    refine en_getI (i := 1) h dX1_findInjectionGrowths_33 fl_X1_findInjectionGrowths_9 (hI _ (by omega) (by omega)) rfl rfl rfl (v9 := m 0 1) (by rw [en_rw_ne (by omega)]) ?_
    refine en_icmp_ge (tgt := 93) h dX1_findInjectionGrowths_36 (by decide) (by omega) (by omega) (fun c_36 => ?_) (fun c_36 => ?_)
    · rw [show i = (m 0 1).toNat by omega]
      exact K _
    · exact absurd c_36 (by omega)
  | succ f ih =>
    intro i hi
    have r := hr i (by omega) (by omega)
    refine en_iload_n (i := 2) h dX1_findInjectionGrowths_31 rfl rfl ?_
    refine en_aload_n (i := 0) h dX1_findInjectionGrowths_32 rfl rfl ?_
    refine en_getI (i := 1) h dX1_findInjectionGrowths_33 fl_X1_findInjectionGrowths_9 (hI _ (by omega) (by omega)) rfl rfl rfl (v9 := m 0 1) (by rw [en_rw_ne (by omega)]) ?_
    refine en_icmp_ge (tgt := 93) h dX1_findInjectionGrowths_36 (by decide) (by omega) (by omega) (fun c_36 => ?_) (fun c_36 => ?_)
    · exact absurd c_36 (by omega)
    · refine en_aload_n (i := 0) h dX1_findInjectionGrowths_39 rfl rfl ?_
      refine en_getR h dX1_findInjectionGrowths_40 fl_X1_findInjectionGrowths_37 (hI _ (by omega) (by omega)) rfl rfl ?_
      refine en_aload_n (i := 0) h dX1_findInjectionGrowths_43 rfl rfl ?_
      refine en_getR h dX1_findInjectionGrowths_44 fl_X1_findInjectionGrowths_15 (hI _ (by omega) (by omega)) rfl rfl ?_
      refine en_iload_n (i := 2) h dX1_findInjectionGrowths_47 rfl rfl ?_
      refine en_iaload h dX1_findInjectionGrowths_48 (hI _ (by omega) (by omega)) rfl (by omega) (v9 := m 1 i) (by rw [en_rw_ne (by omega)]) ?_
      refine en_aaloadS3 h dX1_findInjectionGrowths_49 (hI _ (by omega) (by omega)) rfl (by decide) (by omega) ?_
      refine en_iload_n (i := 1) h dX1_findInjectionGrowths_50 rfl rfl ?_
      refine en_dup2 h dX1_findInjectionGrowths_51 ?_
      refine en_iaload h dX1_findInjectionGrowths_52 (hI _ (by omega) (by omega)) (ly_row16 (by omega) (by omega)) (by omega) (v9 := gs_ig (m 1) (m 2) (fun l c => m (8 + l) c) i (m 1 i) b) (by rw [en_rw_at (by omega) (by omega) (by omega) (by omega)]; unfold gs_col; rw [if_neg (by omega), if_pos rfl]) ?_
      refine en_aload_n (i := 0) h dX1_findInjectionGrowths_53 rfl rfl ?_
      refine en_getR h dX1_findInjectionGrowths_54 fl_X1_findInjectionGrowths_34 (hI _ (by omega) (by omega)) rfl rfl ?_
      refine en_iload_n (i := 2) h dX1_findInjectionGrowths_57 rfl rfl ?_
      refine en_aaloadS3 h dX1_findInjectionGrowths_58 (hI _ (by omega) (by omega)) rfl (by decide) (by omega) ?_
      refine en_iload_n (i := 1) h dX1_findInjectionGrowths_59 rfl rfl ?_
      refine en_iaload h dX1_findInjectionGrowths_60 (hI _ (by omega) (by omega)) (ly_row8 (by omega) (by omega)) (by omega) (v9 := m (8 + i) b) (by rw [en_rw_ne (by omega)]) ?_
      refine en_iadd h dX1_findInjectionGrowths_61 ?_
      refine en_iastore h dX1_findInjectionGrowths_62 (hI _ (by omega) (by omega)) (ly_row16 (by omega) (by omega)) (by omega) ?_
      rw [en_rw_set (by omega) (by omega) (by omega) (by omega), gs_col_set]
      refine en_aload_n (i := 0) h dX1_findInjectionGrowths_63 rfl rfl ?_
      refine en_getR h dX1_findInjectionGrowths_64 fl_X1_findInjectionGrowths_37 (hI _ (by omega) (by omega)) rfl rfl ?_
      refine en_aload_n (i := 0) h dX1_findInjectionGrowths_67 rfl rfl ?_
      refine en_getR h dX1_findInjectionGrowths_68 fl_X1_findInjectionGrowths_19 (hI _ (by omega) (by omega)) rfl rfl ?_
      refine en_iload_n (i := 2) h dX1_findInjectionGrowths_71 rfl rfl ?_
      refine en_iaload h dX1_findInjectionGrowths_72 (hI _ (by omega) (by omega)) rfl (by omega) (v9 := m 2 i) (by rw [en_rw_ne (by omega)]) ?_
      refine en_aaloadS3 h dX1_findInjectionGrowths_73 (hI _ (by omega) (by omega)) rfl (by decide) (by omega) ?_
      refine en_iload_n (i := 1) h dX1_findInjectionGrowths_74 rfl rfl ?_
      refine en_dup2 h dX1_findInjectionGrowths_75 ?_
      refine en_iaload h dX1_findInjectionGrowths_76 (hI _ (by omega) (by omega)) (ly_row16 (by omega) (by omega)) (by omega) rfl ?_
      refine en_aload_n (i := 0) h dX1_findInjectionGrowths_77 rfl rfl ?_
      refine en_getR h dX1_findInjectionGrowths_78 fl_X1_findInjectionGrowths_34 (hI _ (by omega) (by omega)) rfl rfl ?_
      refine en_iload_n (i := 2) h dX1_findInjectionGrowths_81 rfl rfl ?_
      refine en_aaloadS3 h dX1_findInjectionGrowths_82 (hI _ (by omega) (by omega)) rfl (by decide) (by omega) ?_
      refine en_iload_n (i := 1) h dX1_findInjectionGrowths_83 rfl rfl ?_
      refine en_iaload h dX1_findInjectionGrowths_84 (hI _ (by omega) (by omega)) (ly_row8 (by omega) (by omega)) (by omega) (v9 := m (8 + i) b) (by rw [en_rw_ne (by omega)]) ?_
      refine en_isub h dX1_findInjectionGrowths_85 ?_
      refine en_iastore h dX1_findInjectionGrowths_86 (hI _ (by omega) (by omega)) (ly_row16 (by omega) (by omega)) (by omega) ?_
      refine en_iinc h dX1_findInjectionGrowths_87 rfl (by decide) ?_
      refine en_goto (tgt := 31) h dX1_findInjectionGrowths_90 (by decide) ?_
      rw [en_rw_set (by omega) (by omega) (by omega) (by omega), gs_col_set, en_rw_at (by omega) (by omega) (by omega) (by omega)]
      have e : gs_up (gs_up (fun p => gs_ig (m 1) (m 2) (fun l c => m (8 + l) c) i p b) (m 1 i) (gs_ig (m 1) (m 2) (fun l c => m (8 + l) c) i (m 1 i) b + m (8 + i) b)) (m 2 i) (gs_col m ig b (gs_up (fun p => gs_ig (m 1) (m 2) (fun l c => m (8 + l) c) i p b) (m 1 i) (gs_ig (m 1) (m 2) (fun l c => m (8 + l) c) i (m 1 i) b + m (8 + i) b)) (m 2 i) b - m (8 + i) b) = (fun p => gs_ig (m 1) (m 2) (fun l c => m (8 + l) c) (i + 1) p b) := by
        funext p
        unfold gs_col
        rw [if_neg (by omega), if_pos rfl]
        unfold gs_up
        simp only [gs_ig]
        by_cases c1 : p = m 2 i
        · rw [if_pos c1, if_pos c1]
          by_cases c2 : m 2 i = m 1 i
          · rw [if_pos c2, if_pos (c1.trans c2), c1, c2]
          · rw [if_neg c2, if_neg (by omega), c1]; omega
        · rw [if_neg c1, if_neg c1]
          by_cases c2 : p = m 1 i
          · rw [if_pos c2, if_pos c2, c2]; omega
          · rw [if_neg c2, if_neg c2]; omega
      rw [e]
      exact ih (i + 1) (by omega)
set_option maxRecDepth 100000 in
set_option maxHeartbeats 4000000 in
theorem lp_X1_findInjectionGrowths_C {κ : en_C} {m : en_M} (hP : en_Has (en_w κ) 0 21) (h : en_Ok κ RX1 cX1_findInjectionGrowths 3 wsX1_findInjectionGrowths rm_X1_findInjectionGrowths) (hf : en_fin κ rm_X1_findInjectionGrowths none (fun r m' => r = none ∧ m' = en_rw m 16 5 5 (gs_ig (m 1) (m 2) (fun l c => m (8 + l) c) (m 0 1).toNat))) (hn : 0 ≤ m 0 1 ∧ m 0 1 ≤ 8) (hr : ∀ j, 0 ≤ j → j < m 0 1 → 0 ≤ m 1 j ∧ m 1 j < 5 ∧ 0 ≤ m 2 j ∧ m 2 j < 5) : ∀ (f i : Nat), f + i = 5 → ∀ o, en_G κ 2 [some (en_R 0), some (en_I (i : Int)), o] [] (en_rw m 16 5 5 (gs_col m (gs_ig (m 1) (m 2) (fun l c => m (8 + l) c) (m 0 1).toNat) i (fun p => m (16 + p) i))) 0 0 := by
  have hI : ∀ k, 0 ≤ k → k < 21 → en_in κ k := hP
  intro f
  induction f with
  | zero =>
    intro i hi o
    refine en_iload_n (i := 1) h dX1_findInjectionGrowths_2 rfl rfl ?_
    refine en_iconst h dX1_findInjectionGrowths_3 ?_
    refine en_icmp_ge (tgt := 99) h dX1_findInjectionGrowths_4 (by decide) (by omega) (by omega) (fun c_4 => ?_) (fun c_4 => ?_)
    · exact en_vret h hf dX1_findInjectionGrowths_99 ⟨by decide, by decide⟩ ⟨rfl, en_rw_cong (fun p c p0 p1 q0 q1 => by unfold gs_col; rw [if_pos (by omega)])⟩
    · exact absurd c_4 (by omega)
  | succ f ih =>
    intro i hi o
    refine en_iload_n (i := 1) h dX1_findInjectionGrowths_2 rfl rfl ?_
    refine en_iconst h dX1_findInjectionGrowths_3 ?_
    refine en_icmp_ge (tgt := 99) h dX1_findInjectionGrowths_4 (by decide) (by omega) (by omega) (fun c_4 => ?_) (fun c_4 => ?_)
    · exact absurd c_4 (by omega)
    · refine en_iconst h dX1_findInjectionGrowths_7 ?_
      refine en_istore_n (i := 2) h dX1_findInjectionGrowths_8 rfl (by decide) ?_
      have e0 : (fun p : Int => m (16 + p) (i : Int)) = (fun p : Int => if p < ((0 : Nat) : Int) then 0 else m (16 + p) (i : Int)) ∨ True := Or.inr trivial
      rw [en_rw_cong (g := gs_col m (gs_ig (m 1) (m 2) (fun l c => m (8 + l) c) (m 0 1).toNat) i (fun p => if p < ((0 : Nat) : Int) then 0 else m (16 + p) i)) (fun p c p0 p1 q0 q1 => by unfold gs_col; dsimp only; rw [if_neg (show ¬ p < ((0 : Nat) : Int) by omega)])]
      refine lp_X1_findInjectionGrowths_A (o := none) hP h ⟨by omega, by omega⟩ ?_ 5 0 rfl
      intro i2
      refine en_iconst h dX1_findInjectionGrowths_29 ?_
      refine en_istore_n (i := 2) h dX1_findInjectionGrowths_30 rfl (by decide) ?_
      refine lp_X1_findInjectionGrowths_B hP h ⟨by omega, by omega⟩ hn hr ?_ (m 0 1).toNat 0 (by omega)
      intro i3
      refine en_iinc h dX1_findInjectionGrowths_93 rfl (by decide) ?_
      refine en_goto (tgt := 2) h dX1_findInjectionGrowths_96 (by decide) ?_
      rw [en_rw_cong (g := gs_col m (gs_ig (m 1) (m 2) (fun l c => m (8 + l) c) (m 0 1).toNat) ((i + 1 : Nat) : Int) (fun p => m (16 + p) ((i + 1 : Nat) : Int)))]
      · exact ih (i + 1) (by omega) _
      · intro p c p0 p1 q0 q1
        unfold gs_col
        by_cases c1 : c < (i : Int)
        · rw [if_pos c1, if_pos (by omega)]
        · rw [if_neg c1]
          by_cases c2 : c = (i : Int)
          · rw [if_pos c2, if_pos (by omega), c2]
          · rw [if_neg c2, if_neg (by omega)]
            by_cases c3 : c = ((i + 1 : Nat) : Int)
            · rw [if_pos c3, c3]
            · rw [if_neg c3]
set_option maxRecDepth 100000 in
set_option maxHeartbeats 4000000 in
theorem k_X1_findInjectionGrowths {l : Launch} {w : en_W} {m : en_M} (hw : en_Wok w) (hp : en_Has w 0 21) (hn : 0 ≤ m 0 1 ∧ m 0 1 ≤ 8) (hr : ∀ j, 0 ≤ j → j < m 0 1 → 0 ≤ m 1 j ∧ m 1 j < 5 ∧ 0 ≤ m 2 j ∧ m 2 j < 5) : en_Met l w yX1_findInjectionGrowths wsX1_findInjectionGrowths rm_X1_findInjectionGrowths [en_R 0] m (fun r m' => r = none ∧ m' = en_rw m 16 5 5 (gs_ig (m 1) (m 2) (fun l c => m (8 + l) c) (m 0 1).toNat)) := by
  refine en_met my_X1_findInjectionGrowths hw (Nat.le_of_ble_eq_true rfl) ?_
  intro κ hl9 hw9 h hf
  subst hw9
  subst hl9
  have hI : ∀ k, 0 ≤ k → k < 21 → en_in κ k := hp
  refine en_iconst h dX1_findInjectionGrowths_0 ?_
  refine en_istore_n (i := 1) h dX1_findInjectionGrowths_1 rfl (by decide) ?_
  have q := lp_X1_findInjectionGrowths_C hp h hf hn hr 5 0 rfl none
  have e : en_rw m 16 5 5 (gs_col m (gs_ig (m 1) (m 2) (fun l c => m (8 + l) c) (m 0 1).toNat) ((0 : Nat) : Int) (fun p => m (16 + p) ((0 : Nat) : Int))) = m := by
    apply en_rw_id
    intro p c p0 p1 q0 q1
    unfold gs_col
    dsimp only
    rw [if_neg (show ¬ c < ((0 : Nat) : Int) by omega)]
    by_cases c2 : c = ((0 : Nat) : Int)
    · rw [if_pos c2, c2]
    · rw [if_neg c2]
  rw [e] at q
  exact q
abbrev rm_X1_followLines : Room := { frames := 3, cells := 0, slots := 0, locals := 68 }
theorem my_X1_followLines : en_MY yX1_followLines RX1 cX1_followLines 1 none wsX1_followLines 0 := ⟨⟨_, rfl⟩, rfl, by decide, by decide, by decide +kernel, by decide +kernel⟩
/-- what the lines give, laid over the rows of references and growths -/
def xm_fl (m : en_M) : en_M := en_rw (en_rw (en_ar m 5 5 (gs_it (m 0 1).toNat (m 1) (m 2) (m 4) 4)) 8 (m 0 1) 5 (gs_fg (m 1) (m 2) (m 3) (m 4))) 16 5 5 (gs_ig (m 1) (m 2) (gs_fg (m 1) (m 2) (m 3) (m 4)) (m 0 1).toNat)
theorem gs_ig_cong {fi se : Int → Int} {F G : Int → Int → Int} : ∀ (n : Nat), (∀ l c, 0 ≤ l → l < (n : Int) → 0 ≤ c → c < 5 → F l c = G l c) → ∀ p c, 0 ≤ c → c < 5 → gs_ig fi se F n p c = gs_ig fi se G n p c
  | 0, _, _, _, _, _ => rfl
  | n + 1, h, p, c, c0, c1 => by
    simp only [gs_ig]
    rw [gs_ig_cong n (fun l c l0 l1 => h l c l0 (by omega)) p c c0 c1, h (n : Int) c (by omega) (by omega) c0 c1]
set_option maxRecDepth 100000 in
set_option maxHeartbeats 4000000 in
theorem k_X1_followLines {l : Launch} {w : en_W} {m : en_M} (hw : en_Wok w) (hp : en_Has w 0 21) (hn : 0 ≤ m 0 1 ∧ m 0 1 ≤ 8) (hr : ∀ j, 0 ≤ j → j < m 0 1 → 0 ≤ m 1 j ∧ m 1 j < 5 ∧ 0 ≤ m 2 j ∧ m 2 j < 5 ∧ (m 4 j = 0 ∨ m 4 j = 1)) (hz : ∀ j b, 0 ≤ j → j < m 0 1 → 0 ≤ b → b < 5 → b ≠ m 1 j → b ≠ m 2 j → m (8 + j) b = 0) : en_Met l w yX1_followLines wsX1_followLines rm_X1_followLines [en_R 0] m (fun r m' => r = none ∧ m' = xm_fl m) := by
  refine en_met my_X1_followLines hw (Nat.le_of_ble_eq_true rfl) ?_
  intro κ hl9 hw9 h hf
  subst hw9
  subst hl9
  have hI : ∀ k, 0 ≤ k → k < 21 → en_in κ k := hp
  refine en_aload_n (i := 0) h dX1_followLines_0 rfl rfl ?_
  refine en_callV h (k_X1_findReferences hw hp hn hr) my_X1_findReferences gX1_followLines_X1_findReferences (hI _ (by omega) (by omega)) rfl rfl rfl rfl ⟨by decide, by decide⟩ ⟨by decide, by decide⟩ (Nat.le_of_ble_eq_true rfl) dX1_followLines_1 (fun r m' hp => ?_)
  obtain ⟨rfl, rfl⟩ := hp
  have a0 : ∀ k, k ≠ 5 → en_ar m 5 5 (gs_it (m 0 1).toNat (m 1) (m 2) (m 4) 4) k = m k := fun k hk => en_ar_ne hk
  refine en_aload_n (i := 0) h dX1_followLines_4 rfl rfl ?_
  refine en_callV h (k_X1_findFlowGrowths hw hI (by rw [a0 0 (by decide)]; exact hn) (by rw [a0 0 (by decide), a0 1 (by decide), a0 2 (by decide), a0 4 (by decide)]; exact hr) (by rw [a0 0 (by decide), a0 1 (by decide), a0 2 (by decide)]; intro j b j0 j1; rw [a0 (8 + j) (by omega)]; exact hz j b j0 j1)) my_X1_findFlowGrowths gX1_followLines_X1_findFlowGrowths (hI _ (by omega) (by omega)) rfl rfl rfl rfl ⟨by decide, by decide⟩ ⟨by decide, by decide⟩ (Nat.le_of_ble_eq_true rfl) dX1_followLines_5 (fun r m' hp => ?_)
  obtain ⟨rfl, rfl⟩ := hp
  rw [a0 0 (by decide), a0 1 (by decide), a0 2 (by decide), a0 3 (by decide), a0 4 (by decide)]
  have a1 : ∀ k, k < 8 → en_rw (en_ar m 5 5 (gs_it (m 0 1).toNat (m 1) (m 2) (m 4) 4)) 8 (m 0 1) 5 (gs_fg (m 1) (m 2) (m 3) (m 4)) k = en_ar m 5 5 (gs_it (m 0 1).toNat (m 1) (m 2) (m 4) 4) k := fun k hk => en_rw_ne (by omega)
  refine en_aload_n (i := 0) h dX1_followLines_8 rfl rfl ?_
  refine en_callV h (k_X1_findInjectionGrowths hw hI (by rw [a1 0 (by decide), a0 0 (by decide)]; exact hn) (by rw [a1 0 (by decide), a0 0 (by decide), a1 1 (by decide), a0 1 (by decide), a1 2 (by decide), a0 2 (by decide)]; exact fun j j0 j1 => ⟨(hr j j0 j1).1, (hr j j0 j1).2.1, (hr j j0 j1).2.2.1, (hr j j0 j1).2.2.2.1⟩)) my_X1_findInjectionGrowths gX1_followLines_X1_findInjectionGrowths (hI _ (by omega) (by omega)) rfl rfl rfl rfl ⟨by decide, by decide⟩ ⟨by decide, by decide⟩ (Nat.le_of_ble_eq_true rfl) dX1_followLines_9 (fun r m' hp => ?_)
  obtain ⟨rfl, rfl⟩ := hp
  rw [a1 0 (by decide), a0 0 (by decide), a1 1 (by decide), a0 1 (by decide), a1 2 (by decide), a0 2 (by decide)]
  exact en_vret h hf dX1_followLines_12 ⟨by decide, by decide⟩ ⟨rfl, en_rw_cong (fun p c p0 p1 q0 q1 => gs_ig_cong _ (fun l c l0 l1 c0 c1 => en_rw_at l0 (by omega) c0 c1) p c q0 q1)⟩
abbrev rm_X1_append : Room := { frames := 4, cells := 0, slots := 0, locals := 88 }
theorem my_X1_append : en_MY yX1_append RX1 cX1_append 5 (some .int) wsX1_append 3 := ⟨⟨_, rfl⟩, rfl, by decide, by decide, by decide +kernel, by decide +kernel⟩
set_option maxRecDepth 20000 in
theorem fl_X1_append_9 : en_FL wsX1_append RX1 9 1 1 := ⟨_, _, _, rfl, by decide, by decide +kernel, Or.inl (by decide +kernel)⟩
set_option maxRecDepth 20000 in
theorem fl_X1_append_15 : en_FL wsX1_append RX1 15 1 2 := ⟨_, _, _, rfl, by decide, by decide +kernel, Or.inl (by decide +kernel)⟩
set_option maxRecDepth 20000 in
theorem fl_X1_append_19 : en_FL wsX1_append RX1 19 1 3 := ⟨_, _, _, rfl, by decide, by decide +kernel, Or.inl (by decide +kernel)⟩
set_option maxRecDepth 20000 in
theorem fl_X1_append_22 : en_FL wsX1_append RX1 22 1 4 := ⟨_, _, _, rfl, by decide, by decide +kernel, Or.inl (by decide +kernel)⟩
set_option maxRecDepth 20000 in
theorem fl_X1_append_25 : en_FL wsX1_append RX1 25 1 5 := ⟨_, _, _, rfl, by decide, by decide +kernel, Or.inl (by decide +kernel)⟩
/-- a line more, its breaker closed -/
def xm_ap (m : en_M) (f s g : Int) : en_M := en_set (en_set (en_set (en_set (en_set m 1 (m 0 1) f) 2 (m 0 1) s) 3 (m 0 1) g) 4 (m 0 1) 1) 0 1 (m 0 1 + 1)
set_option maxRecDepth 100000 in
set_option maxHeartbeats 4000000 in
theorem k_X1_append {l : Launch} {w : en_W} {m : en_M} (hw : en_Wok w) (hp : en_Has w 0 21) {f s g : Int} (hn : 0 ≤ m 0 1 ∧ m 0 1 < 8) (hr : ∀ j, 0 ≤ j → j < m 0 1 → 0 ≤ m 1 j ∧ m 1 j < 5 ∧ 0 ≤ m 2 j ∧ m 2 j < 5 ∧ (m 4 j = 0 ∨ m 4 j = 1)) (hz : ∀ j b, 0 ≤ j → j < m 0 1 → 0 ≤ b → b < 5 → b ≠ m 1 j → b ≠ m 2 j → m (8 + j) b = 0) (hz2 : ∀ b, 0 ≤ b → b < 5 → m (8 + m 0 1) b = 0) (f0 : 0 ≤ f ∧ f < 5) (s0 : 0 ≤ s ∧ s < 5) : en_Met l w yX1_append wsX1_append rm_X1_append [en_R 0, en_I f, en_I s, en_I g] m (fun r m' => r = some (en_I (m 0 1)) ∧ m' = xm_fl (xm_ap m f s g)) := by
  refine en_met my_X1_append hw (Nat.le_of_ble_eq_true rfl) ?_
  intro κ hl9 hw9 h hf
  subst hw9
  subst hl9
  have hI : ∀ k, 0 ≤ k → k < 21 → en_in κ k := hp
  refine en_aload_n (i := 0) h dX1_append_0 rfl rfl ?_
  refine en_getI (i := 1) h dX1_append_1 fl_X1_append_9 (hI _ (by omega) (by omega)) rfl rfl rfl rfl ?_
  refine en_istore (i := 4) h dX1_append_4 (by decide) ?_
  refine en_aload_n (i := 0) h dX1_append_6 rfl rfl ?_
  refine en_getR h dX1_append_7 fl_X1_append_15 (hI _ (by omega) (by omega)) rfl rfl ?_
  refine en_iload (i := 4) h dX1_append_10 rfl ?_
  refine en_iload_n (i := 1) h dX1_append_12 rfl rfl ?_
  refine en_iastore h dX1_append_13 (hI _ (by omega) (by omega)) rfl (by omega) ?_
  refine en_aload_n (i := 0) h dX1_append_14 rfl rfl ?_
  refine en_getR h dX1_append_15 fl_X1_append_19 (hI _ (by omega) (by omega)) rfl rfl ?_
  refine en_iload (i := 4) h dX1_append_18 rfl ?_
  refine en_iload_n (i := 2) h dX1_append_20 rfl rfl ?_
  refine en_iastore h dX1_append_21 (hI _ (by omega) (by omega)) rfl (by omega) ?_
  refine en_aload_n (i := 0) h dX1_append_22 rfl rfl ?_
  refine en_getR h dX1_append_23 fl_X1_append_22 (hI _ (by omega) (by omega)) rfl rfl ?_
  refine en_iload (i := 4) h dX1_append_26 rfl ?_
  refine en_iload_n (i := 3) h dX1_append_28 rfl rfl ?_
  refine en_iastore h dX1_append_29 (hI _ (by omega) (by omega)) rfl (by omega) ?_
  refine en_aload_n (i := 0) h dX1_append_30 rfl rfl ?_
  refine en_getR h dX1_append_31 fl_X1_append_25 (hI _ (by omega) (by omega)) rfl rfl ?_
  refine en_iload (i := 4) h dX1_append_34 rfl ?_
  refine en_iconst h dX1_append_36 ?_
  refine en_zastore h dX1_append_37 (hI _ (by omega) (by omega)) rfl (by omega) (by omega) ?_
  refine en_aload_n (i := 0) h dX1_append_38 rfl rfl ?_
  refine en_dupa h dX1_append_39 ?_
  refine en_getI (i := 1) h dX1_append_40 fl_X1_append_9 (hI _ (by omega) (by omega)) rfl rfl rfl (v9 := m 0 1) (by rw [en_set_ne (by decide), en_set_ne (by decide), en_set_ne (by decide), en_set_ne (by decide)]) ?_
  refine en_iconst h dX1_append_43 ?_
  refine en_iadd h dX1_append_44 ?_
  refine en_putI (i := 1) h dX1_append_45 fl_X1_append_9 fp_1_1 (hI _ (by omega) (by omega)) rfl rfl rfl ?_
  refine en_aload_n (i := 0) h dX1_append_48 rfl rfl ?_
  change en_G κ 49 _ _ (xm_ap m f s g) 0 0
  have b0 : xm_ap m f s g 0 1 = m 0 1 + 1 := by simp [xm_ap, en_set]
  have b1 : ∀ j, xm_ap m f s g 1 j = if j = m 0 1 then f else m 1 j := fun j => by simp [xm_ap, en_set]
  have b2 : ∀ j, xm_ap m f s g 2 j = if j = m 0 1 then s else m 2 j := fun j => by simp [xm_ap, en_set]
  have b4 : ∀ j, xm_ap m f s g 4 j = if j = m 0 1 then 1 else m 4 j := fun j => by simp [xm_ap, en_set]
  have b8 : ∀ j b, 0 ≤ j → xm_ap m f s g (8 + j) b = m (8 + j) b := fun j b j0 => by
    unfold xm_ap
    rw [en_set_ne (by omega), en_set_ne (by omega), en_set_ne (by omega), en_set_ne (by omega), en_set_ne (by omega)]
  generalize hM : xm_ap m f s g = M at b0 b1 b2 b4 b8 ⊢
  refine en_callV h (k_X1_followLines hw hI (by omega) (fun j j0 j1 => by rw [b1, b2, b4]; by_cases e : j = m 0 1; (· rw [if_pos e, if_pos e, if_pos e]; omega); (· rw [if_neg e, if_neg e, if_neg e]; exact hr j j0 (by omega))) (fun j b j0 j1 c0 c1 e1 e2 => by rw [b8 j b j0]; by_cases e : j = m 0 1; (· rw [e]; exact hz2 b c0 c1); (· rw [b1, if_neg e] at e1; rw [b2, if_neg e] at e2; exact hz j b j0 (by omega) c0 c1 e1 e2))) my_X1_followLines gX1_append_X1_followLines (hI _ (by omega) (by omega)) rfl rfl rfl rfl ⟨by decide, by decide⟩ ⟨by decide, by decide⟩ (Nat.le_of_ble_eq_true rfl) dX1_append_49 (fun r m' hp => ?_)
  obtain ⟨rfl, rfl⟩ := hp
  refine en_iload (i := 4) h dX1_append_52 rfl ?_
  exact en_iret h hf dX1_append_54 ⟨by decide, by decide⟩ ⟨rfl, by rw [hM]⟩
abbrev rm_X1_switchTo : Room := { frames := 4, cells := 0, slots := 0, locals := 88 }
theorem my_X1_switchTo : en_MY yX1_switchTo RX1 cX1_switchTo 4 (some .boolean) wsX1_switchTo 2 := ⟨⟨_, rfl⟩, rfl, by decide, by decide, by decide +kernel, by decide +kernel⟩
set_option maxRecDepth 20000 in
theorem fl_X1_switchTo_25 : en_FL wsX1_switchTo RX1 25 1 5 := ⟨_, _, _, rfl, by decide, by decide +kernel, Or.inl (by decide +kernel)⟩
def xm_sw (m : en_M) (j c : Int) : en_M := en_set m 4 j c
set_option maxRecDepth 100000 in
set_option maxHeartbeats 4000000 in
theorem k_X1_switchTo {l : Launch} {w : en_W} {m : en_M} (hw : en_Wok w) (hp : en_Has w 0 21) {i c : Int} (hn : 0 ≤ m 0 1 ∧ m 0 1 ≤ 8) (hr : ∀ j, 0 ≤ j → j < m 0 1 → 0 ≤ m 1 j ∧ m 1 j < 5 ∧ 0 ≤ m 2 j ∧ m 2 j < 5 ∧ (m 4 j = 0 ∨ m 4 j = 1)) (hz : ∀ j b, 0 ≤ j → j < m 0 1 → 0 ≤ b → b < 5 → b ≠ m 1 j → b ≠ m 2 j → m (8 + j) b = 0) (i0 : 0 ≤ i ∧ i < m 0 1) (c0 : c = 0 ∨ c = 1) : en_Met l w yX1_switchTo wsX1_switchTo rm_X1_switchTo [en_R 0, en_I i, en_I c] m (fun r m' => r = some (en_I (m 4 i)) ∧ m' = xm_fl (xm_sw m i c)) := by
  refine en_met my_X1_switchTo hw (Nat.le_of_ble_eq_true rfl) ?_
  intro κ hl9 hw9 h hf
  subst hw9
  subst hl9
  have hI : ∀ k, 0 ≤ k → k < 21 → en_in κ k := hp
  have r9 := hr i (by omega) (by omega)
  refine en_aload_n (i := 0) h dX1_switchTo_0 rfl rfl ?_
  refine en_getR h dX1_switchTo_1 fl_X1_switchTo_25 (hI _ (by omega) (by omega)) rfl rfl ?_
  refine en_iload_n (i := 1) h dX1_switchTo_4 rfl rfl ?_
  refine en_zaload h dX1_switchTo_5 (hI _ (by omega) (by omega)) rfl (by omega) rfl ?_
  refine en_istore_n (i := 3) h dX1_switchTo_6 rfl (by decide) ?_
  refine en_aload_n (i := 0) h dX1_switchTo_7 rfl rfl ?_
  refine en_getR h dX1_switchTo_8 fl_X1_switchTo_25 (hI _ (by omega) (by omega)) rfl rfl ?_
  refine en_iload_n (i := 1) h dX1_switchTo_11 rfl rfl ?_
  refine en_iload_n (i := 2) h dX1_switchTo_12 rfl rfl ?_
  refine en_zastore h dX1_switchTo_13 (hI _ (by omega) (by omega)) rfl (by omega) (by omega) ?_
  refine en_aload_n (i := 0) h dX1_switchTo_14 rfl rfl ?_
  change en_G κ 15 _ _ (xm_sw m i c) 0 0
  have b0 : ∀ k, k ≠ 4 → xm_sw m i c k = m k := fun k hk => by unfold xm_sw; rw [en_set_ne hk]
  have b4 : ∀ j, xm_sw m i c 4 j = if j = i then c else m 4 j := fun j => by simp [xm_sw, en_set]
  generalize hM : xm_sw m i c = M at b0 b4 ⊢
  refine en_callV h (k_X1_followLines hw hI (by rw [b0 0 (by decide)]; exact hn) (fun j j0 j1 => by rw [b0 0 (by decide)] at j1; rw [b0 1 (by decide), b0 2 (by decide), b4]; have q := hr j j0 j1; by_cases e : j = i; (· rw [if_pos e]; omega); (· rw [if_neg e]; exact q)) (fun j b j0 j1 c0 c1 e1 e2 => by rw [b0 0 (by decide)] at j1; rw [b0 1 (by decide)] at e1; rw [b0 2 (by decide)] at e2; rw [b0 (8 + j) (by omega)]; exact hz j b j0 j1 c0 c1 e1 e2)) my_X1_followLines gX1_switchTo_X1_followLines (hI _ (by omega) (by omega)) rfl rfl rfl rfl ⟨by decide, by decide⟩ ⟨by decide, by decide⟩ (Nat.le_of_ble_eq_true rfl) dX1_switchTo_15 (fun r m' hp => ?_)
  obtain ⟨rfl, rfl⟩ := hp
  refine en_iload_n (i := 3) h dX1_switchTo_18 rfl rfl ?_
  exact en_zret h hf dX1_switchTo_19 ⟨by decide, by decide⟩ (by omega) ⟨rfl, by rw [hM]⟩
