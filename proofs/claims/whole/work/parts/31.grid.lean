/-! GRID 2: what follows from the lines -/
abbrev rm_X1_hasLineBetween : Room := { frames := 1, cells := 0, slots := 0, locals := 0 }
theorem my_X1_hasLineBetween : en_MY yX1_hasLineBetween RX1 cX1_hasLineBetween 4 (some .boolean) wsX1_hasLineBetween 2 := ⟨⟨_, rfl⟩, rfl, by decide, by decide, by decide +kernel, by decide +kernel⟩
set_option maxRecDepth 20000 in
theorem fl_X1_hasLineBetween_9 : en_FL wsX1_hasLineBetween RX1 9 1 1 := ⟨_, _, _, rfl, by decide, by decide +kernel, by decide +kernel⟩
set_option maxRecDepth 20000 in
theorem fl_X1_hasLineBetween_15 : en_FL wsX1_hasLineBetween RX1 15 1 2 := ⟨_, _, _, rfl, by decide, by decide +kernel, by decide +kernel⟩
set_option maxRecDepth 20000 in
theorem fl_X1_hasLineBetween_19 : en_FL wsX1_hasLineBetween RX1 19 1 3 := ⟨_, _, _, rfl, by decide, by decide +kernel, by decide +kernel⟩
set_option maxRecDepth 100000 in
set_option maxHeartbeats 4000000 in
theorem lp_X1_hasLineBetween {κ : en_C} {m : en_M} {b o : Int} (hP : en_Has (en_w κ) 0 21) (h : en_Ok κ RX1 cX1_hasLineBetween 4 wsX1_hasLineBetween rm_X1_hasLineBetween) (hf : en_fin κ rm_X1_hasLineBetween (some .boolean) (fun r m' => r = some (en_I (if gs_hb (m 1) (m 2) b o (m 0 1).toNat = true then 1 else 0)) ∧ m' = m)) (hn : 0 ≤ m 0 1 ∧ m 0 1 ≤ 8) (hr : ∀ j, 0 ≤ j → j < m 0 1 → 0 ≤ m 1 j ∧ m 1 j < 5 ∧ 0 ≤ m 2 j ∧ m 2 j < 5) (rb : en_i32 b) (ro : en_i32 o) : ∀ (f i : Nat), (f : Int) + i = m 0 1 → gs_hb (m 1) (m 2) b o i = false → en_G κ 2 [some (en_R 0), some (en_I b), some (en_I o), some (en_I (i : Int))] [] m 0 0 := by
  have hI : ∀ k, 0 ≤ k → k < 21 → en_in κ k := hP
  intro f
  induction f with
  | zero =>
    intro i hi hb
    refine en_iload_n (i := 3) h dX1_hasLineBetween_2 rfl rfl ?_
    refine en_aload_n (i := 0) h dX1_hasLineBetween_3 rfl rfl ?_
    refine en_getI (i := 1) h dX1_hasLineBetween_4 fl_X1_hasLineBetween_9 (hI _ (by omega) (by omega)) rfl rfl rfl rfl ?_
    refine en_icmp_ge (tgt := 58) h dX1_hasLineBetween_7 (by decide) (by omega) (by omega) (fun c_7 => ?_) (fun c_7 => ?_)
    · refine en_iconst h dX1_hasLineBetween_58 ?_
      exact en_zret h hf dX1_hasLineBetween_59 ⟨by decide, by decide⟩ (by omega) ⟨by rw [show (m 0 1).toNat = i by omega, hb]; rfl, rfl⟩
    · exact absurd c_7 (by omega)
  | succ f ih =>
    intro i hi hb
    have r := hr i (by omega) (by omega)
    have e1 : ∀ q : Bool, gs_hb (m 1) (m 2) b o (i + 1) = q → q = true → gs_hb (m 1) (m 2) b o (m 0 1).toNat = true := fun q h1 h2 => by
      rw [show (m 0 1).toNat = (i + 1) + f by omega]
      exact gs_hb_mono (h1.trans h2) f
    refine en_iload_n (i := 3) h dX1_hasLineBetween_2 rfl rfl ?_
    refine en_aload_n (i := 0) h dX1_hasLineBetween_3 rfl rfl ?_
    refine en_getI (i := 1) h dX1_hasLineBetween_4 fl_X1_hasLineBetween_9 (hI _ (by omega) (by omega)) rfl rfl rfl rfl ?_
    refine en_icmp_ge (tgt := 58) h dX1_hasLineBetween_7 (by decide) (by omega) (by omega) (fun c_7 => ?_) (fun c_7 => ?_)
    · exact absurd c_7 (by omega)
    · refine en_aload_n (i := 0) h dX1_hasLineBetween_10 rfl rfl ?_
      refine en_getR h dX1_hasLineBetween_11 fl_X1_hasLineBetween_15 (hI _ (by omega) (by omega)) rfl rfl ?_
      refine en_iload_n (i := 3) h dX1_hasLineBetween_14 rfl rfl ?_
      refine en_iaload h dX1_hasLineBetween_15 (hI _ (by omega) (by omega)) rfl (by omega) rfl ?_
      refine en_iload_n (i := 1) h dX1_hasLineBetween_16 rfl rfl ?_
      refine en_icmp_ne (tgt := 30) h dX1_hasLineBetween_17 (by decide) (by omega) (by omega) (fun c_17 => ?_) (fun c_17 => ?_)
      · refine en_aload_n (i := 0) h dX1_hasLineBetween_30 rfl rfl ?_
        refine en_getR h dX1_hasLineBetween_31 fl_X1_hasLineBetween_15 (hI _ (by omega) (by omega)) rfl rfl ?_
        refine en_iload_n (i := 3) h dX1_hasLineBetween_34 rfl rfl ?_
        refine en_iaload h dX1_hasLineBetween_35 (hI _ (by omega) (by omega)) rfl (by omega) rfl ?_
        refine en_iload_n (i := 2) h dX1_hasLineBetween_36 rfl rfl ?_
        refine en_icmp_ne (tgt := 52) h dX1_hasLineBetween_37 (by decide) (by omega) (by omega) (fun c_37 => ?_) (fun c_37 => ?_)
        · refine en_iinc h dX1_hasLineBetween_52 rfl (by decide) ?_
          refine en_goto (tgt := 2) h dX1_hasLineBetween_55 (by decide) ?_
          exact ih (i + 1) (by omega) (by simp [gs_hb, hb, c_17, c_37])
        · refine en_aload_n (i := 0) h dX1_hasLineBetween_40 rfl rfl ?_
          refine en_getR h dX1_hasLineBetween_41 fl_X1_hasLineBetween_19 (hI _ (by omega) (by omega)) rfl rfl ?_
          refine en_iload_n (i := 3) h dX1_hasLineBetween_44 rfl rfl ?_
          refine en_iaload h dX1_hasLineBetween_45 (hI _ (by omega) (by omega)) rfl (by omega) rfl ?_
          refine en_iload_n (i := 1) h dX1_hasLineBetween_46 rfl rfl ?_
          refine en_icmp_ne (tgt := 52) h dX1_hasLineBetween_47 (by decide) (by omega) (by omega) (fun c_47 => ?_) (fun c_47 => ?_)
          · refine en_iinc h dX1_hasLineBetween_52 rfl (by decide) ?_
            refine en_goto (tgt := 2) h dX1_hasLineBetween_55 (by decide) ?_
            exact ih (i + 1) (by omega) (by simp [gs_hb, hb, c_17, c_37, c_47])
          · refine en_iconst h dX1_hasLineBetween_50 ?_
            exact en_zret h hf dX1_hasLineBetween_51 ⟨by decide, by decide⟩ (by omega) ⟨by rw [e1 true (by simp [gs_hb, c_37, c_47]) rfl]; rfl, rfl⟩
      · refine en_aload_n (i := 0) h dX1_hasLineBetween_20 rfl rfl ?_
        refine en_getR h dX1_hasLineBetween_21 fl_X1_hasLineBetween_19 (hI _ (by omega) (by omega)) rfl rfl ?_
        refine en_iload_n (i := 3) h dX1_hasLineBetween_24 rfl rfl ?_
        refine en_iaload h dX1_hasLineBetween_25 (hI _ (by omega) (by omega)) rfl (by omega) rfl ?_
        refine en_iload_n (i := 2) h dX1_hasLineBetween_26 rfl rfl ?_
        refine en_icmp_eq (tgt := 50) h dX1_hasLineBetween_27 (by decide) (by omega) (by omega) (fun c_27 => ?_) (fun c_27 => ?_)
        · refine en_iconst h dX1_hasLineBetween_50 ?_
          exact en_zret h hf dX1_hasLineBetween_51 ⟨by decide, by decide⟩ (by omega) ⟨by rw [e1 true (by simp [gs_hb, c_17, c_27]) rfl]; rfl, rfl⟩
        · refine en_aload_n (i := 0) h dX1_hasLineBetween_30 rfl rfl ?_
          refine en_getR h dX1_hasLineBetween_31 fl_X1_hasLineBetween_15 (hI _ (by omega) (by omega)) rfl rfl ?_
          refine en_iload_n (i := 3) h dX1_hasLineBetween_34 rfl rfl ?_
          refine en_iaload h dX1_hasLineBetween_35 (hI _ (by omega) (by omega)) rfl (by omega) rfl ?_
          refine en_iload_n (i := 2) h dX1_hasLineBetween_36 rfl rfl ?_
          refine en_icmp_ne (tgt := 52) h dX1_hasLineBetween_37 (by decide) (by omega) (by omega) (fun c_37 => ?_) (fun c_37 => ?_)
          · refine en_iinc h dX1_hasLineBetween_52 rfl (by decide) ?_
            refine en_goto (tgt := 2) h dX1_hasLineBetween_55 (by decide) ?_
            exact ih (i + 1) (by omega) (by simp [gs_hb, hb, c_17, c_27, c_37])
          · refine en_aload_n (i := 0) h dX1_hasLineBetween_40 rfl rfl ?_
            refine en_getR h dX1_hasLineBetween_41 fl_X1_hasLineBetween_19 (hI _ (by omega) (by omega)) rfl rfl ?_
            refine en_iload_n (i := 3) h dX1_hasLineBetween_44 rfl rfl ?_
            refine en_iaload h dX1_hasLineBetween_45 (hI _ (by omega) (by omega)) rfl (by omega) rfl ?_
            refine en_iload_n (i := 1) h dX1_hasLineBetween_46 rfl rfl ?_
            refine en_icmp_ne (tgt := 52) h dX1_hasLineBetween_47 (by decide) (by omega) (by omega) (fun c_47 => ?_) (fun c_47 => ?_)
            · refine en_iinc h dX1_hasLineBetween_52 rfl (by decide) ?_
              refine en_goto (tgt := 2) h dX1_hasLineBetween_55 (by decide) ?_
              exact ih (i + 1) (by omega) (by simp [gs_hb, hb, c_27, c_37, c_47])
            · refine en_iconst h dX1_hasLineBetween_50 ?_
              exact en_zret h hf dX1_hasLineBetween_51 ⟨by decide, by decide⟩ (by omega) ⟨by rw [e1 true (by simp [gs_hb, c_37, c_47]) rfl]; rfl, rfl⟩
set_option maxRecDepth 100000 in
set_option maxHeartbeats 4000000 in
theorem k_X1_hasLineBetween {l : Launch} {w : en_W} {m : en_M} (hw : en_Wok w) (hp : en_Has w 0 21) {b o : Int} (hn : 0 ≤ m 0 1 ∧ m 0 1 ≤ 8) (hr : ∀ j, 0 ≤ j → j < m 0 1 → 0 ≤ m 1 j ∧ m 1 j < 5 ∧ 0 ≤ m 2 j ∧ m 2 j < 5) (rb : en_i32 b) (ro : en_i32 o) : en_Met l w yX1_hasLineBetween wsX1_hasLineBetween rm_X1_hasLineBetween [en_R 0, en_I b, en_I o] m (fun r m' => r = some (en_I (if gs_hb (m 1) (m 2) b o (m 0 1).toNat = true then 1 else 0)) ∧ m' = m) := by
  refine en_met my_X1_hasLineBetween hw (Nat.le_of_ble_eq_true rfl) ?_
  intro κ hl9 hw9 h hf
  subst hw9
  subst hl9
  have hI : ∀ k, 0 ≤ k → k < 21 → en_in κ k := hp
  refine en_iconst h dX1_hasLineBetween_0 ?_
  refine en_istore_n (i := 3) h dX1_hasLineBetween_1 rfl (by decide) ?_
  exact lp_X1_hasLineBetween hp h hf hn hr rb ro (m 0 1).toNat 0 (by omega) rfl
abbrev rm_X1_shareReference : Room := { frames := 1, cells := 0, slots := 0, locals := 23 }
theorem my_X1_shareReference : en_MY yX1_shareReference RX1 cX1_shareReference 4 none wsX1_shareReference 2 := ⟨⟨_, rfl⟩, rfl, by decide, by decide, by decide +kernel, by decide +kernel⟩
set_option maxRecDepth 20000 in
theorem fl_X1_shareReference_29 : en_FL wsX1_shareReference RX1 29 1 6 := ⟨_, _, _, rfl, by decide, by decide +kernel, by decide +kernel⟩
theorem jj_X1_shareReference : en_J wsX1_shareReference RX1 59 Lib.Math.min.name Lib.Math.min.code 2 (some .int) := ⟨by decide +kernel, by decide +kernel, by decide +kernel, by decide +kernel⟩
set_option maxRecDepth 100000 in
set_option maxHeartbeats 4000000 in
theorem k_X1_shareReference {l : Launch} {w : en_W} {m : en_M} (hw : en_Wok w) (hp : en_Has w 0 21) {b o : Int} (h0 : 0 ≤ b) (h1 : b < 5) (h2 : 0 ≤ o) (h3 : o < 5) (r1 : en_i32 (m 5 b)) (r2 : en_i32 (m 5 o)) : en_Met l w yX1_shareReference wsX1_shareReference rm_X1_shareReference [en_R 0, en_I b, en_I o] m (fun r m' => r = none ∧ m' = en_set (en_set m 5 b (min (m 5 b) (m 5 o))) 5 o (min (m 5 b) (m 5 o))) := by
  refine en_met my_X1_shareReference hw (Nat.le_of_ble_eq_true rfl) ?_
  intro κ hl9 hw9 h hf
  subst hw9
  subst hl9
  have hI : ∀ k, 0 ≤ k → k < 21 → en_in κ k := hp
  refine en_aload_n (i := 0) h dX1_shareReference_0 rfl rfl ?_
  refine en_getR h dX1_shareReference_1 fl_X1_shareReference_29 (hI _ (by omega) (by omega)) rfl rfl ?_
  refine en_iload_n (i := 1) h dX1_shareReference_4 rfl rfl ?_
  refine en_iaload h dX1_shareReference_5 (hI _ (by omega) (by omega)) rfl (by omega) rfl ?_
  refine en_aload_n (i := 0) h dX1_shareReference_6 rfl rfl ?_
  refine en_getR h dX1_shareReference_7 fl_X1_shareReference_29 (hI _ (by omega) (by omega)) rfl rfl ?_
  refine en_iload_n (i := 2) h dX1_shareReference_10 rfl rfl ?_
  refine en_iaload h dX1_shareReference_11 (hI _ (by omega) (by omega)) rfl (by omega) rfl ?_
  refine en_mmin h jj_X1_shareReference ⟨by decide, by decide⟩ (by decide) (by decide) dX1_shareReference_12 r1 r2 ?_
  refine en_istore_n (i := 3) h dX1_shareReference_15 rfl (by decide) ?_
  refine en_aload_n (i := 0) h dX1_shareReference_16 rfl rfl ?_
  refine en_getR h dX1_shareReference_17 fl_X1_shareReference_29 (hI _ (by omega) (by omega)) rfl rfl ?_
  refine en_iload_n (i := 1) h dX1_shareReference_20 rfl rfl ?_
  refine en_iload_n (i := 3) h dX1_shareReference_21 rfl rfl ?_
  refine en_iastore h dX1_shareReference_22 (hI _ (by omega) (by omega)) rfl (by omega) ?_
  refine en_aload_n (i := 0) h dX1_shareReference_23 rfl rfl ?_
  refine en_getR h dX1_shareReference_24 fl_X1_shareReference_29 (hI _ (by omega) (by omega)) rfl rfl ?_
  refine en_iload_n (i := 2) h dX1_shareReference_27 rfl rfl ?_
  refine en_iload_n (i := 3) h dX1_shareReference_28 rfl rfl ?_
  refine en_iastore h dX1_shareReference_29 (hI _ (by omega) (by omega)) rfl (by omega) ?_
  exact en_vret h hf dX1_shareReference_30 ⟨by decide, by decide⟩ ⟨rfl, rfl⟩
abbrev rm_X1_findReferences : Room := { frames := 2, cells := 0, slots := 0, locals := 46 }
theorem my_X1_findReferences : en_MY yX1_findReferences RX1 cX1_findReferences 3 none wsX1_findReferences 0 := ⟨⟨_, rfl⟩, rfl, by decide, by decide, by decide +kernel, by decide +kernel⟩
set_option maxRecDepth 20000 in
theorem fl_X1_findReferences_9 : en_FL wsX1_findReferences RX1 9 1 1 := ⟨_, _, _, rfl, by decide, by decide +kernel, by decide +kernel⟩
set_option maxRecDepth 20000 in
theorem fl_X1_findReferences_15 : en_FL wsX1_findReferences RX1 15 1 2 := ⟨_, _, _, rfl, by decide, by decide +kernel, by decide +kernel⟩
set_option maxRecDepth 20000 in
theorem fl_X1_findReferences_19 : en_FL wsX1_findReferences RX1 19 1 3 := ⟨_, _, _, rfl, by decide, by decide +kernel, by decide +kernel⟩
set_option maxRecDepth 20000 in
theorem fl_X1_findReferences_25 : en_FL wsX1_findReferences RX1 25 1 5 := ⟨_, _, _, rfl, by decide, by decide +kernel, by decide +kernel⟩
set_option maxRecDepth 20000 in
theorem fl_X1_findReferences_29 : en_FL wsX1_findReferences RX1 29 1 6 := ⟨_, _, _, rfl, by decide, by decide +kernel, by decide +kernel⟩
set_option maxRecDepth 100000 in
set_option maxHeartbeats 4000000 in
theorem lp_X1_findReferences_A {κ : en_C} {m : en_M} (hP : en_Has (en_w κ) 0 21) (h : en_Ok κ RX1 cX1_findReferences 3 wsX1_findReferences rm_X1_findReferences) (K : en_G κ 20 [some (en_R 0), some (en_I 5), none] [] (en_ar m 5 5 (fun b => b)) 0 0) : ∀ (f i : Nat), f + i = 5 → en_G κ 2 [some (en_R 0), some (en_I (i : Int)), none] [] (en_ar m 5 i (fun b => b)) 0 0 := by
  have hI : ∀ k, 0 ≤ k → k < 21 → en_in κ k := hP
  intro f
  induction f with
  | zero =>
    intro i hi
    refine en_iload_n (i := 1) h dX1_findReferences_2 rfl rfl ?_
    refine en_iconst h dX1_findReferences_3 ?_
    refine en_icmp_ge (tgt := 20) h dX1_findReferences_4 (by decide) (by omega) (by omega) (fun c_4 => ?_) (fun c_4 => ?_)
    · have e : (i : Int) = 5 := by omega
      rw [e]
      exact K
    · exact absurd c_4 (by omega)
  | succ f ih =>
    intro i hi
    refine en_iload_n (i := 1) h dX1_findReferences_2 rfl rfl ?_
    refine en_iconst h dX1_findReferences_3 ?_
    refine en_icmp_ge (tgt := 20) h dX1_findReferences_4 (by decide) (by omega) (by omega) (fun c_4 => ?_) (fun c_4 => ?_)
    · exact absurd c_4 (by omega)
    · refine en_aload_n (i := 0) h dX1_findReferences_7 rfl rfl ?_
      refine en_getR h dX1_findReferences_8 fl_X1_findReferences_29 (hI _ (by omega) (by omega)) rfl rfl ?_
      refine en_iload_n (i := 1) h dX1_findReferences_11 rfl rfl ?_
      refine en_iload_n (i := 1) h dX1_findReferences_12 rfl rfl ?_
      refine en_iastore h dX1_findReferences_13 (hI _ (by omega) (by omega)) rfl (by omega) ?_
      refine en_iinc h dX1_findReferences_14 rfl (by decide) ?_
      refine en_goto (tgt := 2) h dX1_findReferences_17 (by decide) ?_
      rw [en_ar_push (by omega) rfl]
      exact ih (i + 1) (by omega)
set_option maxRecDepth 100000 in
set_option maxHeartbeats 4000000 in
theorem lp_X1_findReferences_C {κ : en_C} {m : en_M} {t : Int} {R : Int → Int} (hW : en_Wok (en_w κ)) (hP : en_Has (en_w κ) 0 21) (h : en_Ok κ RX1 cX1_findReferences 3 wsX1_findReferences rm_X1_findReferences) (hn : 0 ≤ m 0 1 ∧ m 0 1 ≤ 8) (hr : ∀ j, 0 ≤ j → j < m 0 1 → 0 ≤ m 1 j ∧ m 1 j < 5 ∧ 0 ≤ m 2 j ∧ m 2 j < 5 ∧ (m 4 j = 0 ∨ m 4 j = 1)) (hR : ∀ (n : Nat), (n : Int) ≤ m 0 1 → ∀ b, 0 ≤ b → b < 5 → 0 ≤ gs_rd (m 1) (m 2) (m 4) R n b ∧ gs_rd (m 1) (m 2) (m 4) R n b ≤ b) (K : ∀ i : Int, en_G κ 68 [some (en_R 0), some (en_I t), some (en_I i)] [] (en_ar m 5 5 (gs_rd (m 1) (m 2) (m 4) R (m 0 1).toNat)) 0 0) : ∀ (f i : Nat), (f : Int) + i = m 0 1 → en_G κ 29 [some (en_R 0), some (en_I t), some (en_I (i : Int))] [] (en_ar m 5 5 (gs_rd (m 1) (m 2) (m 4) R i)) 0 0 := by
  have hI : ∀ k, 0 ≤ k → k < 21 → en_in κ k := hP
  intro f
  induction f with
  | zero =>
    intro i hi
    refine en_iload_n (i := 2) h dX1_findReferences_29 rfl rfl ?_
    refine en_aload_n (i := 0) h dX1_findReferences_30 rfl rfl ?_
    refine en_getI (i := 1) h dX1_findReferences_31 fl_X1_findReferences_9 (hI _ (by omega) (by omega)) rfl rfl rfl (v9 := m 0 1) (by rw [en_ar_ne (by decide)]) ?_
    refine en_icmp_ge (tgt := 68) h dX1_findReferences_34 (by decide) (by omega) (by omega) (fun c_34 => ?_) (fun c_34 => ?_)
    · have e : i = (m 0 1).toNat := by omega
      rw [e]
      exact K _
    · exact absurd c_34 (by omega)
  | succ f ih =>
    intro i hi
    have r := hr i (by omega) (by omega)
    have q1 := hR i (by omega) (m 1 i) (by omega) (by omega)
    have q2 := hR i (by omega) (m 2 i) (by omega) (by omega)
    refine en_iload_n (i := 2) h dX1_findReferences_29 rfl rfl ?_
    refine en_aload_n (i := 0) h dX1_findReferences_30 rfl rfl ?_
    refine en_getI (i := 1) h dX1_findReferences_31 fl_X1_findReferences_9 (hI _ (by omega) (by omega)) rfl rfl rfl (v9 := m 0 1) (by rw [en_ar_ne (by decide)]) ?_
    refine en_icmp_ge (tgt := 68) h dX1_findReferences_34 (by decide) (by omega) (by omega) (fun c_34 => ?_) (fun c_34 => ?_)
    · exact absurd c_34 (by omega)
    · refine en_aload_n (i := 0) h dX1_findReferences_37 rfl rfl ?_
      refine en_getR h dX1_findReferences_38 fl_X1_findReferences_25 (hI _ (by omega) (by omega)) rfl rfl ?_
      refine en_iload_n (i := 2) h dX1_findReferences_41 rfl rfl ?_
      refine en_zaload h dX1_findReferences_42 (hI _ (by omega) (by omega)) rfl (by omega) (v9 := m 4 i) (by rw [en_ar_ne (by decide)]) ?_
      refine en_if_eq (tgt := 62) h dX1_findReferences_43 (by decide) (by omega) (fun c_43 => ?_) (fun c_43 => ?_)
      · refine en_iinc h dX1_findReferences_62 rfl (by decide) ?_
        refine en_goto (tgt := 29) h dX1_findReferences_65 (by decide) ?_
        have e : gs_rd (m 1) (m 2) (m 4) R i = gs_rd (m 1) (m 2) (m 4) R (i + 1) := by
          simp only [gs_rd, gs_ln]
          rw [if_pos c_43]
        rw [e]
        exact ih (i + 1) (by omega)
      · refine en_aload_n (i := 0) h dX1_findReferences_46 rfl rfl ?_
        refine en_aload_n (i := 0) h dX1_findReferences_47 rfl rfl ?_
        refine en_getR h dX1_findReferences_48 fl_X1_findReferences_15 (hI _ (by omega) (by omega)) rfl rfl ?_
        refine en_iload_n (i := 2) h dX1_findReferences_51 rfl rfl ?_
        refine en_iaload h dX1_findReferences_52 (hI _ (by omega) (by omega)) rfl (by omega) (v9 := m 1 i) (by rw [en_ar_ne (by decide)]) ?_
        refine en_aload_n (i := 0) h dX1_findReferences_53 rfl rfl ?_
        refine en_getR h dX1_findReferences_54 fl_X1_findReferences_19 (hI _ (by omega) (by omega)) rfl rfl ?_
        refine en_iload_n (i := 2) h dX1_findReferences_57 rfl rfl ?_
        refine en_iaload h dX1_findReferences_58 (hI _ (by omega) (by omega)) rfl (by omega) (v9 := m 2 i) (by rw [en_ar_ne (by decide)]) ?_
        refine en_callV h (k_X1_shareReference hW hP (by omega) (by omega) (by omega) (by omega) (by rw [en_ar_at (by omega) (by omega)]; omega) (by rw [en_ar_at (by omega) (by omega)]; omega)) my_X1_shareReference gX1_findReferences_X1_shareReference (hI _ (by omega) (by omega)) rfl rfl rfl rfl ⟨by decide, by decide⟩ ⟨by decide, by decide⟩ (by decide) dX1_findReferences_59 (fun r m' hp => ?_)
        obtain ⟨rfl, rfl⟩ := hp
        refine en_iinc h dX1_findReferences_62 rfl (by decide) ?_
        refine en_goto (tgt := 29) h dX1_findReferences_65 (by decide) ?_
        have e : en_set (en_set (en_ar m 5 5 (gs_rd (m 1) (m 2) (m 4) R i)) 5 (m 1 i) (min (en_ar m 5 5 (gs_rd (m 1) (m 2) (m 4) R i) 5 (m 1 i)) (en_ar m 5 5 (gs_rd (m 1) (m 2) (m 4) R i) 5 (m 2 i)))) 5 (m 2 i) (min (en_ar m 5 5 (gs_rd (m 1) (m 2) (m 4) R i) 5 (m 1 i)) (en_ar m 5 5 (gs_rd (m 1) (m 2) (m 4) R i) 5 (m 2 i))) = en_ar m 5 5 (gs_rd (m 1) (m 2) (m 4) R (i + 1)) := by
          rw [en_ar_at (by omega) (by omega), en_ar_at (by omega) (by omega), en_ar_set (by omega) (by omega), en_ar_set (by omega) (by omega)]
          congr 1
          funext b
          simp only [gs_rd, gs_ln, gs_up]
          rw [if_neg c_43]
        rw [e]
        exact ih (i + 1) (by omega)
set_option maxRecDepth 100000 in
set_option maxHeartbeats 4000000 in
theorem lp_X1_findReferences_B {κ : en_C} {m : en_M} (hW : en_Wok (en_w κ)) (hP : en_Has (en_w κ) 0 21) (h : en_Ok κ RX1 cX1_findReferences 3 wsX1_findReferences rm_X1_findReferences) (hf : en_fin κ rm_X1_findReferences none (fun r m' => r = none ∧ m' = en_ar m 5 5 (gs_it (m 0 1).toNat (m 1) (m 2) (m 4) 4))) (hn : 0 ≤ m 0 1 ∧ m 0 1 ≤ 8) (hr : ∀ j, 0 ≤ j → j < m 0 1 → 0 ≤ m 1 j ∧ m 1 j < 5 ∧ 0 ≤ m 2 j ∧ m 2 j < 5 ∧ (m 4 j = 0 ∨ m 4 j = 1)) : ∀ (f i : Nat), f + i = 4 → ∀ o, en_G κ 22 [some (en_R 0), some (en_I ((i : Int) + 1)), o] [] (en_ar m 5 5 (gs_it (m 0 1).toNat (m 1) (m 2) (m 4) i)) 0 0 := by
  have hI : ∀ k, 0 ≤ k → k < 21 → en_in κ k := hP
  intro f
  induction f with
  | zero =>
    intro i hi o
    refine en_iload_n (i := 1) h dX1_findReferences_22 rfl rfl ?_
    refine en_iconst h dX1_findReferences_23 ?_
    refine en_icmp_ge (tgt := 74) h dX1_findReferences_24 (by decide) (by omega) (by omega) (fun c_24 => ?_) (fun c_24 => ?_)
    · exact en_vret h hf dX1_findReferences_74 ⟨by decide, by decide⟩ ⟨rfl, by rw [show i = 4 by omega]⟩
    · exact absurd c_24 (by omega)
  | succ f ih =>
    intro i hi o
    refine en_iload_n (i := 1) h dX1_findReferences_22 rfl rfl ?_
    refine en_iconst h dX1_findReferences_23 ?_
    refine en_icmp_ge (tgt := 74) h dX1_findReferences_24 (by decide) (by omega) (by omega) (fun c_24 => ?_) (fun c_24 => ?_)
    · exact absurd c_24 (by omega)
    · refine en_iconst h dX1_findReferences_27 ?_
      refine en_istore_n (i := 2) h dX1_findReferences_28 rfl (by decide) ?_
      refine lp_X1_findReferences_C (R := gs_it (m 0 1).toNat (m 1) (m 2) (m 4) i) hW hP h hn hr ?_ ?_ (m 0 1).toNat 0 (by omega)
      · intro n hn2 b b0 b1
        exact gs_rd_rng i n (by omega) b b0 (fun j j0 j1 => ⟨(hr j j0 (by omega)).1, (hr j j0 (by omega)).2.2.1⟩)
      · intro i2
        refine en_iinc h dX1_findReferences_68 rfl (by decide) ?_
        refine en_goto (tgt := 22) h dX1_findReferences_71 (by decide) ?_
        exact ih (i + 1) (by omega) _
set_option maxRecDepth 100000 in
set_option maxHeartbeats 4000000 in
theorem k_X1_findReferences {l : Launch} {w : en_W} {m : en_M} (hw : en_Wok w) (hp : en_Has w 0 21) (hn : 0 ≤ m 0 1 ∧ m 0 1 ≤ 8) (hr : ∀ j, 0 ≤ j → j < m 0 1 → 0 ≤ m 1 j ∧ m 1 j < 5 ∧ 0 ≤ m 2 j ∧ m 2 j < 5 ∧ (m 4 j = 0 ∨ m 4 j = 1)) : en_Met l w yX1_findReferences wsX1_findReferences rm_X1_findReferences [en_R 0] m (fun r m' => r = none ∧ m' = en_ar m 5 5 (gs_it (m 0 1).toNat (m 1) (m 2) (m 4) 4)) := by
  refine en_met my_X1_findReferences hw (Nat.le_of_ble_eq_true rfl) ?_
  intro κ hl9 hw9 h hf
  subst hw9
  subst hl9
  have hI : ∀ k, 0 ≤ k → k < 21 → en_in κ k := hp
  refine en_iconst h dX1_findReferences_0 ?_
  refine en_istore_n (i := 1) h dX1_findReferences_1 rfl (by decide) ?_
  rw [← en_ar_0 (m := m) (k := 5) (f := fun b => b)]
  refine lp_X1_findReferences_A hp h ?_ 5 0 rfl
  refine en_iconst h dX1_findReferences_20 ?_
  refine en_istore_n (i := 1) h dX1_findReferences_21 rfl (by decide) ?_
  exact lp_X1_findReferences_B hw hp h hf hn hr 4 0 rfl _
