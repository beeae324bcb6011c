/-! MODEL 2: lines and islands -/
def xo_ln (m : en_M) : Prop := (2 ≤ m 51 1 ∧ m 51 1 ≤ 5) ∧ (0 ≤ m 51 2 ∧ m 51 2 ≤ 8) ∧ ∀ j, 0 ≤ j → j < m 51 2 → (0 ≤ m 52 j ∧ m 52 j < m 51 1) ∧ (0 ≤ m 53 j ∧ m 53 j < m 51 1) ∧ (m 55 j = 0 ∨ m 55 j = 1) ∧ (1 ≤ m 54 j ∧ m 54 j ≤ 2)
set_option maxRecDepth 100000 in
set_option maxHeartbeats 4000000 in
theorem lp_X5_addLine_L {κ : en_C} {m : en_M} {f s g ar : Int} (hW : en_Wok (en_w κ)) (hP : en_Has (en_w κ) 0 68) (h : en_Ok κ RX5 cX5_addLine 7 wsX5_addLine rm_X5_addLine) (hf : en_fin κ rm_X5_addLine (some .int) (fun r m' => (mo_al m f s g ≠ 0 ∧ r = some (en_I 0) ∧ m' = en_set m 51 0 (mo_al m f s g)) ∨ (mo_al m f s g = 0 ∧ r = some (en_I (m 51 2)) ∧ m' = mo_ap m f s g))) (hl : xo_ln m) (rf : en_i32 f) (rs : en_i32 s) (rg : en_i32 g) (har : ar = if (0 ≤ f ∧ f < m 51 1) ∧ (0 ≤ s ∧ s < m 51 1) then 1 else 0) : ∀ (z j : Nat), (z : Int) + j = m 51 2 → en_G κ 29 [some (en_R 51), some (en_I f), some (en_I s), some (en_I g), some (en_I ar), some (en_I (if gs_hb (m 52) (m 53) f s j = true then 1 else 0)), some (en_I (j : Int))] [] m 0 0 := by
  have hI : ∀ k, 0 ≤ k → k < 68 → en_in κ k := hP
  obtain ⟨n0, n1, hr⟩ := hl
  intro z
  induction z with
  | zero =>
    intro j hj
    refine en_iload (i := 6) h dX5_addLine_29 rfl ?_
    refine en_aload_n (i := 0) h dX5_addLine_31 rfl rfl ?_
    refine en_getI (i := 2) h dX5_addLine_32 fl_X5_addLine_71 (hI _ (by omega) (by omega)) rfl rfl rfl rfl ?_
    refine en_icmp_ge (tgt := 100) h dX5_addLine_35 (by decide) (by omega) (by omega) (fun c_35 => ?_) (fun c_35 => ?_)
    · exact lp_X5_addLine_T hW hP h hf n1 rf rs rg har (by rw [show (m 51 2).toNat = j by omega])
    · exact absurd c_35 (by omega)
  | succ z ih =>
    intro j hj
    have r := hr j (by omega) (by omega)
    have ih9 := ih (j + 1) (by omega)
    have yes : ∀ o, (gs_hb (m 52) (m 53) f s (j + 1) = true) → en_G κ 87 [some (en_R 51), some (en_I f), some (en_I s), some (en_I g), some (en_I ar), o, some (en_I (j : Int))] [] m 0 0 := by
      intro o hb
      rw [if_pos hb] at ih9
      refine en_iconst h dX5_addLine_87 ?_
      refine en_goto (tgt := 92) h dX5_addLine_88 (by decide) ?_
      refine en_istore (i := 5) h dX5_addLine_92 (by decide) ?_
      refine en_iinc h dX5_addLine_94 rfl (by decide) ?_
      refine en_goto (tgt := 29) h dX5_addLine_97 (by decide) ?_
      exact ih9
    have no : ∀ o, (gs_hb (m 52) (m 53) f s (j + 1) = false) → en_G κ 91 [some (en_R 51), some (en_I f), some (en_I s), some (en_I g), some (en_I ar), o, some (en_I (j : Int))] [] m 0 0 := by
      intro o hb
      rw [if_neg (by rw [hb]; decide)] at ih9
      refine en_iconst h dX5_addLine_91 ?_
      refine en_istore (i := 5) h dX5_addLine_92 (by decide) ?_
      refine en_iinc h dX5_addLine_94 rfl (by decide) ?_
      refine en_goto (tgt := 29) h dX5_addLine_97 (by decide) ?_
      exact ih9
    refine en_iload (i := 6) h dX5_addLine_29 rfl ?_
    refine en_aload_n (i := 0) h dX5_addLine_31 rfl rfl ?_
    refine en_getI (i := 2) h dX5_addLine_32 fl_X5_addLine_71 (hI _ (by omega) (by omega)) rfl rfl rfl rfl ?_
    refine en_icmp_ge (tgt := 100) h dX5_addLine_35 (by decide) (by omega) (by omega) (fun c_35 => ?_) (fun c_35 => ?_)
    · exact absurd c_35 (by omega)
    · refine en_iload (i := 5) h dX5_addLine_38 rfl ?_
      refine en_if_ne (tgt := 87) h dX5_addLine_40 (by decide) (by split <;> omega) (fun c_40 => ?_) (fun c_40 => ?_)
      · refine yes _ ?_
        have c9 : gs_hb (m 52) (m 53) f s j = true := by apply Decidable.byContradiction; intro z; rw [if_neg z] at c_40; omega
        simp only [gs_hb, c9, Bool.true_or]
      · have c9 : gs_hb (m 52) (m 53) f s j = false := by
          cases z : gs_hb (m 52) (m 53) f s j with
          | false => rfl
          | true => rw [if_pos z] at c_40; omega
        refine en_aload_n (i := 0) h dX5_addLine_43 rfl rfl ?_
        refine en_getR h dX5_addLine_44 fl_X5_addLine_7 (hI _ (by omega) (by omega)) rfl rfl ?_
        refine en_iload (i := 6) h dX5_addLine_47 rfl ?_
        refine en_iaload h dX5_addLine_49 (hI _ (by omega) (by omega)) rfl (by omega) rfl ?_
        refine en_iload_n (i := 1) h dX5_addLine_50 rfl rfl ?_
        refine en_icmp_ne (tgt := 65) h dX5_addLine_51 (by decide) (by omega) (by omega) (fun c_51 => ?_) (fun c_51 => ?_)
        · refine en_aload_n (i := 0) h dX5_addLine_65 rfl rfl ?_
          refine en_getR h dX5_addLine_66 fl_X5_addLine_7 (hI _ (by omega) (by omega)) rfl rfl ?_
          refine en_iload (i := 6) h dX5_addLine_69 rfl ?_
          refine en_iaload h dX5_addLine_71 (hI _ (by omega) (by omega)) rfl (by omega) rfl ?_
          refine en_iload_n (i := 2) h dX5_addLine_72 rfl rfl ?_
          refine en_icmp_ne (tgt := 91) h dX5_addLine_73 (by decide) (by omega) (by omega) (fun c_73 => ?_) (fun c_73 => ?_)
          · exact no _ (by simp only [gs_hb, c9, Bool.false_or, decide_eq_false_iff_not]; omega)
          · refine en_aload_n (i := 0) h dX5_addLine_76 rfl rfl ?_
            refine en_getR h dX5_addLine_77 fl_X5_addLine_13 (hI _ (by omega) (by omega)) rfl rfl ?_
            refine en_iload (i := 6) h dX5_addLine_80 rfl ?_
            refine en_iaload h dX5_addLine_82 (hI _ (by omega) (by omega)) rfl (by omega) rfl ?_
            refine en_iload_n (i := 1) h dX5_addLine_83 rfl rfl ?_
            refine en_icmp_ne (tgt := 91) h dX5_addLine_84 (by decide) (by omega) (by omega) (fun c_84 => ?_) (fun c_84 => ?_)
            · exact no _ (by simp only [gs_hb, c9, Bool.false_or, decide_eq_false_iff_not]; omega)
            · exact yes _ (by simp [gs_hb, c_73, c_84])
        · refine en_aload_n (i := 0) h dX5_addLine_54 rfl rfl ?_
          refine en_getR h dX5_addLine_55 fl_X5_addLine_13 (hI _ (by omega) (by omega)) rfl rfl ?_
          refine en_iload (i := 6) h dX5_addLine_58 rfl ?_
          refine en_iaload h dX5_addLine_60 (hI _ (by omega) (by omega)) rfl (by omega) rfl ?_
          refine en_iload_n (i := 2) h dX5_addLine_61 rfl rfl ?_
          refine en_icmp_eq (tgt := 87) h dX5_addLine_62 (by decide) (by omega) (by omega) (fun c_62 => ?_) (fun c_62 => ?_)
          · exact yes _ (by simp [gs_hb, c_51, c_62])
          · refine en_aload_n (i := 0) h dX5_addLine_65 rfl rfl ?_
            refine en_getR h dX5_addLine_66 fl_X5_addLine_7 (hI _ (by omega) (by omega)) rfl rfl ?_
            refine en_iload (i := 6) h dX5_addLine_69 rfl ?_
            refine en_iaload h dX5_addLine_71 (hI _ (by omega) (by omega)) rfl (by omega) rfl ?_
            refine en_iload_n (i := 2) h dX5_addLine_72 rfl rfl ?_
            refine en_icmp_ne (tgt := 91) h dX5_addLine_73 (by decide) (by omega) (by omega) (fun c_73 => ?_) (fun c_73 => ?_)
            · exact no _ (by simp only [gs_hb, c9, Bool.false_or, decide_eq_false_iff_not]; omega)
            · refine en_aload_n (i := 0) h dX5_addLine_76 rfl rfl ?_
              refine en_getR h dX5_addLine_77 fl_X5_addLine_13 (hI _ (by omega) (by omega)) rfl rfl ?_
              refine en_iload (i := 6) h dX5_addLine_80 rfl ?_
              refine en_iaload h dX5_addLine_82 (hI _ (by omega) (by omega)) rfl (by omega) rfl ?_
              refine en_iload_n (i := 1) h dX5_addLine_83 rfl rfl ?_
              refine en_icmp_ne (tgt := 91) h dX5_addLine_84 (by decide) (by omega) (by omega) (fun c_84 => ?_) (fun c_84 => ?_)
              · exact no _ (by simp only [gs_hb, c9, Bool.false_or, decide_eq_false_iff_not]; omega)
              · exact yes _ (by simp [gs_hb, c_73, c_84])
set_option maxRecDepth 100000 in
set_option maxHeartbeats 4000000 in
theorem k_X5_addLine {l : Launch} {w : en_W} {m : en_M} {f s g : Int} (hw : en_Wok w) (hp : en_Has w 0 68) (hl : xo_ln m) (rf : en_i32 f) (rs : en_i32 s) (rg : en_i32 g) : en_Met l w yX5_addLine wsX5_addLine rm_X5_addLine [en_R 51, en_I f, en_I s, en_I g] m (fun r m' => (mo_al m f s g ≠ 0 ∧ r = some (en_I 0) ∧ m' = en_set m 51 0 (mo_al m f s g)) ∨ (mo_al m f s g = 0 ∧ r = some (en_I (m 51 2)) ∧ m' = mo_ap m f s g)) := by
  refine en_met my_X5_addLine hw (Nat.le_of_ble_eq_true rfl) ?_
  intro κ hl9 hw9 h hf
  subst hw9
  subst hl9
  have hI : ∀ k, 0 ≤ k → k < 68 → en_in κ k := hp
  obtain ⟨n0, n1, hr⟩ := id hl
  have go : ∀ (ar : Int), (ar = if (0 ≤ f ∧ f < m 51 1) ∧ (0 ≤ s ∧ s < m 51 1) then 1 else 0) → en_G κ 23 [some (en_R 51), some (en_I f), some (en_I s), some (en_I g), some (en_I ar), none, none] [] m 0 0 := by
    intro ar har
    refine en_iconst h dX5_addLine_23 ?_
    refine en_istore (i := 5) h dX5_addLine_24 (by decide) ?_
    refine en_iconst h dX5_addLine_26 ?_
    refine en_istore (i := 6) h dX5_addLine_27 (by decide) ?_
    exact lp_X5_addLine_L hw hp h hf hl rf rs rg har (m 51 2).toNat 0 (by omega)
  refine en_aload_n (i := 0) h dX5_addLine_0 rfl rfl ?_
  refine en_iload_n (i := 1) h dX5_addLine_1 rfl rfl ?_
  refine en_callV h (k_X5_isBus hw hI rf (by omega)) my_X5_isBus gX5_addLine_X5_isBus (hI _ (by omega) (by omega)) rfl rfl rfl rfl ⟨by decide, by decide⟩ ⟨by decide, by decide⟩ (Nat.le_of_ble_eq_true rfl) dX5_addLine_2 (fun r M1 hp => ?_)
  obtain ⟨rfl, e1⟩ := hp
  subst e1
  refine en_if_eq (tgt := 20) h dX5_addLine_5 (by decide) (by split <;> omega) (fun c_5 => ?_) (fun c_5 => ?_)
  · have c9 : ¬ (0 ≤ f ∧ f < M1 51 1) := fun z => by rw [if_pos z] at c_5; omega
    refine en_iconst h dX5_addLine_20 ?_
    refine en_istore (i := 4) h dX5_addLine_21 (by decide) ?_
    exact go 0 (by rw [if_neg (fun z => c9 z.1)])
  · have c9 : (0 ≤ f ∧ f < M1 51 1) := by apply Decidable.byContradiction; intro z; rw [if_neg z] at c_5; omega
    refine en_aload_n (i := 0) h dX5_addLine_8 rfl rfl ?_
    refine en_iload_n (i := 2) h dX5_addLine_9 rfl rfl ?_
    refine en_callV h (k_X5_isBus hw hI rs (by omega)) my_X5_isBus gX5_addLine_X5_isBus (hI _ (by omega) (by omega)) rfl rfl rfl rfl ⟨by decide, by decide⟩ ⟨by decide, by decide⟩ (Nat.le_of_ble_eq_true rfl) dX5_addLine_10 (fun r M2 hp => ?_)
    obtain ⟨rfl, e1⟩ := hp
    subst e1
    refine en_if_eq (tgt := 20) h dX5_addLine_13 (by decide) (by split <;> omega) (fun c_13 => ?_) (fun c_13 => ?_)
    · have c8 : ¬ (0 ≤ s ∧ s < M2 51 1) := fun z => by rw [if_pos z] at c_13; omega
      refine en_iconst h dX5_addLine_20 ?_
      refine en_istore (i := 4) h dX5_addLine_21 (by decide) ?_
      exact go 0 (by rw [if_neg (fun z => c8 z.2)])
    · have c8 : (0 ≤ s ∧ s < M2 51 1) := by apply Decidable.byContradiction; intro z; rw [if_neg z] at c_13; omega
      refine en_iconst h dX5_addLine_16 ?_
      refine en_goto (tgt := 21) h dX5_addLine_17 (by decide) ?_
      refine en_istore (i := 4) h dX5_addLine_21 (by decide) ?_
      exact go 1 (by rw [if_pos ⟨c9, c8⟩])
abbrev rm_X5_setBreaker : Room := { frames := 3, cells := 0, slots := 0, locals := 43 }
theorem my_X5_setBreaker : en_MY yX5_setBreaker RX5 cX5_setBreaker 4 (some .boolean) wsX5_setBreaker 2 := ⟨⟨_, rfl⟩, rfl, by decide, by decide, by decide +kernel, by decide +kernel⟩
set_option maxRecDepth 20000 in
theorem fl_X5_setBreaker_19 : en_FL wsX5_setBreaker RX5 19 5 6 := ⟨_, _, _, rfl, by decide, by decide +kernel, Or.inl (by decide +kernel)⟩
set_option maxRecDepth 100000 in
set_option maxHeartbeats 4000000 in
theorem k_X5_setBreaker {l : Launch} {w : en_W} {m : en_M} {i c : Int} (hw : en_Wok w) (hp : en_Has w 0 68) (hl : xo_ln m) (ri : en_i32 i) (c0 : c = 0 ∨ c = 1) : en_Met l w yX5_setBreaker wsX5_setBreaker rm_X5_setBreaker [en_R 51, en_I i, en_I c] m (fun r m' => (¬ (0 ≤ i ∧ i < m 51 2) ∧ r = some (en_I 0) ∧ m' = en_set m 51 0 1) ∨ ((0 ≤ i ∧ i < m 51 2) ∧ r = some (en_I (m 55 i)) ∧ m' = en_set (en_set m 51 0 0) 55 i c)) := by
  refine en_met my_X5_setBreaker hw (Nat.le_of_ble_eq_true rfl) ?_
  intro κ hl9 hw9 h hf
  subst hw9
  subst hl9
  have hI : ∀ k, 0 ≤ k → k < 68 → en_in κ k := hp
  obtain ⟨n0, n1, hr⟩ := id hl
  refine en_aload_n (i := 0) h dX5_setBreaker_0 rfl rfl ?_
  refine en_aload_n (i := 0) h dX5_setBreaker_1 rfl rfl ?_
  refine en_iload_n (i := 1) h dX5_setBreaker_2 rfl rfl ?_
  refine en_callV h (k_X5_isLine hw hI ri (by omega)) my_X5_isLine gX5_setBreaker_X5_isLine (hI _ (by omega) (by omega)) rfl rfl rfl rfl ⟨by decide, by decide⟩ ⟨by decide, by decide⟩ (Nat.le_of_ble_eq_true rfl) dX5_setBreaker_3 (fun r M1 hp => ?_)
  obtain ⟨rfl, e1⟩ := hp
  subst e1
  refine en_if_eq (tgt := 13) h dX5_setBreaker_6 (by decide) (by split <;> omega) (fun c_6 => ?_) (fun c_6 => ?_)
  · have c9 : ¬ (0 ≤ i ∧ i < M1 51 2) := fun z => by rw [if_pos z] at c_6; omega
    refine en_iconst h dX5_setBreaker_13 ?_
    refine en_callV h (k_X5_refused hw hI (by decide)) my_X5_refused gX5_setBreaker_X5_refused (hI _ (by omega) (by omega)) rfl rfl rfl rfl ⟨by decide, by decide⟩ ⟨by decide, by decide⟩ (Nat.le_of_ble_eq_true rfl) dX5_setBreaker_14 (fun r M2 hp => ?_)
    obtain ⟨rfl, e1⟩ := hp
    subst e1
    refine en_if_eq (tgt := 22) h dX5_setBreaker_17 (by decide) (by omega) (fun c_17 => ?_) (fun c_17 => ?_)
    · exact absurd c_17 (by decide)
    · refine en_iconst h dX5_setBreaker_20 ?_
      exact en_zret h hf dX5_setBreaker_21 ⟨by decide, by decide⟩ (by omega) (Or.inl ⟨c9, rfl, rfl⟩)
  · have c9 : (0 ≤ i ∧ i < M1 51 2) := by apply Decidable.byContradiction; intro z; rw [if_neg z] at c_6; omega
    refine en_iconst h dX5_setBreaker_9 ?_
    refine en_goto (tgt := 14) h dX5_setBreaker_10 (by decide) ?_
    refine en_callV h (k_X5_refused hw hI (by decide)) my_X5_refused gX5_setBreaker_X5_refused (hI _ (by omega) (by omega)) rfl rfl rfl rfl ⟨by decide, by decide⟩ ⟨by decide, by decide⟩ (Nat.le_of_ble_eq_true rfl) dX5_setBreaker_14 (fun r M2 hp => ?_)
    obtain ⟨rfl, e1⟩ := hp
    subst e1
    have u := (hr i c9.1 c9.2).2.2.1
    refine en_if_eq (tgt := 22) h dX5_setBreaker_17 (by decide) (by omega) (fun c_17 => ?_) (fun c_17 => ?_)
    · refine en_aload_n (i := 0) h dX5_setBreaker_22 rfl rfl ?_
      refine en_getR h dX5_setBreaker_23 fl_X5_setBreaker_19 (hI _ (by omega) (by omega)) rfl rfl ?_
      refine en_iload_n (i := 1) h dX5_setBreaker_26 rfl rfl ?_
      refine en_zaload h dX5_setBreaker_27 (hI _ (by omega) (by omega)) rfl (by omega) (v9 := M1 55 i) (by rw [en_set_ne (by decide)]) ?_
      refine en_istore_n (i := 3) h dX5_setBreaker_28 rfl (by decide) ?_
      refine en_aload_n (i := 0) h dX5_setBreaker_29 rfl rfl ?_
      refine en_getR h dX5_setBreaker_30 fl_X5_setBreaker_19 (hI _ (by omega) (by omega)) rfl rfl ?_
      refine en_iload_n (i := 1) h dX5_setBreaker_33 rfl rfl ?_
      refine en_iload_n (i := 2) h dX5_setBreaker_34 rfl rfl ?_
      refine en_zastore h dX5_setBreaker_35 (hI _ (by omega) (by omega)) rfl (by omega) (by omega) ?_
      refine en_iload_n (i := 3) h dX5_setBreaker_36 rfl rfl ?_
      exact en_zret h hf dX5_setBreaker_37 ⟨by decide, by decide⟩ (by omega) (Or.inr ⟨c9, rfl, rfl⟩)
    · exact absurd rfl c_17
abbrev rm_X5_divide : Room := { frames := 1, cells := 0, slots := 0, locals := 0 }
theorem my_X5_divide : en_MY yX5_divide RX5 cX5_divide 5 none wsX5_divide 0 := ⟨⟨_, rfl⟩, rfl, by decide, by decide, by decide +kernel, by decide +kernel⟩
set_option maxRecDepth 20000 in
theorem fl_X5_divide_7 : en_FL wsX5_divide RX5 7 5 3 := ⟨_, _, _, rfl, by decide, by decide +kernel, Or.inl (by decide +kernel)⟩
set_option maxRecDepth 20000 in
theorem fl_X5_divide_13 : en_FL wsX5_divide RX5 13 5 4 := ⟨_, _, _, rfl, by decide, by decide +kernel, Or.inl (by decide +kernel)⟩
set_option maxRecDepth 20000 in
theorem fl_X5_divide_19 : en_FL wsX5_divide RX5 19 5 6 := ⟨_, _, _, rfl, by decide, by decide +kernel, Or.inl (by decide +kernel)⟩
set_option maxRecDepth 20000 in
theorem fl_X5_divide_38 : en_FL wsX5_divide RX5 38 5 13 := ⟨_, _, _, rfl, by decide, by decide +kernel, Or.inl (by decide +kernel)⟩
set_option maxRecDepth 20000 in
theorem fl_X5_divide_60 : en_FL wsX5_divide RX5 60 5 1 := ⟨_, _, _, rfl, by decide, by decide +kernel, Or.inl (by decide +kernel)⟩
set_option maxRecDepth 20000 in
theorem fl_X5_divide_71 : en_FL wsX5_divide RX5 71 5 2 := ⟨_, _, _, rfl, by decide, by decide +kernel, Or.inl (by decide +kernel)⟩
/-- the references, found anew -/
def mo_dv (m : en_M) : en_M := en_ar m 61 (m 51 1) (gs_it (m 51 2).toNat (m 52) (m 53) (m 55) (m 51 1).toNat)
set_option maxRecDepth 100000 in
set_option maxHeartbeats 4000000 in
theorem lp_X5_divide_A {κ : en_C} {m : en_M} (hP : en_Has (en_w κ) 0 68) (h : en_Ok κ RX5 cX5_divide 5 wsX5_divide rm_X5_divide) (hn : 2 ≤ m 51 1 ∧ m 51 1 ≤ 5) (K : ∀ i, en_G κ 23 [some (en_R 51), some (en_I i), none, none, none] [] (en_ar m 61 (m 51 1) (fun b => b)) 0 0) : ∀ (f i : Nat), (f : Int) + i = m 51 1 → en_G κ 2 [some (en_R 51), some (en_I (i : Int)), none, none, none] [] (en_ar m 61 i (fun b => b)) 0 0 := by
  have hI : ∀ k, 0 ≤ k → k < 68 → en_in κ k := hP
  intro f
  induction f with
  | zero =>
    intro i hi
    refine en_iload_n (i := 1) h dX5_divide_2 rfl rfl ?_
    refine en_aload_n (i := 0) h dX5_divide_3 rfl rfl ?_
    refine en_getI (i := 1) h dX5_divide_4 fl_X5_divide_60 (hI _ (by omega) (by omega)) rfl rfl rfl (v9 := m 51 1) (by rw [en_ar_ne (by decide)]) ?_
    refine en_icmp_ge (tgt := 23) h dX5_divide_7 (by decide) (by omega) (by omega) (fun c_7 => ?_) (fun c_7 => ?_)
    · have e : (i : Int) = m 51 1 := by omega
      rw [e]
      exact K _
    · exact absurd c_7 (by omega)
  | succ f ih =>
    intro i hi
    refine en_iload_n (i := 1) h dX5_divide_2 rfl rfl ?_
    refine en_aload_n (i := 0) h dX5_divide_3 rfl rfl ?_
    refine en_getI (i := 1) h dX5_divide_4 fl_X5_divide_60 (hI _ (by omega) (by omega)) rfl rfl rfl (v9 := m 51 1) (by rw [en_ar_ne (by decide)]) ?_
    refine en_icmp_ge (tgt := 23) h dX5_divide_7 (by decide) (by omega) (by omega) (fun c_7 => ?_) (fun c_7 => ?_)
    · exact absurd c_7 (by omega)
    · refine en_aload_n (i := 0) h dX5_divide_10 rfl rfl ?_
      refine en_getR h dX5_divide_11 fl_X5_divide_38 (hI _ (by omega) (by omega)) rfl rfl ?_
      refine en_iload_n (i := 1) h dX5_divide_14 rfl rfl ?_
      refine en_iload_n (i := 1) h dX5_divide_15 rfl rfl ?_
      refine en_iastore h dX5_divide_16 (hI _ (by omega) (by omega)) rfl (by omega) ?_
      refine en_iinc h dX5_divide_17 rfl (by decide) ?_
      refine en_goto (tgt := 2) h dX5_divide_20 (by decide) ?_
      rw [en_ar_push (by omega) rfl]
      exact ih (i + 1) (by omega)
set_option maxRecDepth 100000 in
set_option maxHeartbeats 4000000 in
theorem lp_X5_divide_C {κ : en_C} {m : en_M} {t : Int} {R : Int → Int} (hW : en_Wok (en_w κ)) (hP : en_Has (en_w κ) 0 68) (h : en_Ok κ RX5 cX5_divide 5 wsX5_divide rm_X5_divide) (hl : xo_ln m) (hR : ∀ (n : Nat), (n : Int) ≤ m 51 2 → ∀ b, 0 ≤ b → b < 5 → 0 ≤ gs_rd (m 52) (m 53) (m 55) R n b ∧ gs_rd (m 52) (m 53) (m 55) R n b ≤ b) (K : ∀ i o o', en_G κ 129 [some (en_R 51), some (en_I t), some (en_I i), o, o'] [] (en_ar m 61 (m 51 1) (gs_rd (m 52) (m 53) (m 55) R (m 51 2).toNat)) 0 0) : ∀ (f i : Nat), (f : Int) + i = m 51 2 → ∀ o o', en_G κ 35 [some (en_R 51), some (en_I t), some (en_I (i : Int)), o, o'] [] (en_ar m 61 (m 51 1) (gs_rd (m 52) (m 53) (m 55) R i)) 0 0 := by
  have hI : ∀ k, 0 ≤ k → k < 68 → en_in κ k := hP
  obtain ⟨n0, n1, hr⟩ := hl
  intro f
  induction f with
  | zero =>
    intro i hi o o'
    refine en_iload_n (i := 2) h dX5_divide_35 rfl rfl ?_
    refine en_aload_n (i := 0) h dX5_divide_36 rfl rfl ?_
    refine en_getI (i := 2) h dX5_divide_37 fl_X5_divide_71 (hI _ (by omega) (by omega)) rfl rfl rfl (v9 := m 51 2) (by rw [en_ar_ne (by decide)]) ?_
    refine en_icmp_ge (tgt := 129) h dX5_divide_40 (by decide) (by omega) (by omega) (fun c_40 => ?_) (fun c_40 => ?_)
    · have e : i = (m 51 2).toNat := by omega
      rw [e]
      exact K _ _ _
    · exact absurd c_40 (by omega)
  | succ f ih =>
    intro i hi o o'
    have r := hr i (by omega) (by omega)
    have q1 := hR i (by omega) (m 52 i) (by omega) (by omega)
    have q2 := hR i (by omega) (m 53 i) (by omega) (by omega)
    have fin : ∀ (x a b : Int), x = min (gs_rd (m 52) (m 53) (m 55) R i (m 52 i)) (gs_rd (m 52) (m 53) (m 55) R i (m 53 i)) → m 55 i ≠ 0 → en_G κ 123 [some (en_R 51), some (en_I t), some (en_I (i : Int)), some (en_I a), some (en_I b)] [] (en_set (en_set (en_ar m 61 (m 51 1) (gs_rd (m 52) (m 53) (m 55) R i)) 61 (m 52 i) x) 61 (m 53 i) x) 0 0 := by
      intro x a b hx c_43
      subst hx
      refine en_iinc h dX5_divide_123 rfl (by decide) ?_
      refine en_goto (tgt := 35) h dX5_divide_126 (by decide) ?_
      have e : en_set (en_set (en_ar m 61 (m 51 1) (gs_rd (m 52) (m 53) (m 55) R i)) 61 (m 52 i) (min (gs_rd (m 52) (m 53) (m 55) R i (m 52 i)) (gs_rd (m 52) (m 53) (m 55) R i (m 53 i)))) 61 (m 53 i) (min (gs_rd (m 52) (m 53) (m 55) R i (m 52 i)) (gs_rd (m 52) (m 53) (m 55) R i (m 53 i))) = en_ar m 61 (m 51 1) (gs_rd (m 52) (m 53) (m 55) R (i + 1)) := by
        rw [en_ar_set (by omega) (by omega), en_ar_set (by omega) (by omega)]
        congr 1
        funext b
        simp only [gs_rd, gs_ln, gs_up]
        rw [if_neg c_43]
      rw [e]
      exact ih (i + 1) (by omega) _ _
    refine en_iload_n (i := 2) h dX5_divide_35 rfl rfl ?_
    refine en_aload_n (i := 0) h dX5_divide_36 rfl rfl ?_
    refine en_getI (i := 2) h dX5_divide_37 fl_X5_divide_71 (hI _ (by omega) (by omega)) rfl rfl rfl (v9 := m 51 2) (by rw [en_ar_ne (by decide)]) ?_
    refine en_icmp_ge (tgt := 129) h dX5_divide_40 (by decide) (by omega) (by omega) (fun c_40 => ?_) (fun c_40 => ?_)
    · exact absurd c_40 (by omega)
    · refine en_aload_n (i := 0) h dX5_divide_43 rfl rfl ?_
      refine en_getR h dX5_divide_44 fl_X5_divide_19 (hI _ (by omega) (by omega)) rfl rfl ?_
      refine en_iload_n (i := 2) h dX5_divide_47 rfl rfl ?_
      refine en_zaload h dX5_divide_48 (hI _ (by omega) (by omega)) rfl (by omega) (v9 := m 55 i) (by rw [en_ar_ne (by decide)]) ?_
      refine en_if_eq (tgt := 123) h dX5_divide_49 (by decide) (by omega) (fun c_49 => ?_) (fun c_49 => ?_)
      · refine en_iinc h dX5_divide_123 rfl (by decide) ?_
        refine en_goto (tgt := 35) h dX5_divide_126 (by decide) ?_
        have e : gs_rd (m 52) (m 53) (m 55) R i = gs_rd (m 52) (m 53) (m 55) R (i + 1) := by
          simp only [gs_rd, gs_ln]
          rw [if_pos c_49]
        rw [e]
        exact ih (i + 1) (by omega) _ _
      · refine en_aload_n (i := 0) h dX5_divide_52 rfl rfl ?_
        refine en_getR h dX5_divide_53 fl_X5_divide_38 (hI _ (by omega) (by omega)) rfl rfl ?_
        refine en_aload_n (i := 0) h dX5_divide_56 rfl rfl ?_
        refine en_getR h dX5_divide_57 fl_X5_divide_7 (hI _ (by omega) (by omega)) rfl rfl ?_
        refine en_iload_n (i := 2) h dX5_divide_60 rfl rfl ?_
        refine en_iaload h dX5_divide_61 (hI _ (by omega) (by omega)) rfl (by omega) (v9 := m 52 i) (by rw [en_ar_ne (by decide)]) ?_
        refine en_iaload h dX5_divide_62 (hI _ (by omega) (by omega)) rfl (by omega) (v9 := gs_rd (m 52) (m 53) (m 55) R i (m 52 i)) (by rw [en_ar_at (by omega) (by omega)]) ?_
        refine en_istore_n (i := 3) h dX5_divide_63 rfl (by decide) ?_
        refine en_aload_n (i := 0) h dX5_divide_64 rfl rfl ?_
        refine en_getR h dX5_divide_65 fl_X5_divide_38 (hI _ (by omega) (by omega)) rfl rfl ?_
        refine en_aload_n (i := 0) h dX5_divide_68 rfl rfl ?_
        refine en_getR h dX5_divide_69 fl_X5_divide_13 (hI _ (by omega) (by omega)) rfl rfl ?_
        refine en_iload_n (i := 2) h dX5_divide_72 rfl rfl ?_
        refine en_iaload h dX5_divide_73 (hI _ (by omega) (by omega)) rfl (by omega) (v9 := m 53 i) (by rw [en_ar_ne (by decide)]) ?_
        refine en_iaload h dX5_divide_74 (hI _ (by omega) (by omega)) rfl (by omega) (v9 := gs_rd (m 52) (m 53) (m 55) R i (m 53 i)) (by rw [en_ar_at (by omega) (by omega)]) ?_
        refine en_istore (i := 4) h dX5_divide_75 (by decide) ?_
        refine en_aload_n (i := 0) h dX5_divide_77 rfl rfl ?_
        refine en_getR h dX5_divide_78 fl_X5_divide_38 (hI _ (by omega) (by omega)) rfl rfl ?_
        refine en_aload_n (i := 0) h dX5_divide_81 rfl rfl ?_
        refine en_getR h dX5_divide_82 fl_X5_divide_7 (hI _ (by omega) (by omega)) rfl rfl ?_
        refine en_iload_n (i := 2) h dX5_divide_85 rfl rfl ?_
        refine en_iaload h dX5_divide_86 (hI _ (by omega) (by omega)) rfl (by omega) (v9 := m 52 i) (by rw [en_ar_ne (by decide)]) ?_
        refine en_iload_n (i := 3) h dX5_divide_87 rfl rfl ?_
        refine en_iload (i := 4) h dX5_divide_88 rfl ?_
        refine en_icmp_ge (tgt := 97) h dX5_divide_90 (by decide) (by omega) (by omega) (fun c_90 => ?_) (fun c_90 => ?_)
        · refine en_iload (i := 4) h dX5_divide_97 rfl ?_
          refine en_iastore h dX5_divide_99 (hI _ (by omega) (by omega)) rfl (by omega) ?_
          refine en_aload_n (i := 0) h dX5_divide_100 rfl rfl ?_
          refine en_getR h dX5_divide_101 fl_X5_divide_38 (hI _ (by omega) (by omega)) rfl rfl ?_
          refine en_aload_n (i := 0) h dX5_divide_104 rfl rfl ?_
          refine en_getR h dX5_divide_105 fl_X5_divide_13 (hI _ (by omega) (by omega)) rfl rfl ?_
          refine en_iload_n (i := 2) h dX5_divide_108 rfl rfl ?_
          refine en_iaload h dX5_divide_109 (hI _ (by omega) (by omega)) rfl (by omega) (v9 := m 53 i) (by rw [en_set_ne (by decide), en_ar_ne (by decide)]) ?_
          refine en_iload_n (i := 3) h dX5_divide_110 rfl rfl ?_
          refine en_iload (i := 4) h dX5_divide_111 rfl ?_
          refine en_icmp_ge (tgt := 120) h dX5_divide_113 (by decide) (by omega) (by omega) (fun c_113 => ?_) (fun c_113 => ?_)
          · refine en_iload (i := 4) h dX5_divide_120 rfl ?_
            refine en_iastore h dX5_divide_122 (hI _ (by omega) (by omega)) rfl (by omega) ?_
            exact fin _ _ _ (by omega) c_49
          · exact absurd c_113 (by omega)
        · refine en_iload_n (i := 3) h dX5_divide_93 rfl rfl ?_
          refine en_goto (tgt := 99) h dX5_divide_94 (by decide) ?_
          refine en_iastore h dX5_divide_99 (hI _ (by omega) (by omega)) rfl (by omega) ?_
          refine en_aload_n (i := 0) h dX5_divide_100 rfl rfl ?_
          refine en_getR h dX5_divide_101 fl_X5_divide_38 (hI _ (by omega) (by omega)) rfl rfl ?_
          refine en_aload_n (i := 0) h dX5_divide_104 rfl rfl ?_
          refine en_getR h dX5_divide_105 fl_X5_divide_13 (hI _ (by omega) (by omega)) rfl rfl ?_
          refine en_iload_n (i := 2) h dX5_divide_108 rfl rfl ?_
          refine en_iaload h dX5_divide_109 (hI _ (by omega) (by omega)) rfl (by omega) (v9 := m 53 i) (by rw [en_set_ne (by decide), en_ar_ne (by decide)]) ?_
          refine en_iload_n (i := 3) h dX5_divide_110 rfl rfl ?_
          refine en_iload (i := 4) h dX5_divide_111 rfl ?_
          refine en_icmp_ge (tgt := 120) h dX5_divide_113 (by decide) (by omega) (by omega) (fun c_113 => ?_) (fun c_113 => ?_)
          · exact absurd c_113 (by omega)
          · refine en_iload_n (i := 3) h dX5_divide_116 rfl rfl ?_
            refine en_goto (tgt := 122) h dX5_divide_117 (by decide) ?_
            refine en_iastore h dX5_divide_122 (hI _ (by omega) (by omega)) rfl (by omega) ?_
            exact fin _ _ _ (by omega) c_49
set_option maxRecDepth 100000 in
set_option maxHeartbeats 4000000 in
theorem lp_X5_divide_B {κ : en_C} {m : en_M} (hW : en_Wok (en_w κ)) (hP : en_Has (en_w κ) 0 68) (h : en_Ok κ RX5 cX5_divide 5 wsX5_divide rm_X5_divide) (hf : en_fin κ rm_X5_divide none (fun r m' => r = none ∧ m' = mo_dv m)) (hl : xo_ln m) : ∀ (f i : Nat), (f : Int) + i = m 51 1 → ∀ o o' o'', en_G κ 25 [some (en_R 51), some (en_I (i : Int)), o, o', o''] [] (en_ar m 61 (m 51 1) (gs_it (m 51 2).toNat (m 52) (m 53) (m 55) i)) 0 0 := by
  have hI : ∀ k, 0 ≤ k → k < 68 → en_in κ k := hP
  obtain ⟨n0, n1, hr⟩ := id hl
  intro f
  induction f with
  | zero =>
    intro i hi o o' o''
    refine en_iload_n (i := 1) h dX5_divide_25 rfl rfl ?_
    refine en_aload_n (i := 0) h dX5_divide_26 rfl rfl ?_
    refine en_getI (i := 1) h dX5_divide_27 fl_X5_divide_60 (hI _ (by omega) (by omega)) rfl rfl rfl (v9 := m 51 1) (by rw [en_ar_ne (by decide)]) ?_
    refine en_icmp_ge (tgt := 135) h dX5_divide_30 (by decide) (by omega) (by omega) (fun c_30 => ?_) (fun c_30 => ?_)
    · exact en_vret h hf dX5_divide_135 ⟨by decide, by decide⟩ ⟨rfl, by unfold mo_dv; rw [show (m 51 1).toNat = i by omega]⟩
    · exact absurd c_30 (by omega)
  | succ f ih =>
    intro i hi o o' o''
    refine en_iload_n (i := 1) h dX5_divide_25 rfl rfl ?_
    refine en_aload_n (i := 0) h dX5_divide_26 rfl rfl ?_
    refine en_getI (i := 1) h dX5_divide_27 fl_X5_divide_60 (hI _ (by omega) (by omega)) rfl rfl rfl (v9 := m 51 1) (by rw [en_ar_ne (by decide)]) ?_
    refine en_icmp_ge (tgt := 135) h dX5_divide_30 (by decide) (by omega) (by omega) (fun c_30 => ?_) (fun c_30 => ?_)
    · exact absurd c_30 (by omega)
    · refine en_iconst h dX5_divide_33 ?_
      refine en_istore_n (i := 2) h dX5_divide_34 rfl (by decide) ?_
      refine lp_X5_divide_C (R := gs_it (m 51 2).toNat (m 52) (m 53) (m 55) i) hW hP h hl ?_ ?_ (m 51 2).toNat 0 (by omega) _ _
      · intro n hn2 b b0 b1
        exact gs_rd_rng i n (by omega) b b0 (fun j j0 j1 => ⟨(hr j j0 (by omega)).1.1, (hr j j0 (by omega)).2.1.1⟩)
      · intro i2 _ _
        refine en_iinc h dX5_divide_129 rfl (by decide) ?_
        refine en_goto (tgt := 25) h dX5_divide_132 (by decide) ?_
        exact ih (i + 1) (by omega) _ _ _
set_option maxRecDepth 100000 in
set_option maxHeartbeats 4000000 in
theorem k_X5_divide {l : Launch} {w : en_W} {m : en_M} (hw : en_Wok w) (hp : en_Has w 0 68) (hl : xo_ln m) : en_Met l w yX5_divide wsX5_divide rm_X5_divide [en_R 51] m (fun r m' => r = none ∧ m' = mo_dv m) := by
  refine en_met my_X5_divide hw (Nat.le_of_ble_eq_true rfl) ?_
  intro κ hl9 hw9 h hf
  subst hw9
  subst hl9
  have hI : ∀ k, 0 ≤ k → k < 68 → en_in κ k := hp
  obtain ⟨n0, n1, hr⟩ := id hl
  refine en_iconst h dX5_divide_0 ?_
  refine en_istore_n (i := 1) h dX5_divide_1 rfl (by decide) ?_
  rw [← en_ar_0 (m := m) (k := 61) (f := fun b => b)]
  refine lp_X5_divide_A hp h n0 ?_ (m 51 1).toNat 0 (by omega)
  intro i
  refine en_iconst h dX5_divide_23 ?_
  refine en_istore_n (i := 1) h dX5_divide_24 rfl (by decide) ?_
  exact lp_X5_divide_B hw hp h hf hl (m 51 1).toNat 0 (by omega) _ _ _
