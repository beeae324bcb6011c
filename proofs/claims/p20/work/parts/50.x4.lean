/-! CLASS 5: lines -/
abbrev rm_X4_addLine : Room := { frames := 7, cells := 6, slots := 36, locals := 112 }
theorem my_X4_addLine : en_MY yX4_addLine RX4 cX4_addLine 4 (some .int) wsX4_addLine 3 := ⟨⟨_, rfl⟩, rfl, by decide, by decide, by decide +kernel, by decide +kernel⟩
set_option maxRecDepth 20000 in
theorem fl_X4_addLine_23 : en_FL wsX4_addLine RX4 23 4 0 := ⟨_, _, _, rfl, by decide, by decide +kernel, Or.inl (by decide +kernel)⟩
set_option maxRecDepth 20000 in
theorem th_X4_addLine_55 : en_TH wsX4_addLine "GridEstimator" 55 59 "java/lang/IllegalArgumentException" := ⟨by decide +kernel, by decide +kernel, by decide +kernel, by decide +kernel, by decide +kernel, by decide +kernel⟩
set_option maxRecDepth 20000 in
theorem th_X4_addLine_68 : en_TH wsX4_addLine "GridEstimator" 68 72 "java/lang/IllegalStateException" := ⟨by decide +kernel, by decide +kernel, by decide +kernel, by decide +kernel, by decide +kernel, by decide +kernel⟩
set_option maxRecDepth 100000 in
set_option maxHeartbeats 4000000 in
theorem k_X4_addLine {l : Launch} {w : en_W} {m : en_M} (hw : en_Wok w) (hp : en_Has w 0 50) (hl : l.stackTraces = false) {f s g : Int} (hc : xc_ln m) (rf : en_i32 f) (rs : en_i32 s) (rg : en_i32 g) : en_MetX l w yX4_addLine wsX4_addLine rm_X4_addLine [en_R 49, en_I f, en_I s, en_I g] m (fun r m' => r = some (en_I (m 0 1)) ∧ m' = xm_fl (xm_ap m f s g) ∧ (0 ≤ f ∧ f < m 0 0) ∧ (0 ≤ s ∧ s < m 0 0) ∧ f ≠ s ∧ (1 ≤ g ∧ g ≤ 2) ∧ m 0 1 < 8 ∧ gs_hb (m 1) (m 2) f s (m 0 1).toNat = false) (fun E m' => m' = m ∧ ((E = eIO ∧ ¬ ((0 ≤ f ∧ f < m 0 0) ∧ (0 ≤ s ∧ s < m 0 0))) ∨ (E = eIA ∧ ((0 ≤ f ∧ f < m 0 0) ∧ (0 ≤ s ∧ s < m 0 0)) ∧ ¬ (f ≠ s ∧ (1 ≤ g ∧ g ≤ 2))) ∨ (E = eIS ∧ ((0 ≤ f ∧ f < m 0 0) ∧ (0 ≤ s ∧ s < m 0 0)) ∧ (f ≠ s ∧ (1 ≤ g ∧ g ≤ 2)) ∧ ¬ (m 0 1 < 8 ∧ gs_hb (m 1) (m 2) f s (m 0 1).toNat = false)))) := by
  refine en_metX my_X4_addLine hw hl (Nat.le_of_ble_eq_true rfl) ?_
  intro κ hl9 hw9 h hfx hx9
  have hf := hfx.fin
  subst hw9
  subst hl9
  have hI : ∀ k, 0 ≤ k → k < 50 → en_in κ k := hp
  obtain ⟨n0, n1, hr, hz, hz2⟩ := hc
  refine en_aload_n (i := 0) h dX4_addLine_0 rfl rfl ?_
  refine en_iload_n (i := 1) h dX4_addLine_1 rfl rfl ?_
  refine en_callVX h hfx hx9 (k_X4_requireBus hw hI hl rf (by omega)) my_X4_requireBus gX4_addLine_X4_requireBus (hI _ (by omega) (by omega)) rfl rfl rfl rfl ⟨by decide, by decide⟩ ⟨by decide, by decide⟩ (Nat.le_of_ble_eq_true rfl) dX4_addLine_2 (fun E M hx => ⟨hx.2.1, Or.inl ⟨hx.1, fun z => hx.2.2 z.1⟩⟩) (fun r M1 hp => ?_)
  obtain ⟨rfl, e1, f0, f1⟩ := hp
  subst e1
  refine en_aload_n (i := 0) h dX4_addLine_5 rfl rfl ?_
  refine en_iload_n (i := 2) h dX4_addLine_6 rfl rfl ?_
  refine en_callVX h hfx hx9 (k_X4_requireBus hw hI hl rs (by omega)) my_X4_requireBus gX4_addLine_X4_requireBus (hI _ (by omega) (by omega)) rfl rfl rfl rfl ⟨by decide, by decide⟩ ⟨by decide, by decide⟩ (Nat.le_of_ble_eq_true rfl) dX4_addLine_7 (fun E M hx => ⟨hx.2.1, Or.inl ⟨hx.1, fun z => hx.2.2 z.2⟩⟩) (fun r M2 hp => ?_)
  obtain ⟨rfl, e2, s0, s1⟩ := hp
  subst e2
  have ok : ∀ (o o' o'' : Option en_V), f ≠ s → 1 ≤ g → g ≤ 2 → en_G κ 45 [some (en_R 49), some (en_I f), some (en_I s), some (en_I g)] [] M2 (0 + rm_X4_requireBus.cells + rm_X4_requireBus.cells) (0 + rm_X4_requireBus.slots + rm_X4_requireBus.slots) := by
    intro _ _ _ c1 c2 c3
    refine en_aload_n (i := 0) h dX4_addLine_45 rfl rfl ?_
    refine en_getR h dX4_addLine_46 fl_X4_addLine_23 (hI _ (by omega) (by omega)) rfl rfl ?_
    refine en_callV h (k_X1_isFull hw (fun k k0 k1 => hI k k0 (by omega)) (by omega)) my_X1_isFull gX4_addLine_X1_isFull (hI _ (by omega) (by omega)) rfl rfl rfl rfl ⟨by decide, by decide⟩ ⟨by decide, by decide⟩ (Nat.le_of_ble_eq_true rfl) dX4_addLine_49 (fun r M3 hp => ?_)
    obtain ⟨rfl, e3⟩ := hp
    subst e3
    refine en_if_eq (tgt := 65) h dX4_addLine_52 (by decide) (by split <;> omega) (fun c_52 => ?_) (fun c_52 => ?_)
    · have c9 : M3 0 1 < 8 := by apply Decidable.byContradiction; intro z; rw [if_neg z] at c_52; omega
      refine en_aload_n (i := 0) h dX4_addLine_65 rfl rfl ?_
      refine en_getR h dX4_addLine_66 fl_X4_addLine_23 (hI _ (by omega) (by omega)) rfl rfl ?_
      refine en_iload_n (i := 1) h dX4_addLine_69 rfl rfl ?_
      refine en_iload_n (i := 2) h dX4_addLine_70 rfl rfl ?_
      refine en_callV h (k_X1_hasLineBetween hw (fun k k0 k1 => hI k k0 (by omega)) n1 (fun j j0 j1 => by have z := hr j j0 j1; omega) rf rs) my_X1_hasLineBetween gX4_addLine_X1_hasLineBetween (hI _ (by omega) (by omega)) rfl rfl rfl rfl ⟨by decide, by decide⟩ ⟨by decide, by decide⟩ (Nat.le_of_ble_eq_true rfl) dX4_addLine_71 (fun r M4 hp => ?_)
      obtain ⟨rfl, e4⟩ := hp
      subst e4
      refine en_if_eq (tgt := 87) h dX4_addLine_74 (by decide) (by split <;> omega) (fun c_74 => ?_) (fun c_74 => ?_)
      · have c8 : gs_hb (M4 1) (M4 2) f s (M4 0 1).toNat = false := by
          cases z : gs_hb (M4 1) (M4 2) f s (M4 0 1).toNat with
          | false => rfl
          | true => rw [if_pos z] at c_74; omega
        refine en_aload_n (i := 0) h dX4_addLine_87 rfl rfl ?_
        refine en_getR h dX4_addLine_88 fl_X4_addLine_23 (hI _ (by omega) (by omega)) rfl rfl ?_
        refine en_iload_n (i := 1) h dX4_addLine_91 rfl rfl ?_
        refine en_iload_n (i := 2) h dX4_addLine_92 rfl rfl ?_
        refine en_iload_n (i := 3) h dX4_addLine_93 rfl rfl ?_
        refine en_callV h (k_X1_append hw (fun k k0 k1 => hI k k0 (by omega)) ⟨n1.1, c9⟩ hr hz (fun b b0 b1 => hz2 _ b (by omega) c9 b0 b1) (f := f) (s := s) (g := g) ⟨f0, by omega⟩ ⟨s0, by omega⟩) my_X1_append gX4_addLine_X1_append (hI _ (by omega) (by omega)) rfl rfl rfl rfl ⟨by decide, by decide⟩ ⟨by decide, by decide⟩ (Nat.le_of_ble_eq_true rfl) dX4_addLine_94 (fun r M5 hp => ?_)
        obtain ⟨rfl, e5⟩ := hp
        exact en_iret h hf dX4_addLine_97 ⟨by decide, by decide⟩ ⟨rfl, e5, ⟨f0, f1⟩, ⟨s0, s1⟩, c1, ⟨c2, c3⟩, c9, c8⟩
      · have c8 : gs_hb (M4 1) (M4 2) f s (M4 0 1).toNat ≠ false := by
          intro z
          rw [if_neg (by rw [z]; decide)] at c_74
          omega
        exact en_throw (cls := "java/lang/IllegalStateException") (text := "a line joins these buses") (ik := 68) (is := 77) (ic := 72) h hfx hx9 th_X4_addLine_68 (by decide) (by decide) dX4_addLine_77 dX4_addLine_80 dX4_addLine_81 dX4_addLine_83 dX4_addLine_86 ⟨by decide, by decide⟩ ⟨by decide, by decide⟩ ⟨rfl, Or.inr (Or.inr ⟨rfl, ⟨⟨f0, f1⟩, ⟨s0, s1⟩⟩, ⟨c1, c2, c3⟩, fun z => c8 z.2⟩)⟩
    · have c9 : ¬ M3 0 1 < 8 := fun z => by rw [if_pos z] at c_52; omega
      exact en_throw (cls := "java/lang/IllegalStateException") (text := "there are as many lines as there may be") (ik := 68) (is := 70) (ic := 72) h hfx hx9 th_X4_addLine_68 (by decide) (by decide) dX4_addLine_55 dX4_addLine_58 dX4_addLine_59 dX4_addLine_61 dX4_addLine_64 ⟨by decide, by decide⟩ ⟨by decide, by decide⟩ ⟨rfl, Or.inr (Or.inr ⟨rfl, ⟨⟨f0, f1⟩, ⟨s0, s1⟩⟩, ⟨c1, c2, c3⟩, fun z => c9 z.1⟩)⟩
  refine en_iload_n (i := 1) h dX4_addLine_10 rfl rfl ?_
  refine en_iload_n (i := 2) h dX4_addLine_11 rfl rfl ?_
  refine en_icmp_ne (tgt := 25) h dX4_addLine_12 (by decide) (by omega) (by omega) (fun c_12 => ?_) (fun c_12 => ?_)
  · refine en_iload_n (i := 3) h dX4_addLine_25 rfl rfl ?_
    refine en_iconst h dX4_addLine_26 ?_
    refine en_icmp_lt (tgt := 35) h dX4_addLine_27 (by decide) (by omega) (by omega) (fun c_27 => ?_) (fun c_27 => ?_)
    · exact en_throw (cls := "java/lang/IllegalArgumentException") (text := "the strength is out of range") (ik := 55) (is := 62) (ic := 59) h hfx hx9 th_X4_addLine_55 (by decide) (by decide) dX4_addLine_35 dX4_addLine_38 dX4_addLine_39 dX4_addLine_41 dX4_addLine_44 ⟨by decide, by decide⟩ ⟨by decide, by decide⟩ ⟨rfl, Or.inr (Or.inl ⟨rfl, ⟨⟨f0, f1⟩, ⟨s0, s1⟩⟩, fun z => by omega⟩)⟩
    · refine en_iload_n (i := 3) h dX4_addLine_30 rfl rfl ?_
      refine en_iconst h dX4_addLine_31 ?_
      refine en_icmp_le (tgt := 45) h dX4_addLine_32 (by decide) (by omega) (by omega) (fun c_32 => ?_) (fun c_32 => ?_)
      · exact ok none none none c_12 (by omega) (by omega)
      · exact en_throw (cls := "java/lang/IllegalArgumentException") (text := "the strength is out of range") (ik := 55) (is := 62) (ic := 59) h hfx hx9 th_X4_addLine_55 (by decide) (by decide) dX4_addLine_35 dX4_addLine_38 dX4_addLine_39 dX4_addLine_41 dX4_addLine_44 ⟨by decide, by decide⟩ ⟨by decide, by decide⟩ ⟨rfl, Or.inr (Or.inl ⟨rfl, ⟨⟨f0, f1⟩, ⟨s0, s1⟩⟩, fun z => by omega⟩)⟩
  · exact en_throw (cls := "java/lang/IllegalArgumentException") (text := "a line joins two buses") (ik := 55) (is := 57) (ic := 59) h hfx hx9 th_X4_addLine_55 (by decide) (by decide) dX4_addLine_15 dX4_addLine_18 dX4_addLine_19 dX4_addLine_21 dX4_addLine_24 ⟨by decide, by decide⟩ ⟨by decide, by decide⟩ ⟨rfl, Or.inr (Or.inl ⟨rfl, ⟨⟨f0, f1⟩, ⟨s0, s1⟩⟩, fun z => by omega⟩)⟩
abbrev rm_X4_setBreaker : Room := { frames := 6, cells := 1, slots := 6, locals := 111 }
theorem my_X4_setBreaker : en_MY yX4_setBreaker RX4 cX4_setBreaker 3 (some .boolean) wsX4_setBreaker 2 := ⟨⟨_, rfl⟩, rfl, by decide, by decide, by decide +kernel, by decide +kernel⟩
set_option maxRecDepth 20000 in
theorem fl_X4_setBreaker_23 : en_FL wsX4_setBreaker RX4 23 4 0 := ⟨_, _, _, rfl, by decide, by decide +kernel, Or.inl (by decide +kernel)⟩
set_option maxRecDepth 20000 in
theorem th_X4_setBreaker_87 : en_TH wsX4_setBreaker "GridEstimator" 87 91 "java/lang/IndexOutOfBoundsException" := ⟨by decide +kernel, by decide +kernel, by decide +kernel, by decide +kernel, by decide +kernel, by decide +kernel⟩
set_option maxRecDepth 100000 in
set_option maxHeartbeats 4000000 in
theorem k_X4_setBreaker {l : Launch} {w : en_W} {m : en_M} (hw : en_Wok w) (hp : en_Has w 0 50) (hl : l.stackTraces = false) {i c : Int} (hc : xc_ln m) (ri : en_i32 i) (c0 : c = 0 ∨ c = 1) : en_MetX l w yX4_setBreaker wsX4_setBreaker rm_X4_setBreaker [en_R 49, en_I i, en_I c] m (fun r m' => r = some (en_I (m 4 i)) ∧ m' = xm_fl (xm_sw m i c) ∧ 0 ≤ i ∧ i < m 0 1) (fun E m' => E = eIO ∧ m' = m ∧ ¬ (0 ≤ i ∧ i < m 0 1)) := by
  refine en_metX my_X4_setBreaker hw hl (Nat.le_of_ble_eq_true rfl) ?_
  intro κ hl9 hw9 h hfx hx9
  have hf := hfx.fin
  subst hw9
  subst hl9
  have hI : ∀ k, 0 ≤ k → k < 50 → en_in κ k := hp
  obtain ⟨n0, n1, hr, hz, hz2⟩ := hc
  refine en_aload_n (i := 0) h dX4_setBreaker_0 rfl rfl ?_
  refine en_getR h dX4_setBreaker_1 fl_X4_setBreaker_23 (hI _ (by omega) (by omega)) rfl rfl ?_
  refine en_iload_n (i := 1) h dX4_setBreaker_4 rfl rfl ?_
  refine en_callV h (k_X1_hasLine hw (fun k k0 k1 => hI k k0 (by omega)) ri (by omega)) my_X1_hasLine gX4_setBreaker_X1_hasLine (hI _ (by omega) (by omega)) rfl rfl rfl rfl ⟨by decide, by decide⟩ ⟨by decide, by decide⟩ (Nat.le_of_ble_eq_true rfl) dX4_setBreaker_5 (fun r M1 hp => ?_)
  obtain ⟨rfl, e1⟩ := hp
  subst e1
  refine en_if_ne (tgt := 21) h dX4_setBreaker_8 (by decide) (by split <;> omega) (fun c_8 => ?_) (fun c_8 => ?_)
  · have c9 : 0 ≤ i ∧ i < M1 0 1 := by apply Decidable.byContradiction; intro z; rw [if_neg z] at c_8; omega
    refine en_aload_n (i := 0) h dX4_setBreaker_21 rfl rfl ?_
    refine en_getR h dX4_setBreaker_22 fl_X4_setBreaker_23 (hI _ (by omega) (by omega)) rfl rfl ?_
    refine en_iload_n (i := 1) h dX4_setBreaker_25 rfl rfl ?_
    refine en_iload_n (i := 2) h dX4_setBreaker_26 rfl rfl ?_
    refine en_callV h (k_X1_switchTo hw (fun k k0 k1 => hI k k0 (by omega)) n1 hr hz c9 c0) my_X1_switchTo gX4_setBreaker_X1_switchTo (hI _ (by omega) (by omega)) rfl rfl rfl rfl ⟨by decide, by decide⟩ ⟨by decide, by decide⟩ (Nat.le_of_ble_eq_true rfl) dX4_setBreaker_27 (fun r M2 hp => ?_)
    obtain ⟨rfl, e2⟩ := hp
    have h4 := (hr i c9.1 c9.2).2.2.2.2
    exact en_zret h hf dX4_setBreaker_30 ⟨by decide, by decide⟩ (by omega) ⟨rfl, e2, c9⟩
  · have c9 : ¬ (0 ≤ i ∧ i < M1 0 1) := fun z => by rw [if_pos z] at c_8; omega
    exact en_throw (cls := "java/lang/IndexOutOfBoundsException") (text := "there is no such line") (ik := 87) (is := 89) (ic := 91) h hfx hx9 th_X4_setBreaker_87 (by decide) (by decide) dX4_setBreaker_11 dX4_setBreaker_14 dX4_setBreaker_15 dX4_setBreaker_17 dX4_setBreaker_20 ⟨by decide, by decide⟩ ⟨by decide, by decide⟩ ⟨rfl, rfl, c9⟩
abbrev rm_X4_islands : Room := { frames := 1, cells := 0, slots := 0, locals := 0 }
theorem my_X4_islands : en_MY yX4_islands RX4 cX4_islands 3 (some .int) wsX4_islands 0 := ⟨⟨_, rfl⟩, rfl, by decide, by decide, by decide +kernel, by decide +kernel⟩
set_option maxRecDepth 20000 in
theorem fl_X4_islands_23 : en_FL wsX4_islands RX4 23 4 0 := ⟨_, _, _, rfl, by decide, by decide +kernel, Or.inl (by decide +kernel)⟩
set_option maxRecDepth 20000 in
theorem fl_X4_islands_96 : en_FL wsX4_islands RX4 96 1 0 := ⟨_, _, _, rfl, by decide, by decide +kernel, Or.inr (by decide +kernel)⟩
set_option maxRecDepth 20000 in
theorem fl_X4_islands_100 : en_FL wsX4_islands RX4 100 1 6 := ⟨_, _, _, rfl, by decide, by decide +kernel, Or.inr (by decide +kernel)⟩
/-- how many of the first n buses are references -/
def gs_is (R : Int → Int) : Nat → Int
  | 0 => 0
  | n + 1 => gs_is R n + (if R (n : Int) = (n : Int) then 1 else 0)
theorem gs_is_rng (R : Int → Int) : ∀ n : Nat, 0 ≤ gs_is R n ∧ gs_is R n ≤ n
  | 0 => by simp [gs_is]
  | n + 1 => by
    have h := gs_is_rng R n
    simp only [gs_is]
    split <;> omega
set_option maxRecDepth 100000 in
set_option maxHeartbeats 4000000 in
theorem lp_X4_islands {κ : en_C} {m : en_M} (hW : en_Wok (en_w κ)) (hP : en_Has (en_w κ) 0 50) (h : en_Ok κ RX4 cX4_islands 3 wsX4_islands rm_X4_islands) (hf : en_fin κ rm_X4_islands (some .int) (fun r m' => r = some (en_I (gs_is (m 5) (m 0 0).toNat)) ∧ m' = m)) (hn : 2 ≤ m 0 0 ∧ m 0 0 ≤ 5) (hr : ∀ b, 0 ≤ b → b < 5 → en_i32 (m 5 b)) : ∀ (f b : Nat), (f : Int) + b = m 0 0 → en_G κ 4 [some (en_R 49), some (en_I (gs_is (m 5) b)), some (en_I (b : Int))] [] m 0 0 := by
  have hI : ∀ k, 0 ≤ k → k < 50 → en_in κ k := hP
  intro f
  induction f with
  | zero =>
    intro b hb
    have z := gs_is_rng (m 5) b
    refine en_iload_n (i := 2) h dX4_islands_4 rfl rfl ?_
    refine en_aload_n (i := 0) h dX4_islands_5 rfl rfl ?_
    refine en_getR h dX4_islands_6 fl_X4_islands_23 (hI _ (by omega) (by omega)) rfl rfl ?_
    refine en_getI (i := 0) h dX4_islands_9 fl_X4_islands_96 (hI _ (by omega) (by omega)) rfl rfl rfl rfl ?_
    refine en_icmp_ge (tgt := 37) h dX4_islands_12 (by decide) (by omega) (by omega) (fun c_12 => ?_) (fun c_12 => ?_)
    · refine en_iload_n (i := 1) h dX4_islands_37 rfl rfl ?_
      exact en_iret h hf dX4_islands_38 ⟨by decide, by decide⟩ ⟨by rw [show (m 0 0).toNat = b by omega], rfl⟩
    · exact absurd c_12 (by omega)
  | succ f ih =>
    intro b hb
    have z := gs_is_rng (m 5) b
    have ih9 := ih (b + 1) (by omega)
    simp only [gs_is] at ih9
    refine en_iload_n (i := 2) h dX4_islands_4 rfl rfl ?_
    refine en_aload_n (i := 0) h dX4_islands_5 rfl rfl ?_
    refine en_getR h dX4_islands_6 fl_X4_islands_23 (hI _ (by omega) (by omega)) rfl rfl ?_
    refine en_getI (i := 0) h dX4_islands_9 fl_X4_islands_96 (hI _ (by omega) (by omega)) rfl rfl rfl rfl ?_
    refine en_icmp_ge (tgt := 37) h dX4_islands_12 (by decide) (by omega) (by omega) (fun c_12 => ?_) (fun c_12 => ?_)
    · exact absurd c_12 (by omega)
    · refine en_aload_n (i := 0) h dX4_islands_15 rfl rfl ?_
      refine en_getR h dX4_islands_16 fl_X4_islands_23 (hI _ (by omega) (by omega)) rfl rfl ?_
      refine en_getR h dX4_islands_19 fl_X4_islands_100 (hI _ (by omega) (by omega)) rfl rfl ?_
      refine en_iload_n (i := 2) h dX4_islands_22 rfl rfl ?_
      refine en_iaload h dX4_islands_23 (hI _ (by omega) (by omega)) rfl (by omega) rfl ?_
      refine en_iload_n (i := 2) h dX4_islands_24 rfl rfl ?_
      refine en_icmp_ne (tgt := 31) h dX4_islands_25 (by decide) (hr _ (by omega) (by omega)) (by omega) (fun c_25 => ?_) (fun c_25 => ?_)
      · rw [if_neg c_25, Int.add_zero] at ih9
        refine en_iinc h dX4_islands_31 rfl (by decide) ?_
        refine en_goto (tgt := 4) h dX4_islands_34 (by decide) ?_
        exact ih9
      · rw [if_pos c_25] at ih9
        refine en_iinc h dX4_islands_28 rfl (by decide) ?_
        refine en_iinc h dX4_islands_31 rfl (by decide) ?_
        refine en_goto (tgt := 4) h dX4_islands_34 (by decide) ?_
        exact ih9
set_option maxRecDepth 100000 in
set_option maxHeartbeats 4000000 in
theorem k_X4_islands {l : Launch} {w : en_W} {m : en_M} (hw : en_Wok w) (hp : en_Has w 0 50) (hn : 2 ≤ m 0 0 ∧ m 0 0 ≤ 5) (hr : ∀ b, 0 ≤ b → b < 5 → en_i32 (m 5 b)) : en_Met l w yX4_islands wsX4_islands rm_X4_islands [en_R 49] m (fun r m' => r = some (en_I (gs_is (m 5) (m 0 0).toNat)) ∧ m' = m) := by
  refine en_met my_X4_islands hw (Nat.le_of_ble_eq_true rfl) ?_
  intro κ hl9 hw9 h hf
  subst hw9
  subst hl9
  have hI : ∀ k, 0 ≤ k → k < 50 → en_in κ k := hp
  refine en_iconst h dX4_islands_0 ?_
  refine en_istore_n (i := 1) h dX4_islands_1 rfl (by decide) ?_
  refine en_iconst h dX4_islands_2 ?_
  refine en_istore_n (i := 2) h dX4_islands_3 rfl (by decide) ?_
  exact lp_X4_islands hw hI h hf hn hr (m 0 0).toNat 0 (by omega)
abbrev rm_X4_reference : Room := { frames := 7, cells := 1, slots := 6, locals := 111 }
theorem my_X4_reference : en_MY yX4_reference RX4 cX4_reference 2 (some .int) wsX4_reference 1 := ⟨⟨_, rfl⟩, rfl, by decide, by decide, by decide +kernel, by decide +kernel⟩
set_option maxRecDepth 20000 in
theorem fl_X4_reference_23 : en_FL wsX4_reference RX4 23 4 0 := ⟨_, _, _, rfl, by decide, by decide +kernel, Or.inl (by decide +kernel)⟩
set_option maxRecDepth 20000 in
theorem fl_X4_reference_100 : en_FL wsX4_reference RX4 100 1 6 := ⟨_, _, _, rfl, by decide, by decide +kernel, Or.inr (by decide +kernel)⟩
set_option maxRecDepth 100000 in
set_option maxHeartbeats 4000000 in
theorem k_X4_reference {l : Launch} {w : en_W} {m : en_M} (hw : en_Wok w) (hp : en_Has w 0 50) (hl : l.stackTraces = false) {b : Int} (hn : 2 ≤ m 0 0 ∧ m 0 0 ≤ 5) (r0 : en_i32 b) : en_MetX l w yX4_reference wsX4_reference rm_X4_reference [en_R 49, en_I b] m (fun r m' => r = some (en_I (m 5 b)) ∧ m' = m ∧ 0 ≤ b ∧ b < m 0 0) (fun E m' => E = eIO ∧ m' = m ∧ ¬ (0 ≤ b ∧ b < m 0 0)) := by
  refine en_metX my_X4_reference hw hl (Nat.le_of_ble_eq_true rfl) ?_
  intro κ hl9 hw9 h hfx hx9
  have hf := hfx.fin
  subst hw9
  subst hl9
  have hI : ∀ k, 0 ≤ k → k < 50 → en_in κ k := hp
  refine en_aload_n (i := 0) h dX4_reference_0 rfl rfl ?_
  refine en_iload_n (i := 1) h dX4_reference_1 rfl rfl ?_
  refine en_callVX h hfx hx9 (k_X4_requireBus hw hI hl r0 (by omega)) my_X4_requireBus gX4_reference_X4_requireBus (hI _ (by omega) (by omega)) rfl rfl rfl rfl ⟨by decide, by decide⟩ ⟨by decide, by decide⟩ (Nat.le_of_ble_eq_true rfl) dX4_reference_2 (fun E M hx => hx) (fun r M1 hp => ?_)
  obtain ⟨rfl, e1, b0, b1⟩ := hp
  subst e1
  refine en_aload_n (i := 0) h dX4_reference_5 rfl rfl ?_
  refine en_getR h dX4_reference_6 fl_X4_reference_23 (hI _ (by omega) (by omega)) rfl rfl ?_
  refine en_getR h dX4_reference_9 fl_X4_reference_100 (hI _ (by omega) (by omega)) rfl rfl ?_
  refine en_iload_n (i := 1) h dX4_reference_12 rfl rfl ?_
  refine en_iaload h dX4_reference_13 (hI _ (by omega) (by omega)) rfl (by omega) rfl ?_
  exact en_iret h hf dX4_reference_14 ⟨by decide, by decide⟩ ⟨rfl, rfl, b0, b1⟩
/-! CLASS 6: meters -/
abbrev rm_X4_addMeter : Room := { frames := 7, cells := 5, slots := 30, locals := 111 }
theorem my_X4_addMeter : en_MY yX4_addMeter RX4 cX4_addMeter 5 (some .int) wsX4_addMeter 4 := ⟨⟨_, rfl⟩, rfl, by decide, by decide, by decide +kernel, by decide +kernel⟩
set_option maxRecDepth 20000 in
theorem fl_X4_addMeter_23 : en_FL wsX4_addMeter RX4 23 4 0 := ⟨_, _, _, rfl, by decide, by decide +kernel, Or.inl (by decide +kernel)⟩
set_option maxRecDepth 20000 in
theorem fl_X4_addMeter_32 : en_FL wsX4_addMeter RX4 32 4 1 := ⟨_, _, _, rfl, by decide, by decide +kernel, Or.inl (by decide +kernel)⟩
set_option maxRecDepth 20000 in
theorem th_X4_addMeter_55 : en_TH wsX4_addMeter "GridEstimator" 55 59 "java/lang/IllegalArgumentException" := ⟨by decide +kernel, by decide +kernel, by decide +kernel, by decide +kernel, by decide +kernel, by decide +kernel⟩
set_option maxRecDepth 20000 in
theorem th_X4_addMeter_87 : en_TH wsX4_addMeter "GridEstimator" 87 91 "java/lang/IndexOutOfBoundsException" := ⟨by decide +kernel, by decide +kernel, by decide +kernel, by decide +kernel, by decide +kernel, by decide +kernel⟩
set_option maxRecDepth 20000 in
theorem th_X4_addMeter_68 : en_TH wsX4_addMeter "GridEstimator" 68 72 "java/lang/IllegalStateException" := ⟨by decide +kernel, by decide +kernel, by decide +kernel, by decide +kernel, by decide +kernel, by decide +kernel⟩
set_option maxRecDepth 100000 in
set_option maxHeartbeats 4000000 in
theorem k_X4_addMeter {l : Launch} {w : en_W} {m : en_M} (hw : en_Wok w) (hp : en_Has w 0 50) (hl : l.stackTraces = false) {k p r a : Int} (hn : 2 ≤ m 0 0 ∧ m 0 0 ≤ 5) (hn1 : 0 ≤ m 0 1 ∧ m 0 1 ≤ 8) (hn2 : 0 ≤ m 21 1 ∧ m 21 1 ≤ 10) (rk : en_i32 k) (rp : en_i32 p) (rr : en_i32 r) (ra : en_i32 a) : en_MetX l w yX4_addMeter wsX4_addMeter rm_X4_addMeter [en_R 49, en_I k, en_I p, en_I r, en_I a] m (fun r' m' => r' = some (en_I (m 21 1)) ∧ m' = xm_am m k p r a ∧ (k = 0 ∨ k = 1) ∧ (-50 ≤ r ∧ r ≤ 50) ∧ (1 ≤ a ∧ a ≤ 2) ∧ (0 ≤ p ∧ p < if k = 0 then m 0 1 else m 0 0) ∧ m 21 1 < 10) (fun E m' => m' = m ∧ ((E = eIA ∧ ¬ ((k = 0 ∨ k = 1) ∧ (-50 ≤ r ∧ r ≤ 50) ∧ (1 ≤ a ∧ a ≤ 2))) ∨ (E = eIO ∧ ((k = 0 ∨ k = 1) ∧ (-50 ≤ r ∧ r ≤ 50) ∧ (1 ≤ a ∧ a ≤ 2)) ∧ ¬ (0 ≤ p ∧ p < if k = 0 then m 0 1 else m 0 0)) ∨ (E = eIS ∧ ((k = 0 ∨ k = 1) ∧ (-50 ≤ r ∧ r ≤ 50) ∧ (1 ≤ a ∧ a ≤ 2)) ∧ (0 ≤ p ∧ p < if k = 0 then m 0 1 else m 0 0) ∧ ¬ m 21 1 < 10))) := by
  refine en_metX my_X4_addMeter hw hl (Nat.le_of_ble_eq_true rfl) ?_
  intro κ hl9 hw9 h hfx hx9
  have hf := hfx.fin
  subst hw9
  subst hl9
  have hI : ∀ k, 0 ≤ k → k < 50 → en_in κ k := hp
  have ok3 : (k = 0 ∨ k = 1) → (-50 ≤ r ∧ r ≤ 50) → (1 ≤ a ∧ a ≤ 2) → (0 ≤ p ∧ p < if k = 0 then m 0 1 else m 0 0) → en_G κ 85 [some (en_R 49), some (en_I k), some (en_I p), some (en_I r), some (en_I a)] [] m (0 + rm_X4_requireReading.cells) (0 + rm_X4_requireReading.slots) := by
    intro g1 g2 g3 g4
    refine en_aload_n (i := 0) h dX4_addMeter_85 rfl rfl ?_
    refine en_getR h dX4_addMeter_86 fl_X4_addMeter_32 (hI _ (by omega) (by omega)) rfl rfl ?_
    refine en_callV h (k_X2_isFull hw (fun k k0 k1 => hI k k0 (by omega)) (by omega)) my_X2_isFull gX4_addMeter_X2_isFull (hI _ (by omega) (by omega)) rfl rfl rfl rfl ⟨by decide, by decide⟩ ⟨by decide, by decide⟩ (Nat.le_of_ble_eq_true rfl) dX4_addMeter_89 (fun r M3 hp => ?_)
    obtain ⟨rfl, e3⟩ := hp
    subst e3
    refine en_if_eq (tgt := 105) h dX4_addMeter_92 (by decide) (by split <;> omega) (fun c_92 => ?_) (fun c_92 => ?_)
    · have c9 : M3 21 1 < 10 := by apply Decidable.byContradiction; intro z; rw [if_neg z] at c_92; omega
      refine en_aload_n (i := 0) h dX4_addMeter_105 rfl rfl ?_
      refine en_getR h dX4_addMeter_106 fl_X4_addMeter_32 (hI _ (by omega) (by omega)) rfl rfl ?_
      refine en_iload_n (i := 1) h dX4_addMeter_109 rfl rfl ?_
      refine en_iload_n (i := 2) h dX4_addMeter_110 rfl rfl ?_
      refine en_iload_n (i := 3) h dX4_addMeter_111 rfl rfl ?_
      refine en_iload (i := 4) h dX4_addMeter_112 rfl ?_
      refine en_callV h (k_X2_append hw (fun k k0 k1 => hI k k0 (by omega)) (k := k) (p := p) (r := r) (a := a) ⟨hn2.1, c9⟩) my_X2_append gX4_addMeter_X2_append (hI _ (by omega) (by omega)) rfl rfl rfl rfl ⟨by decide, by decide⟩ ⟨by decide, by decide⟩ (Nat.le_of_ble_eq_true rfl) dX4_addMeter_114 (fun r M4 hp => ?_)
      obtain ⟨rfl, e4⟩ := hp
      exact en_iret h hf dX4_addMeter_117 ⟨by decide, by decide⟩ ⟨rfl, e4, g1, g2, g3, g4, c9⟩
    · have c9 : ¬ M3 21 1 < 10 := fun z => by rw [if_pos z] at c_92; omega
      exact en_throw (cls := "java/lang/IllegalStateException") (text := "there are as many meters as there may be") (ik := 68) (is := 117) (ic := 72) h hfx hx9 th_X4_addMeter_68 (by decide) (by decide) dX4_addMeter_95 dX4_addMeter_98 dX4_addMeter_99 dX4_addMeter_101 dX4_addMeter_104 ⟨by decide, by decide⟩ ⟨by decide, by decide⟩ ⟨rfl, Or.inr (Or.inr ⟨rfl, ⟨g1, g2, g3⟩, g4, c9⟩)⟩
  have ok2 : (k = 0 ∨ k = 1) → (-50 ≤ r ∧ r ≤ 50) → (1 ≤ a ∧ a ≤ 2) → en_G κ 46 [some (en_R 49), some (en_I k), some (en_I p), some (en_I r), some (en_I a)] [] m (0 + rm_X4_requireReading.cells) (0 + rm_X4_requireReading.slots) := by
    intro g1 g2 g3
    refine en_iload_n (i := 1) h dX4_addMeter_46 rfl rfl ?_
    refine en_if_ne (tgt := 64) h dX4_addMeter_47 (by decide) (by omega) (fun c_47 => ?_) (fun c_47 => ?_)
    · have k9 : ¬ k = 0 := c_47
      refine en_aload_n (i := 0) h dX4_addMeter_64 rfl rfl ?_
      refine en_getR h dX4_addMeter_65 fl_X4_addMeter_23 (hI _ (by omega) (by omega)) rfl rfl ?_
      refine en_iload_n (i := 2) h dX4_addMeter_68 rfl rfl ?_
      refine en_callV h (k_X1_hasBus hw (fun k k0 k1 => hI k k0 (by omega)) rp (by omega)) my_X1_hasBus gX4_addMeter_X1_hasBus (hI _ (by omega) (by omega)) rfl rfl rfl rfl ⟨by decide, by decide⟩ ⟨by decide, by decide⟩ (Nat.le_of_ble_eq_true rfl) dX4_addMeter_69 (fun r M3 hp => ?_)
      obtain ⟨rfl, e3⟩ := hp
      subst e3
      refine en_if_ne (tgt := 85) h dX4_addMeter_72 (by decide) (by split <;> omega) (fun c_72 => ?_) (fun c_72 => ?_)
      · have c9 : 0 ≤ p ∧ p < M3 0 0 := by apply Decidable.byContradiction; intro z; rw [if_neg z] at c_72; omega
        exact ok3 g1 g2 g3 (by rw [if_neg k9]; exact c9)
      · have c9 : ¬ (0 ≤ p ∧ p < M3 0 0) := fun z => by rw [if_pos z] at c_72; omega
        exact en_throw (cls := "java/lang/IndexOutOfBoundsException") (text := "there is no such line or bus") (ik := 87) (is := 114) (ic := 91) h hfx hx9 th_X4_addMeter_87 (by decide) (by decide) dX4_addMeter_75 dX4_addMeter_78 dX4_addMeter_79 dX4_addMeter_81 dX4_addMeter_84 ⟨by decide, by decide⟩ ⟨by decide, by decide⟩ ⟨rfl, Or.inr (Or.inl ⟨rfl, ⟨g1, g2, g3⟩, by rw [if_neg k9]; exact c9⟩)⟩
    · have k9 : k = 0 := c_47
      refine en_aload_n (i := 0) h dX4_addMeter_50 rfl rfl ?_
      refine en_getR h dX4_addMeter_51 fl_X4_addMeter_23 (hI _ (by omega) (by omega)) rfl rfl ?_
      refine en_iload_n (i := 2) h dX4_addMeter_54 rfl rfl ?_
      refine en_callV h (k_X1_hasLine hw (fun k k0 k1 => hI k k0 (by omega)) rp (by omega)) my_X1_hasLine gX4_addMeter_X1_hasLine (hI _ (by omega) (by omega)) rfl rfl rfl rfl ⟨by decide, by decide⟩ ⟨by decide, by decide⟩ (Nat.le_of_ble_eq_true rfl) dX4_addMeter_55 (fun r M3 hp => ?_)
      obtain ⟨rfl, e3⟩ := hp
      subst e3
      refine en_if_ne (tgt := 85) h dX4_addMeter_58 (by decide) (by split <;> omega) (fun c_58 => ?_) (fun c_58 => ?_)
      · have c9 : 0 ≤ p ∧ p < M3 0 1 := by apply Decidable.byContradiction; intro z; rw [if_neg z] at c_58; omega
        exact ok3 g1 g2 g3 (by rw [if_pos k9]; exact c9)
      · have c9 : ¬ (0 ≤ p ∧ p < M3 0 1) := fun z => by rw [if_pos z] at c_58; omega
        refine en_goto (tgt := 75) h dX4_addMeter_61 (by decide) ?_
        exact en_throw (cls := "java/lang/IndexOutOfBoundsException") (text := "there is no such line or bus") (ik := 87) (is := 114) (ic := 91) h hfx hx9 th_X4_addMeter_87 (by decide) (by decide) dX4_addMeter_75 dX4_addMeter_78 dX4_addMeter_79 dX4_addMeter_81 dX4_addMeter_84 ⟨by decide, by decide⟩ ⟨by decide, by decide⟩ ⟨rfl, Or.inr (Or.inl ⟨rfl, ⟨g1, g2, g3⟩, by rw [if_pos k9]; exact c9⟩)⟩
  have ok1 : (k = 0 ∨ k = 1) → en_G κ 19 [some (en_R 49), some (en_I k), some (en_I p), some (en_I r), some (en_I a)] [] m 0 0 := by
    intro g1
    refine en_aload_n (i := 0) h dX4_addMeter_19 rfl rfl ?_
    refine en_iload_n (i := 3) h dX4_addMeter_20 rfl rfl ?_
    refine en_callVX h hfx hx9 (k_X4_requireReading hw hI hl rr) my_X4_requireReading gX4_addMeter_X4_requireReading (hI _ (by omega) (by omega)) rfl rfl rfl rfl ⟨by decide, by decide⟩ ⟨by decide, by decide⟩ (Nat.le_of_ble_eq_true rfl) dX4_addMeter_21 (fun E M hx => ⟨hx.2.1, Or.inl ⟨hx.1, fun z => hx.2.2 z.2.1⟩⟩) (fun r M1 hp => ?_)
    obtain ⟨rfl, e1, b0, b1⟩ := hp
    subst e1
    refine en_iload (i := 4) h dX4_addMeter_24 rfl ?_
    refine en_iconst h dX4_addMeter_26 ?_
    refine en_icmp_lt (tgt := 36) h dX4_addMeter_27 (by decide) (by omega) (by omega) (fun c_27 => ?_) (fun c_27 => ?_)
    · exact en_throw (cls := "java/lang/IllegalArgumentException") (text := "the accuracy is out of range") (ik := 55) (is := 109) (ic := 59) h hfx hx9 th_X4_addMeter_55 (by decide) (by decide) dX4_addMeter_36 dX4_addMeter_39 dX4_addMeter_40 dX4_addMeter_42 dX4_addMeter_45 ⟨by decide, by decide⟩ ⟨by decide, by decide⟩ ⟨rfl, Or.inl ⟨rfl, fun z => by omega⟩⟩
    · refine en_iload (i := 4) h dX4_addMeter_30 rfl ?_
      refine en_iconst h dX4_addMeter_32 ?_
      refine en_icmp_le (tgt := 46) h dX4_addMeter_33 (by decide) (by omega) (by omega) (fun c_33 => ?_) (fun c_33 => ?_)
      · exact ok2 g1 ⟨b0, b1⟩ (by omega)
      · exact en_throw (cls := "java/lang/IllegalArgumentException") (text := "the accuracy is out of range") (ik := 55) (is := 109) (ic := 59) h hfx hx9 th_X4_addMeter_55 (by decide) (by decide) dX4_addMeter_36 dX4_addMeter_39 dX4_addMeter_40 dX4_addMeter_42 dX4_addMeter_45 ⟨by decide, by decide⟩ ⟨by decide, by decide⟩ ⟨rfl, Or.inl ⟨rfl, fun z => by omega⟩⟩
  refine en_iload_n (i := 1) h dX4_addMeter_0 rfl rfl ?_
  refine en_if_eq (tgt := 19) h dX4_addMeter_1 (by decide) (by omega) (fun c_1 => ?_) (fun c_1 => ?_)
  · exact ok1 (Or.inl c_1)
  · refine en_iload_n (i := 1) h dX4_addMeter_4 rfl rfl ?_
    refine en_iconst h dX4_addMeter_5 ?_
    refine en_icmp_eq (tgt := 19) h dX4_addMeter_6 (by decide) (by omega) (by omega) (fun c_6 => ?_) (fun c_6 => ?_)
    · exact ok1 (Or.inr c_6)
    · exact en_throw (cls := "java/lang/IllegalArgumentException") (text := "there is no such kind of meter") (ik := 55) (is := 104) (ic := 59) h hfx hx9 th_X4_addMeter_55 (by decide) (by decide) dX4_addMeter_9 dX4_addMeter_12 dX4_addMeter_13 dX4_addMeter_15 dX4_addMeter_18 ⟨by decide, by decide⟩ ⟨by decide, by decide⟩ ⟨rfl, Or.inl ⟨rfl, fun z => by omega⟩⟩
abbrev rm_X4_read : Room := { frames := 7, cells := 2, slots := 12, locals := 111 }
theorem my_X4_read : en_MY yX4_read RX4 cX4_read 4 (some .int) wsX4_read 2 := ⟨⟨_, rfl⟩, rfl, by decide, by decide, by decide +kernel, by decide +kernel⟩
set_option maxRecDepth 20000 in
theorem fl_X4_read_32 : en_FL wsX4_read RX4 32 4 1 := ⟨_, _, _, rfl, by decide, by decide +kernel, Or.inl (by decide +kernel)⟩
set_option maxRecDepth 20000 in
theorem fl_X4_read_125 : en_FL wsX4_read RX4 125 2 4 := ⟨_, _, _, rfl, by decide, by decide +kernel, Or.inr (by decide +kernel)⟩
set_option maxRecDepth 100000 in
set_option maxHeartbeats 4000000 in
theorem k_X4_read {l : Launch} {w : en_W} {m : en_M} (hw : en_Wok w) (hp : en_Has w 0 50) (hl : l.stackTraces = false) {i r : Int} (hn2 : 0 ≤ m 21 1 ∧ m 21 1 ≤ 10) (ri : en_i32 i) (rr : en_i32 r) : en_MetX l w yX4_read wsX4_read rm_X4_read [en_R 49, en_I i, en_I r] m (fun r' m' => r' = some (en_I (m 24 i)) ∧ m' = en_set m 24 i r ∧ (0 ≤ i ∧ i < m 21 1) ∧ -50 ≤ r ∧ r ≤ 50) (fun E m' => m' = m ∧ ((E = eIO ∧ ¬ (0 ≤ i ∧ i < m 21 1)) ∨ (E = eIA ∧ (0 ≤ i ∧ i < m 21 1) ∧ ¬ (-50 ≤ r ∧ r ≤ 50)))) := by
  refine en_metX my_X4_read hw hl (Nat.le_of_ble_eq_true rfl) ?_
  intro κ hl9 hw9 h hfx hx9
  have hf := hfx.fin
  subst hw9
  subst hl9
  have hI : ∀ k, 0 ≤ k → k < 50 → en_in κ k := hp
  refine en_aload_n (i := 0) h dX4_read_0 rfl rfl ?_
  refine en_iload_n (i := 1) h dX4_read_1 rfl rfl ?_
  refine en_callVX h hfx hx9 (k_X4_requireMeter hw hI hl ri (by omega)) my_X4_requireMeter gX4_read_X4_requireMeter (hI _ (by omega) (by omega)) rfl rfl rfl rfl ⟨by decide, by decide⟩ ⟨by decide, by decide⟩ (Nat.le_of_ble_eq_true rfl) dX4_read_2 (fun E M hx => ⟨hx.2.1, Or.inl ⟨hx.1, hx.2.2⟩⟩) (fun r M1 hp => ?_)
  obtain ⟨rfl, e1, b0, b1⟩ := hp
  subst e1
  refine en_aload_n (i := 0) h dX4_read_5 rfl rfl ?_
  refine en_iload_n (i := 2) h dX4_read_6 rfl rfl ?_
  refine en_callVX h hfx hx9 (k_X4_requireReading hw hI hl rr) my_X4_requireReading gX4_read_X4_requireReading (hI _ (by omega) (by omega)) rfl rfl rfl rfl ⟨by decide, by decide⟩ ⟨by decide, by decide⟩ (Nat.le_of_ble_eq_true rfl) dX4_read_7 (fun E M hx => ⟨hx.2.1, Or.inr ⟨hx.1, ⟨b0, b1⟩, hx.2.2⟩⟩) (fun r M2 hp => ?_)
  obtain ⟨rfl, e2, b2, b3⟩ := hp
  subst e2
  refine en_aload_n (i := 0) h dX4_read_10 rfl rfl ?_
  refine en_getR h dX4_read_11 fl_X4_read_32 (hI _ (by omega) (by omega)) rfl rfl ?_
  refine en_getR h dX4_read_14 fl_X4_read_125 (hI _ (by omega) (by omega)) rfl rfl ?_
  refine en_iload_n (i := 1) h dX4_read_17 rfl rfl ?_
  refine en_iaload h dX4_read_18 (hI _ (by omega) (by omega)) rfl (by omega) rfl ?_
  refine en_istore_n (i := 3) h dX4_read_19 rfl (by decide) ?_
  refine en_aload_n (i := 0) h dX4_read_20 rfl rfl ?_
  refine en_getR h dX4_read_21 fl_X4_read_32 (hI _ (by omega) (by omega)) rfl rfl ?_
  refine en_getR h dX4_read_24 fl_X4_read_125 (hI _ (by omega) (by omega)) rfl rfl ?_
  refine en_iload_n (i := 1) h dX4_read_27 rfl rfl ?_
  refine en_iload_n (i := 2) h dX4_read_28 rfl rfl ?_
  refine en_iastore h dX4_read_29 (hI _ (by omega) (by omega)) rfl (by omega) ?_
  refine en_iload_n (i := 3) h dX4_read_30 rfl rfl ?_
  exact en_iret h hf dX4_read_31 ⟨by decide, by decide⟩ ⟨rfl, rfl, ⟨b0, b1⟩, b2, b3⟩
abbrev rm_X4_use : Room := { frames := 7, cells := 1, slots := 6, locals := 111 }
theorem my_X4_use : en_MY yX4_use RX4 cX4_use 4 (some .boolean) wsX4_use 2 := ⟨⟨_, rfl⟩, rfl, by decide, by decide, by decide +kernel, by decide +kernel⟩
set_option maxRecDepth 20000 in
theorem fl_X4_use_32 : en_FL wsX4_use RX4 32 4 1 := ⟨_, _, _, rfl, by decide, by decide +kernel, Or.inl (by decide +kernel)⟩
set_option maxRecDepth 20000 in
theorem fl_X4_use_128 : en_FL wsX4_use RX4 128 2 6 := ⟨_, _, _, rfl, by decide, by decide +kernel, Or.inr (by decide +kernel)⟩
set_option maxRecDepth 100000 in
set_option maxHeartbeats 4000000 in
theorem k_X4_use {l : Launch} {w : en_W} {m : en_M} (hw : en_Wok w) (hp : en_Has w 0 50) (hl : l.stackTraces = false) {i c : Int} (hn2 : 0 ≤ m 21 1 ∧ m 21 1 ≤ 10) (ri : en_i32 i) (c0 : c = 0 ∨ c = 1) (hu : 0 ≤ i → i < m 21 1 → m 26 i = 0 ∨ m 26 i = 1) : en_MetX l w yX4_use wsX4_use rm_X4_use [en_R 49, en_I i, en_I c] m (fun r' m' => r' = some (en_I (m 26 i)) ∧ m' = en_set m 26 i c ∧ (0 ≤ i ∧ i < m 21 1)) (fun E m' => E = eIO ∧ m' = m ∧ ¬ (0 ≤ i ∧ i < m 21 1)) := by
  refine en_metX my_X4_use hw hl (Nat.le_of_ble_eq_true rfl) ?_
  intro κ hl9 hw9 h hfx hx9
  have hf := hfx.fin
  subst hw9
  subst hl9
  have hI : ∀ k, 0 ≤ k → k < 50 → en_in κ k := hp
  refine en_aload_n (i := 0) h dX4_use_0 rfl rfl ?_
  refine en_iload_n (i := 1) h dX4_use_1 rfl rfl ?_
  refine en_callVX h hfx hx9 (k_X4_requireMeter hw hI hl ri (by omega)) my_X4_requireMeter gX4_use_X4_requireMeter (hI _ (by omega) (by omega)) rfl rfl rfl rfl ⟨by decide, by decide⟩ ⟨by decide, by decide⟩ (Nat.le_of_ble_eq_true rfl) dX4_use_2 (fun E M hx => hx) (fun r M1 hp => ?_)
  obtain ⟨rfl, e1, b0, b1⟩ := hp
  subst e1
  have u := hu b0 b1
  refine en_aload_n (i := 0) h dX4_use_5 rfl rfl ?_
  refine en_getR h dX4_use_6 fl_X4_use_32 (hI _ (by omega) (by omega)) rfl rfl ?_
  refine en_getR h dX4_use_9 fl_X4_use_128 (hI _ (by omega) (by omega)) rfl rfl ?_
  refine en_iload_n (i := 1) h dX4_use_12 rfl rfl ?_
  refine en_zaload h dX4_use_13 (hI _ (by omega) (by omega)) rfl (by omega) rfl ?_
  refine en_istore_n (i := 3) h dX4_use_14 rfl (by decide) ?_
  refine en_aload_n (i := 0) h dX4_use_15 rfl rfl ?_
  refine en_getR h dX4_use_16 fl_X4_use_32 (hI _ (by omega) (by omega)) rfl rfl ?_
  refine en_getR h dX4_use_19 fl_X4_use_128 (hI _ (by omega) (by omega)) rfl rfl ?_
  refine en_iload_n (i := 1) h dX4_use_22 rfl rfl ?_
  refine en_iload_n (i := 2) h dX4_use_23 rfl rfl ?_
  refine en_zastore h dX4_use_24 (hI _ (by omega) (by omega)) rfl (by omega) (by omega) ?_
  refine en_iload_n (i := 3) h dX4_use_25 rfl rfl ?_
  exact en_zret h hf dX4_use_26 ⟨by decide, by decide⟩ (by omega) ⟨rfl, rfl, b0, b1⟩
abbrev rm_X4_countsIn : Room := { frames := 7, cells := 1, slots := 6, locals := 111 }
theorem my_X4_countsIn : en_MY yX4_countsIn RX4 cX4_countsIn 2 (some .int) wsX4_countsIn 1 := ⟨⟨_, rfl⟩, rfl, by decide, by decide, by decide +kernel, by decide +kernel⟩
set_option maxRecDepth 20000 in
theorem fl_X4_countsIn_32 : en_FL wsX4_countsIn RX4 32 4 1 := ⟨_, _, _, rfl, by decide, by decide +kernel, Or.inl (by decide +kernel)⟩
set_option maxRecDepth 100000 in
set_option maxHeartbeats 4000000 in
theorem k_X4_countsIn {l : Launch} {w : en_W} {m : en_M} (hw : en_Wok w) (hp : en_Has w 0 50) (hl : l.stackTraces = false) {i : Int} (hv : xv_all m) (ri : en_i32 i) : en_MetX l w yX4_countsIn wsX4_countsIn rm_X4_countsIn [en_R 49, en_I i] m (fun r' m' => r' = some (en_I (xm_io m i)) ∧ m' = m ∧ (0 ≤ i ∧ i < m 21 1)) (fun E m' => E = eIO ∧ m' = m ∧ ¬ (0 ≤ i ∧ i < m 21 1)) := by
  refine en_metX my_X4_countsIn hw hl (Nat.le_of_ble_eq_true rfl) ?_
  intro κ hl9 hw9 h hfx hx9
  have hf := hfx.fin
  subst hw9
  subst hl9
  have hI : ∀ k, 0 ≤ k → k < 50 → en_in κ k := hp
  have n9 := hv.1
  refine en_aload_n (i := 0) h dX4_countsIn_0 rfl rfl ?_
  refine en_iload_n (i := 1) h dX4_countsIn_1 rfl rfl ?_
  refine en_callVX h hfx hx9 (k_X4_requireMeter hw hI hl ri (by omega)) my_X4_requireMeter gX4_countsIn_X4_requireMeter (hI _ (by omega) (by omega)) rfl rfl rfl rfl ⟨by decide, by decide⟩ ⟨by decide, by decide⟩ (Nat.le_of_ble_eq_true rfl) dX4_countsIn_2 (fun E M hx => hx) (fun r M1 hp => ?_)
  obtain ⟨rfl, e1, b0, b1⟩ := hp
  subst e1
  have v := hv.2.1 i b0 b1
  refine en_aload_n (i := 0) h dX4_countsIn_5 rfl rfl ?_
  refine en_getR h dX4_countsIn_6 fl_X4_countsIn_32 (hI _ (by omega) (by omega)) rfl rfl ?_
  refine en_iload_n (i := 1) h dX4_countsIn_9 rfl rfl ?_
  refine en_callV h (k_X2_islandOf hw (fun k k0 k1 => hI k k0 (by omega)) ⟨b0, by omega⟩ v.1 v.2.1) my_X2_islandOf gX4_countsIn_X2_islandOf (hI _ (by omega) (by omega)) rfl rfl rfl rfl ⟨by decide, by decide⟩ ⟨by decide, by decide⟩ (Nat.le_of_ble_eq_true rfl) dX4_countsIn_10 (fun r M2 hp => ?_)
  obtain ⟨rfl, e2⟩ := hp
  exact en_iret h hf dX4_countsIn_13 ⟨by decide, by decide⟩ ⟨rfl, e2, b0, b1⟩
/-! CLASS 7: observability -/
abbrev rm_X4_rank : Room := { frames := 7, cells := 1, slots := 6, locals := 111 }
theorem my_X4_rank : en_MY yX4_rank RX4 cX4_rank 2 (some .int) wsX4_rank 1 := ⟨⟨_, rfl⟩, rfl, by decide, by decide, by decide +kernel, by decide +kernel⟩
set_option maxRecDepth 20000 in
theorem fl_X4_rank_23 : en_FL wsX4_rank RX4 23 4 0 := ⟨_, _, _, rfl, by decide, by decide +kernel, Or.inl (by decide +kernel)⟩
set_option maxRecDepth 20000 in
theorem fl_X4_rank_41 : en_FL wsX4_rank RX4 41 4 2 := ⟨_, _, _, rfl, by decide, by decide +kernel, Or.inl (by decide +kernel)⟩
set_option maxRecDepth 20000 in
theorem fl_X4_rank_100 : en_FL wsX4_rank RX4 100 1 6 := ⟨_, _, _, rfl, by decide, by decide +kernel, Or.inr (by decide +kernel)⟩
set_option maxRecDepth 100000 in
set_option maxHeartbeats 4000000 in
theorem k_X4_rank {l : Launch} {w : en_W} {m : en_M} (hw : en_Wok w) (hp : en_Has w 0 50) (hl : l.stackTraces = false) {b : Int} (hc : xc m) (r0 : en_i32 b) : en_MetX l w yX4_rank wsX4_rank rm_X4_rank [en_R 49, en_I b] m (fun r m' => r = some (en_I (xm_rk m (-1) (m 5 b))) ∧ en_sc m' m ∧ xr_ok m' ∧ 0 ≤ b ∧ b < m 0 0) (fun E m' => E = eIO ∧ m' = m ∧ ¬ (0 ≤ b ∧ b < m 0 0)) := by
  refine en_metX my_X4_rank hw hl (Nat.le_of_ble_eq_true rfl) ?_
  intro κ hl9 hw9 h hfx hx9
  have hf := hfx.fin
  subst hw9
  subst hl9
  have hI : ∀ k, 0 ≤ k → k < 50 → en_in κ k := hp
  have n9 := hc.1.1
  refine en_aload_n (i := 0) h dX4_rank_0 rfl rfl ?_
  refine en_iload_n (i := 1) h dX4_rank_1 rfl rfl ?_
  refine en_callVX h hfx hx9 (k_X4_requireBus hw hI hl r0 (by omega)) my_X4_requireBus gX4_rank_X4_requireBus (hI _ (by omega) (by omega)) rfl rfl rfl rfl ⟨by decide, by decide⟩ ⟨by decide, by decide⟩ (Nat.le_of_ble_eq_true rfl) dX4_rank_2 (fun E M hx => hx) (fun r M1 hp => ?_)
  obtain ⟨rfl, e1, b0, b1⟩ := hp
  subst e1
  refine en_aload_n (i := 0) h dX4_rank_5 rfl rfl ?_
  refine en_getR h dX4_rank_6 fl_X4_rank_41 (hI _ (by omega) (by omega)) rfl rfl ?_
  refine en_iconst h dX4_rank_9 ?_
  refine en_aload_n (i := 0) h dX4_rank_10 rfl rfl ?_
  refine en_getR h dX4_rank_11 fl_X4_rank_23 (hI _ (by omega) (by omega)) rfl rfl ?_
  refine en_getR h dX4_rank_14 fl_X4_rank_100 (hI _ (by omega) (by omega)) rfl rfl ?_
  refine en_iload_n (i := 1) h dX4_rank_17 rfl rfl ?_
  refine en_iaload h dX4_rank_18 (hI _ (by omega) (by omega)) rfl (by omega) rfl ?_
  refine en_callV h (k_X3_rankWithout hw (fun k k0 k1 => hI k k0 (by omega)) hc.2.1 (by decide) (hc.2.2.1.2.2 b b0 (by omega)) hc.2.2.1) my_X3_rankWithout gX4_rank_X3_rankWithout (hI _ (by omega) (by omega)) rfl rfl rfl rfl ⟨by decide, by decide⟩ ⟨by decide, by decide⟩ (Nat.le_of_ble_eq_true rfl) dX4_rank_19 (fun r M2 hp => ?_)
  obtain ⟨rfl, e2, e3⟩ := hp
  exact en_iret h hf dX4_rank_22 ⟨by decide, by decide⟩ ⟨rfl, en_sc_of e2, e3, b0, b1⟩
abbrev rm_X4_isObservable : Room := { frames := 7, cells := 1, slots := 6, locals := 113 }
theorem my_X4_isObservable : en_MY yX4_isObservable RX4 cX4_isObservable 2 (some .boolean) wsX4_isObservable 1 := ⟨⟨_, rfl⟩, rfl, by decide, by decide, by decide +kernel, by decide +kernel⟩
set_option maxRecDepth 20000 in
theorem fl_X4_isObservable_23 : en_FL wsX4_isObservable RX4 23 4 0 := ⟨_, _, _, rfl, by decide, by decide +kernel, Or.inl (by decide +kernel)⟩
set_option maxRecDepth 20000 in
theorem fl_X4_isObservable_41 : en_FL wsX4_isObservable RX4 41 4 2 := ⟨_, _, _, rfl, by decide, by decide +kernel, Or.inl (by decide +kernel)⟩
set_option maxRecDepth 20000 in
theorem fl_X4_isObservable_100 : en_FL wsX4_isObservable RX4 100 1 6 := ⟨_, _, _, rfl, by decide, by decide +kernel, Or.inr (by decide +kernel)⟩
set_option maxRecDepth 100000 in
set_option maxHeartbeats 4000000 in
theorem k_X4_isObservable {l : Launch} {w : en_W} {m : en_M} (hw : en_Wok w) (hp : en_Has w 0 50) (hl : l.stackTraces = false) {b : Int} (hc : xc m) (r0 : en_i32 b) : en_MetX l w yX4_isObservable wsX4_isObservable rm_X4_isObservable [en_R 49, en_I b] m (fun r m' => r = some (en_I (if xm_rk m (-1) (m 5 b) = gs_cu (m 5) (m 5 b) 5 then 1 else 0)) ∧ en_sc m' m ∧ xr_ok m' ∧ 0 ≤ b ∧ b < m 0 0) (fun E m' => E = eIO ∧ m' = m ∧ ¬ (0 ≤ b ∧ b < m 0 0)) := by
  refine en_metX my_X4_isObservable hw hl (Nat.le_of_ble_eq_true rfl) ?_
  intro κ hl9 hw9 h hfx hx9
  have hf := hfx.fin
  subst hw9
  subst hl9
  have hI : ∀ k, 0 ≤ k → k < 50 → en_in κ k := hp
  have n9 := hc.1.1
  refine en_aload_n (i := 0) h dX4_isObservable_0 rfl rfl ?_
  refine en_iload_n (i := 1) h dX4_isObservable_1 rfl rfl ?_
  refine en_callVX h hfx hx9 (k_X4_requireBus hw hI hl r0 (by omega)) my_X4_requireBus gX4_isObservable_X4_requireBus (hI _ (by omega) (by omega)) rfl rfl rfl rfl ⟨by decide, by decide⟩ ⟨by decide, by decide⟩ (Nat.le_of_ble_eq_true rfl) dX4_isObservable_2 (fun E M hx => hx) (fun r M1 hp => ?_)
  obtain ⟨rfl, e1, b0, b1⟩ := hp
  subst e1
  refine en_aload_n (i := 0) h dX4_isObservable_5 rfl rfl ?_
  refine en_getR h dX4_isObservable_6 fl_X4_isObservable_41 (hI _ (by omega) (by omega)) rfl rfl ?_
  refine en_aload_n (i := 0) h dX4_isObservable_9 rfl rfl ?_
  refine en_getR h dX4_isObservable_10 fl_X4_isObservable_23 (hI _ (by omega) (by omega)) rfl rfl ?_
  refine en_getR h dX4_isObservable_13 fl_X4_isObservable_100 (hI _ (by omega) (by omega)) rfl rfl ?_
  refine en_iload_n (i := 1) h dX4_isObservable_16 rfl rfl ?_
  refine en_iaload h dX4_isObservable_17 (hI _ (by omega) (by omega)) rfl (by omega) rfl ?_
  refine en_callV h (k_X3_suffices hw (fun k k0 k1 => hI k k0 (by omega)) hc.2.1 (hc.2.2.1.2.2 b b0 (by omega)) hc.2.2.1) my_X3_suffices gX4_isObservable_X3_suffices (hI _ (by omega) (by omega)) rfl rfl rfl rfl ⟨by decide, by decide⟩ ⟨by decide, by decide⟩ (Nat.le_of_ble_eq_true rfl) dX4_isObservable_18 (fun r M2 hp => ?_)
  obtain ⟨rfl, e2, e3⟩ := hp
  exact en_zret h hf dX4_isObservable_21 ⟨by decide, by decide⟩ (by omega) ⟨rfl, en_sc_of e2, e3, b0, b1⟩
abbrev rm_X4_isCritical : Room := { frames := 7, cells := 1, slots := 6, locals := 115 }
theorem my_X4_isCritical : en_MY yX4_isCritical RX4 cX4_isCritical 2 (some .boolean) wsX4_isCritical 1 := ⟨⟨_, rfl⟩, rfl, by decide, by decide, by decide +kernel, by decide +kernel⟩
set_option maxRecDepth 20000 in
theorem fl_X4_isCritical_41 : en_FL wsX4_isCritical RX4 41 4 2 := ⟨_, _, _, rfl, by decide, by decide +kernel, Or.inl (by decide +kernel)⟩
/-- meter i is critical -/
abbrev xm_nd (m : en_M) (i : Int) : Prop := xm_io m i ≠ -1 ∧ xm_rk m (-1) (xm_io m i) = gs_cu (m 5) (xm_io m i) 5 ∧ xm_rk m i (xm_io m i) < gs_cu (m 5) (xm_io m i) 5
theorem xm_nd_ag {M m : en_M} (h : en_ag M m) (hv : xv_all m) (i : Int) : xm_nd M i ↔ xm_nd m i := by
  unfold xm_nd
  rw [xm_io_ag h, xm_rk_ag h hv, xm_rk_ag h hv, h 5 (by decide)]
set_option maxRecDepth 100000 in
set_option maxHeartbeats 4000000 in
theorem k_X4_isCritical {l : Launch} {w : en_W} {m : en_M} (hw : en_Wok w) (hp : en_Has w 0 50) (hl : l.stackTraces = false) {i : Int} (hc : xc m) (r0 : en_i32 i) : en_MetX l w yX4_isCritical wsX4_isCritical rm_X4_isCritical [en_R 49, en_I i] m (fun r m' => r = some (en_I (if xm_nd m i then 1 else 0)) ∧ en_sc m' m ∧ xr_ok m' ∧ 0 ≤ i ∧ i < m 21 1) (fun E m' => E = eIO ∧ m' = m ∧ ¬ (0 ≤ i ∧ i < m 21 1)) := by
  refine en_metX my_X4_isCritical hw hl (Nat.le_of_ble_eq_true rfl) ?_
  intro κ hl9 hw9 h hfx hx9
  have hf := hfx.fin
  subst hw9
  subst hl9
  have hI : ∀ k, 0 ≤ k → k < 50 → en_in κ k := hp
  have n9 := hc.2.2.1.1
  refine en_aload_n (i := 0) h dX4_isCritical_0 rfl rfl ?_
  refine en_iload_n (i := 1) h dX4_isCritical_1 rfl rfl ?_
  refine en_callVX h hfx hx9 (k_X4_requireMeter hw hI hl r0 (by omega)) my_X4_requireMeter gX4_isCritical_X4_requireMeter (hI _ (by omega) (by omega)) rfl rfl rfl rfl ⟨by decide, by decide⟩ ⟨by decide, by decide⟩ (Nat.le_of_ble_eq_true rfl) dX4_isCritical_2 (fun E M hx => hx) (fun r M1 hp => ?_)
  obtain ⟨rfl, e1, b0, b1⟩ := hp
  subst e1
  refine en_aload_n (i := 0) h dX4_isCritical_5 rfl rfl ?_
  refine en_getR h dX4_isCritical_6 fl_X4_isCritical_41 (hI _ (by omega) (by omega)) rfl rfl ?_
  refine en_iload_n (i := 1) h dX4_isCritical_9 rfl rfl ?_
  refine en_callV h (k_X3_needs hw (fun k k0 k1 => hI k k0 (by omega)) hc.2.1 hc.2.2.1 ⟨b0, b1⟩) my_X3_needs gX4_isCritical_X3_needs (hI _ (by omega) (by omega)) rfl rfl rfl rfl ⟨by decide, by decide⟩ ⟨by decide, by decide⟩ (Nat.le_of_ble_eq_true rfl) dX4_isCritical_10 (fun r M2 hp => ?_)
  obtain ⟨rfl, e2, e3⟩ := hp
  exact en_zret h hf dX4_isCritical_13 ⟨by decide, by decide⟩ (by split <;> omega) ⟨rfl, en_sc_of e2, e3, b0, b1⟩
