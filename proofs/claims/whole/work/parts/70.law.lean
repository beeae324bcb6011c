/-! LAW 1: wrappers that catch -/
abbrev rm_L_addLine : Room := { frames := 8, cells := 6, slots := 36, locals := 135 }
theorem my_L_addLine : en_MYS yL_addLine RL cL_addLine 6 (some .int) [(0, 12, 15, 13), (0, 12, 19, 15), (0, 12, 23, 17)] wsL_addLine 5 := ⟨⟨_, rfl⟩, rfl, by decide, by decide, by decide +kernel, by decide +kernel⟩
set_option maxRecDepth 100000 in
set_option maxHeartbeats 4000000 in
theorem k_L_addLine {l : Launch} {w : en_W} {m : en_M} {a0 : Int} {a1 : Int} {a2 : Int} {post : Option en_V → en_M → Prop} {postX : String → en_M → Prop} (hw : en_Wok w) (hp : en_Has w 0 68) (hl : l.stackTraces = false) (hM : en_MetX l w yX4_addLine wsX4_addLine rm_X4_addLine [en_R 49, en_I a0, en_I a1, en_I a2] m post postX) (hv : ∀ r m1, post r m1 → ∃ v, r = some (en_I v) ∧ en_i32 v) (hE : ∀ E m1, postX E m1 → E = eIO ∨ E = eIA ∨ E = eIS) : en_MetS l w yL_addLine wsL_addLine rm_L_addLine [en_R 49, en_I a0, en_I a1, en_I a2, en_R 50] m (fun r m' => (∃ v m1, post (some (en_I v)) m1 ∧ r = some (en_I 0) ∧ m' = en_set m1 50 0 v) ∨ ∃ E, postX E m' ∧ ((E = eIO ∧ r = some (en_I 1)) ∨ (E = eIA ∧ r = some (en_I 2)) ∨ (E = eIS ∧ r = some (en_I 3)))) := by
  refine en_metS my_L_addLine hw hl (Nat.le_of_ble_eq_true rfl) ?_
  intro κ hl9 hw9 h hf hx9 htab
  subst hw9
  subst hl9
  have hI : ∀ k, 0 ≤ k → k < 68 → en_in κ k := hp
  refine en_aload (i := 4) h dL_addLine_0 rfl ?_
  refine en_iconst h dL_addLine_2 ?_
  refine en_aload_n (i := 0) h dL_addLine_3 rfl rfl ?_
  refine en_iload_n (i := 1) h dL_addLine_4 rfl rfl ?_
  refine en_iload_n (i := 2) h dL_addLine_5 rfl rfl ?_
  refine en_iload_n (i := 3) h dL_addLine_6 rfl rfl ?_
  refine en_callVC h htab hx9 hM my_X4_addLine gL_addLine_X4_addLine (hI _ (by omega) (by omega)) rfl rfl rfl rfl ⟨by decide, by decide⟩ ⟨by decide, by decide⟩ (Nat.le_of_ble_eq_true rfl) dL_addLine_7 (fun E M hx => ?_) (fun r M hp => ?_)
  · have e := hE E M hx
    rcases e with rfl | rfl | rfl
    · refine ⟨by decide, [], (0, 12, 15, 13), [(0, 12, 19, 15), (0, 12, 23, 17)], rfl, fun z hz => absurd hz (by simp), ⟨by decide, by decide⟩, by decide, by decide +kernel, 5, 2, by decide, Or.inl ⟨dL_addLine_15, rfl⟩, ?_⟩
      refine en_iconst h dL_addLine_17 ?_
      exact en_iret h hf dL_addLine_18 ⟨by decide, by decide⟩ (Or.inr ⟨_, hx, Or.inl ⟨rfl, rfl⟩⟩)
    · refine ⟨by decide, [(0, 12, 15, 13)], (0, 12, 19, 15), [(0, 12, 23, 17)], rfl, fun z hz => by simp only [List.mem_cons, List.not_mem_nil, or_false] at hz; subst hz; exact ⟨by decide, eIO, by decide +kernel, by decide⟩, ⟨by decide, by decide⟩, by decide, by decide +kernel, 5, 2, by decide, Or.inl ⟨dL_addLine_19, rfl⟩, ?_⟩
      refine en_iconst h dL_addLine_21 ?_
      exact en_iret h hf dL_addLine_22 ⟨by decide, by decide⟩ (Or.inr ⟨_, hx, Or.inr (Or.inl ⟨rfl, rfl⟩)⟩)
    · refine ⟨by decide, [(0, 12, 15, 13), (0, 12, 19, 15)], (0, 12, 23, 17), [], rfl, fun z hz => by simp only [List.mem_cons, List.not_mem_nil, or_false] at hz; rcases hz with rfl | rfl; exact ⟨by decide, eIO, by decide +kernel, by decide⟩; exact ⟨by decide, eIA, by decide +kernel, by decide⟩, ⟨by decide, by decide⟩, by decide, by decide +kernel, 5, 2, by decide, Or.inl ⟨dL_addLine_23, rfl⟩, ?_⟩
      refine en_iconst h dL_addLine_25 ?_
      exact en_iret h hf dL_addLine_26 ⟨by decide, by decide⟩ (Or.inr ⟨_, hx, Or.inr (Or.inr (⟨rfl, rfl⟩))⟩)
  · obtain ⟨v, rfl, v9⟩ := hv r M hp
    refine en_i2l h dL_addLine_10 v9 ?_
    refine en_lastore h dL_addLine_11 (hI _ (by omega) (by omega)) rfl (by omega) ?_
    refine en_goto (tgt := 27) h dL_addLine_12 (by decide) ?_
    refine en_iconst h dL_addLine_27 ?_
    exact en_iret h hf dL_addLine_28 ⟨by decide, by decide⟩ (Or.inl ⟨v, M, hp, rfl, rfl⟩)
abbrev rm_L_setBreaker : Room := { frames := 7, cells := 1, slots := 6, locals := 133 }
theorem my_L_setBreaker : en_MYS yL_setBreaker RL cL_setBreaker 5 (some .int) [(0, 17, 20, 13)] wsL_setBreaker 4 := ⟨⟨_, rfl⟩, rfl, by decide, by decide, by decide +kernel, by decide +kernel⟩
set_option maxRecDepth 100000 in
set_option maxHeartbeats 4000000 in
theorem k_L_setBreaker {l : Launch} {w : en_W} {m : en_M} {a0 : Int} {a1 : Int} {post : Option en_V → en_M → Prop} {postX : String → en_M → Prop} (hw : en_Wok w) (hp : en_Has w 0 68) (hl : l.stackTraces = false) (hM : en_MetX l w yX4_setBreaker wsX4_setBreaker rm_X4_setBreaker [en_R 49, en_I a0, en_I a1] m post postX) (hv : ∀ r m1, post r m1 → ∃ v, r = some (en_I v) ∧ (v = 0 ∨ v = 1)) (hE : ∀ E m1, postX E m1 → E = eIO) : en_MetS l w yL_setBreaker wsL_setBreaker rm_L_setBreaker [en_R 49, en_I a0, en_I a1, en_R 50] m (fun r m' => (∃ v m1, post (some (en_I v)) m1 ∧ r = some (en_I 0) ∧ m' = en_set m1 50 0 v) ∨ ∃ E, postX E m' ∧ ((E = eIO ∧ r = some (en_I 1)))) := by
  refine en_metS my_L_setBreaker hw hl (Nat.le_of_ble_eq_true rfl) ?_
  intro κ hl9 hw9 h hf hx9 htab
  subst hw9
  subst hl9
  have hI : ∀ k, 0 ≤ k → k < 68 → en_in κ k := hp
  refine en_aload_n (i := 3) h dL_setBreaker_0 rfl rfl ?_
  refine en_iconst h dL_setBreaker_1 ?_
  refine en_aload_n (i := 0) h dL_setBreaker_2 rfl rfl ?_
  refine en_iload_n (i := 1) h dL_setBreaker_3 rfl rfl ?_
  refine en_iload_n (i := 2) h dL_setBreaker_4 rfl rfl ?_
  refine en_callVC h htab hx9 hM my_X4_setBreaker gL_setBreaker_X4_setBreaker (hI _ (by omega) (by omega)) rfl rfl rfl rfl ⟨by decide, by decide⟩ ⟨by decide, by decide⟩ (Nat.le_of_ble_eq_true rfl) dL_setBreaker_5 (fun E M hx => ?_) (fun r M hp => ?_)
  · have e := hE E M hx
    subst e
    refine ⟨by decide, [], (0, 17, 20, 13), [], rfl, fun z hz => absurd hz (by simp), ⟨by decide, by decide⟩, by decide, by decide +kernel, 4, 2, by decide, Or.inl ⟨dL_setBreaker_20, rfl⟩, ?_⟩
    refine en_iconst h dL_setBreaker_22 ?_
    exact en_iret h hf dL_setBreaker_23 ⟨by decide, by decide⟩ (Or.inr ⟨_, hx, ⟨rfl, rfl⟩⟩)
  · obtain ⟨v, rfl, v9⟩ := hv r M hp
    refine en_if_eq (tgt := 15) h dL_setBreaker_8 (by decide) (by omega) (fun c_8 => ?_) (fun c_8 => ?_)
    · obtain rfl : v = 0 := by omega
      refine en_lconst (z := 0) h dL_setBreaker_15 rfl ?_
      refine en_lastore h dL_setBreaker_16 (hI _ (by omega) (by omega)) rfl (by omega) ?_
      refine en_goto (tgt := 24) h dL_setBreaker_17 (by decide) ?_
      refine en_iconst h dL_setBreaker_24 ?_
      exact en_iret h hf dL_setBreaker_25 ⟨by decide, by decide⟩ (Or.inl ⟨0, M, hp, rfl, rfl⟩)
    · obtain rfl : v = 1 := by omega
      refine en_lconst (z := 1) h dL_setBreaker_11 rfl ?_
      refine en_goto (tgt := 16) h dL_setBreaker_12 (by decide) ?_
      refine en_lastore h dL_setBreaker_16 (hI _ (by omega) (by omega)) rfl (by omega) ?_
      refine en_goto (tgt := 24) h dL_setBreaker_17 (by decide) ?_
      refine en_iconst h dL_setBreaker_24 ?_
      exact en_iret h hf dL_setBreaker_25 ⟨by decide, by decide⟩ (Or.inl ⟨1, M, hp, rfl, rfl⟩)
abbrev rm_L_reference : Room := { frames := 8, cells := 1, slots := 6, locals := 132 }
theorem my_L_reference : en_MYS yL_reference RL cL_reference 4 (some .int) [(0, 9, 12, 13)] wsL_reference 3 := ⟨⟨_, rfl⟩, rfl, by decide, by decide, by decide +kernel, by decide +kernel⟩
set_option maxRecDepth 100000 in
set_option maxHeartbeats 4000000 in
theorem k_L_reference {l : Launch} {w : en_W} {m : en_M} {a0 : Int} {post : Option en_V → en_M → Prop} {postX : String → en_M → Prop} (hw : en_Wok w) (hp : en_Has w 0 68) (hl : l.stackTraces = false) (hM : en_MetX l w yX4_reference wsX4_reference rm_X4_reference [en_R 49, en_I a0] m post postX) (hv : ∀ r m1, post r m1 → ∃ v, r = some (en_I v) ∧ en_i32 v) (hE : ∀ E m1, postX E m1 → E = eIO) : en_MetS l w yL_reference wsL_reference rm_L_reference [en_R 49, en_I a0, en_R 50] m (fun r m' => (∃ v m1, post (some (en_I v)) m1 ∧ r = some (en_I 0) ∧ m' = en_set m1 50 0 v) ∨ ∃ E, postX E m' ∧ ((E = eIO ∧ r = some (en_I 1)))) := by
  refine en_metS my_L_reference hw hl (Nat.le_of_ble_eq_true rfl) ?_
  intro κ hl9 hw9 h hf hx9 htab
  subst hw9
  subst hl9
  have hI : ∀ k, 0 ≤ k → k < 68 → en_in κ k := hp
  refine en_aload_n (i := 2) h dL_reference_0 rfl rfl ?_
  refine en_iconst h dL_reference_1 ?_
  refine en_aload_n (i := 0) h dL_reference_2 rfl rfl ?_
  refine en_iload_n (i := 1) h dL_reference_3 rfl rfl ?_
  refine en_callVC h htab hx9 hM my_X4_reference gL_reference_X4_reference (hI _ (by omega) (by omega)) rfl rfl rfl rfl ⟨by decide, by decide⟩ ⟨by decide, by decide⟩ (Nat.le_of_ble_eq_true rfl) dL_reference_4 (fun E M hx => ?_) (fun r M hp => ?_)
  · have e := hE E M hx
    subst e
    refine ⟨by decide, [], (0, 9, 12, 13), [], rfl, fun z hz => absurd hz (by simp), ⟨by decide, by decide⟩, by decide, by decide +kernel, 3, 1, by decide, Or.inr ⟨3, rfl, dL_reference_12, rfl⟩, ?_⟩
    refine en_iconst h dL_reference_13 ?_
    exact en_iret h hf dL_reference_14 ⟨by decide, by decide⟩ (Or.inr ⟨_, hx, ⟨rfl, rfl⟩⟩)
  · obtain ⟨v, rfl, v9⟩ := hv r M hp
    refine en_i2l h dL_reference_7 v9 ?_
    refine en_lastore h dL_reference_8 (hI _ (by omega) (by omega)) rfl (by omega) ?_
    refine en_goto (tgt := 15) h dL_reference_9 (by decide) ?_
    refine en_iconst h dL_reference_15 ?_
    exact en_iret h hf dL_reference_16 ⟨by decide, by decide⟩ (Or.inl ⟨v, M, hp, rfl, rfl⟩)
abbrev rm_L_addMeter : Room := { frames := 8, cells := 5, slots := 30, locals := 135 }
theorem my_L_addMeter : en_MYS yL_addMeter RL cL_addMeter 7 (some .int) [(0, 14, 17, 15), (0, 14, 21, 13), (0, 14, 25, 17)] wsL_addMeter 6 := ⟨⟨_, rfl⟩, rfl, by decide, by decide, by decide +kernel, by decide +kernel⟩
set_option maxRecDepth 100000 in
set_option maxHeartbeats 4000000 in
theorem k_L_addMeter {l : Launch} {w : en_W} {m : en_M} {a0 : Int} {a1 : Int} {a2 : Int} {a3 : Int} {post : Option en_V → en_M → Prop} {postX : String → en_M → Prop} (hw : en_Wok w) (hp : en_Has w 0 68) (hl : l.stackTraces = false) (hM : en_MetX l w yX4_addMeter wsX4_addMeter rm_X4_addMeter [en_R 49, en_I a0, en_I a1, en_I a2, en_I a3] m post postX) (hv : ∀ r m1, post r m1 → ∃ v, r = some (en_I v) ∧ en_i32 v) (hE : ∀ E m1, postX E m1 → E = eIA ∨ E = eIO ∨ E = eIS) : en_MetS l w yL_addMeter wsL_addMeter rm_L_addMeter [en_R 49, en_I a0, en_I a1, en_I a2, en_I a3, en_R 50] m (fun r m' => (∃ v m1, post (some (en_I v)) m1 ∧ r = some (en_I 0) ∧ m' = en_set m1 50 0 v) ∨ ∃ E, postX E m' ∧ ((E = eIA ∧ r = some (en_I 1)) ∨ (E = eIO ∧ r = some (en_I 2)) ∨ (E = eIS ∧ r = some (en_I 3)))) := by
  refine en_metS my_L_addMeter hw hl (Nat.le_of_ble_eq_true rfl) ?_
  intro κ hl9 hw9 h hf hx9 htab
  subst hw9
  subst hl9
  have hI : ∀ k, 0 ≤ k → k < 68 → en_in κ k := hp
  refine en_aload (i := 5) h dL_addMeter_0 rfl ?_
  refine en_iconst h dL_addMeter_2 ?_
  refine en_aload_n (i := 0) h dL_addMeter_3 rfl rfl ?_
  refine en_iload_n (i := 1) h dL_addMeter_4 rfl rfl ?_
  refine en_iload_n (i := 2) h dL_addMeter_5 rfl rfl ?_
  refine en_iload_n (i := 3) h dL_addMeter_6 rfl rfl ?_
  refine en_iload (i := 4) h dL_addMeter_7 rfl ?_
  refine en_callVC h htab hx9 hM my_X4_addMeter gL_addMeter_X4_addMeter (hI _ (by omega) (by omega)) rfl rfl rfl rfl ⟨by decide, by decide⟩ ⟨by decide, by decide⟩ (Nat.le_of_ble_eq_true rfl) dL_addMeter_9 (fun E M hx => ?_) (fun r M hp => ?_)
  · have e := hE E M hx
    rcases e with rfl | rfl | rfl
    · refine ⟨by decide, [], (0, 14, 17, 15), [(0, 14, 21, 13), (0, 14, 25, 17)], rfl, fun z hz => absurd hz (by simp), ⟨by decide, by decide⟩, by decide, by decide +kernel, 6, 2, by decide, Or.inl ⟨dL_addMeter_17, rfl⟩, ?_⟩
      refine en_iconst h dL_addMeter_19 ?_
      exact en_iret h hf dL_addMeter_20 ⟨by decide, by decide⟩ (Or.inr ⟨_, hx, Or.inl ⟨rfl, rfl⟩⟩)
    · refine ⟨by decide, [(0, 14, 17, 15)], (0, 14, 21, 13), [(0, 14, 25, 17)], rfl, fun z hz => by simp only [List.mem_cons, List.not_mem_nil, or_false] at hz; subst hz; exact ⟨by decide, eIA, by decide +kernel, by decide⟩, ⟨by decide, by decide⟩, by decide, by decide +kernel, 6, 2, by decide, Or.inl ⟨dL_addMeter_21, rfl⟩, ?_⟩
      refine en_iconst h dL_addMeter_23 ?_
      exact en_iret h hf dL_addMeter_24 ⟨by decide, by decide⟩ (Or.inr ⟨_, hx, Or.inr (Or.inl ⟨rfl, rfl⟩)⟩)
    · refine ⟨by decide, [(0, 14, 17, 15), (0, 14, 21, 13)], (0, 14, 25, 17), [], rfl, fun z hz => by simp only [List.mem_cons, List.not_mem_nil, or_false] at hz; rcases hz with rfl | rfl; exact ⟨by decide, eIA, by decide +kernel, by decide⟩; exact ⟨by decide, eIO, by decide +kernel, by decide⟩, ⟨by decide, by decide⟩, by decide, by decide +kernel, 6, 2, by decide, Or.inl ⟨dL_addMeter_25, rfl⟩, ?_⟩
      refine en_iconst h dL_addMeter_27 ?_
      exact en_iret h hf dL_addMeter_28 ⟨by decide, by decide⟩ (Or.inr ⟨_, hx, Or.inr (Or.inr (⟨rfl, rfl⟩))⟩)
  · obtain ⟨v, rfl, v9⟩ := hv r M hp
    refine en_i2l h dL_addMeter_12 v9 ?_
    refine en_lastore h dL_addMeter_13 (hI _ (by omega) (by omega)) rfl (by omega) ?_
    refine en_goto (tgt := 29) h dL_addMeter_14 (by decide) ?_
    refine en_iconst h dL_addMeter_29 ?_
    exact en_iret h hf dL_addMeter_30 ⟨by decide, by decide⟩ (Or.inl ⟨v, M, hp, rfl, rfl⟩)
abbrev rm_L_read : Room := { frames := 8, cells := 2, slots := 12, locals := 134 }
theorem my_L_read : en_MYS yL_read RL cL_read 5 (some .int) [(0, 10, 13, 13), (0, 10, 17, 15)] wsL_read 4 := ⟨⟨_, rfl⟩, rfl, by decide, by decide, by decide +kernel, by decide +kernel⟩
set_option maxRecDepth 100000 in
set_option maxHeartbeats 4000000 in
theorem k_L_read {l : Launch} {w : en_W} {m : en_M} {a0 : Int} {a1 : Int} {post : Option en_V → en_M → Prop} {postX : String → en_M → Prop} (hw : en_Wok w) (hp : en_Has w 0 68) (hl : l.stackTraces = false) (hM : en_MetX l w yX4_read wsX4_read rm_X4_read [en_R 49, en_I a0, en_I a1] m post postX) (hv : ∀ r m1, post r m1 → ∃ v, r = some (en_I v) ∧ en_i32 v) (hE : ∀ E m1, postX E m1 → E = eIO ∨ E = eIA) : en_MetS l w yL_read wsL_read rm_L_read [en_R 49, en_I a0, en_I a1, en_R 50] m (fun r m' => (∃ v m1, post (some (en_I v)) m1 ∧ r = some (en_I 0) ∧ m' = en_set m1 50 0 v) ∨ ∃ E, postX E m' ∧ ((E = eIO ∧ r = some (en_I 1)) ∨ (E = eIA ∧ r = some (en_I 2)))) := by
  refine en_metS my_L_read hw hl (Nat.le_of_ble_eq_true rfl) ?_
  intro κ hl9 hw9 h hf hx9 htab
  subst hw9
  subst hl9
  have hI : ∀ k, 0 ≤ k → k < 68 → en_in κ k := hp
  refine en_aload_n (i := 3) h dL_read_0 rfl rfl ?_
  refine en_iconst h dL_read_1 ?_
  refine en_aload_n (i := 0) h dL_read_2 rfl rfl ?_
  refine en_iload_n (i := 1) h dL_read_3 rfl rfl ?_
  refine en_iload_n (i := 2) h dL_read_4 rfl rfl ?_
  refine en_callVC h htab hx9 hM my_X4_read gL_read_X4_read (hI _ (by omega) (by omega)) rfl rfl rfl rfl ⟨by decide, by decide⟩ ⟨by decide, by decide⟩ (Nat.le_of_ble_eq_true rfl) dL_read_5 (fun E M hx => ?_) (fun r M hp => ?_)
  · have e := hE E M hx
    rcases e with rfl | rfl
    · refine ⟨by decide, [], (0, 10, 13, 13), [(0, 10, 17, 15)], rfl, fun z hz => absurd hz (by simp), ⟨by decide, by decide⟩, by decide, by decide +kernel, 4, 2, by decide, Or.inl ⟨dL_read_13, rfl⟩, ?_⟩
      refine en_iconst h dL_read_15 ?_
      exact en_iret h hf dL_read_16 ⟨by decide, by decide⟩ (Or.inr ⟨_, hx, Or.inl ⟨rfl, rfl⟩⟩)
    · refine ⟨by decide, [(0, 10, 13, 13)], (0, 10, 17, 15), [], rfl, fun z hz => by simp only [List.mem_cons, List.not_mem_nil, or_false] at hz; subst hz; exact ⟨by decide, eIO, by decide +kernel, by decide⟩, ⟨by decide, by decide⟩, by decide, by decide +kernel, 4, 2, by decide, Or.inl ⟨dL_read_17, rfl⟩, ?_⟩
      refine en_iconst h dL_read_19 ?_
      exact en_iret h hf dL_read_20 ⟨by decide, by decide⟩ (Or.inr ⟨_, hx, Or.inr (⟨rfl, rfl⟩)⟩)
  · obtain ⟨v, rfl, v9⟩ := hv r M hp
    refine en_i2l h dL_read_8 v9 ?_
    refine en_lastore h dL_read_9 (hI _ (by omega) (by omega)) rfl (by omega) ?_
    refine en_goto (tgt := 21) h dL_read_10 (by decide) ?_
    refine en_iconst h dL_read_21 ?_
    exact en_iret h hf dL_read_22 ⟨by decide, by decide⟩ (Or.inl ⟨v, M, hp, rfl, rfl⟩)
abbrev rm_L_use : Room := { frames := 8, cells := 1, slots := 6, locals := 134 }
theorem my_L_use : en_MYS yL_use RL cL_use 5 (some .int) [(0, 17, 20, 13)] wsL_use 4 := ⟨⟨_, rfl⟩, rfl, by decide, by decide, by decide +kernel, by decide +kernel⟩
set_option maxRecDepth 100000 in
set_option maxHeartbeats 4000000 in
theorem k_L_use {l : Launch} {w : en_W} {m : en_M} {a0 : Int} {a1 : Int} {post : Option en_V → en_M → Prop} {postX : String → en_M → Prop} (hw : en_Wok w) (hp : en_Has w 0 68) (hl : l.stackTraces = false) (hM : en_MetX l w yX4_use wsX4_use rm_X4_use [en_R 49, en_I a0, en_I a1] m post postX) (hv : ∀ r m1, post r m1 → ∃ v, r = some (en_I v) ∧ (v = 0 ∨ v = 1)) (hE : ∀ E m1, postX E m1 → E = eIO) : en_MetS l w yL_use wsL_use rm_L_use [en_R 49, en_I a0, en_I a1, en_R 50] m (fun r m' => (∃ v m1, post (some (en_I v)) m1 ∧ r = some (en_I 0) ∧ m' = en_set m1 50 0 v) ∨ ∃ E, postX E m' ∧ ((E = eIO ∧ r = some (en_I 1)))) := by
  refine en_metS my_L_use hw hl (Nat.le_of_ble_eq_true rfl) ?_
  intro κ hl9 hw9 h hf hx9 htab
  subst hw9
  subst hl9
  have hI : ∀ k, 0 ≤ k → k < 68 → en_in κ k := hp
  refine en_aload_n (i := 3) h dL_use_0 rfl rfl ?_
  refine en_iconst h dL_use_1 ?_
  refine en_aload_n (i := 0) h dL_use_2 rfl rfl ?_
  refine en_iload_n (i := 1) h dL_use_3 rfl rfl ?_
  refine en_iload_n (i := 2) h dL_use_4 rfl rfl ?_
  refine en_callVC h htab hx9 hM my_X4_use gL_use_X4_use (hI _ (by omega) (by omega)) rfl rfl rfl rfl ⟨by decide, by decide⟩ ⟨by decide, by decide⟩ (Nat.le_of_ble_eq_true rfl) dL_use_5 (fun E M hx => ?_) (fun r M hp => ?_)
  · have e := hE E M hx
    subst e
    refine ⟨by decide, [], (0, 17, 20, 13), [], rfl, fun z hz => absurd hz (by simp), ⟨by decide, by decide⟩, by decide, by decide +kernel, 4, 2, by decide, Or.inl ⟨dL_use_20, rfl⟩, ?_⟩
    refine en_iconst h dL_use_22 ?_
    exact en_iret h hf dL_use_23 ⟨by decide, by decide⟩ (Or.inr ⟨_, hx, ⟨rfl, rfl⟩⟩)
  · obtain ⟨v, rfl, v9⟩ := hv r M hp
    refine en_if_eq (tgt := 15) h dL_use_8 (by decide) (by omega) (fun c_8 => ?_) (fun c_8 => ?_)
    · obtain rfl : v = 0 := by omega
      refine en_lconst (z := 0) h dL_use_15 rfl ?_
      refine en_lastore h dL_use_16 (hI _ (by omega) (by omega)) rfl (by omega) ?_
      refine en_goto (tgt := 24) h dL_use_17 (by decide) ?_
      refine en_iconst h dL_use_24 ?_
      exact en_iret h hf dL_use_25 ⟨by decide, by decide⟩ (Or.inl ⟨0, M, hp, rfl, rfl⟩)
    · obtain rfl : v = 1 := by omega
      refine en_lconst (z := 1) h dL_use_11 rfl ?_
      refine en_goto (tgt := 16) h dL_use_12 (by decide) ?_
      refine en_lastore h dL_use_16 (hI _ (by omega) (by omega)) rfl (by omega) ?_
      refine en_goto (tgt := 24) h dL_use_17 (by decide) ?_
      refine en_iconst h dL_use_24 ?_
      exact en_iret h hf dL_use_25 ⟨by decide, by decide⟩ (Or.inl ⟨1, M, hp, rfl, rfl⟩)
abbrev rm_L_countsIn : Room := { frames := 8, cells := 1, slots := 6, locals := 132 }
theorem my_L_countsIn : en_MYS yL_countsIn RL cL_countsIn 4 (some .int) [(0, 9, 12, 13)] wsL_countsIn 3 := ⟨⟨_, rfl⟩, rfl, by decide, by decide, by decide +kernel, by decide +kernel⟩
set_option maxRecDepth 100000 in
set_option maxHeartbeats 4000000 in
theorem k_L_countsIn {l : Launch} {w : en_W} {m : en_M} {a0 : Int} {post : Option en_V → en_M → Prop} {postX : String → en_M → Prop} (hw : en_Wok w) (hp : en_Has w 0 68) (hl : l.stackTraces = false) (hM : en_MetX l w yX4_countsIn wsX4_countsIn rm_X4_countsIn [en_R 49, en_I a0] m post postX) (hv : ∀ r m1, post r m1 → ∃ v, r = some (en_I v) ∧ en_i32 v) (hE : ∀ E m1, postX E m1 → E = eIO) : en_MetS l w yL_countsIn wsL_countsIn rm_L_countsIn [en_R 49, en_I a0, en_R 50] m (fun r m' => (∃ v m1, post (some (en_I v)) m1 ∧ r = some (en_I 0) ∧ m' = en_set m1 50 0 v) ∨ ∃ E, postX E m' ∧ ((E = eIO ∧ r = some (en_I 1)))) := by
  refine en_metS my_L_countsIn hw hl (Nat.le_of_ble_eq_true rfl) ?_
  intro κ hl9 hw9 h hf hx9 htab
  subst hw9
  subst hl9
  have hI : ∀ k, 0 ≤ k → k < 68 → en_in κ k := hp
  refine en_aload_n (i := 2) h dL_countsIn_0 rfl rfl ?_
  refine en_iconst h dL_countsIn_1 ?_
  refine en_aload_n (i := 0) h dL_countsIn_2 rfl rfl ?_
  refine en_iload_n (i := 1) h dL_countsIn_3 rfl rfl ?_
  refine en_callVC h htab hx9 hM my_X4_countsIn gL_countsIn_X4_countsIn (hI _ (by omega) (by omega)) rfl rfl rfl rfl ⟨by decide, by decide⟩ ⟨by decide, by decide⟩ (Nat.le_of_ble_eq_true rfl) dL_countsIn_4 (fun E M hx => ?_) (fun r M hp => ?_)
  · have e := hE E M hx
    subst e
    refine ⟨by decide, [], (0, 9, 12, 13), [], rfl, fun z hz => absurd hz (by simp), ⟨by decide, by decide⟩, by decide, by decide +kernel, 3, 1, by decide, Or.inr ⟨3, rfl, dL_countsIn_12, rfl⟩, ?_⟩
    refine en_iconst h dL_countsIn_13 ?_
    exact en_iret h hf dL_countsIn_14 ⟨by decide, by decide⟩ (Or.inr ⟨_, hx, ⟨rfl, rfl⟩⟩)
  · obtain ⟨v, rfl, v9⟩ := hv r M hp
    refine en_i2l h dL_countsIn_7 v9 ?_
    refine en_lastore h dL_countsIn_8 (hI _ (by omega) (by omega)) rfl (by omega) ?_
    refine en_goto (tgt := 15) h dL_countsIn_9 (by decide) ?_
    refine en_iconst h dL_countsIn_15 ?_
    exact en_iret h hf dL_countsIn_16 ⟨by decide, by decide⟩ (Or.inl ⟨v, M, hp, rfl, rfl⟩)
abbrev rm_L_rank : Room := { frames := 8, cells := 1, slots := 6, locals := 132 }
theorem my_L_rank : en_MYS yL_rank RL cL_rank 4 (some .int) [(0, 9, 12, 13)] wsL_rank 3 := ⟨⟨_, rfl⟩, rfl, by decide, by decide, by decide +kernel, by decide +kernel⟩
set_option maxRecDepth 100000 in
set_option maxHeartbeats 4000000 in
theorem k_L_rank {l : Launch} {w : en_W} {m : en_M} {a0 : Int} {post : Option en_V → en_M → Prop} {postX : String → en_M → Prop} (hw : en_Wok w) (hp : en_Has w 0 68) (hl : l.stackTraces = false) (hM : en_MetX l w yX4_rank wsX4_rank rm_X4_rank [en_R 49, en_I a0] m post postX) (hv : ∀ r m1, post r m1 → ∃ v, r = some (en_I v) ∧ en_i32 v) (hE : ∀ E m1, postX E m1 → E = eIO) : en_MetS l w yL_rank wsL_rank rm_L_rank [en_R 49, en_I a0, en_R 50] m (fun r m' => (∃ v m1, post (some (en_I v)) m1 ∧ r = some (en_I 0) ∧ m' = en_set m1 50 0 v) ∨ ∃ E, postX E m' ∧ ((E = eIO ∧ r = some (en_I 1)))) := by
  refine en_metS my_L_rank hw hl (Nat.le_of_ble_eq_true rfl) ?_
  intro κ hl9 hw9 h hf hx9 htab
  subst hw9
  subst hl9
  have hI : ∀ k, 0 ≤ k → k < 68 → en_in κ k := hp
  refine en_aload_n (i := 2) h dL_rank_0 rfl rfl ?_
  refine en_iconst h dL_rank_1 ?_
  refine en_aload_n (i := 0) h dL_rank_2 rfl rfl ?_
  refine en_iload_n (i := 1) h dL_rank_3 rfl rfl ?_
  refine en_callVC h htab hx9 hM my_X4_rank gL_rank_X4_rank (hI _ (by omega) (by omega)) rfl rfl rfl rfl ⟨by decide, by decide⟩ ⟨by decide, by decide⟩ (Nat.le_of_ble_eq_true rfl) dL_rank_4 (fun E M hx => ?_) (fun r M hp => ?_)
  · have e := hE E M hx
    subst e
    refine ⟨by decide, [], (0, 9, 12, 13), [], rfl, fun z hz => absurd hz (by simp), ⟨by decide, by decide⟩, by decide, by decide +kernel, 3, 1, by decide, Or.inr ⟨3, rfl, dL_rank_12, rfl⟩, ?_⟩
    refine en_iconst h dL_rank_13 ?_
    exact en_iret h hf dL_rank_14 ⟨by decide, by decide⟩ (Or.inr ⟨_, hx, ⟨rfl, rfl⟩⟩)
  · obtain ⟨v, rfl, v9⟩ := hv r M hp
    refine en_i2l h dL_rank_7 v9 ?_
    refine en_lastore h dL_rank_8 (hI _ (by omega) (by omega)) rfl (by omega) ?_
    refine en_goto (tgt := 15) h dL_rank_9 (by decide) ?_
    refine en_iconst h dL_rank_15 ?_
    exact en_iret h hf dL_rank_16 ⟨by decide, by decide⟩ (Or.inl ⟨v, M, hp, rfl, rfl⟩)
abbrev rm_L_isObservable : Room := { frames := 8, cells := 1, slots := 6, locals := 134 }
theorem my_L_isObservable : en_MYS yL_isObservable RL cL_isObservable 4 (some .int) [(0, 16, 19, 13)] wsL_isObservable 3 := ⟨⟨_, rfl⟩, rfl, by decide, by decide, by decide +kernel, by decide +kernel⟩
set_option maxRecDepth 100000 in
set_option maxHeartbeats 4000000 in
theorem k_L_isObservable {l : Launch} {w : en_W} {m : en_M} {a0 : Int} {post : Option en_V → en_M → Prop} {postX : String → en_M → Prop} (hw : en_Wok w) (hp : en_Has w 0 68) (hl : l.stackTraces = false) (hM : en_MetX l w yX4_isObservable wsX4_isObservable rm_X4_isObservable [en_R 49, en_I a0] m post postX) (hv : ∀ r m1, post r m1 → ∃ v, r = some (en_I v) ∧ (v = 0 ∨ v = 1)) (hE : ∀ E m1, postX E m1 → E = eIO) : en_MetS l w yL_isObservable wsL_isObservable rm_L_isObservable [en_R 49, en_I a0, en_R 50] m (fun r m' => (∃ v m1, post (some (en_I v)) m1 ∧ r = some (en_I 0) ∧ m' = en_set m1 50 0 v) ∨ ∃ E, postX E m' ∧ ((E = eIO ∧ r = some (en_I 1)))) := by
  refine en_metS my_L_isObservable hw hl (Nat.le_of_ble_eq_true rfl) ?_
  intro κ hl9 hw9 h hf hx9 htab
  subst hw9
  subst hl9
  have hI : ∀ k, 0 ≤ k → k < 68 → en_in κ k := hp
  refine en_aload_n (i := 2) h dL_isObservable_0 rfl rfl ?_
  refine en_iconst h dL_isObservable_1 ?_
  refine en_aload_n (i := 0) h dL_isObservable_2 rfl rfl ?_
  refine en_iload_n (i := 1) h dL_isObservable_3 rfl rfl ?_
  refine en_callVC h htab hx9 hM my_X4_isObservable gL_isObservable_X4_isObservable (hI _ (by omega) (by omega)) rfl rfl rfl rfl ⟨by decide, by decide⟩ ⟨by decide, by decide⟩ (Nat.le_of_ble_eq_true rfl) dL_isObservable_4 (fun E M hx => ?_) (fun r M hp => ?_)
  · have e := hE E M hx
    subst e
    refine ⟨by decide, [], (0, 16, 19, 13), [], rfl, fun z hz => absurd hz (by simp), ⟨by decide, by decide⟩, by decide, by decide +kernel, 3, 1, by decide, Or.inr ⟨3, rfl, dL_isObservable_19, rfl⟩, ?_⟩
    refine en_iconst h dL_isObservable_20 ?_
    exact en_iret h hf dL_isObservable_21 ⟨by decide, by decide⟩ (Or.inr ⟨_, hx, ⟨rfl, rfl⟩⟩)
  · obtain ⟨v, rfl, v9⟩ := hv r M hp
    refine en_if_eq (tgt := 14) h dL_isObservable_7 (by decide) (by omega) (fun c_7 => ?_) (fun c_7 => ?_)
    · obtain rfl : v = 0 := by omega
      refine en_lconst (z := 0) h dL_isObservable_14 rfl ?_
      refine en_lastore h dL_isObservable_15 (hI _ (by omega) (by omega)) rfl (by omega) ?_
      refine en_goto (tgt := 22) h dL_isObservable_16 (by decide) ?_
      refine en_iconst h dL_isObservable_22 ?_
      exact en_iret h hf dL_isObservable_23 ⟨by decide, by decide⟩ (Or.inl ⟨0, M, hp, rfl, rfl⟩)
    · obtain rfl : v = 1 := by omega
      refine en_lconst (z := 1) h dL_isObservable_10 rfl ?_
      refine en_goto (tgt := 15) h dL_isObservable_11 (by decide) ?_
      refine en_lastore h dL_isObservable_15 (hI _ (by omega) (by omega)) rfl (by omega) ?_
      refine en_goto (tgt := 22) h dL_isObservable_16 (by decide) ?_
      refine en_iconst h dL_isObservable_22 ?_
      exact en_iret h hf dL_isObservable_23 ⟨by decide, by decide⟩ (Or.inl ⟨1, M, hp, rfl, rfl⟩)
abbrev rm_L_isCritical : Room := { frames := 8, cells := 1, slots := 6, locals := 136 }
theorem my_L_isCritical : en_MYS yL_isCritical RL cL_isCritical 4 (some .int) [(0, 16, 19, 13)] wsL_isCritical 3 := ⟨⟨_, rfl⟩, rfl, by decide, by decide, by decide +kernel, by decide +kernel⟩
set_option maxRecDepth 100000 in
set_option maxHeartbeats 4000000 in
theorem k_L_isCritical {l : Launch} {w : en_W} {m : en_M} {a0 : Int} {post : Option en_V → en_M → Prop} {postX : String → en_M → Prop} (hw : en_Wok w) (hp : en_Has w 0 68) (hl : l.stackTraces = false) (hM : en_MetX l w yX4_isCritical wsX4_isCritical rm_X4_isCritical [en_R 49, en_I a0] m post postX) (hv : ∀ r m1, post r m1 → ∃ v, r = some (en_I v) ∧ (v = 0 ∨ v = 1)) (hE : ∀ E m1, postX E m1 → E = eIO) : en_MetS l w yL_isCritical wsL_isCritical rm_L_isCritical [en_R 49, en_I a0, en_R 50] m (fun r m' => (∃ v m1, post (some (en_I v)) m1 ∧ r = some (en_I 0) ∧ m' = en_set m1 50 0 v) ∨ ∃ E, postX E m' ∧ ((E = eIO ∧ r = some (en_I 1)))) := by
  refine en_metS my_L_isCritical hw hl (Nat.le_of_ble_eq_true rfl) ?_
  intro κ hl9 hw9 h hf hx9 htab
  subst hw9
  subst hl9
  have hI : ∀ k, 0 ≤ k → k < 68 → en_in κ k := hp
  refine en_aload_n (i := 2) h dL_isCritical_0 rfl rfl ?_
  refine en_iconst h dL_isCritical_1 ?_
  refine en_aload_n (i := 0) h dL_isCritical_2 rfl rfl ?_
  refine en_iload_n (i := 1) h dL_isCritical_3 rfl rfl ?_
  refine en_callVC h htab hx9 hM my_X4_isCritical gL_isCritical_X4_isCritical (hI _ (by omega) (by omega)) rfl rfl rfl rfl ⟨by decide, by decide⟩ ⟨by decide, by decide⟩ (Nat.le_of_ble_eq_true rfl) dL_isCritical_4 (fun E M hx => ?_) (fun r M hp => ?_)
  · have e := hE E M hx
    subst e
    refine ⟨by decide, [], (0, 16, 19, 13), [], rfl, fun z hz => absurd hz (by simp), ⟨by decide, by decide⟩, by decide, by decide +kernel, 3, 1, by decide, Or.inr ⟨3, rfl, dL_isCritical_19, rfl⟩, ?_⟩
    refine en_iconst h dL_isCritical_20 ?_
    exact en_iret h hf dL_isCritical_21 ⟨by decide, by decide⟩ (Or.inr ⟨_, hx, ⟨rfl, rfl⟩⟩)
  · obtain ⟨v, rfl, v9⟩ := hv r M hp
    refine en_if_eq (tgt := 14) h dL_isCritical_7 (by decide) (by omega) (fun c_7 => ?_) (fun c_7 => ?_)
    · obtain rfl : v = 0 := by omega
      refine en_lconst (z := 0) h dL_isCritical_14 rfl ?_
      refine en_lastore h dL_isCritical_15 (hI _ (by omega) (by omega)) rfl (by omega) ?_
      refine en_goto (tgt := 22) h dL_isCritical_16 (by decide) ?_
      refine en_iconst h dL_isCritical_22 ?_
      exact en_iret h hf dL_isCritical_23 ⟨by decide, by decide⟩ (Or.inl ⟨0, M, hp, rfl, rfl⟩)
    · obtain rfl : v = 1 := by omega
      refine en_lconst (z := 1) h dL_isCritical_10 rfl ?_
      refine en_goto (tgt := 15) h dL_isCritical_11 (by decide) ?_
      refine en_lastore h dL_isCritical_15 (hI _ (by omega) (by omega)) rfl (by omega) ?_
      refine en_goto (tgt := 22) h dL_isCritical_16 (by decide) ?_
      refine en_iconst h dL_isCritical_22 ?_
      exact en_iret h hf dL_isCritical_23 ⟨by decide, by decide⟩ (Or.inl ⟨1, M, hp, rfl, rfl⟩)
abbrev rm_L_angleNumerator : Room := { frames := 9, cells := 2, slots := 12, locals := 178 }
theorem my_L_angleNumerator : en_MYS yL_angleNumerator RL cL_angleNumerator 4 (some .int) [(0, 8, 11, 13), (0, 8, 14, 17)] wsL_angleNumerator 3 := ⟨⟨_, rfl⟩, rfl, by decide, by decide, by decide +kernel, by decide +kernel⟩
set_option maxRecDepth 100000 in
set_option maxHeartbeats 4000000 in
theorem k_L_angleNumerator {l : Launch} {w : en_W} {m : en_M} {a0 : Int} {post : Option en_V → en_M → Prop} {postX : String → en_M → Prop} (hw : en_Wok w) (hp : en_Has w 0 68) (hl : l.stackTraces = false) (hM : en_MetX l w yX4_angleNumerator wsX4_angleNumerator rm_X4_angleNumerator [en_R 49, en_I a0] m post postX) (hv : ∀ r m1, post r m1 → ∃ v, r = some (en_L v)) (hE : ∀ E m1, postX E m1 → E = eIO ∨ E = eIS) : en_MetS l w yL_angleNumerator wsL_angleNumerator rm_L_angleNumerator [en_R 49, en_I a0, en_R 50] m (fun r m' => (∃ v m1, post (some (en_L v)) m1 ∧ r = some (en_I 0) ∧ m' = en_set m1 50 0 v) ∨ ∃ E, postX E m' ∧ ((E = eIO ∧ r = some (en_I 1)) ∨ (E = eIS ∧ r = some (en_I 2)))) := by
  refine en_metS my_L_angleNumerator hw hl (Nat.le_of_ble_eq_true rfl) ?_
  intro κ hl9 hw9 h hf hx9 htab
  subst hw9
  subst hl9
  have hI : ∀ k, 0 ≤ k → k < 68 → en_in κ k := hp
  refine en_aload_n (i := 2) h dL_angleNumerator_0 rfl rfl ?_
  refine en_iconst h dL_angleNumerator_1 ?_
  refine en_aload_n (i := 0) h dL_angleNumerator_2 rfl rfl ?_
  refine en_iload_n (i := 1) h dL_angleNumerator_3 rfl rfl ?_
  refine en_callVC h htab hx9 hM my_X4_angleNumerator gL_angleNumerator_X4_angleNumerator (hI _ (by omega) (by omega)) rfl rfl rfl rfl ⟨by decide, by decide⟩ ⟨by decide, by decide⟩ (Nat.le_of_ble_eq_true rfl) dL_angleNumerator_4 (fun E M hx => ?_) (fun r M hp => ?_)
  · have e := hE E M hx
    rcases e with rfl | rfl
    · refine ⟨by decide, [], (0, 8, 11, 13), [(0, 8, 14, 17)], rfl, fun z hz => absurd hz (by simp), ⟨by decide, by decide⟩, by decide, by decide +kernel, 3, 1, by decide, Or.inr ⟨3, rfl, dL_angleNumerator_11, rfl⟩, ?_⟩
      refine en_iconst h dL_angleNumerator_12 ?_
      exact en_iret h hf dL_angleNumerator_13 ⟨by decide, by decide⟩ (Or.inr ⟨_, hx, Or.inl ⟨rfl, rfl⟩⟩)
    · refine ⟨by decide, [(0, 8, 11, 13)], (0, 8, 14, 17), [], rfl, fun z hz => by simp only [List.mem_cons, List.not_mem_nil, or_false] at hz; subst hz; exact ⟨by decide, eIO, by decide +kernel, by decide⟩, ⟨by decide, by decide⟩, by decide, by decide +kernel, 3, 1, by decide, Or.inr ⟨3, rfl, dL_angleNumerator_14, rfl⟩, ?_⟩
      refine en_iconst h dL_angleNumerator_15 ?_
      exact en_iret h hf dL_angleNumerator_16 ⟨by decide, by decide⟩ (Or.inr ⟨_, hx, Or.inr (⟨rfl, rfl⟩)⟩)
  · obtain ⟨v, rfl⟩ := hv r M hp
    refine en_lastore h dL_angleNumerator_7 (hI _ (by omega) (by omega)) rfl (by omega) ?_
    refine en_goto (tgt := 17) h dL_angleNumerator_8 (by decide) ?_
    refine en_iconst h dL_angleNumerator_17 ?_
    exact en_iret h hf dL_angleNumerator_18 ⟨by decide, by decide⟩ (Or.inl ⟨v, M, hp, rfl, rfl⟩)
abbrev rm_L_angleDenominator : Room := { frames := 9, cells := 2, slots := 12, locals := 176 }
theorem my_L_angleDenominator : en_MYS yL_angleDenominator RL cL_angleDenominator 4 (some .int) [(0, 8, 11, 13), (0, 8, 14, 17)] wsL_angleDenominator 3 := ⟨⟨_, rfl⟩, rfl, by decide, by decide, by decide +kernel, by decide +kernel⟩
set_option maxRecDepth 100000 in
set_option maxHeartbeats 4000000 in
theorem k_L_angleDenominator {l : Launch} {w : en_W} {m : en_M} {a0 : Int} {post : Option en_V → en_M → Prop} {postX : String → en_M → Prop} (hw : en_Wok w) (hp : en_Has w 0 68) (hl : l.stackTraces = false) (hM : en_MetX l w yX4_angleDenominator wsX4_angleDenominator rm_X4_angleDenominator [en_R 49, en_I a0] m post postX) (hv : ∀ r m1, post r m1 → ∃ v, r = some (en_L v)) (hE : ∀ E m1, postX E m1 → E = eIO ∨ E = eIS) : en_MetS l w yL_angleDenominator wsL_angleDenominator rm_L_angleDenominator [en_R 49, en_I a0, en_R 50] m (fun r m' => (∃ v m1, post (some (en_L v)) m1 ∧ r = some (en_I 0) ∧ m' = en_set m1 50 0 v) ∨ ∃ E, postX E m' ∧ ((E = eIO ∧ r = some (en_I 1)) ∨ (E = eIS ∧ r = some (en_I 2)))) := by
  refine en_metS my_L_angleDenominator hw hl (Nat.le_of_ble_eq_true rfl) ?_
  intro κ hl9 hw9 h hf hx9 htab
  subst hw9
  subst hl9
  have hI : ∀ k, 0 ≤ k → k < 68 → en_in κ k := hp
  refine en_aload_n (i := 2) h dL_angleDenominator_0 rfl rfl ?_
  refine en_iconst h dL_angleDenominator_1 ?_
  refine en_aload_n (i := 0) h dL_angleDenominator_2 rfl rfl ?_
  refine en_iload_n (i := 1) h dL_angleDenominator_3 rfl rfl ?_
  refine en_callVC h htab hx9 hM my_X4_angleDenominator gL_angleDenominator_X4_angleDenominator (hI _ (by omega) (by omega)) rfl rfl rfl rfl ⟨by decide, by decide⟩ ⟨by decide, by decide⟩ (Nat.le_of_ble_eq_true rfl) dL_angleDenominator_4 (fun E M hx => ?_) (fun r M hp => ?_)
  · have e := hE E M hx
    rcases e with rfl | rfl
    · refine ⟨by decide, [], (0, 8, 11, 13), [(0, 8, 14, 17)], rfl, fun z hz => absurd hz (by simp), ⟨by decide, by decide⟩, by decide, by decide +kernel, 3, 1, by decide, Or.inr ⟨3, rfl, dL_angleDenominator_11, rfl⟩, ?_⟩
      refine en_iconst h dL_angleDenominator_12 ?_
      exact en_iret h hf dL_angleDenominator_13 ⟨by decide, by decide⟩ (Or.inr ⟨_, hx, Or.inl ⟨rfl, rfl⟩⟩)
    · refine ⟨by decide, [(0, 8, 11, 13)], (0, 8, 14, 17), [], rfl, fun z hz => by simp only [List.mem_cons, List.not_mem_nil, or_false] at hz; subst hz; exact ⟨by decide, eIO, by decide +kernel, by decide⟩, ⟨by decide, by decide⟩, by decide, by decide +kernel, 3, 1, by decide, Or.inr ⟨3, rfl, dL_angleDenominator_14, rfl⟩, ?_⟩
      refine en_iconst h dL_angleDenominator_15 ?_
      exact en_iret h hf dL_angleDenominator_16 ⟨by decide, by decide⟩ (Or.inr ⟨_, hx, Or.inr (⟨rfl, rfl⟩)⟩)
  · obtain ⟨v, rfl⟩ := hv r M hp
    refine en_lastore h dL_angleDenominator_7 (hI _ (by omega) (by omega)) rfl (by omega) ?_
    refine en_goto (tgt := 17) h dL_angleDenominator_8 (by decide) ?_
    refine en_iconst h dL_angleDenominator_17 ?_
    exact en_iret h hf dL_angleDenominator_18 ⟨by decide, by decide⟩ (Or.inl ⟨v, M, hp, rfl, rfl⟩)
abbrev rm_L_residualNumerator : Room := { frames := 9, cells := 3, slots := 18, locals := 179 }
theorem my_L_residualNumerator : en_MYS yL_residualNumerator RL cL_residualNumerator 4 (some .int) [(0, 8, 11, 13), (0, 8, 14, 17)] wsL_residualNumerator 3 := ⟨⟨_, rfl⟩, rfl, by decide, by decide, by decide +kernel, by decide +kernel⟩
set_option maxRecDepth 100000 in
set_option maxHeartbeats 4000000 in
theorem k_L_residualNumerator {l : Launch} {w : en_W} {m : en_M} {a0 : Int} {post : Option en_V → en_M → Prop} {postX : String → en_M → Prop} (hw : en_Wok w) (hp : en_Has w 0 68) (hl : l.stackTraces = false) (hM : en_MetX l w yX4_residualNumerator wsX4_residualNumerator rm_X4_residualNumerator [en_R 49, en_I a0] m post postX) (hv : ∀ r m1, post r m1 → ∃ v, r = some (en_L v)) (hE : ∀ E m1, postX E m1 → E = eIO ∨ E = eIS) : en_MetS l w yL_residualNumerator wsL_residualNumerator rm_L_residualNumerator [en_R 49, en_I a0, en_R 50] m (fun r m' => (∃ v m1, post (some (en_L v)) m1 ∧ r = some (en_I 0) ∧ m' = en_set m1 50 0 v) ∨ ∃ E, postX E m' ∧ ((E = eIO ∧ r = some (en_I 1)) ∨ (E = eIS ∧ r = some (en_I 2)))) := by
  refine en_metS my_L_residualNumerator hw hl (Nat.le_of_ble_eq_true rfl) ?_
  intro κ hl9 hw9 h hf hx9 htab
  subst hw9
  subst hl9
  have hI : ∀ k, 0 ≤ k → k < 68 → en_in κ k := hp
  refine en_aload_n (i := 2) h dL_residualNumerator_0 rfl rfl ?_
  refine en_iconst h dL_residualNumerator_1 ?_
  refine en_aload_n (i := 0) h dL_residualNumerator_2 rfl rfl ?_
  refine en_iload_n (i := 1) h dL_residualNumerator_3 rfl rfl ?_
  refine en_callVC h htab hx9 hM my_X4_residualNumerator gL_residualNumerator_X4_residualNumerator (hI _ (by omega) (by omega)) rfl rfl rfl rfl ⟨by decide, by decide⟩ ⟨by decide, by decide⟩ (Nat.le_of_ble_eq_true rfl) dL_residualNumerator_4 (fun E M hx => ?_) (fun r M hp => ?_)
  · have e := hE E M hx
    rcases e with rfl | rfl
    · refine ⟨by decide, [], (0, 8, 11, 13), [(0, 8, 14, 17)], rfl, fun z hz => absurd hz (by simp), ⟨by decide, by decide⟩, by decide, by decide +kernel, 3, 1, by decide, Or.inr ⟨3, rfl, dL_residualNumerator_11, rfl⟩, ?_⟩
      refine en_iconst h dL_residualNumerator_12 ?_
      exact en_iret h hf dL_residualNumerator_13 ⟨by decide, by decide⟩ (Or.inr ⟨_, hx, Or.inl ⟨rfl, rfl⟩⟩)
    · refine ⟨by decide, [(0, 8, 11, 13)], (0, 8, 14, 17), [], rfl, fun z hz => by simp only [List.mem_cons, List.not_mem_nil, or_false] at hz; subst hz; exact ⟨by decide, eIO, by decide +kernel, by decide⟩, ⟨by decide, by decide⟩, by decide, by decide +kernel, 3, 1, by decide, Or.inr ⟨3, rfl, dL_residualNumerator_14, rfl⟩, ?_⟩
      refine en_iconst h dL_residualNumerator_15 ?_
      exact en_iret h hf dL_residualNumerator_16 ⟨by decide, by decide⟩ (Or.inr ⟨_, hx, Or.inr (⟨rfl, rfl⟩)⟩)
  · obtain ⟨v, rfl⟩ := hv r M hp
    refine en_lastore h dL_residualNumerator_7 (hI _ (by omega) (by omega)) rfl (by omega) ?_
    refine en_goto (tgt := 17) h dL_residualNumerator_8 (by decide) ?_
    refine en_iconst h dL_residualNumerator_17 ?_
    exact en_iret h hf dL_residualNumerator_18 ⟨by decide, by decide⟩ (Or.inl ⟨v, M, hp, rfl, rfl⟩)
abbrev rm_L_residualDenominator : Room := { frames := 9, cells := 3, slots := 18, locals := 177 }
theorem my_L_residualDenominator : en_MYS yL_residualDenominator RL cL_residualDenominator 4 (some .int) [(0, 8, 11, 13), (0, 8, 14, 17)] wsL_residualDenominator 3 := ⟨⟨_, rfl⟩, rfl, by decide, by decide, by decide +kernel, by decide +kernel⟩
set_option maxRecDepth 100000 in
set_option maxHeartbeats 4000000 in
theorem k_L_residualDenominator {l : Launch} {w : en_W} {m : en_M} {a0 : Int} {post : Option en_V → en_M → Prop} {postX : String → en_M → Prop} (hw : en_Wok w) (hp : en_Has w 0 68) (hl : l.stackTraces = false) (hM : en_MetX l w yX4_residualDenominator wsX4_residualDenominator rm_X4_residualDenominator [en_R 49, en_I a0] m post postX) (hv : ∀ r m1, post r m1 → ∃ v, r = some (en_L v)) (hE : ∀ E m1, postX E m1 → E = eIO ∨ E = eIS) : en_MetS l w yL_residualDenominator wsL_residualDenominator rm_L_residualDenominator [en_R 49, en_I a0, en_R 50] m (fun r m' => (∃ v m1, post (some (en_L v)) m1 ∧ r = some (en_I 0) ∧ m' = en_set m1 50 0 v) ∨ ∃ E, postX E m' ∧ ((E = eIO ∧ r = some (en_I 1)) ∨ (E = eIS ∧ r = some (en_I 2)))) := by
  refine en_metS my_L_residualDenominator hw hl (Nat.le_of_ble_eq_true rfl) ?_
  intro κ hl9 hw9 h hf hx9 htab
  subst hw9
  subst hl9
  have hI : ∀ k, 0 ≤ k → k < 68 → en_in κ k := hp
  refine en_aload_n (i := 2) h dL_residualDenominator_0 rfl rfl ?_
  refine en_iconst h dL_residualDenominator_1 ?_
  refine en_aload_n (i := 0) h dL_residualDenominator_2 rfl rfl ?_
  refine en_iload_n (i := 1) h dL_residualDenominator_3 rfl rfl ?_
  refine en_callVC h htab hx9 hM my_X4_residualDenominator gL_residualDenominator_X4_residualDenominator (hI _ (by omega) (by omega)) rfl rfl rfl rfl ⟨by decide, by decide⟩ ⟨by decide, by decide⟩ (Nat.le_of_ble_eq_true rfl) dL_residualDenominator_4 (fun E M hx => ?_) (fun r M hp => ?_)
  · have e := hE E M hx
    rcases e with rfl | rfl
    · refine ⟨by decide, [], (0, 8, 11, 13), [(0, 8, 14, 17)], rfl, fun z hz => absurd hz (by simp), ⟨by decide, by decide⟩, by decide, by decide +kernel, 3, 1, by decide, Or.inr ⟨3, rfl, dL_residualDenominator_11, rfl⟩, ?_⟩
      refine en_iconst h dL_residualDenominator_12 ?_
      exact en_iret h hf dL_residualDenominator_13 ⟨by decide, by decide⟩ (Or.inr ⟨_, hx, Or.inl ⟨rfl, rfl⟩⟩)
    · refine ⟨by decide, [(0, 8, 11, 13)], (0, 8, 14, 17), [], rfl, fun z hz => by simp only [List.mem_cons, List.not_mem_nil, or_false] at hz; subst hz; exact ⟨by decide, eIO, by decide +kernel, by decide⟩, ⟨by decide, by decide⟩, by decide, by decide +kernel, 3, 1, by decide, Or.inr ⟨3, rfl, dL_residualDenominator_14, rfl⟩, ?_⟩
      refine en_iconst h dL_residualDenominator_15 ?_
      exact en_iret h hf dL_residualDenominator_16 ⟨by decide, by decide⟩ (Or.inr ⟨_, hx, Or.inr (⟨rfl, rfl⟩)⟩)
  · obtain ⟨v, rfl⟩ := hv r M hp
    refine en_lastore h dL_residualDenominator_7 (hI _ (by omega) (by omega)) rfl (by omega) ?_
    refine en_goto (tgt := 17) h dL_residualDenominator_8 (by decide) ?_
    refine en_iconst h dL_residualDenominator_17 ?_
    exact en_iret h hf dL_residualDenominator_18 ⟨by decide, by decide⟩ (Or.inl ⟨v, M, hp, rfl, rfl⟩)
abbrev rm_L_worst : Room := { frames := 9, cells := 2, slots := 12, locals := 176 }
theorem my_L_worst : en_MYS yL_worst RL cL_worst 4 (some .int) [(0, 9, 12, 13), (0, 9, 15, 17)] wsL_worst 3 := ⟨⟨_, rfl⟩, rfl, by decide, by decide, by decide +kernel, by decide +kernel⟩
set_option maxRecDepth 100000 in
set_option maxHeartbeats 4000000 in
theorem k_L_worst {l : Launch} {w : en_W} {m : en_M} {a0 : Int} {post : Option en_V → en_M → Prop} {postX : String → en_M → Prop} (hw : en_Wok w) (hp : en_Has w 0 68) (hl : l.stackTraces = false) (hM : en_MetX l w yX4_worst wsX4_worst rm_X4_worst [en_R 49, en_I a0] m post postX) (hv : ∀ r m1, post r m1 → ∃ v, r = some (en_I v) ∧ en_i32 v) (hE : ∀ E m1, postX E m1 → E = eIO ∨ E = eIS) : en_MetS l w yL_worst wsL_worst rm_L_worst [en_R 49, en_I a0, en_R 50] m (fun r m' => (∃ v m1, post (some (en_I v)) m1 ∧ r = some (en_I 0) ∧ m' = en_set m1 50 0 v) ∨ ∃ E, postX E m' ∧ ((E = eIO ∧ r = some (en_I 1)) ∨ (E = eIS ∧ r = some (en_I 2)))) := by
  refine en_metS my_L_worst hw hl (Nat.le_of_ble_eq_true rfl) ?_
  intro κ hl9 hw9 h hf hx9 htab
  subst hw9
  subst hl9
  have hI : ∀ k, 0 ≤ k → k < 68 → en_in κ k := hp
  refine en_aload_n (i := 2) h dL_worst_0 rfl rfl ?_
  refine en_iconst h dL_worst_1 ?_
  refine en_aload_n (i := 0) h dL_worst_2 rfl rfl ?_
  refine en_iload_n (i := 1) h dL_worst_3 rfl rfl ?_
  refine en_callVC h htab hx9 hM my_X4_worst gL_worst_X4_worst (hI _ (by omega) (by omega)) rfl rfl rfl rfl ⟨by decide, by decide⟩ ⟨by decide, by decide⟩ (Nat.le_of_ble_eq_true rfl) dL_worst_4 (fun E M hx => ?_) (fun r M hp => ?_)
  · have e := hE E M hx
    rcases e with rfl | rfl
    · refine ⟨by decide, [], (0, 9, 12, 13), [(0, 9, 15, 17)], rfl, fun z hz => absurd hz (by simp), ⟨by decide, by decide⟩, by decide, by decide +kernel, 3, 1, by decide, Or.inr ⟨3, rfl, dL_worst_12, rfl⟩, ?_⟩
      refine en_iconst h dL_worst_13 ?_
      exact en_iret h hf dL_worst_14 ⟨by decide, by decide⟩ (Or.inr ⟨_, hx, Or.inl ⟨rfl, rfl⟩⟩)
    · refine ⟨by decide, [(0, 9, 12, 13)], (0, 9, 15, 17), [], rfl, fun z hz => by simp only [List.mem_cons, List.not_mem_nil, or_false] at hz; subst hz; exact ⟨by decide, eIO, by decide +kernel, by decide⟩, ⟨by decide, by decide⟩, by decide, by decide +kernel, 3, 1, by decide, Or.inr ⟨3, rfl, dL_worst_15, rfl⟩, ?_⟩
      refine en_iconst h dL_worst_16 ?_
      exact en_iret h hf dL_worst_17 ⟨by decide, by decide⟩ (Or.inr ⟨_, hx, Or.inr (⟨rfl, rfl⟩)⟩)
  · obtain ⟨v, rfl, v9⟩ := hv r M hp
    refine en_i2l h dL_worst_7 v9 ?_
    refine en_lastore h dL_worst_8 (hI _ (by omega) (by omega)) rfl (by omega) ?_
    refine en_goto (tgt := 18) h dL_worst_9 (by decide) ?_
    refine en_iconst h dL_worst_18 ?_
    exact en_iret h hf dL_worst_19 ⟨by decide, by decide⟩ (Or.inl ⟨v, M, hp, rfl, rfl⟩)
abbrev rm_L_clean : Room := { frames := 8, cells := 3, slots := 18, locals := 162 }
theorem my_L_clean : en_MYS yL_clean RL cL_clean 5 (some .int) [(0, 10, 13, 13), (0, 10, 17, 15), (0, 10, 21, 17)] wsL_clean 4 := ⟨⟨_, rfl⟩, rfl, by decide, by decide, by decide +kernel, by decide +kernel⟩
set_option maxRecDepth 100000 in
set_option maxHeartbeats 4000000 in
theorem k_L_clean {l : Launch} {w : en_W} {m : en_M} {a0 : Int} {a1 : Int} {post : Option en_V → en_M → Prop} {postX : String → en_M → Prop} (hw : en_Wok w) (hp : en_Has w 0 68) (hl : l.stackTraces = false) (hM : en_MetX l w yX4_clean wsX4_clean rm_X4_clean [en_R 49, en_I a0, en_I a1] m post postX) (hv : ∀ r m1, post r m1 → ∃ v, r = some (en_I v) ∧ en_i32 v) (hE : ∀ E m1, postX E m1 → E = eIO ∨ E = eIA ∨ E = eIS) : en_MetS l w yL_clean wsL_clean rm_L_clean [en_R 49, en_I a0, en_I a1, en_R 50] m (fun r m' => (∃ v m1, post (some (en_I v)) m1 ∧ r = some (en_I 0) ∧ m' = en_set m1 50 0 v) ∨ ∃ E, postX E m' ∧ ((E = eIO ∧ r = some (en_I 1)) ∨ (E = eIA ∧ r = some (en_I 2)) ∨ (E = eIS ∧ r = some (en_I 3)))) := by
  refine en_metS my_L_clean hw hl (Nat.le_of_ble_eq_true rfl) ?_
  intro κ hl9 hw9 h hf hx9 htab
  subst hw9
  subst hl9
  have hI : ∀ k, 0 ≤ k → k < 68 → en_in κ k := hp
  refine en_aload_n (i := 3) h dL_clean_0 rfl rfl ?_
  refine en_iconst h dL_clean_1 ?_
  refine en_aload_n (i := 0) h dL_clean_2 rfl rfl ?_
  refine en_iload_n (i := 1) h dL_clean_3 rfl rfl ?_
  refine en_iload_n (i := 2) h dL_clean_4 rfl rfl ?_
  refine en_callVC h htab hx9 hM my_X4_clean gL_clean_X4_clean (hI _ (by omega) (by omega)) rfl rfl rfl rfl ⟨by decide, by decide⟩ ⟨by decide, by decide⟩ (Nat.le_of_ble_eq_true rfl) dL_clean_5 (fun E M hx => ?_) (fun r M hp => ?_)
  · have e := hE E M hx
    rcases e with rfl | rfl | rfl
    · refine ⟨by decide, [], (0, 10, 13, 13), [(0, 10, 17, 15), (0, 10, 21, 17)], rfl, fun z hz => absurd hz (by simp), ⟨by decide, by decide⟩, by decide, by decide +kernel, 4, 2, by decide, Or.inl ⟨dL_clean_13, rfl⟩, ?_⟩
      refine en_iconst h dL_clean_15 ?_
      exact en_iret h hf dL_clean_16 ⟨by decide, by decide⟩ (Or.inr ⟨_, hx, Or.inl ⟨rfl, rfl⟩⟩)
    · refine ⟨by decide, [(0, 10, 13, 13)], (0, 10, 17, 15), [(0, 10, 21, 17)], rfl, fun z hz => by simp only [List.mem_cons, List.not_mem_nil, or_false] at hz; subst hz; exact ⟨by decide, eIO, by decide +kernel, by decide⟩, ⟨by decide, by decide⟩, by decide, by decide +kernel, 4, 2, by decide, Or.inl ⟨dL_clean_17, rfl⟩, ?_⟩
      refine en_iconst h dL_clean_19 ?_
      exact en_iret h hf dL_clean_20 ⟨by decide, by decide⟩ (Or.inr ⟨_, hx, Or.inr (Or.inl ⟨rfl, rfl⟩)⟩)
    · refine ⟨by decide, [(0, 10, 13, 13), (0, 10, 17, 15)], (0, 10, 21, 17), [], rfl, fun z hz => by simp only [List.mem_cons, List.not_mem_nil, or_false] at hz; rcases hz with rfl | rfl; exact ⟨by decide, eIO, by decide +kernel, by decide⟩; exact ⟨by decide, eIA, by decide +kernel, by decide⟩, ⟨by decide, by decide⟩, by decide, by decide +kernel, 4, 2, by decide, Or.inl ⟨dL_clean_21, rfl⟩, ?_⟩
      refine en_iconst h dL_clean_23 ?_
      exact en_iret h hf dL_clean_24 ⟨by decide, by decide⟩ (Or.inr ⟨_, hx, Or.inr (Or.inr (⟨rfl, rfl⟩))⟩)
  · obtain ⟨v, rfl, v9⟩ := hv r M hp
    refine en_i2l h dL_clean_8 v9 ?_
    refine en_lastore h dL_clean_9 (hI _ (by omega) (by omega)) rfl (by omega) ?_
    refine en_goto (tgt := 25) h dL_clean_10 (by decide) ?_
    refine en_iconst h dL_clean_25 ?_
    exact en_iret h hf dL_clean_26 ⟨by decide, by decide⟩ (Or.inl ⟨v, M, hp, rfl, rfl⟩)
