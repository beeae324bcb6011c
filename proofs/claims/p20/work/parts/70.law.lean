/-! LAW 1: wrappers that catch -/
abbrev rm_L_lines : Room := { frames := 8, cells := 6, slots := 36, locals := 135 }
theorem my_L_lines : en_MYS yL_lines RL cL_lines 5 (some .int) [(0, 7, 8, 13), (0, 7, 13, 16), (0, 7, 18, 19)] wsL_lines 4 := ⟨⟨_, rfl⟩, rfl, by decide, by decide, by decide +kernel, by decide +kernel⟩
set_option maxRecDepth 20000 in
theorem cn_L_lines_15 : Cond.constant RL 15 (-2000000001) ∈ wsL_lines := by decide +kernel
set_option maxRecDepth 20000 in
theorem cn_L_lines_18 : Cond.constant RL 18 (-2000000002) ∈ wsL_lines := by decide +kernel
set_option maxRecDepth 20000 in
theorem cn_L_lines_21 : Cond.constant RL 21 (-2000000003) ∈ wsL_lines := by decide +kernel
set_option maxRecDepth 100000 in
set_option maxHeartbeats 4000000 in
theorem k_L_lines {l : Launch} {w : en_W} {m : en_M} {a0 : Int} {a1 : Int} {a2 : Int} {post : Option en_V → en_M → Prop} {postX : String → en_M → Prop} (hw : en_Wok w) (hp : en_Has w 0 50) (hl : l.stackTraces = false) (hM : en_MetX l w yX4_addLine wsX4_addLine rm_X4_addLine [en_R 49, en_I a0, en_I a1, en_I a2] m post postX) (hv : ∀ r m1, post r m1 → ∃ v, r = some (en_I v)) (hE : ∀ E m1, postX E m1 → E = eIO ∨ E = eIA ∨ E = eIS) : en_MetS l w yL_lines wsL_lines rm_L_lines [en_R 49, en_I a0, en_I a1, en_I a2] m (fun r m' => (∃ v, post (some (en_I v)) m' ∧ r = some (en_I v)) ∨ ∃ E, postX E m' ∧ ((E = eIO ∧ r = some (en_I (-2000000001))) ∨ (E = eIA ∧ r = some (en_I (-2000000002))) ∨ (E = eIS ∧ r = some (en_I (-2000000003))))) := by
  refine en_metS my_L_lines hw hl (Nat.le_of_ble_eq_true rfl) ?_
  intro κ hl9 hw9 h hf hx9 htab
  subst hw9
  subst hl9
  have hI : ∀ k, 0 ≤ k → k < 50 → en_in κ k := hp
  refine en_aload_n (i := 0) h dL_lines_0 rfl rfl ?_
  refine en_iload_n (i := 1) h dL_lines_1 rfl rfl ?_
  refine en_iload_n (i := 2) h dL_lines_2 rfl rfl ?_
  refine en_iload_n (i := 3) h dL_lines_3 rfl rfl ?_
  refine en_callVC h htab hx9 hM my_X4_addLine gL_lines_X4_addLine (hI _ (by omega) (by omega)) rfl rfl rfl rfl ⟨by decide, by decide⟩ ⟨by decide, by decide⟩ (Nat.le_of_ble_eq_true rfl) dL_lines_4 (fun E M hx => ?_) (fun r M hp => ?_)
  · have e := hE E M hx
    rcases e with rfl | rfl | rfl
    · refine ⟨by decide, [], (0, 7, 8, 13), [(0, 7, 13, 16), (0, 7, 18, 19)], rfl, fun z hz => absurd hz (by simp), ⟨by decide, by decide⟩, by decide, by decide +kernel, 4, 2, by decide, Or.inl ⟨dL_lines_8, rfl⟩, ?_⟩
      refine en_ldc (z := -2000000001) h dL_lines_10 cn_L_lines_15 (by decide) ?_
      exact en_iret h hf dL_lines_12 ⟨by decide, by decide⟩ (Or.inr ⟨_, hx, Or.inl ⟨rfl, rfl⟩⟩)
    · refine ⟨by decide, [(0, 7, 8, 13)], (0, 7, 13, 16), [(0, 7, 18, 19)], rfl, fun z hz => by simp only [List.mem_cons, List.not_mem_nil, or_false] at hz; subst hz; exact ⟨by decide, eIO, by decide +kernel, by decide⟩, ⟨by decide, by decide⟩, by decide, by decide +kernel, 4, 2, by decide, Or.inl ⟨dL_lines_13, rfl⟩, ?_⟩
      refine en_ldc (z := -2000000002) h dL_lines_15 cn_L_lines_18 (by decide) ?_
      exact en_iret h hf dL_lines_17 ⟨by decide, by decide⟩ (Or.inr ⟨_, hx, Or.inr (Or.inl ⟨rfl, rfl⟩)⟩)
    · refine ⟨by decide, [(0, 7, 8, 13), (0, 7, 13, 16)], (0, 7, 18, 19), [], rfl, fun z hz => by simp only [List.mem_cons, List.not_mem_nil, or_false] at hz; rcases hz with rfl | rfl; exact ⟨by decide, eIO, by decide +kernel, by decide⟩; exact ⟨by decide, eIA, by decide +kernel, by decide⟩, ⟨by decide, by decide⟩, by decide, by decide +kernel, 4, 2, by decide, Or.inl ⟨dL_lines_18, rfl⟩, ?_⟩
      refine en_ldc (z := -2000000003) h dL_lines_20 cn_L_lines_21 (by decide) ?_
      exact en_iret h hf dL_lines_22 ⟨by decide, by decide⟩ (Or.inr ⟨_, hx, Or.inr (Or.inr (⟨rfl, rfl⟩))⟩)
  · obtain ⟨v, rfl⟩ := hv r M hp
    exact en_iret h hf dL_lines_7 ⟨by decide, by decide⟩ (Or.inl ⟨v, hp, rfl⟩)
abbrev rm_L_breaks : Room := { frames := 7, cells := 1, slots := 6, locals := 133 }
theorem my_L_breaks : en_MYS yL_breaks RL cL_breaks 4 (some .int) [(0, 14, 15, 13)] wsL_breaks 3 := ⟨⟨_, rfl⟩, rfl, by decide, by decide, by decide +kernel, by decide +kernel⟩
set_option maxRecDepth 20000 in
theorem cn_L_breaks_15 : Cond.constant RL 15 (-2000000001) ∈ wsL_breaks := by decide +kernel
set_option maxRecDepth 100000 in
set_option maxHeartbeats 4000000 in
theorem k_L_breaks {l : Launch} {w : en_W} {m : en_M} {a0 : Int} {a1 : Int} {post : Option en_V → en_M → Prop} {postX : String → en_M → Prop} (hw : en_Wok w) (hp : en_Has w 0 50) (hl : l.stackTraces = false) (hM : en_MetX l w yX4_setBreaker wsX4_setBreaker rm_X4_setBreaker [en_R 49, en_I a0, en_I a1] m post postX) (hv : ∀ r m1, post r m1 → ∃ v, r = some (en_I v) ∧ (v = 0 ∨ v = 1)) (hE : ∀ E m1, postX E m1 → E = eIO) : en_MetS l w yL_breaks wsL_breaks rm_L_breaks [en_R 49, en_I a0, en_I a1] m (fun r m' => (∃ v, post (some (en_I v)) m' ∧ r = some (en_I v)) ∨ ∃ E, postX E m' ∧ ((E = eIO ∧ r = some (en_I (-2000000001))))) := by
  refine en_metS my_L_breaks hw hl (Nat.le_of_ble_eq_true rfl) ?_
  intro κ hl9 hw9 h hf hx9 htab
  subst hw9
  subst hl9
  have hI : ∀ k, 0 ≤ k → k < 50 → en_in κ k := hp
  refine en_aload_n (i := 0) h dL_breaks_0 rfl rfl ?_
  refine en_iload_n (i := 1) h dL_breaks_1 rfl rfl ?_
  refine en_iload_n (i := 2) h dL_breaks_2 rfl rfl ?_
  refine en_callVC h htab hx9 hM my_X4_setBreaker gL_breaks_X4_setBreaker (hI _ (by omega) (by omega)) rfl rfl rfl rfl ⟨by decide, by decide⟩ ⟨by decide, by decide⟩ (Nat.le_of_ble_eq_true rfl) dL_breaks_3 (fun E M hx => ?_) (fun r M hp => ?_)
  · have e := hE E M hx
    subst e
    refine ⟨by decide, [], (0, 14, 15, 13), [], rfl, fun z hz => absurd hz (by simp), ⟨by decide, by decide⟩, by decide, by decide +kernel, 3, 1, by decide, Or.inr ⟨3, rfl, dL_breaks_15, rfl⟩, ?_⟩
    refine en_ldc (z := -2000000001) h dL_breaks_16 cn_L_breaks_15 (by decide) ?_
    exact en_iret h hf dL_breaks_18 ⟨by decide, by decide⟩ (Or.inr ⟨_, hx, ⟨rfl, rfl⟩⟩)
  · obtain ⟨v, rfl, v9⟩ := hv r M hp
    refine en_if_eq (tgt := 13) h dL_breaks_6 (by decide) (by omega) (fun c_6 => ?_) (fun c_6 => ?_)
    · obtain rfl : v = 0 := by omega
      refine en_iconst h dL_breaks_13 ?_
      exact en_iret h hf dL_breaks_14 ⟨by decide, by decide⟩ (Or.inl ⟨0, hp, rfl⟩)
    · obtain rfl : v = 1 := by omega
      refine en_iconst h dL_breaks_9 ?_
      refine en_goto (tgt := 14) h dL_breaks_10 (by decide) ?_
      exact en_iret h hf dL_breaks_14 ⟨by decide, by decide⟩ (Or.inl ⟨1, hp, rfl⟩)
abbrev rm_L_reference : Room := { frames := 8, cells := 1, slots := 6, locals := 132 }
theorem my_L_reference : en_MYS yL_reference RL cL_reference 3 (some .int) [(0, 5, 6, 13)] wsL_reference 2 := ⟨⟨_, rfl⟩, rfl, by decide, by decide, by decide +kernel, by decide +kernel⟩
set_option maxRecDepth 20000 in
theorem cn_L_reference_15 : Cond.constant RL 15 (-2000000001) ∈ wsL_reference := by decide +kernel
set_option maxRecDepth 100000 in
set_option maxHeartbeats 4000000 in
theorem k_L_reference {l : Launch} {w : en_W} {m : en_M} {a0 : Int} {post : Option en_V → en_M → Prop} {postX : String → en_M → Prop} (hw : en_Wok w) (hp : en_Has w 0 50) (hl : l.stackTraces = false) (hM : en_MetX l w yX4_reference wsX4_reference rm_X4_reference [en_R 49, en_I a0] m post postX) (hv : ∀ r m1, post r m1 → ∃ v, r = some (en_I v)) (hE : ∀ E m1, postX E m1 → E = eIO) : en_MetS l w yL_reference wsL_reference rm_L_reference [en_R 49, en_I a0] m (fun r m' => (∃ v, post (some (en_I v)) m' ∧ r = some (en_I v)) ∨ ∃ E, postX E m' ∧ ((E = eIO ∧ r = some (en_I (-2000000001))))) := by
  refine en_metS my_L_reference hw hl (Nat.le_of_ble_eq_true rfl) ?_
  intro κ hl9 hw9 h hf hx9 htab
  subst hw9
  subst hl9
  have hI : ∀ k, 0 ≤ k → k < 50 → en_in κ k := hp
  refine en_aload_n (i := 0) h dL_reference_0 rfl rfl ?_
  refine en_iload_n (i := 1) h dL_reference_1 rfl rfl ?_
  refine en_callVC h htab hx9 hM my_X4_reference gL_reference_X4_reference (hI _ (by omega) (by omega)) rfl rfl rfl rfl ⟨by decide, by decide⟩ ⟨by decide, by decide⟩ (Nat.le_of_ble_eq_true rfl) dL_reference_2 (fun E M hx => ?_) (fun r M hp => ?_)
  · have e := hE E M hx
    subst e
    refine ⟨by decide, [], (0, 5, 6, 13), [], rfl, fun z hz => absurd hz (by simp), ⟨by decide, by decide⟩, by decide, by decide +kernel, 2, 1, by decide, Or.inr ⟨2, rfl, dL_reference_6, rfl⟩, ?_⟩
    refine en_ldc (z := -2000000001) h dL_reference_7 cn_L_reference_15 (by decide) ?_
    exact en_iret h hf dL_reference_9 ⟨by decide, by decide⟩ (Or.inr ⟨_, hx, ⟨rfl, rfl⟩⟩)
  · obtain ⟨v, rfl⟩ := hv r M hp
    exact en_iret h hf dL_reference_5 ⟨by decide, by decide⟩ (Or.inl ⟨v, hp, rfl⟩)
abbrev rm_L_adds : Room := { frames := 8, cells := 5, slots := 30, locals := 135 }
theorem my_L_adds : en_MYS yL_adds RL cL_adds 6 (some .int) [(0, 9, 10, 16), (0, 9, 15, 13), (0, 9, 20, 19)] wsL_adds 5 := ⟨⟨_, rfl⟩, rfl, by decide, by decide, by decide +kernel, by decide +kernel⟩
set_option maxRecDepth 20000 in
theorem cn_L_adds_18 : Cond.constant RL 18 (-2000000002) ∈ wsL_adds := by decide +kernel
set_option maxRecDepth 20000 in
theorem cn_L_adds_15 : Cond.constant RL 15 (-2000000001) ∈ wsL_adds := by decide +kernel
set_option maxRecDepth 20000 in
theorem cn_L_adds_21 : Cond.constant RL 21 (-2000000003) ∈ wsL_adds := by decide +kernel
set_option maxRecDepth 100000 in
set_option maxHeartbeats 4000000 in
theorem k_L_adds {l : Launch} {w : en_W} {m : en_M} {a0 : Int} {a1 : Int} {a2 : Int} {a3 : Int} {post : Option en_V → en_M → Prop} {postX : String → en_M → Prop} (hw : en_Wok w) (hp : en_Has w 0 50) (hl : l.stackTraces = false) (hM : en_MetX l w yX4_addMeter wsX4_addMeter rm_X4_addMeter [en_R 49, en_I a0, en_I a1, en_I a2, en_I a3] m post postX) (hv : ∀ r m1, post r m1 → ∃ v, r = some (en_I v)) (hE : ∀ E m1, postX E m1 → E = eIA ∨ E = eIO ∨ E = eIS) : en_MetS l w yL_adds wsL_adds rm_L_adds [en_R 49, en_I a0, en_I a1, en_I a2, en_I a3] m (fun r m' => (∃ v, post (some (en_I v)) m' ∧ r = some (en_I v)) ∨ ∃ E, postX E m' ∧ ((E = eIA ∧ r = some (en_I (-2000000002))) ∨ (E = eIO ∧ r = some (en_I (-2000000001))) ∨ (E = eIS ∧ r = some (en_I (-2000000003))))) := by
  refine en_metS my_L_adds hw hl (Nat.le_of_ble_eq_true rfl) ?_
  intro κ hl9 hw9 h hf hx9 htab
  subst hw9
  subst hl9
  have hI : ∀ k, 0 ≤ k → k < 50 → en_in κ k := hp
  refine en_aload_n (i := 0) h dL_adds_0 rfl rfl ?_
  refine en_iload_n (i := 1) h dL_adds_1 rfl rfl ?_
  refine en_iload_n (i := 2) h dL_adds_2 rfl rfl ?_
  refine en_iload_n (i := 3) h dL_adds_3 rfl rfl ?_
  refine en_iload (i := 4) h dL_adds_4 rfl ?_
  refine en_callVC h htab hx9 hM my_X4_addMeter gL_adds_X4_addMeter (hI _ (by omega) (by omega)) rfl rfl rfl rfl ⟨by decide, by decide⟩ ⟨by decide, by decide⟩ (Nat.le_of_ble_eq_true rfl) dL_adds_6 (fun E M hx => ?_) (fun r M hp => ?_)
  · have e := hE E M hx
    rcases e with rfl | rfl | rfl
    · refine ⟨by decide, [], (0, 9, 10, 16), [(0, 9, 15, 13), (0, 9, 20, 19)], rfl, fun z hz => absurd hz (by simp), ⟨by decide, by decide⟩, by decide, by decide +kernel, 5, 2, by decide, Or.inl ⟨dL_adds_10, rfl⟩, ?_⟩
      refine en_ldc (z := -2000000002) h dL_adds_12 cn_L_adds_18 (by decide) ?_
      exact en_iret h hf dL_adds_14 ⟨by decide, by decide⟩ (Or.inr ⟨_, hx, Or.inl ⟨rfl, rfl⟩⟩)
    · refine ⟨by decide, [(0, 9, 10, 16)], (0, 9, 15, 13), [(0, 9, 20, 19)], rfl, fun z hz => by simp only [List.mem_cons, List.not_mem_nil, or_false] at hz; subst hz; exact ⟨by decide, eIA, by decide +kernel, by decide⟩, ⟨by decide, by decide⟩, by decide, by decide +kernel, 5, 2, by decide, Or.inl ⟨dL_adds_15, rfl⟩, ?_⟩
      refine en_ldc (z := -2000000001) h dL_adds_17 cn_L_adds_15 (by decide) ?_
      exact en_iret h hf dL_adds_19 ⟨by decide, by decide⟩ (Or.inr ⟨_, hx, Or.inr (Or.inl ⟨rfl, rfl⟩)⟩)
    · refine ⟨by decide, [(0, 9, 10, 16), (0, 9, 15, 13)], (0, 9, 20, 19), [], rfl, fun z hz => by simp only [List.mem_cons, List.not_mem_nil, or_false] at hz; rcases hz with rfl | rfl; exact ⟨by decide, eIA, by decide +kernel, by decide⟩; exact ⟨by decide, eIO, by decide +kernel, by decide⟩, ⟨by decide, by decide⟩, by decide, by decide +kernel, 5, 2, by decide, Or.inl ⟨dL_adds_20, rfl⟩, ?_⟩
      refine en_ldc (z := -2000000003) h dL_adds_22 cn_L_adds_21 (by decide) ?_
      exact en_iret h hf dL_adds_24 ⟨by decide, by decide⟩ (Or.inr ⟨_, hx, Or.inr (Or.inr (⟨rfl, rfl⟩))⟩)
  · obtain ⟨v, rfl⟩ := hv r M hp
    exact en_iret h hf dL_adds_9 ⟨by decide, by decide⟩ (Or.inl ⟨v, hp, rfl⟩)
abbrev rm_L_reads : Room := { frames := 8, cells := 2, slots := 12, locals := 134 }
theorem my_L_reads : en_MYS yL_reads RL cL_reads 4 (some .int) [(0, 6, 7, 13), (0, 6, 11, 16)] wsL_reads 3 := ⟨⟨_, rfl⟩, rfl, by decide, by decide, by decide +kernel, by decide +kernel⟩
set_option maxRecDepth 20000 in
theorem cn_L_reads_15 : Cond.constant RL 15 (-2000000001) ∈ wsL_reads := by decide +kernel
set_option maxRecDepth 20000 in
theorem cn_L_reads_18 : Cond.constant RL 18 (-2000000002) ∈ wsL_reads := by decide +kernel
set_option maxRecDepth 100000 in
set_option maxHeartbeats 4000000 in
theorem k_L_reads {l : Launch} {w : en_W} {m : en_M} {a0 : Int} {a1 : Int} {post : Option en_V → en_M → Prop} {postX : String → en_M → Prop} (hw : en_Wok w) (hp : en_Has w 0 50) (hl : l.stackTraces = false) (hM : en_MetX l w yX4_read wsX4_read rm_X4_read [en_R 49, en_I a0, en_I a1] m post postX) (hv : ∀ r m1, post r m1 → ∃ v, r = some (en_I v)) (hE : ∀ E m1, postX E m1 → E = eIO ∨ E = eIA) : en_MetS l w yL_reads wsL_reads rm_L_reads [en_R 49, en_I a0, en_I a1] m (fun r m' => (∃ v, post (some (en_I v)) m' ∧ r = some (en_I v)) ∨ ∃ E, postX E m' ∧ ((E = eIO ∧ r = some (en_I (-2000000001))) ∨ (E = eIA ∧ r = some (en_I (-2000000002))))) := by
  refine en_metS my_L_reads hw hl (Nat.le_of_ble_eq_true rfl) ?_
  intro κ hl9 hw9 h hf hx9 htab
  subst hw9
  subst hl9
  have hI : ∀ k, 0 ≤ k → k < 50 → en_in κ k := hp
  refine en_aload_n (i := 0) h dL_reads_0 rfl rfl ?_
  refine en_iload_n (i := 1) h dL_reads_1 rfl rfl ?_
  refine en_iload_n (i := 2) h dL_reads_2 rfl rfl ?_
  refine en_callVC h htab hx9 hM my_X4_read gL_reads_X4_read (hI _ (by omega) (by omega)) rfl rfl rfl rfl ⟨by decide, by decide⟩ ⟨by decide, by decide⟩ (Nat.le_of_ble_eq_true rfl) dL_reads_3 (fun E M hx => ?_) (fun r M hp => ?_)
  · have e := hE E M hx
    rcases e with rfl | rfl
    · refine ⟨by decide, [], (0, 6, 7, 13), [(0, 6, 11, 16)], rfl, fun z hz => absurd hz (by simp), ⟨by decide, by decide⟩, by decide, by decide +kernel, 3, 1, by decide, Or.inr ⟨3, rfl, dL_reads_7, rfl⟩, ?_⟩
      refine en_ldc (z := -2000000001) h dL_reads_8 cn_L_reads_15 (by decide) ?_
      exact en_iret h hf dL_reads_10 ⟨by decide, by decide⟩ (Or.inr ⟨_, hx, Or.inl ⟨rfl, rfl⟩⟩)
    · refine ⟨by decide, [(0, 6, 7, 13)], (0, 6, 11, 16), [], rfl, fun z hz => by simp only [List.mem_cons, List.not_mem_nil, or_false] at hz; subst hz; exact ⟨by decide, eIO, by decide +kernel, by decide⟩, ⟨by decide, by decide⟩, by decide, by decide +kernel, 3, 1, by decide, Or.inr ⟨3, rfl, dL_reads_11, rfl⟩, ?_⟩
      refine en_ldc (z := -2000000002) h dL_reads_12 cn_L_reads_18 (by decide) ?_
      exact en_iret h hf dL_reads_14 ⟨by decide, by decide⟩ (Or.inr ⟨_, hx, Or.inr (⟨rfl, rfl⟩)⟩)
  · obtain ⟨v, rfl⟩ := hv r M hp
    exact en_iret h hf dL_reads_6 ⟨by decide, by decide⟩ (Or.inl ⟨v, hp, rfl⟩)
abbrev rm_L_uses : Room := { frames := 8, cells := 1, slots := 6, locals := 134 }
theorem my_L_uses : en_MYS yL_uses RL cL_uses 4 (some .int) [(0, 14, 15, 13)] wsL_uses 3 := ⟨⟨_, rfl⟩, rfl, by decide, by decide, by decide +kernel, by decide +kernel⟩
set_option maxRecDepth 20000 in
theorem cn_L_uses_15 : Cond.constant RL 15 (-2000000001) ∈ wsL_uses := by decide +kernel
set_option maxRecDepth 100000 in
set_option maxHeartbeats 4000000 in
theorem k_L_uses {l : Launch} {w : en_W} {m : en_M} {a0 : Int} {a1 : Int} {post : Option en_V → en_M → Prop} {postX : String → en_M → Prop} (hw : en_Wok w) (hp : en_Has w 0 50) (hl : l.stackTraces = false) (hM : en_MetX l w yX4_use wsX4_use rm_X4_use [en_R 49, en_I a0, en_I a1] m post postX) (hv : ∀ r m1, post r m1 → ∃ v, r = some (en_I v) ∧ (v = 0 ∨ v = 1)) (hE : ∀ E m1, postX E m1 → E = eIO) : en_MetS l w yL_uses wsL_uses rm_L_uses [en_R 49, en_I a0, en_I a1] m (fun r m' => (∃ v, post (some (en_I v)) m' ∧ r = some (en_I v)) ∨ ∃ E, postX E m' ∧ ((E = eIO ∧ r = some (en_I (-2000000001))))) := by
  refine en_metS my_L_uses hw hl (Nat.le_of_ble_eq_true rfl) ?_
  intro κ hl9 hw9 h hf hx9 htab
  subst hw9
  subst hl9
  have hI : ∀ k, 0 ≤ k → k < 50 → en_in κ k := hp
  refine en_aload_n (i := 0) h dL_uses_0 rfl rfl ?_
  refine en_iload_n (i := 1) h dL_uses_1 rfl rfl ?_
  refine en_iload_n (i := 2) h dL_uses_2 rfl rfl ?_
  refine en_callVC h htab hx9 hM my_X4_use gL_uses_X4_use (hI _ (by omega) (by omega)) rfl rfl rfl rfl ⟨by decide, by decide⟩ ⟨by decide, by decide⟩ (Nat.le_of_ble_eq_true rfl) dL_uses_3 (fun E M hx => ?_) (fun r M hp => ?_)
  · have e := hE E M hx
    subst e
    refine ⟨by decide, [], (0, 14, 15, 13), [], rfl, fun z hz => absurd hz (by simp), ⟨by decide, by decide⟩, by decide, by decide +kernel, 3, 1, by decide, Or.inr ⟨3, rfl, dL_uses_15, rfl⟩, ?_⟩
    refine en_ldc (z := -2000000001) h dL_uses_16 cn_L_uses_15 (by decide) ?_
    exact en_iret h hf dL_uses_18 ⟨by decide, by decide⟩ (Or.inr ⟨_, hx, ⟨rfl, rfl⟩⟩)
  · obtain ⟨v, rfl, v9⟩ := hv r M hp
    refine en_if_eq (tgt := 13) h dL_uses_6 (by decide) (by omega) (fun c_6 => ?_) (fun c_6 => ?_)
    · obtain rfl : v = 0 := by omega
      refine en_iconst h dL_uses_13 ?_
      exact en_iret h hf dL_uses_14 ⟨by decide, by decide⟩ (Or.inl ⟨0, hp, rfl⟩)
    · obtain rfl : v = 1 := by omega
      refine en_iconst h dL_uses_9 ?_
      refine en_goto (tgt := 14) h dL_uses_10 (by decide) ?_
      exact en_iret h hf dL_uses_14 ⟨by decide, by decide⟩ (Or.inl ⟨1, hp, rfl⟩)
abbrev rm_L_counts : Room := { frames := 8, cells := 1, slots := 6, locals := 132 }
theorem my_L_counts : en_MYS yL_counts RL cL_counts 3 (some .int) [(0, 5, 6, 13)] wsL_counts 2 := ⟨⟨_, rfl⟩, rfl, by decide, by decide, by decide +kernel, by decide +kernel⟩
set_option maxRecDepth 20000 in
theorem cn_L_counts_15 : Cond.constant RL 15 (-2000000001) ∈ wsL_counts := by decide +kernel
set_option maxRecDepth 100000 in
set_option maxHeartbeats 4000000 in
theorem k_L_counts {l : Launch} {w : en_W} {m : en_M} {a0 : Int} {post : Option en_V → en_M → Prop} {postX : String → en_M → Prop} (hw : en_Wok w) (hp : en_Has w 0 50) (hl : l.stackTraces = false) (hM : en_MetX l w yX4_countsIn wsX4_countsIn rm_X4_countsIn [en_R 49, en_I a0] m post postX) (hv : ∀ r m1, post r m1 → ∃ v, r = some (en_I v)) (hE : ∀ E m1, postX E m1 → E = eIO) : en_MetS l w yL_counts wsL_counts rm_L_counts [en_R 49, en_I a0] m (fun r m' => (∃ v, post (some (en_I v)) m' ∧ r = some (en_I v)) ∨ ∃ E, postX E m' ∧ ((E = eIO ∧ r = some (en_I (-2000000001))))) := by
  refine en_metS my_L_counts hw hl (Nat.le_of_ble_eq_true rfl) ?_
  intro κ hl9 hw9 h hf hx9 htab
  subst hw9
  subst hl9
  have hI : ∀ k, 0 ≤ k → k < 50 → en_in κ k := hp
  refine en_aload_n (i := 0) h dL_counts_0 rfl rfl ?_
  refine en_iload_n (i := 1) h dL_counts_1 rfl rfl ?_
  refine en_callVC h htab hx9 hM my_X4_countsIn gL_counts_X4_countsIn (hI _ (by omega) (by omega)) rfl rfl rfl rfl ⟨by decide, by decide⟩ ⟨by decide, by decide⟩ (Nat.le_of_ble_eq_true rfl) dL_counts_2 (fun E M hx => ?_) (fun r M hp => ?_)
  · have e := hE E M hx
    subst e
    refine ⟨by decide, [], (0, 5, 6, 13), [], rfl, fun z hz => absurd hz (by simp), ⟨by decide, by decide⟩, by decide, by decide +kernel, 2, 1, by decide, Or.inr ⟨2, rfl, dL_counts_6, rfl⟩, ?_⟩
    refine en_ldc (z := -2000000001) h dL_counts_7 cn_L_counts_15 (by decide) ?_
    exact en_iret h hf dL_counts_9 ⟨by decide, by decide⟩ (Or.inr ⟨_, hx, ⟨rfl, rfl⟩⟩)
  · obtain ⟨v, rfl⟩ := hv r M hp
    exact en_iret h hf dL_counts_5 ⟨by decide, by decide⟩ (Or.inl ⟨v, hp, rfl⟩)
abbrev rm_L_rank : Room := { frames := 8, cells := 1, slots := 6, locals := 132 }
theorem my_L_rank : en_MYS yL_rank RL cL_rank 3 (some .int) [(0, 5, 6, 13)] wsL_rank 2 := ⟨⟨_, rfl⟩, rfl, by decide, by decide, by decide +kernel, by decide +kernel⟩
set_option maxRecDepth 20000 in
theorem cn_L_rank_15 : Cond.constant RL 15 (-2000000001) ∈ wsL_rank := by decide +kernel
set_option maxRecDepth 100000 in
set_option maxHeartbeats 4000000 in
theorem k_L_rank {l : Launch} {w : en_W} {m : en_M} {a0 : Int} {post : Option en_V → en_M → Prop} {postX : String → en_M → Prop} (hw : en_Wok w) (hp : en_Has w 0 50) (hl : l.stackTraces = false) (hM : en_MetX l w yX4_rank wsX4_rank rm_X4_rank [en_R 49, en_I a0] m post postX) (hv : ∀ r m1, post r m1 → ∃ v, r = some (en_I v)) (hE : ∀ E m1, postX E m1 → E = eIO) : en_MetS l w yL_rank wsL_rank rm_L_rank [en_R 49, en_I a0] m (fun r m' => (∃ v, post (some (en_I v)) m' ∧ r = some (en_I v)) ∨ ∃ E, postX E m' ∧ ((E = eIO ∧ r = some (en_I (-2000000001))))) := by
  refine en_metS my_L_rank hw hl (Nat.le_of_ble_eq_true rfl) ?_
  intro κ hl9 hw9 h hf hx9 htab
  subst hw9
  subst hl9
  have hI : ∀ k, 0 ≤ k → k < 50 → en_in κ k := hp
  refine en_aload_n (i := 0) h dL_rank_0 rfl rfl ?_
  refine en_iload_n (i := 1) h dL_rank_1 rfl rfl ?_
  refine en_callVC h htab hx9 hM my_X4_rank gL_rank_X4_rank (hI _ (by omega) (by omega)) rfl rfl rfl rfl ⟨by decide, by decide⟩ ⟨by decide, by decide⟩ (Nat.le_of_ble_eq_true rfl) dL_rank_2 (fun E M hx => ?_) (fun r M hp => ?_)
  · have e := hE E M hx
    subst e
    refine ⟨by decide, [], (0, 5, 6, 13), [], rfl, fun z hz => absurd hz (by simp), ⟨by decide, by decide⟩, by decide, by decide +kernel, 2, 1, by decide, Or.inr ⟨2, rfl, dL_rank_6, rfl⟩, ?_⟩
    refine en_ldc (z := -2000000001) h dL_rank_7 cn_L_rank_15 (by decide) ?_
    exact en_iret h hf dL_rank_9 ⟨by decide, by decide⟩ (Or.inr ⟨_, hx, ⟨rfl, rfl⟩⟩)
  · obtain ⟨v, rfl⟩ := hv r M hp
    exact en_iret h hf dL_rank_5 ⟨by decide, by decide⟩ (Or.inl ⟨v, hp, rfl⟩)
abbrev rm_L_observable : Room := { frames := 8, cells := 1, slots := 6, locals := 134 }
theorem my_L_observable : en_MYS yL_observable RL cL_observable 3 (some .int) [(0, 13, 14, 13)] wsL_observable 2 := ⟨⟨_, rfl⟩, rfl, by decide, by decide, by decide +kernel, by decide +kernel⟩
set_option maxRecDepth 20000 in
theorem cn_L_observable_15 : Cond.constant RL 15 (-2000000001) ∈ wsL_observable := by decide +kernel
set_option maxRecDepth 100000 in
set_option maxHeartbeats 4000000 in
theorem k_L_observable {l : Launch} {w : en_W} {m : en_M} {a0 : Int} {post : Option en_V → en_M → Prop} {postX : String → en_M → Prop} (hw : en_Wok w) (hp : en_Has w 0 50) (hl : l.stackTraces = false) (hM : en_MetX l w yX4_isObservable wsX4_isObservable rm_X4_isObservable [en_R 49, en_I a0] m post postX) (hv : ∀ r m1, post r m1 → ∃ v, r = some (en_I v) ∧ (v = 0 ∨ v = 1)) (hE : ∀ E m1, postX E m1 → E = eIO) : en_MetS l w yL_observable wsL_observable rm_L_observable [en_R 49, en_I a0] m (fun r m' => (∃ v, post (some (en_I v)) m' ∧ r = some (en_I v)) ∨ ∃ E, postX E m' ∧ ((E = eIO ∧ r = some (en_I (-2000000001))))) := by
  refine en_metS my_L_observable hw hl (Nat.le_of_ble_eq_true rfl) ?_
  intro κ hl9 hw9 h hf hx9 htab
  subst hw9
  subst hl9
  have hI : ∀ k, 0 ≤ k → k < 50 → en_in κ k := hp
  refine en_aload_n (i := 0) h dL_observable_0 rfl rfl ?_
  refine en_iload_n (i := 1) h dL_observable_1 rfl rfl ?_
  refine en_callVC h htab hx9 hM my_X4_isObservable gL_observable_X4_isObservable (hI _ (by omega) (by omega)) rfl rfl rfl rfl ⟨by decide, by decide⟩ ⟨by decide, by decide⟩ (Nat.le_of_ble_eq_true rfl) dL_observable_2 (fun E M hx => ?_) (fun r M hp => ?_)
  · have e := hE E M hx
    subst e
    refine ⟨by decide, [], (0, 13, 14, 13), [], rfl, fun z hz => absurd hz (by simp), ⟨by decide, by decide⟩, by decide, by decide +kernel, 2, 1, by decide, Or.inr ⟨2, rfl, dL_observable_14, rfl⟩, ?_⟩
    refine en_ldc (z := -2000000001) h dL_observable_15 cn_L_observable_15 (by decide) ?_
    exact en_iret h hf dL_observable_17 ⟨by decide, by decide⟩ (Or.inr ⟨_, hx, ⟨rfl, rfl⟩⟩)
  · obtain ⟨v, rfl, v9⟩ := hv r M hp
    refine en_if_eq (tgt := 12) h dL_observable_5 (by decide) (by omega) (fun c_5 => ?_) (fun c_5 => ?_)
    · obtain rfl : v = 0 := by omega
      refine en_iconst h dL_observable_12 ?_
      exact en_iret h hf dL_observable_13 ⟨by decide, by decide⟩ (Or.inl ⟨0, hp, rfl⟩)
    · obtain rfl : v = 1 := by omega
      refine en_iconst h dL_observable_8 ?_
      refine en_goto (tgt := 13) h dL_observable_9 (by decide) ?_
      exact en_iret h hf dL_observable_13 ⟨by decide, by decide⟩ (Or.inl ⟨1, hp, rfl⟩)
abbrev rm_L_critical : Room := { frames := 8, cells := 1, slots := 6, locals := 136 }
theorem my_L_critical : en_MYS yL_critical RL cL_critical 3 (some .int) [(0, 13, 14, 13)] wsL_critical 2 := ⟨⟨_, rfl⟩, rfl, by decide, by decide, by decide +kernel, by decide +kernel⟩
set_option maxRecDepth 20000 in
theorem cn_L_critical_15 : Cond.constant RL 15 (-2000000001) ∈ wsL_critical := by decide +kernel
set_option maxRecDepth 100000 in
set_option maxHeartbeats 4000000 in
theorem k_L_critical {l : Launch} {w : en_W} {m : en_M} {a0 : Int} {post : Option en_V → en_M → Prop} {postX : String → en_M → Prop} (hw : en_Wok w) (hp : en_Has w 0 50) (hl : l.stackTraces = false) (hM : en_MetX l w yX4_isCritical wsX4_isCritical rm_X4_isCritical [en_R 49, en_I a0] m post postX) (hv : ∀ r m1, post r m1 → ∃ v, r = some (en_I v) ∧ (v = 0 ∨ v = 1)) (hE : ∀ E m1, postX E m1 → E = eIO) : en_MetS l w yL_critical wsL_critical rm_L_critical [en_R 49, en_I a0] m (fun r m' => (∃ v, post (some (en_I v)) m' ∧ r = some (en_I v)) ∨ ∃ E, postX E m' ∧ ((E = eIO ∧ r = some (en_I (-2000000001))))) := by
  refine en_metS my_L_critical hw hl (Nat.le_of_ble_eq_true rfl) ?_
  intro κ hl9 hw9 h hf hx9 htab
  subst hw9
  subst hl9
  have hI : ∀ k, 0 ≤ k → k < 50 → en_in κ k := hp
  refine en_aload_n (i := 0) h dL_critical_0 rfl rfl ?_
  refine en_iload_n (i := 1) h dL_critical_1 rfl rfl ?_
  refine en_callVC h htab hx9 hM my_X4_isCritical gL_critical_X4_isCritical (hI _ (by omega) (by omega)) rfl rfl rfl rfl ⟨by decide, by decide⟩ ⟨by decide, by decide⟩ (Nat.le_of_ble_eq_true rfl) dL_critical_2 (fun E M hx => ?_) (fun r M hp => ?_)
  · have e := hE E M hx
    subst e
    refine ⟨by decide, [], (0, 13, 14, 13), [], rfl, fun z hz => absurd hz (by simp), ⟨by decide, by decide⟩, by decide, by decide +kernel, 2, 1, by decide, Or.inr ⟨2, rfl, dL_critical_14, rfl⟩, ?_⟩
    refine en_ldc (z := -2000000001) h dL_critical_15 cn_L_critical_15 (by decide) ?_
    exact en_iret h hf dL_critical_17 ⟨by decide, by decide⟩ (Or.inr ⟨_, hx, ⟨rfl, rfl⟩⟩)
  · obtain ⟨v, rfl, v9⟩ := hv r M hp
    refine en_if_eq (tgt := 12) h dL_critical_5 (by decide) (by omega) (fun c_5 => ?_) (fun c_5 => ?_)
    · obtain rfl : v = 0 := by omega
      refine en_iconst h dL_critical_12 ?_
      exact en_iret h hf dL_critical_13 ⟨by decide, by decide⟩ (Or.inl ⟨0, hp, rfl⟩)
    · obtain rfl : v = 1 := by omega
      refine en_iconst h dL_critical_8 ?_
      refine en_goto (tgt := 13) h dL_critical_9 (by decide) ?_
      exact en_iret h hf dL_critical_13 ⟨by decide, by decide⟩ (Or.inl ⟨1, hp, rfl⟩)
abbrev rm_L_top : Room := { frames := 9, cells := 2, slots := 12, locals := 178 }
theorem my_L_top : en_MYS yL_top RL cL_top 3 (some .long) [(0, 5, 6, 13), (0, 5, 11, 19)] wsL_top 2 := ⟨⟨_, rfl⟩, rfl, by decide, by decide, by decide +kernel, by decide +kernel⟩
set_option maxRecDepth 20000 in
theorem cn_L_top_58 : Cond.constantLong RL 58 (-4000000000000000001) ∈ wsL_top := by decide +kernel
set_option maxRecDepth 20000 in
theorem cn_L_top_60 : Cond.constantLong RL 60 (-4000000000000000003) ∈ wsL_top := by decide +kernel
set_option maxRecDepth 100000 in
set_option maxHeartbeats 4000000 in
theorem k_L_top {l : Launch} {w : en_W} {m : en_M} {a0 : Int} {post : Option en_V → en_M → Prop} {postX : String → en_M → Prop} (hw : en_Wok w) (hp : en_Has w 0 50) (hl : l.stackTraces = false) (hM : en_MetX l w yX4_angleNumerator wsX4_angleNumerator rm_X4_angleNumerator [en_R 49, en_I a0] m post postX) (hv : ∀ r m1, post r m1 → ∃ v, r = some (en_L v)) (hE : ∀ E m1, postX E m1 → E = eIO ∨ E = eIS) : en_MetS l w yL_top wsL_top rm_L_top [en_R 49, en_I a0] m (fun r m' => (∃ v, post (some (en_L v)) m' ∧ r = some (en_L v)) ∨ ∃ E, postX E m' ∧ ((E = eIO ∧ r = some (en_L (-4000000000000000001))) ∨ (E = eIS ∧ r = some (en_L (-4000000000000000003))))) := by
  refine en_metS my_L_top hw hl (Nat.le_of_ble_eq_true rfl) ?_
  intro κ hl9 hw9 h hf hx9 htab
  subst hw9
  subst hl9
  have hI : ∀ k, 0 ≤ k → k < 50 → en_in κ k := hp
  refine en_aload_n (i := 0) h dL_top_0 rfl rfl ?_
  refine en_iload_n (i := 1) h dL_top_1 rfl rfl ?_
  refine en_callVC h htab hx9 hM my_X4_angleNumerator gL_top_X4_angleNumerator (hI _ (by omega) (by omega)) rfl rfl rfl rfl ⟨by decide, by decide⟩ ⟨by decide, by decide⟩ (Nat.le_of_ble_eq_true rfl) dL_top_2 (fun E M hx => ?_) (fun r M hp => ?_)
  · have e := hE E M hx
    rcases e with rfl | rfl
    · refine ⟨by decide, [], (0, 5, 6, 13), [(0, 5, 11, 19)], rfl, fun z hz => absurd hz (by simp), ⟨by decide, by decide⟩, by decide, by decide +kernel, 2, 1, by decide, Or.inr ⟨2, rfl, dL_top_6, rfl⟩, ?_⟩
      refine en_ldc2 (z := -4000000000000000001) h dL_top_7 cn_L_top_58 (by decide) ?_
      exact en_lret h hf dL_top_10 ⟨by decide, by decide⟩ (Or.inr ⟨_, hx, Or.inl ⟨rfl, rfl⟩⟩)
    · refine ⟨by decide, [(0, 5, 6, 13)], (0, 5, 11, 19), [], rfl, fun z hz => by simp only [List.mem_cons, List.not_mem_nil, or_false] at hz; subst hz; exact ⟨by decide, eIO, by decide +kernel, by decide⟩, ⟨by decide, by decide⟩, by decide, by decide +kernel, 2, 1, by decide, Or.inr ⟨2, rfl, dL_top_11, rfl⟩, ?_⟩
      refine en_ldc2 (z := -4000000000000000003) h dL_top_12 cn_L_top_60 (by decide) ?_
      exact en_lret h hf dL_top_15 ⟨by decide, by decide⟩ (Or.inr ⟨_, hx, Or.inr (⟨rfl, rfl⟩)⟩)
  · obtain ⟨v, rfl⟩ := hv r M hp
    exact en_lret h hf dL_top_5 ⟨by decide, by decide⟩ (Or.inl ⟨v, hp, rfl⟩)
abbrev rm_L_bottom : Room := { frames := 9, cells := 2, slots := 12, locals := 176 }
theorem my_L_bottom : en_MYS yL_bottom RL cL_bottom 3 (some .long) [(0, 5, 6, 13), (0, 5, 11, 19)] wsL_bottom 2 := ⟨⟨_, rfl⟩, rfl, by decide, by decide, by decide +kernel, by decide +kernel⟩
set_option maxRecDepth 20000 in
theorem cn_L_bottom_58 : Cond.constantLong RL 58 (-4000000000000000001) ∈ wsL_bottom := by decide +kernel
set_option maxRecDepth 20000 in
theorem cn_L_bottom_60 : Cond.constantLong RL 60 (-4000000000000000003) ∈ wsL_bottom := by decide +kernel
set_option maxRecDepth 100000 in
set_option maxHeartbeats 4000000 in
theorem k_L_bottom {l : Launch} {w : en_W} {m : en_M} {a0 : Int} {post : Option en_V → en_M → Prop} {postX : String → en_M → Prop} (hw : en_Wok w) (hp : en_Has w 0 50) (hl : l.stackTraces = false) (hM : en_MetX l w yX4_angleDenominator wsX4_angleDenominator rm_X4_angleDenominator [en_R 49, en_I a0] m post postX) (hv : ∀ r m1, post r m1 → ∃ v, r = some (en_L v)) (hE : ∀ E m1, postX E m1 → E = eIO ∨ E = eIS) : en_MetS l w yL_bottom wsL_bottom rm_L_bottom [en_R 49, en_I a0] m (fun r m' => (∃ v, post (some (en_L v)) m' ∧ r = some (en_L v)) ∨ ∃ E, postX E m' ∧ ((E = eIO ∧ r = some (en_L (-4000000000000000001))) ∨ (E = eIS ∧ r = some (en_L (-4000000000000000003))))) := by
  refine en_metS my_L_bottom hw hl (Nat.le_of_ble_eq_true rfl) ?_
  intro κ hl9 hw9 h hf hx9 htab
  subst hw9
  subst hl9
  have hI : ∀ k, 0 ≤ k → k < 50 → en_in κ k := hp
  refine en_aload_n (i := 0) h dL_bottom_0 rfl rfl ?_
  refine en_iload_n (i := 1) h dL_bottom_1 rfl rfl ?_
  refine en_callVC h htab hx9 hM my_X4_angleDenominator gL_bottom_X4_angleDenominator (hI _ (by omega) (by omega)) rfl rfl rfl rfl ⟨by decide, by decide⟩ ⟨by decide, by decide⟩ (Nat.le_of_ble_eq_true rfl) dL_bottom_2 (fun E M hx => ?_) (fun r M hp => ?_)
  · have e := hE E M hx
    rcases e with rfl | rfl
    · refine ⟨by decide, [], (0, 5, 6, 13), [(0, 5, 11, 19)], rfl, fun z hz => absurd hz (by simp), ⟨by decide, by decide⟩, by decide, by decide +kernel, 2, 1, by decide, Or.inr ⟨2, rfl, dL_bottom_6, rfl⟩, ?_⟩
      refine en_ldc2 (z := -4000000000000000001) h dL_bottom_7 cn_L_bottom_58 (by decide) ?_
      exact en_lret h hf dL_bottom_10 ⟨by decide, by decide⟩ (Or.inr ⟨_, hx, Or.inl ⟨rfl, rfl⟩⟩)
    · refine ⟨by decide, [(0, 5, 6, 13)], (0, 5, 11, 19), [], rfl, fun z hz => by simp only [List.mem_cons, List.not_mem_nil, or_false] at hz; subst hz; exact ⟨by decide, eIO, by decide +kernel, by decide⟩, ⟨by decide, by decide⟩, by decide, by decide +kernel, 2, 1, by decide, Or.inr ⟨2, rfl, dL_bottom_11, rfl⟩, ?_⟩
      refine en_ldc2 (z := -4000000000000000003) h dL_bottom_12 cn_L_bottom_60 (by decide) ?_
      exact en_lret h hf dL_bottom_15 ⟨by decide, by decide⟩ (Or.inr ⟨_, hx, Or.inr (⟨rfl, rfl⟩)⟩)
  · obtain ⟨v, rfl⟩ := hv r M hp
    exact en_lret h hf dL_bottom_5 ⟨by decide, by decide⟩ (Or.inl ⟨v, hp, rfl⟩)
abbrev rm_L_over : Room := { frames := 9, cells := 3, slots := 18, locals := 179 }
theorem my_L_over : en_MYS yL_over RL cL_over 3 (some .long) [(0, 5, 6, 13), (0, 5, 11, 19)] wsL_over 2 := ⟨⟨_, rfl⟩, rfl, by decide, by decide, by decide +kernel, by decide +kernel⟩
set_option maxRecDepth 20000 in
theorem cn_L_over_58 : Cond.constantLong RL 58 (-4000000000000000001) ∈ wsL_over := by decide +kernel
set_option maxRecDepth 20000 in
theorem cn_L_over_60 : Cond.constantLong RL 60 (-4000000000000000003) ∈ wsL_over := by decide +kernel
set_option maxRecDepth 100000 in
set_option maxHeartbeats 4000000 in
theorem k_L_over {l : Launch} {w : en_W} {m : en_M} {a0 : Int} {post : Option en_V → en_M → Prop} {postX : String → en_M → Prop} (hw : en_Wok w) (hp : en_Has w 0 50) (hl : l.stackTraces = false) (hM : en_MetX l w yX4_residualNumerator wsX4_residualNumerator rm_X4_residualNumerator [en_R 49, en_I a0] m post postX) (hv : ∀ r m1, post r m1 → ∃ v, r = some (en_L v)) (hE : ∀ E m1, postX E m1 → E = eIO ∨ E = eIS) : en_MetS l w yL_over wsL_over rm_L_over [en_R 49, en_I a0] m (fun r m' => (∃ v, post (some (en_L v)) m' ∧ r = some (en_L v)) ∨ ∃ E, postX E m' ∧ ((E = eIO ∧ r = some (en_L (-4000000000000000001))) ∨ (E = eIS ∧ r = some (en_L (-4000000000000000003))))) := by
  refine en_metS my_L_over hw hl (Nat.le_of_ble_eq_true rfl) ?_
  intro κ hl9 hw9 h hf hx9 htab
  subst hw9
  subst hl9
  have hI : ∀ k, 0 ≤ k → k < 50 → en_in κ k := hp
  refine en_aload_n (i := 0) h dL_over_0 rfl rfl ?_
  refine en_iload_n (i := 1) h dL_over_1 rfl rfl ?_
  refine en_callVC h htab hx9 hM my_X4_residualNumerator gL_over_X4_residualNumerator (hI _ (by omega) (by omega)) rfl rfl rfl rfl ⟨by decide, by decide⟩ ⟨by decide, by decide⟩ (Nat.le_of_ble_eq_true rfl) dL_over_2 (fun E M hx => ?_) (fun r M hp => ?_)
  · have e := hE E M hx
    rcases e with rfl | rfl
    · refine ⟨by decide, [], (0, 5, 6, 13), [(0, 5, 11, 19)], rfl, fun z hz => absurd hz (by simp), ⟨by decide, by decide⟩, by decide, by decide +kernel, 2, 1, by decide, Or.inr ⟨2, rfl, dL_over_6, rfl⟩, ?_⟩
      refine en_ldc2 (z := -4000000000000000001) h dL_over_7 cn_L_over_58 (by decide) ?_
      exact en_lret h hf dL_over_10 ⟨by decide, by decide⟩ (Or.inr ⟨_, hx, Or.inl ⟨rfl, rfl⟩⟩)
    · refine ⟨by decide, [(0, 5, 6, 13)], (0, 5, 11, 19), [], rfl, fun z hz => by simp only [List.mem_cons, List.not_mem_nil, or_false] at hz; subst hz; exact ⟨by decide, eIO, by decide +kernel, by decide⟩, ⟨by decide, by decide⟩, by decide, by decide +kernel, 2, 1, by decide, Or.inr ⟨2, rfl, dL_over_11, rfl⟩, ?_⟩
      refine en_ldc2 (z := -4000000000000000003) h dL_over_12 cn_L_over_60 (by decide) ?_
      exact en_lret h hf dL_over_15 ⟨by decide, by decide⟩ (Or.inr ⟨_, hx, Or.inr (⟨rfl, rfl⟩)⟩)
  · obtain ⟨v, rfl⟩ := hv r M hp
    exact en_lret h hf dL_over_5 ⟨by decide, by decide⟩ (Or.inl ⟨v, hp, rfl⟩)
abbrev rm_L_under : Room := { frames := 9, cells := 3, slots := 18, locals := 177 }
theorem my_L_under : en_MYS yL_under RL cL_under 3 (some .long) [(0, 5, 6, 13), (0, 5, 11, 19)] wsL_under 2 := ⟨⟨_, rfl⟩, rfl, by decide, by decide, by decide +kernel, by decide +kernel⟩
set_option maxRecDepth 20000 in
theorem cn_L_under_58 : Cond.constantLong RL 58 (-4000000000000000001) ∈ wsL_under := by decide +kernel
set_option maxRecDepth 20000 in
theorem cn_L_under_60 : Cond.constantLong RL 60 (-4000000000000000003) ∈ wsL_under := by decide +kernel
set_option maxRecDepth 100000 in
set_option maxHeartbeats 4000000 in
theorem k_L_under {l : Launch} {w : en_W} {m : en_M} {a0 : Int} {post : Option en_V → en_M → Prop} {postX : String → en_M → Prop} (hw : en_Wok w) (hp : en_Has w 0 50) (hl : l.stackTraces = false) (hM : en_MetX l w yX4_residualDenominator wsX4_residualDenominator rm_X4_residualDenominator [en_R 49, en_I a0] m post postX) (hv : ∀ r m1, post r m1 → ∃ v, r = some (en_L v)) (hE : ∀ E m1, postX E m1 → E = eIO ∨ E = eIS) : en_MetS l w yL_under wsL_under rm_L_under [en_R 49, en_I a0] m (fun r m' => (∃ v, post (some (en_L v)) m' ∧ r = some (en_L v)) ∨ ∃ E, postX E m' ∧ ((E = eIO ∧ r = some (en_L (-4000000000000000001))) ∨ (E = eIS ∧ r = some (en_L (-4000000000000000003))))) := by
  refine en_metS my_L_under hw hl (Nat.le_of_ble_eq_true rfl) ?_
  intro κ hl9 hw9 h hf hx9 htab
  subst hw9
  subst hl9
  have hI : ∀ k, 0 ≤ k → k < 50 → en_in κ k := hp
  refine en_aload_n (i := 0) h dL_under_0 rfl rfl ?_
  refine en_iload_n (i := 1) h dL_under_1 rfl rfl ?_
  refine en_callVC h htab hx9 hM my_X4_residualDenominator gL_under_X4_residualDenominator (hI _ (by omega) (by omega)) rfl rfl rfl rfl ⟨by decide, by decide⟩ ⟨by decide, by decide⟩ (Nat.le_of_ble_eq_true rfl) dL_under_2 (fun E M hx => ?_) (fun r M hp => ?_)
  · have e := hE E M hx
    rcases e with rfl | rfl
    · refine ⟨by decide, [], (0, 5, 6, 13), [(0, 5, 11, 19)], rfl, fun z hz => absurd hz (by simp), ⟨by decide, by decide⟩, by decide, by decide +kernel, 2, 1, by decide, Or.inr ⟨2, rfl, dL_under_6, rfl⟩, ?_⟩
      refine en_ldc2 (z := -4000000000000000001) h dL_under_7 cn_L_under_58 (by decide) ?_
      exact en_lret h hf dL_under_10 ⟨by decide, by decide⟩ (Or.inr ⟨_, hx, Or.inl ⟨rfl, rfl⟩⟩)
    · refine ⟨by decide, [(0, 5, 6, 13)], (0, 5, 11, 19), [], rfl, fun z hz => by simp only [List.mem_cons, List.not_mem_nil, or_false] at hz; subst hz; exact ⟨by decide, eIO, by decide +kernel, by decide⟩, ⟨by decide, by decide⟩, by decide, by decide +kernel, 2, 1, by decide, Or.inr ⟨2, rfl, dL_under_11, rfl⟩, ?_⟩
      refine en_ldc2 (z := -4000000000000000003) h dL_under_12 cn_L_under_60 (by decide) ?_
      exact en_lret h hf dL_under_15 ⟨by decide, by decide⟩ (Or.inr ⟨_, hx, Or.inr (⟨rfl, rfl⟩)⟩)
  · obtain ⟨v, rfl⟩ := hv r M hp
    exact en_lret h hf dL_under_5 ⟨by decide, by decide⟩ (Or.inl ⟨v, hp, rfl⟩)
abbrev rm_L_worst : Room := { frames := 9, cells := 2, slots := 12, locals := 176 }
theorem my_L_worst : en_MYS yL_worst RL cL_worst 3 (some .int) [(0, 5, 6, 13), (0, 5, 10, 19)] wsL_worst 2 := ⟨⟨_, rfl⟩, rfl, by decide, by decide, by decide +kernel, by decide +kernel⟩
set_option maxRecDepth 20000 in
theorem cn_L_worst_15 : Cond.constant RL 15 (-2000000001) ∈ wsL_worst := by decide +kernel
set_option maxRecDepth 20000 in
theorem cn_L_worst_21 : Cond.constant RL 21 (-2000000003) ∈ wsL_worst := by decide +kernel
set_option maxRecDepth 100000 in
set_option maxHeartbeats 4000000 in
theorem k_L_worst {l : Launch} {w : en_W} {m : en_M} {a0 : Int} {post : Option en_V → en_M → Prop} {postX : String → en_M → Prop} (hw : en_Wok w) (hp : en_Has w 0 50) (hl : l.stackTraces = false) (hM : en_MetX l w yX4_worst wsX4_worst rm_X4_worst [en_R 49, en_I a0] m post postX) (hv : ∀ r m1, post r m1 → ∃ v, r = some (en_I v)) (hE : ∀ E m1, postX E m1 → E = eIO ∨ E = eIS) : en_MetS l w yL_worst wsL_worst rm_L_worst [en_R 49, en_I a0] m (fun r m' => (∃ v, post (some (en_I v)) m' ∧ r = some (en_I v)) ∨ ∃ E, postX E m' ∧ ((E = eIO ∧ r = some (en_I (-2000000001))) ∨ (E = eIS ∧ r = some (en_I (-2000000003))))) := by
  refine en_metS my_L_worst hw hl (Nat.le_of_ble_eq_true rfl) ?_
  intro κ hl9 hw9 h hf hx9 htab
  subst hw9
  subst hl9
  have hI : ∀ k, 0 ≤ k → k < 50 → en_in κ k := hp
  refine en_aload_n (i := 0) h dL_worst_0 rfl rfl ?_
  refine en_iload_n (i := 1) h dL_worst_1 rfl rfl ?_
  refine en_callVC h htab hx9 hM my_X4_worst gL_worst_X4_worst (hI _ (by omega) (by omega)) rfl rfl rfl rfl ⟨by decide, by decide⟩ ⟨by decide, by decide⟩ (Nat.le_of_ble_eq_true rfl) dL_worst_2 (fun E M hx => ?_) (fun r M hp => ?_)
  · have e := hE E M hx
    rcases e with rfl | rfl
    · refine ⟨by decide, [], (0, 5, 6, 13), [(0, 5, 10, 19)], rfl, fun z hz => absurd hz (by simp), ⟨by decide, by decide⟩, by decide, by decide +kernel, 2, 1, by decide, Or.inr ⟨2, rfl, dL_worst_6, rfl⟩, ?_⟩
      refine en_ldc (z := -2000000001) h dL_worst_7 cn_L_worst_15 (by decide) ?_
      exact en_iret h hf dL_worst_9 ⟨by decide, by decide⟩ (Or.inr ⟨_, hx, Or.inl ⟨rfl, rfl⟩⟩)
    · refine ⟨by decide, [(0, 5, 6, 13)], (0, 5, 10, 19), [], rfl, fun z hz => by simp only [List.mem_cons, List.not_mem_nil, or_false] at hz; subst hz; exact ⟨by decide, eIO, by decide +kernel, by decide⟩, ⟨by decide, by decide⟩, by decide, by decide +kernel, 2, 1, by decide, Or.inr ⟨2, rfl, dL_worst_10, rfl⟩, ?_⟩
      refine en_ldc (z := -2000000003) h dL_worst_11 cn_L_worst_21 (by decide) ?_
      exact en_iret h hf dL_worst_13 ⟨by decide, by decide⟩ (Or.inr ⟨_, hx, Or.inr (⟨rfl, rfl⟩)⟩)
  · obtain ⟨v, rfl⟩ := hv r M hp
    exact en_iret h hf dL_worst_5 ⟨by decide, by decide⟩ (Or.inl ⟨v, hp, rfl⟩)
abbrev rm_L_cleans : Room := { frames := 8, cells := 3, slots := 18, locals := 162 }
theorem my_L_cleans : en_MYS yL_cleans RL cL_cleans 4 (some .int) [(0, 6, 7, 13), (0, 6, 11, 16), (0, 6, 15, 19)] wsL_cleans 3 := ⟨⟨_, rfl⟩, rfl, by decide, by decide, by decide +kernel, by decide +kernel⟩
set_option maxRecDepth 20000 in
theorem cn_L_cleans_15 : Cond.constant RL 15 (-2000000001) ∈ wsL_cleans := by decide +kernel
set_option maxRecDepth 20000 in
theorem cn_L_cleans_18 : Cond.constant RL 18 (-2000000002) ∈ wsL_cleans := by decide +kernel
set_option maxRecDepth 20000 in
theorem cn_L_cleans_21 : Cond.constant RL 21 (-2000000003) ∈ wsL_cleans := by decide +kernel
set_option maxRecDepth 100000 in
set_option maxHeartbeats 4000000 in
theorem k_L_cleans {l : Launch} {w : en_W} {m : en_M} {a0 : Int} {a1 : Int} {post : Option en_V → en_M → Prop} {postX : String → en_M → Prop} (hw : en_Wok w) (hp : en_Has w 0 50) (hl : l.stackTraces = false) (hM : en_MetX l w yX4_clean wsX4_clean rm_X4_clean [en_R 49, en_I a0, en_I a1] m post postX) (hv : ∀ r m1, post r m1 → ∃ v, r = some (en_I v)) (hE : ∀ E m1, postX E m1 → E = eIO ∨ E = eIA ∨ E = eIS) : en_MetS l w yL_cleans wsL_cleans rm_L_cleans [en_R 49, en_I a0, en_I a1] m (fun r m' => (∃ v, post (some (en_I v)) m' ∧ r = some (en_I v)) ∨ ∃ E, postX E m' ∧ ((E = eIO ∧ r = some (en_I (-2000000001))) ∨ (E = eIA ∧ r = some (en_I (-2000000002))) ∨ (E = eIS ∧ r = some (en_I (-2000000003))))) := by
  refine en_metS my_L_cleans hw hl (Nat.le_of_ble_eq_true rfl) ?_
  intro κ hl9 hw9 h hf hx9 htab
  subst hw9
  subst hl9
  have hI : ∀ k, 0 ≤ k → k < 50 → en_in κ k := hp
  refine en_aload_n (i := 0) h dL_cleans_0 rfl rfl ?_
  refine en_iload_n (i := 1) h dL_cleans_1 rfl rfl ?_
  refine en_iload_n (i := 2) h dL_cleans_2 rfl rfl ?_
  refine en_callVC h htab hx9 hM my_X4_clean gL_cleans_X4_clean (hI _ (by omega) (by omega)) rfl rfl rfl rfl ⟨by decide, by decide⟩ ⟨by decide, by decide⟩ (Nat.le_of_ble_eq_true rfl) dL_cleans_3 (fun E M hx => ?_) (fun r M hp => ?_)
  · have e := hE E M hx
    rcases e with rfl | rfl | rfl
    · refine ⟨by decide, [], (0, 6, 7, 13), [(0, 6, 11, 16), (0, 6, 15, 19)], rfl, fun z hz => absurd hz (by simp), ⟨by decide, by decide⟩, by decide, by decide +kernel, 3, 1, by decide, Or.inr ⟨3, rfl, dL_cleans_7, rfl⟩, ?_⟩
      refine en_ldc (z := -2000000001) h dL_cleans_8 cn_L_cleans_15 (by decide) ?_
      exact en_iret h hf dL_cleans_10 ⟨by decide, by decide⟩ (Or.inr ⟨_, hx, Or.inl ⟨rfl, rfl⟩⟩)
    · refine ⟨by decide, [(0, 6, 7, 13)], (0, 6, 11, 16), [(0, 6, 15, 19)], rfl, fun z hz => by simp only [List.mem_cons, List.not_mem_nil, or_false] at hz; subst hz; exact ⟨by decide, eIO, by decide +kernel, by decide⟩, ⟨by decide, by decide⟩, by decide, by decide +kernel, 3, 1, by decide, Or.inr ⟨3, rfl, dL_cleans_11, rfl⟩, ?_⟩
      refine en_ldc (z := -2000000002) h dL_cleans_12 cn_L_cleans_18 (by decide) ?_
      exact en_iret h hf dL_cleans_14 ⟨by decide, by decide⟩ (Or.inr ⟨_, hx, Or.inr (Or.inl ⟨rfl, rfl⟩)⟩)
    · refine ⟨by decide, [(0, 6, 7, 13), (0, 6, 11, 16)], (0, 6, 15, 19), [], rfl, fun z hz => by simp only [List.mem_cons, List.not_mem_nil, or_false] at hz; rcases hz with rfl | rfl; exact ⟨by decide, eIO, by decide +kernel, by decide⟩; exact ⟨by decide, eIA, by decide +kernel, by decide⟩, ⟨by decide, by decide⟩, by decide, by decide +kernel, 3, 1, by decide, Or.inr ⟨3, rfl, dL_cleans_15, rfl⟩, ?_⟩
      refine en_ldc (z := -2000000003) h dL_cleans_16 cn_L_cleans_21 (by decide) ?_
      exact en_iret h hf dL_cleans_18 ⟨by decide, by decide⟩ (Or.inr ⟨_, hx, Or.inr (Or.inr (⟨rfl, rfl⟩))⟩)
  · obtain ⟨v, rfl⟩ := hv r M hp
    exact en_iret h hf dL_cleans_6 ⟨by decide, by decide⟩ (Or.inl ⟨v, hp, rfl⟩)
