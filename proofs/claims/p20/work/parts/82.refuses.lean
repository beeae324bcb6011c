/-! LAW 3: calls that are refused -/
theorem rf_lines1 {m : en_M} {f s g : Int} (h : ¬ (pB m f ∧ pB m s)) : w_lines m f s g = (-2000000001) ∧ t_lines m f s g = m := by
  unfold w_lines t_lines
  rw [if_neg h, if_neg (fun z => h z.1)]
  exact ⟨rfl, rfl⟩
theorem rf_lines2 {m : en_M} {f s g : Int} (h1 : pB m f ∧ pB m s) (h : ¬ (f ≠ s ∧ (1 ≤ g ∧ g ≤ 2))) : w_lines m f s g = (-2000000002) ∧ t_lines m f s g = m := by
  unfold w_lines t_lines
  rw [if_pos h1, if_neg h, if_neg (fun z => h z.2.1)]
  exact ⟨rfl, rfl⟩
theorem rf_breaks1 {m : en_M} {i c : Int} (h : ¬ pL m i) : w_breaks m i c = (-2000000001) ∧ t_breaks m i c = m := by
  unfold w_breaks t_breaks
  rw [if_neg h, if_neg h]
  exact ⟨rfl, rfl⟩
theorem rf_adds1 {m : en_M} {k p r a : Int} (h : ¬ ((k = 0 ∨ k = 1) ∧ (-50 ≤ r ∧ r ≤ 50) ∧ (1 ≤ a ∧ a ≤ 2))) : w_adds m k p r a = (-2000000002) ∧ t_adds m k p r a = m := by
  unfold w_adds t_adds
  rw [if_neg h, if_neg (fun z => h z.1)]
  exact ⟨rfl, rfl⟩
theorem rf_adds2 {m : en_M} {k p r a : Int} (h1 : (k = 0 ∨ k = 1) ∧ (-50 ≤ r ∧ r ≤ 50) ∧ (1 ≤ a ∧ a ≤ 2)) (h : ¬ (0 ≤ p ∧ p < (if k = 0 then m 0 1 else m 0 0))) : w_adds m k p r a = (-2000000001) ∧ t_adds m k p r a = m := by
  unfold w_adds t_adds
  rw [if_pos h1, if_neg h, if_neg (fun z => h z.2.1)]
  exact ⟨rfl, rfl⟩
theorem rf_adds3 {m : en_M} {k p r a : Int} (h1 : (k = 0 ∨ k = 1) ∧ (-50 ≤ r ∧ r ≤ 50) ∧ (1 ≤ a ∧ a ≤ 2)) (h2 : 0 ≤ p ∧ p < (if k = 0 then m 0 1 else m 0 0)) (h : ¬ m 21 1 < 10) : w_adds m k p r a = (-2000000003) ∧ t_adds m k p r a = m := by
  unfold w_adds t_adds
  rw [if_pos h1, if_pos h2, if_neg h, if_neg (fun z => h z.2.2)]
  exact ⟨rfl, rfl⟩
theorem rf_reads1 {m : en_M} {i r : Int} (h : ¬ pM m i) : w_reads m i r = (-2000000001) ∧ t_reads m i r = m := by
  unfold w_reads t_reads
  rw [if_neg h, if_neg (fun z => h z.1)]
  exact ⟨rfl, rfl⟩
theorem rf_reads2 {m : en_M} {i r : Int} (h1 : pM m i) (h : ¬ (-50 ≤ r ∧ r ≤ 50)) : w_reads m i r = (-2000000002) ∧ t_reads m i r = m := by
  unfold w_reads t_reads
  rw [if_pos h1, if_neg h, if_neg (fun z => h z.2)]
  exact ⟨rfl, rfl⟩
theorem rf_uses1 {m : en_M} {i c : Int} (h : ¬ pM m i) : w_uses m i c = (-2000000001) ∧ t_uses m i c = m := by
  unfold w_uses t_uses
  rw [if_neg h, if_neg h]
  exact ⟨rfl, rfl⟩
theorem rf_reference1 {m : en_M} {b : Int} (h : ¬ pB m b) : w_reference m b = (-2000000001) := by
  unfold w_reference
  exact if_neg h
theorem rf_rank1 {m : en_M} {b : Int} (h : ¬ pB m b) : w_rank m b = (-2000000001) := by
  unfold w_rank
  exact if_neg h
theorem rf_observable1 {m : en_M} {b : Int} (h : ¬ pB m b) : w_observable m b = (-2000000001) := by
  unfold w_observable
  exact if_neg h
theorem rf_counts1 {m : en_M} {b : Int} (h : ¬ pM m b) : w_counts m b = (-2000000001) := by
  unfold w_counts
  exact if_neg h
theorem rf_critical1 {m : en_M} {b : Int} (h : ¬ pM m b) : w_critical m b = (-2000000001) := by
  unfold w_critical
  exact if_neg h
theorem rf_worst1 {m : en_M} {b : Int} (h : ¬ pB m b) : w_worst m b = (-2000000001) := by
  unfold w_worst
  exact if_neg h
theorem rf_top1 {m : en_M} {b : Int} (h : ¬ pB m b) : w_top m b = (-4000000000000000001) := by
  unfold w_top
  exact if_neg h
theorem rf_bottom1 {m : en_M} {b : Int} (h : ¬ pB m b) : w_bottom m b = (-4000000000000000001) := by
  unfold w_bottom
  exact if_neg h
theorem rf_over1 {m : en_M} {b : Int} (h : ¬ pM m b) : w_over m b = (-4000000000000000001) := by
  unfold w_over
  exact if_neg h
theorem rf_under1 {m : en_M} {b : Int} (h : ¬ pM m b) : w_under m b = (-4000000000000000001) := by
  unfold w_under
  exact if_neg h
theorem rf_top2 {m : en_M} {b : Int} (h1 : pB m b) (h : ¬ obs m (m 5 b)) : w_top m b = (-4000000000000000003) := by
  unfold w_top
  rw [if_pos h1]
  exact if_neg h
theorem rf_bottom2 {m : en_M} {b : Int} (h1 : pB m b) (h : ¬ obs m (m 5 b)) : w_bottom m b = (-4000000000000000003) := by
  unfold w_bottom
  rw [if_pos h1]
  exact if_neg h
theorem rf_worst2 {m : en_M} {b : Int} (h1 : pB m b) (h : ¬ obs m (m 5 b)) : w_worst m b = (-2000000003) := by
  unfold w_worst
  rw [if_pos h1]
  exact if_neg h
theorem rf_cleans1 {m : en_M} {b lim : Int} (h : ¬ pB m b) : w_cleans m b lim = (-2000000001) ∧ t_cleans m b lim = m := by
  unfold w_cleans t_cleans
  rw [if_neg h, if_neg (fun z => h z.1)]
  exact ⟨rfl, rfl⟩
theorem rf_cleans2 {m : en_M} {b lim : Int} (h1 : pB m b) (h : ¬ (0 ≤ lim ∧ lim ≤ 200)) : w_cleans m b lim = (-2000000002) ∧ t_cleans m b lim = m := by
  unfold w_cleans t_cleans
  rw [if_pos h1, if_neg h, if_neg (fun z => h z.2.1)]
  exact ⟨rfl, rfl⟩
theorem rf_cleans3 {m : en_M} {b lim : Int} (h1 : pB m b) (h2 : 0 ≤ lim ∧ lim ≤ 200) (h : ¬ obs m (m 5 b)) : w_cleans m b lim = (-2000000003) ∧ t_cleans m b lim = m := by
  unfold w_cleans t_cleans
  rw [if_pos h1, if_pos h2, if_neg (show ¬ obs m (m 5 b) from h), if_neg (fun z => h z.2.2)]
  exact ⟨rfl, rfl⟩
/-- the grid, the law's counts of it, and arguments out of range -/
def RC (m : en_M) (bus line meter own x : Int) : Prop := INV m ∧ (m 200 0 = m 0 0 ∧ m 200 1 = m 0 1 ∧ m 200 2 = m 21 1) ∧ (¬ pB m bus ∧ ¬ pL m line ∧ ¬ pM m meter ∧ pB m own) ∧ (0 ≤ x ∧ x < 9973) ∧ (-1000 ≤ bus ∧ bus ≤ 1000) ∧ (-1000 ≤ line ∧ line ≤ 1000) ∧ (-1000 ≤ meter ∧ meter ≤ 1000)
theorem RC_cq {M m : en_M} {bus line meter own x : Int} (h : RC m bus line meter own x) (hc : cq M m) : RC M bus line meter own x := by
  obtain ⟨h1, h2, h3, h4⟩ := h
  refine ⟨inv_cq h1 hc, ?_, ?_, h4⟩
  · rw [hc.1 200 (by decide), hc.1 0 (by decide), hc.1 21 (by decide)]
    exact h2
  · unfold pB pL pM
    rw [hc.1 0 (by decide), hc.1 21 (by decide)]
    exact h3
abbrev rc_ls (x bus line meter own : Int) : List (Option en_V) := [some (en_R 49), some (en_R 200), some (en_I x), some (en_I bus), some (en_I line), some (en_I meter), some (en_I own), none]
abbrev rm_L_refuses : Room := { frames := 10, cells := 119, slots := 714, locals := 201 }
theorem my_L_refuses : en_MY yL_refuses RL cL_refuses 8 (some .boolean) wsL_refuses 3 := ⟨⟨_, rfl⟩, rfl, by decide, by decide, by decide +kernel, by decide +kernel⟩
set_option maxRecDepth 20000 in
theorem cn_L_refuses_15 : Cond.constant RL 15 (-2000000001) ∈ wsL_refuses := by decide +kernel
set_option maxRecDepth 20000 in
theorem cn_L_refuses_18 : Cond.constant RL 18 (-2000000002) ∈ wsL_refuses := by decide +kernel
set_option maxRecDepth 20000 in
theorem cn_L_refuses_58 : Cond.constantLong RL 58 (-4000000000000000001) ∈ wsL_refuses := by decide +kernel
set_option maxRecDepth 20000 in
theorem cn_L_refuses_21 : Cond.constant RL 21 (-2000000003) ∈ wsL_refuses := by decide +kernel
set_option maxRecDepth 20000 in
theorem cn_L_refuses_60 : Cond.constantLong RL 60 (-4000000000000000003) ∈ wsL_refuses := by decide +kernel
set_option maxRecDepth 100000 in
set_option maxHeartbeats 4000000 in
theorem rc_0 {κ : en_C} {m : en_M} {bus line meter own x : Int} (hW : en_Wok (en_w κ)) (hP : HasL (en_w κ)) (h : en_Ok κ RL cL_refuses 8 wsL_refuses rm_L_refuses) (hx9 : en_Xs κ) (hR : RC m bus line meter own x) (K : ∀ M, cq M m → en_G κ 93 (rc_ls x bus line meter own) [] M 6 36) : en_G κ 81 (rc_ls x bus line meter own) [] m 0 0 := by
  obtain ⟨hI9, hN, hC, hx0, hb0, hl0, hm0⟩ := id hR
  have n9 := inv_n hI9
  have hI : ∀ k, 200 ≤ k → k < 204 → en_in κ k := hP.2.2.1
  have o0 := hC.2.2.2.1
  have o1 := hC.2.2.2.2
  have pO : pB m ((own + 1) % m 0 0) := ⟨Int.emod_nonneg _ (by omega), Int.emod_lt_of_pos _ (by omega)⟩
  have pO1 := pO.1
  have pO2 := pO.2
  have pX : 0 ≤ x % m 21 1 := by
    by_cases e : m 21 1 = 0
    · rw [e, Int.emod_zero]; omega
    · exact Int.emod_nonneg _ e
  have pX2 : m 21 1 ≠ 0 → x % m 21 1 < m 21 1 := fun e => Int.emod_lt_of_pos _ (by omega)
  refine en_aload_n (i := 0) h dL_refuses_81 rfl rfl ?_
  refine en_iload_n (i := 3) h dL_refuses_82 rfl rfl ?_
  refine en_iload_n (i := 3) h dL_refuses_83 rfl rfl ?_
  refine en_iconst h dL_refuses_84 ?_
  refine en_callSS h hx9 (K_lines hW hP.1 (en_Xs_l hx9) hI9 (by constructor <;> omega) (by constructor <;> omega) (by decide)) my_L_lines gL_refuses_L_lines rfl rfl ⟨by decide, by decide⟩ ⟨by decide, by decide⟩ (Nat.le_of_ble_eq_true rfl) dL_refuses_85 (fun r M1 hp => ?_)
  obtain ⟨rfl, hq⟩ := hp
  have e9 : w_lines m bus bus 0 = (-2000000001) ∧ t_lines m bus bus 0 = m := rf_lines1 (fun z => hR.2.2.1.1 z.1)
  obtain ⟨e1, e2⟩ := e9
  rw [e2] at hq
  rw [e1]
  subst hq
  refine en_ldc (z := -2000000001) h dL_refuses_88 cn_L_refuses_15 (by decide) ?_
  refine en_icmp_ne (tgt := 537) h dL_refuses_90 (by decide) (by decide) (by decide) (fun c_90 => ?_) (fun c_90 => ?_)
  · exact absurd rfl c_90
  · exact K _ (cq_rf hI9.2.2.2)
set_option maxRecDepth 100000 in
set_option maxHeartbeats 4000000 in
theorem rc_1 {κ : en_C} {m : en_M} {bus line meter own x : Int} (hW : en_Wok (en_w κ)) (hP : HasL (en_w κ)) (h : en_Ok κ RL cL_refuses 8 wsL_refuses rm_L_refuses) (hx9 : en_Xs κ) (hR : RC m bus line meter own x) (K : ∀ M, cq M m → en_G κ 106 (rc_ls x bus line meter own) [] M 12 72) : en_G κ 93 (rc_ls x bus line meter own) [] m 6 36 := by
  obtain ⟨hI9, hN, hC, hx0, hb0, hl0, hm0⟩ := id hR
  have n9 := inv_n hI9
  have hI : ∀ k, 200 ≤ k → k < 204 → en_in κ k := hP.2.2.1
  have o0 := hC.2.2.2.1
  have o1 := hC.2.2.2.2
  have pO : pB m ((own + 1) % m 0 0) := ⟨Int.emod_nonneg _ (by omega), Int.emod_lt_of_pos _ (by omega)⟩
  have pO1 := pO.1
  have pO2 := pO.2
  have pX : 0 ≤ x % m 21 1 := by
    by_cases e : m 21 1 = 0
    · rw [e, Int.emod_zero]; omega
    · exact Int.emod_nonneg _ e
  have pX2 : m 21 1 ≠ 0 → x % m 21 1 < m 21 1 := fun e => Int.emod_lt_of_pos _ (by omega)
  refine en_aload_n (i := 0) h dL_refuses_93 rfl rfl ?_
  refine en_iload (i := 6) h dL_refuses_94 rfl ?_
  refine en_iload_n (i := 3) h dL_refuses_96 rfl rfl ?_
  refine en_iconst h dL_refuses_97 ?_
  refine en_callSS h hx9 (K_lines hW hP.1 (en_Xs_l hx9) hI9 (by constructor <;> omega) (by constructor <;> omega) (by decide)) my_L_lines gL_refuses_L_lines rfl rfl ⟨by decide, by decide⟩ ⟨by decide, by decide⟩ (Nat.le_of_ble_eq_true rfl) dL_refuses_98 (fun r M1 hp => ?_)
  obtain ⟨rfl, hq⟩ := hp
  have e9 : w_lines m own bus 1 = (-2000000001) ∧ t_lines m own bus 1 = m := rf_lines1 (fun z => hR.2.2.1.1 z.2)
  obtain ⟨e1, e2⟩ := e9
  rw [e2] at hq
  rw [e1]
  subst hq
  refine en_ldc (z := -2000000001) h dL_refuses_101 cn_L_refuses_15 (by decide) ?_
  refine en_icmp_ne (tgt := 537) h dL_refuses_103 (by decide) (by decide) (by decide) (fun c_103 => ?_) (fun c_103 => ?_)
  · exact absurd rfl c_103
  · exact K _ (cq_rf hI9.2.2.2)
set_option maxRecDepth 100000 in
set_option maxHeartbeats 4000000 in
theorem rc_2 {κ : en_C} {m : en_M} {bus line meter own x : Int} (hW : en_Wok (en_w κ)) (hP : HasL (en_w κ)) (h : en_Ok κ RL cL_refuses 8 wsL_refuses rm_L_refuses) (hx9 : en_Xs κ) (hR : RC m bus line meter own x) (K : ∀ M, cq M m → en_G κ 120 (rc_ls x bus line meter own) [] M 18 108) : en_G κ 106 (rc_ls x bus line meter own) [] m 12 72 := by
  obtain ⟨hI9, hN, hC, hx0, hb0, hl0, hm0⟩ := id hR
  have n9 := inv_n hI9
  have hI : ∀ k, 200 ≤ k → k < 204 → en_in κ k := hP.2.2.1
  have o0 := hC.2.2.2.1
  have o1 := hC.2.2.2.2
  have pO : pB m ((own + 1) % m 0 0) := ⟨Int.emod_nonneg _ (by omega), Int.emod_lt_of_pos _ (by omega)⟩
  have pO1 := pO.1
  have pO2 := pO.2
  have pX : 0 ≤ x % m 21 1 := by
    by_cases e : m 21 1 = 0
    · rw [e, Int.emod_zero]; omega
    · exact Int.emod_nonneg _ e
  have pX2 : m 21 1 ≠ 0 → x % m 21 1 < m 21 1 := fun e => Int.emod_lt_of_pos _ (by omega)
  refine en_aload_n (i := 0) h dL_refuses_106 rfl rfl ?_
  refine en_iload (i := 6) h dL_refuses_107 rfl ?_
  refine en_iload (i := 6) h dL_refuses_109 rfl ?_
  refine en_iconst h dL_refuses_111 ?_
  refine en_callSS h hx9 (K_lines hW hP.1 (en_Xs_l hx9) hI9 (by constructor <;> omega) (by constructor <;> omega) (by decide)) my_L_lines gL_refuses_L_lines rfl rfl ⟨by decide, by decide⟩ ⟨by decide, by decide⟩ (Nat.le_of_ble_eq_true rfl) dL_refuses_112 (fun r M1 hp => ?_)
  obtain ⟨rfl, hq⟩ := hp
  have e9 : w_lines m own own 1 = (-2000000002) ∧ t_lines m own own 1 = m := rf_lines2 ⟨hR.2.2.1.2.2.2, hR.2.2.1.2.2.2⟩ (fun z => z.1 rfl)
  obtain ⟨e1, e2⟩ := e9
  rw [e2] at hq
  rw [e1]
  subst hq
  refine en_ldc (z := -2000000002) h dL_refuses_115 cn_L_refuses_18 (by decide) ?_
  refine en_icmp_ne (tgt := 537) h dL_refuses_117 (by decide) (by decide) (by decide) (fun c_117 => ?_) (fun c_117 => ?_)
  · exact absurd rfl c_117
  · exact K _ (cq_rf hI9.2.2.2)
set_option maxRecDepth 100000 in
set_option maxHeartbeats 4000000 in
theorem rc_3 {κ : en_C} {m : en_M} {bus line meter own x : Int} (hW : en_Wok (en_w κ)) (hP : HasL (en_w κ)) (h : en_Ok κ RL cL_refuses 8 wsL_refuses rm_L_refuses) (hx9 : en_Xs κ) (hR : RC m bus line meter own x) (K : ∀ M, cq M m → en_G κ 142 (rc_ls x bus line meter own) [] M 24 144) : en_G κ 120 (rc_ls x bus line meter own) [] m 18 108 := by
  obtain ⟨hI9, hN, hC, hx0, hb0, hl0, hm0⟩ := id hR
  have n9 := inv_n hI9
  have hI : ∀ k, 200 ≤ k → k < 204 → en_in κ k := hP.2.2.1
  have o0 := hC.2.2.2.1
  have o1 := hC.2.2.2.2
  have pO : pB m ((own + 1) % m 0 0) := ⟨Int.emod_nonneg _ (by omega), Int.emod_lt_of_pos _ (by omega)⟩
  have pO1 := pO.1
  have pO2 := pO.2
  have pX : 0 ≤ x % m 21 1 := by
    by_cases e : m 21 1 = 0
    · rw [e, Int.emod_zero]; omega
    · exact Int.emod_nonneg _ e
  have pX2 : m 21 1 ≠ 0 → x % m 21 1 < m 21 1 := fun e => Int.emod_lt_of_pos _ (by omega)
  refine en_aload_n (i := 0) h dL_refuses_120 rfl rfl ?_
  refine en_iload (i := 6) h dL_refuses_121 rfl ?_
  refine en_iload (i := 6) h dL_refuses_123 rfl ?_
  refine en_iconst h dL_refuses_125 ?_
  refine en_iadd h dL_refuses_126 ?_
  refine en_aload_n (i := 1) h dL_refuses_127 rfl rfl ?_
  refine en_iconst h dL_refuses_128 ?_
  refine en_iaload h dL_refuses_129 (hI _ (by omega) (by omega)) rfl (by omega) hN.1 ?_
  refine en_iremP h dL_refuses_130 (by omega) (by omega) ?_
  refine en_iconst h dL_refuses_131 ?_
  refine en_iload_n (i := 2) h dL_refuses_132 rfl rfl ?_
  refine en_iadd h dL_refuses_133 ?_
  refine en_callSS h hx9 (K_lines hW hP.1 (en_Xs_l hx9) hI9 (by constructor <;> omega) (by constructor <;> omega) (by constructor <;> omega)) my_L_lines gL_refuses_L_lines rfl rfl ⟨by decide, by decide⟩ ⟨by decide, by decide⟩ (Nat.le_of_ble_eq_true rfl) dL_refuses_134 (fun r M1 hp => ?_)
  obtain ⟨rfl, hq⟩ := hp
  have e9 : w_lines m own ((own + 1) % m 0 0) (3 + x) = (-2000000002) ∧ t_lines m own ((own + 1) % m 0 0) (3 + x) = m := rf_lines2 ⟨hR.2.2.1.2.2.2, pO⟩ (fun z => by omega)
  obtain ⟨e1, e2⟩ := e9
  rw [e2] at hq
  rw [e1]
  subst hq
  refine en_ldc (z := -2000000002) h dL_refuses_137 cn_L_refuses_18 (by decide) ?_
  refine en_icmp_ne (tgt := 537) h dL_refuses_139 (by decide) (by decide) (by decide) (fun c_139 => ?_) (fun c_139 => ?_)
  · exact absurd rfl c_139
  · exact K _ (cq_rf hI9.2.2.2)
set_option maxRecDepth 100000 in
set_option maxHeartbeats 4000000 in
theorem rc_4 {κ : en_C} {m : en_M} {bus line meter own x : Int} (hW : en_Wok (en_w κ)) (hP : HasL (en_w κ)) (h : en_Ok κ RL cL_refuses 8 wsL_refuses rm_L_refuses) (hx9 : en_Xs κ) (hR : RC m bus line meter own x) (K : ∀ M, cq M m → en_G κ 163 (rc_ls x bus line meter own) [] M 30 180) : en_G κ 142 (rc_ls x bus line meter own) [] m 24 144 := by
  obtain ⟨hI9, hN, hC, hx0, hb0, hl0, hm0⟩ := id hR
  have n9 := inv_n hI9
  have hI : ∀ k, 200 ≤ k → k < 204 → en_in κ k := hP.2.2.1
  have o0 := hC.2.2.2.1
  have o1 := hC.2.2.2.2
  have pO : pB m ((own + 1) % m 0 0) := ⟨Int.emod_nonneg _ (by omega), Int.emod_lt_of_pos _ (by omega)⟩
  have pO1 := pO.1
  have pO2 := pO.2
  have pX : 0 ≤ x % m 21 1 := by
    by_cases e : m 21 1 = 0
    · rw [e, Int.emod_zero]; omega
    · exact Int.emod_nonneg _ e
  have pX2 : m 21 1 ≠ 0 → x % m 21 1 < m 21 1 := fun e => Int.emod_lt_of_pos _ (by omega)
  refine en_aload_n (i := 0) h dL_refuses_142 rfl rfl ?_
  refine en_iload (i := 6) h dL_refuses_143 rfl ?_
  refine en_iload (i := 6) h dL_refuses_145 rfl ?_
  refine en_iconst h dL_refuses_147 ?_
  refine en_iadd h dL_refuses_148 ?_
  refine en_aload_n (i := 1) h dL_refuses_149 rfl rfl ?_
  refine en_iconst h dL_refuses_150 ?_
  refine en_iaload h dL_refuses_151 (hI _ (by omega) (by omega)) rfl (by omega) hN.1 ?_
  refine en_iremP h dL_refuses_152 (by omega) (by omega) ?_
  refine en_iload_n (i := 2) h dL_refuses_153 rfl rfl ?_
  refine en_ineg h dL_refuses_154 ?_
  refine en_callSS h hx9 (K_lines hW hP.1 (en_Xs_l hx9) hI9 (by constructor <;> omega) (by constructor <;> omega) (by constructor <;> omega)) my_L_lines gL_refuses_L_lines rfl rfl ⟨by decide, by decide⟩ ⟨by decide, by decide⟩ (Nat.le_of_ble_eq_true rfl) dL_refuses_155 (fun r M1 hp => ?_)
  obtain ⟨rfl, hq⟩ := hp
  have e9 : w_lines m own ((own + 1) % m 0 0) (-x) = (-2000000002) ∧ t_lines m own ((own + 1) % m 0 0) (-x) = m := rf_lines2 ⟨hR.2.2.1.2.2.2, pO⟩ (fun z => by omega)
  obtain ⟨e1, e2⟩ := e9
  rw [e2] at hq
  rw [e1]
  subst hq
  refine en_ldc (z := -2000000002) h dL_refuses_158 cn_L_refuses_18 (by decide) ?_
  refine en_icmp_ne (tgt := 537) h dL_refuses_160 (by decide) (by decide) (by decide) (fun c_160 => ?_) (fun c_160 => ?_)
  · exact absurd rfl c_160
  · exact K _ (cq_rf hI9.2.2.2)
set_option maxRecDepth 100000 in
set_option maxHeartbeats 4000000 in
theorem rc_5 {κ : en_C} {m : en_M} {bus line meter own x : Int} (hW : en_Wok (en_w κ)) (hP : HasL (en_w κ)) (h : en_Ok κ RL cL_refuses 8 wsL_refuses rm_L_refuses) (hx9 : en_Xs κ) (hR : RC m bus line meter own x) (K : ∀ M, cq M m → en_G κ 175 (rc_ls x bus line meter own) [] M 31 186) : en_G κ 163 (rc_ls x bus line meter own) [] m 30 180 := by
  obtain ⟨hI9, hN, hC, hx0, hb0, hl0, hm0⟩ := id hR
  have n9 := inv_n hI9
  have hI : ∀ k, 200 ≤ k → k < 204 → en_in κ k := hP.2.2.1
  have o0 := hC.2.2.2.1
  have o1 := hC.2.2.2.2
  have pO : pB m ((own + 1) % m 0 0) := ⟨Int.emod_nonneg _ (by omega), Int.emod_lt_of_pos _ (by omega)⟩
  have pO1 := pO.1
  have pO2 := pO.2
  have pX : 0 ≤ x % m 21 1 := by
    by_cases e : m 21 1 = 0
    · rw [e, Int.emod_zero]; omega
    · exact Int.emod_nonneg _ e
  have pX2 : m 21 1 ≠ 0 → x % m 21 1 < m 21 1 := fun e => Int.emod_lt_of_pos _ (by omega)
  refine en_aload_n (i := 0) h dL_refuses_163 rfl rfl ?_
  refine en_iload (i := 4) h dL_refuses_164 rfl ?_
  refine en_iconst h dL_refuses_166 ?_
  refine en_callSS h hx9 (K_breaks hW hP.1 (en_Xs_l hx9) hI9 (by constructor <;> omega) (Or.inr rfl)) my_L_breaks gL_refuses_L_breaks rfl rfl ⟨by decide, by decide⟩ ⟨by decide, by decide⟩ (Nat.le_of_ble_eq_true rfl) dL_refuses_167 (fun r M1 hp => ?_)
  obtain ⟨rfl, hq⟩ := hp
  have e9 : w_breaks m line 1 = (-2000000001) ∧ t_breaks m line 1 = m := rf_breaks1 hR.2.2.1.2.1
  obtain ⟨e1, e2⟩ := e9
  rw [e2] at hq
  rw [e1]
  subst hq
  refine en_ldc (z := -2000000001) h dL_refuses_170 cn_L_refuses_15 (by decide) ?_
  refine en_icmp_ne (tgt := 537) h dL_refuses_172 (by decide) (by decide) (by decide) (fun c_172 => ?_) (fun c_172 => ?_)
  · exact absurd rfl c_172
  · exact K _ (cq_rf hI9.2.2.2)
set_option maxRecDepth 100000 in
set_option maxHeartbeats 4000000 in
theorem rc_6 {κ : en_C} {m : en_M} {bus line meter own x : Int} (hW : en_Wok (en_w κ)) (hP : HasL (en_w κ)) (h : en_Ok κ RL cL_refuses 8 wsL_refuses rm_L_refuses) (hx9 : en_Xs κ) (hR : RC m bus line meter own x) (K : ∀ M, cq M m → en_G κ 185 (rc_ls x bus line meter own) [] M 32 192) : en_G κ 175 (rc_ls x bus line meter own) [] m 31 186 := by
  obtain ⟨hI9, hN, hC, hx0, hb0, hl0, hm0⟩ := id hR
  have n9 := inv_n hI9
  have hI : ∀ k, 200 ≤ k → k < 204 → en_in κ k := hP.2.2.1
  have o0 := hC.2.2.2.1
  have o1 := hC.2.2.2.2
  have pO : pB m ((own + 1) % m 0 0) := ⟨Int.emod_nonneg _ (by omega), Int.emod_lt_of_pos _ (by omega)⟩
  have pO1 := pO.1
  have pO2 := pO.2
  have pX : 0 ≤ x % m 21 1 := by
    by_cases e : m 21 1 = 0
    · rw [e, Int.emod_zero]; omega
    · exact Int.emod_nonneg _ e
  have pX2 : m 21 1 ≠ 0 → x % m 21 1 < m 21 1 := fun e => Int.emod_lt_of_pos _ (by omega)
  refine en_aload_n (i := 0) h dL_refuses_175 rfl rfl ?_
  refine en_iload_n (i := 3) h dL_refuses_176 rfl rfl ?_
  refine en_callSS h hx9 (K_reference hW hP.1 (en_Xs_l hx9) hI9 (by constructor <;> omega)) my_L_reference gL_refuses_L_reference rfl rfl ⟨by decide, by decide⟩ ⟨by decide, by decide⟩ (Nat.le_of_ble_eq_true rfl) dL_refuses_177 (fun r M1 hp => ?_)
  obtain ⟨rfl, hq⟩ := hp
  have e1 : w_reference m bus = (-2000000001) := rf_reference1 hR.2.2.1.1
  rw [e1]
  subst hq
  refine en_ldc (z := -2000000001) h dL_refuses_180 cn_L_refuses_15 (by decide) ?_
  refine en_icmp_ne (tgt := 537) h dL_refuses_182 (by decide) (by decide) (by decide) (fun c_182 => ?_) (fun c_182 => ?_)
  · exact absurd rfl c_182
  · exact K _ (cq_rf hI9.2.2.2)
set_option maxRecDepth 100000 in
set_option maxHeartbeats 4000000 in
theorem rc_7 {κ : en_C} {m : en_M} {bus line meter own x : Int} (hW : en_Wok (en_w κ)) (hP : HasL (en_w κ)) (h : en_Ok κ RL cL_refuses 8 wsL_refuses rm_L_refuses) (hx9 : en_Xs κ) (hR : RC m bus line meter own x) (K : ∀ M, cq M m → en_G κ 200 (rc_ls x bus line meter own) [] M 37 222) : en_G κ 185 (rc_ls x bus line meter own) [] m 32 192 := by
  obtain ⟨hI9, hN, hC, hx0, hb0, hl0, hm0⟩ := id hR
  have n9 := inv_n hI9
  have hI : ∀ k, 200 ≤ k → k < 204 → en_in κ k := hP.2.2.1
  have o0 := hC.2.2.2.1
  have o1 := hC.2.2.2.2
  have pO : pB m ((own + 1) % m 0 0) := ⟨Int.emod_nonneg _ (by omega), Int.emod_lt_of_pos _ (by omega)⟩
  have pO1 := pO.1
  have pO2 := pO.2
  have pX : 0 ≤ x % m 21 1 := by
    by_cases e : m 21 1 = 0
    · rw [e, Int.emod_zero]; omega
    · exact Int.emod_nonneg _ e
  have pX2 : m 21 1 ≠ 0 → x % m 21 1 < m 21 1 := fun e => Int.emod_lt_of_pos _ (by omega)
  refine en_aload_n (i := 0) h dL_refuses_185 rfl rfl ?_
  refine en_iconst h dL_refuses_186 ?_
  refine en_iload_n (i := 2) h dL_refuses_187 rfl rfl ?_
  refine en_iadd h dL_refuses_188 ?_
  refine en_iload_n (i := 3) h dL_refuses_189 rfl rfl ?_
  refine en_iconst h dL_refuses_190 ?_
  refine en_iconst h dL_refuses_191 ?_
  refine en_callSS h hx9 (K_adds hW hP.1 (en_Xs_l hx9) hI9 (by constructor <;> omega) (by constructor <;> omega) (by decide) (by decide)) my_L_adds gL_refuses_L_adds rfl rfl ⟨by decide, by decide⟩ ⟨by decide, by decide⟩ (Nat.le_of_ble_eq_true rfl) dL_refuses_192 (fun r M1 hp => ?_)
  obtain ⟨rfl, hq⟩ := hp
  have e9 : w_adds m (2 + x) bus 0 1 = (-2000000002) ∧ t_adds m (2 + x) bus 0 1 = m := rf_adds1 (fun z => by omega)
  obtain ⟨e1, e2⟩ := e9
  rw [e2] at hq
  rw [e1]
  subst hq
  refine en_ldc (z := -2000000002) h dL_refuses_195 cn_L_refuses_18 (by decide) ?_
  refine en_icmp_ne (tgt := 537) h dL_refuses_197 (by decide) (by decide) (by decide) (fun c_197 => ?_) (fun c_197 => ?_)
  · exact absurd rfl c_197
  · exact K _ (cq_rf hI9.2.2.2)
set_option maxRecDepth 100000 in
set_option maxHeartbeats 4000000 in
theorem rc_8 {κ : en_C} {m : en_M} {bus line meter own x : Int} (hW : en_Wok (en_w κ)) (hP : HasL (en_w κ)) (h : en_Ok κ RL cL_refuses 8 wsL_refuses rm_L_refuses) (hx9 : en_Xs κ) (hR : RC m bus line meter own x) (K : ∀ M, cq M m → en_G κ 213 (rc_ls x bus line meter own) [] M 42 252) : en_G κ 200 (rc_ls x bus line meter own) [] m 37 222 := by
  obtain ⟨hI9, hN, hC, hx0, hb0, hl0, hm0⟩ := id hR
  have n9 := inv_n hI9
  have hI : ∀ k, 200 ≤ k → k < 204 → en_in κ k := hP.2.2.1
  have o0 := hC.2.2.2.1
  have o1 := hC.2.2.2.2
  have pO : pB m ((own + 1) % m 0 0) := ⟨Int.emod_nonneg _ (by omega), Int.emod_lt_of_pos _ (by omega)⟩
  have pO1 := pO.1
  have pO2 := pO.2
  have pX : 0 ≤ x % m 21 1 := by
    by_cases e : m 21 1 = 0
    · rw [e, Int.emod_zero]; omega
    · exact Int.emod_nonneg _ e
  have pX2 : m 21 1 ≠ 0 → x % m 21 1 < m 21 1 := fun e => Int.emod_lt_of_pos _ (by omega)
  refine en_aload_n (i := 0) h dL_refuses_200 rfl rfl ?_
  refine en_iconst h dL_refuses_201 ?_
  refine en_iconst h dL_refuses_202 ?_
  refine en_iconst h dL_refuses_203 ?_
  refine en_iconst h dL_refuses_204 ?_
  refine en_callSS h hx9 (K_adds hW hP.1 (en_Xs_l hx9) hI9 (by decide) (by decide) (by decide) (by decide)) my_L_adds gL_refuses_L_adds rfl rfl ⟨by decide, by decide⟩ ⟨by decide, by decide⟩ (Nat.le_of_ble_eq_true rfl) dL_refuses_205 (fun r M1 hp => ?_)
  obtain ⟨rfl, hq⟩ := hp
  have e9 : w_adds m (-1) 0 0 1 = (-2000000002) ∧ t_adds m (-1) 0 0 1 = m := rf_adds1 (fun z => by omega)
  obtain ⟨e1, e2⟩ := e9
  rw [e2] at hq
  rw [e1]
  subst hq
  refine en_ldc (z := -2000000002) h dL_refuses_208 cn_L_refuses_18 (by decide) ?_
  refine en_icmp_ne (tgt := 537) h dL_refuses_210 (by decide) (by decide) (by decide) (fun c_210 => ?_) (fun c_210 => ?_)
  · exact absurd rfl c_210
  · exact K _ (cq_rf hI9.2.2.2)
set_option maxRecDepth 100000 in
set_option maxHeartbeats 4000000 in
theorem rc_9 {κ : en_C} {m : en_M} {bus line meter own x : Int} (hW : en_Wok (en_w κ)) (hP : HasL (en_w κ)) (h : en_Ok κ RL cL_refuses 8 wsL_refuses rm_L_refuses) (hx9 : en_Xs κ) (hR : RC m bus line meter own x) (K : ∀ M, cq M m → en_G κ 229 (rc_ls x bus line meter own) [] M 47 282) : en_G κ 213 (rc_ls x bus line meter own) [] m 42 252 := by
  obtain ⟨hI9, hN, hC, hx0, hb0, hl0, hm0⟩ := id hR
  have n9 := inv_n hI9
  have hI : ∀ k, 200 ≤ k → k < 204 → en_in κ k := hP.2.2.1
  have o0 := hC.2.2.2.1
  have o1 := hC.2.2.2.2
  have pO : pB m ((own + 1) % m 0 0) := ⟨Int.emod_nonneg _ (by omega), Int.emod_lt_of_pos _ (by omega)⟩
  have pO1 := pO.1
  have pO2 := pO.2
  have pX : 0 ≤ x % m 21 1 := by
    by_cases e : m 21 1 = 0
    · rw [e, Int.emod_zero]; omega
    · exact Int.emod_nonneg _ e
  have pX2 : m 21 1 ≠ 0 → x % m 21 1 < m 21 1 := fun e => Int.emod_lt_of_pos _ (by omega)
  refine en_aload_n (i := 0) h dL_refuses_213 rfl rfl ?_
  refine en_iconst h dL_refuses_214 ?_
  refine en_iload_n (i := 3) h dL_refuses_215 rfl rfl ?_
  refine en_bipush h dL_refuses_216 (by decide) ?_
  refine en_iload_n (i := 2) h dL_refuses_218 rfl rfl ?_
  refine en_iadd h dL_refuses_219 ?_
  refine en_iconst h dL_refuses_220 ?_
  refine en_callSS h hx9 (K_adds hW hP.1 (en_Xs_l hx9) hI9 (by decide) (by constructor <;> omega) (by constructor <;> omega) (by decide)) my_L_adds gL_refuses_L_adds rfl rfl ⟨by decide, by decide⟩ ⟨by decide, by decide⟩ (Nat.le_of_ble_eq_true rfl) dL_refuses_221 (fun r M1 hp => ?_)
  obtain ⟨rfl, hq⟩ := hp
  have e9 : w_adds m 1 bus (51 + x) 1 = (-2000000002) ∧ t_adds m 1 bus (51 + x) 1 = m := rf_adds1 (fun z => by omega)
  obtain ⟨e1, e2⟩ := e9
  rw [e2] at hq
  rw [e1]
  subst hq
  refine en_ldc (z := -2000000002) h dL_refuses_224 cn_L_refuses_18 (by decide) ?_
  refine en_icmp_ne (tgt := 537) h dL_refuses_226 (by decide) (by decide) (by decide) (fun c_226 => ?_) (fun c_226 => ?_)
  · exact absurd rfl c_226
  · exact K _ (cq_rf hI9.2.2.2)
set_option maxRecDepth 100000 in
set_option maxHeartbeats 4000000 in
theorem rc_10 {κ : en_C} {m : en_M} {bus line meter own x : Int} (hW : en_Wok (en_w κ)) (hP : HasL (en_w κ)) (h : en_Ok κ RL cL_refuses 8 wsL_refuses rm_L_refuses) (hx9 : en_Xs κ) (hR : RC m bus line meter own x) (K : ∀ M, cq M m → en_G κ 246 (rc_ls x bus line meter own) [] M 52 312) : en_G κ 229 (rc_ls x bus line meter own) [] m 47 282 := by
  obtain ⟨hI9, hN, hC, hx0, hb0, hl0, hm0⟩ := id hR
  have n9 := inv_n hI9
  have hI : ∀ k, 200 ≤ k → k < 204 → en_in κ k := hP.2.2.1
  have o0 := hC.2.2.2.1
  have o1 := hC.2.2.2.2
  have pO : pB m ((own + 1) % m 0 0) := ⟨Int.emod_nonneg _ (by omega), Int.emod_lt_of_pos _ (by omega)⟩
  have pO1 := pO.1
  have pO2 := pO.2
  have pX : 0 ≤ x % m 21 1 := by
    by_cases e : m 21 1 = 0
    · rw [e, Int.emod_zero]; omega
    · exact Int.emod_nonneg _ e
  have pX2 : m 21 1 ≠ 0 → x % m 21 1 < m 21 1 := fun e => Int.emod_lt_of_pos _ (by omega)
  refine en_aload_n (i := 0) h dL_refuses_229 rfl rfl ?_
  refine en_iconst h dL_refuses_230 ?_
  refine en_iload (i := 4) h dL_refuses_231 rfl ?_
  refine en_bipush h dL_refuses_233 (by decide) ?_
  refine en_iload_n (i := 2) h dL_refuses_235 rfl rfl ?_
  refine en_isub h dL_refuses_236 ?_
  refine en_iconst h dL_refuses_237 ?_
  refine en_callSS h hx9 (K_adds hW hP.1 (en_Xs_l hx9) hI9 (by decide) (by constructor <;> omega) (by constructor <;> omega) (by decide)) my_L_adds gL_refuses_L_adds rfl rfl ⟨by decide, by decide⟩ ⟨by decide, by decide⟩ (Nat.le_of_ble_eq_true rfl) dL_refuses_238 (fun r M1 hp => ?_)
  obtain ⟨rfl, hq⟩ := hp
  have e9 : w_adds m 0 line (-51 - x) 1 = (-2000000002) ∧ t_adds m 0 line (-51 - x) 1 = m := rf_adds1 (fun z => by omega)
  obtain ⟨e1, e2⟩ := e9
  rw [e2] at hq
  rw [e1]
  subst hq
  refine en_ldc (z := -2000000002) h dL_refuses_241 cn_L_refuses_18 (by decide) ?_
  refine en_icmp_ne (tgt := 537) h dL_refuses_243 (by decide) (by decide) (by decide) (fun c_243 => ?_) (fun c_243 => ?_)
  · exact absurd rfl c_243
  · exact K _ (cq_rf hI9.2.2.2)
set_option maxRecDepth 100000 in
set_option maxHeartbeats 4000000 in
theorem rc_11 {κ : en_C} {m : en_M} {bus line meter own x : Int} (hW : en_Wok (en_w κ)) (hP : HasL (en_w κ)) (h : en_Ok κ RL cL_refuses 8 wsL_refuses rm_L_refuses) (hx9 : en_Xs κ) (hR : RC m bus line meter own x) (K : ∀ M, cq M m → en_G κ 259 (rc_ls x bus line meter own) [] M 57 342) : en_G κ 246 (rc_ls x bus line meter own) [] m 52 312 := by
  obtain ⟨hI9, hN, hC, hx0, hb0, hl0, hm0⟩ := id hR
  have n9 := inv_n hI9
  have hI : ∀ k, 200 ≤ k → k < 204 → en_in κ k := hP.2.2.1
  have o0 := hC.2.2.2.1
  have o1 := hC.2.2.2.2
  have pO : pB m ((own + 1) % m 0 0) := ⟨Int.emod_nonneg _ (by omega), Int.emod_lt_of_pos _ (by omega)⟩
  have pO1 := pO.1
  have pO2 := pO.2
  have pX : 0 ≤ x % m 21 1 := by
    by_cases e : m 21 1 = 0
    · rw [e, Int.emod_zero]; omega
    · exact Int.emod_nonneg _ e
  have pX2 : m 21 1 ≠ 0 → x % m 21 1 < m 21 1 := fun e => Int.emod_lt_of_pos _ (by omega)
  refine en_aload_n (i := 0) h dL_refuses_246 rfl rfl ?_
  refine en_iconst h dL_refuses_247 ?_
  refine en_iload_n (i := 3) h dL_refuses_248 rfl rfl ?_
  refine en_iconst h dL_refuses_249 ?_
  refine en_iconst h dL_refuses_250 ?_
  refine en_callSS h hx9 (K_adds hW hP.1 (en_Xs_l hx9) hI9 (by decide) (by constructor <;> omega) (by decide) (by decide)) my_L_adds gL_refuses_L_adds rfl rfl ⟨by decide, by decide⟩ ⟨by decide, by decide⟩ (Nat.le_of_ble_eq_true rfl) dL_refuses_251 (fun r M1 hp => ?_)
  obtain ⟨rfl, hq⟩ := hp
  have e9 : w_adds m 1 bus 5 0 = (-2000000002) ∧ t_adds m 1 bus 5 0 = m := rf_adds1 (fun z => by omega)
  obtain ⟨e1, e2⟩ := e9
  rw [e2] at hq
  rw [e1]
  subst hq
  refine en_ldc (z := -2000000002) h dL_refuses_254 cn_L_refuses_18 (by decide) ?_
  refine en_icmp_ne (tgt := 537) h dL_refuses_256 (by decide) (by decide) (by decide) (fun c_256 => ?_) (fun c_256 => ?_)
  · exact absurd rfl c_256
  · exact K _ (cq_rf hI9.2.2.2)
set_option maxRecDepth 100000 in
set_option maxHeartbeats 4000000 in
theorem rc_12 {κ : en_C} {m : en_M} {bus line meter own x : Int} (hW : en_Wok (en_w κ)) (hP : HasL (en_w κ)) (h : en_Ok κ RL cL_refuses 8 wsL_refuses rm_L_refuses) (hx9 : en_Xs κ) (hR : RC m bus line meter own x) (K : ∀ M, cq M m → en_G κ 274 (rc_ls x bus line meter own) [] M 62 372) : en_G κ 259 (rc_ls x bus line meter own) [] m 57 342 := by
  obtain ⟨hI9, hN, hC, hx0, hb0, hl0, hm0⟩ := id hR
  have n9 := inv_n hI9
  have hI : ∀ k, 200 ≤ k → k < 204 → en_in κ k := hP.2.2.1
  have o0 := hC.2.2.2.1
  have o1 := hC.2.2.2.2
  have pO : pB m ((own + 1) % m 0 0) := ⟨Int.emod_nonneg _ (by omega), Int.emod_lt_of_pos _ (by omega)⟩
  have pO1 := pO.1
  have pO2 := pO.2
  have pX : 0 ≤ x % m 21 1 := by
    by_cases e : m 21 1 = 0
    · rw [e, Int.emod_zero]; omega
    · exact Int.emod_nonneg _ e
  have pX2 : m 21 1 ≠ 0 → x % m 21 1 < m 21 1 := fun e => Int.emod_lt_of_pos _ (by omega)
  refine en_aload_n (i := 0) h dL_refuses_259 rfl rfl ?_
  refine en_iconst h dL_refuses_260 ?_
  refine en_iload_n (i := 3) h dL_refuses_261 rfl rfl ?_
  refine en_iconst h dL_refuses_262 ?_
  refine en_iconst h dL_refuses_263 ?_
  refine en_iload_n (i := 2) h dL_refuses_264 rfl rfl ?_
  refine en_iadd h dL_refuses_265 ?_
  refine en_callSS h hx9 (K_adds hW hP.1 (en_Xs_l hx9) hI9 (by decide) (by constructor <;> omega) (by decide) (by constructor <;> omega)) my_L_adds gL_refuses_L_adds rfl rfl ⟨by decide, by decide⟩ ⟨by decide, by decide⟩ (Nat.le_of_ble_eq_true rfl) dL_refuses_266 (fun r M1 hp => ?_)
  obtain ⟨rfl, hq⟩ := hp
  have e9 : w_adds m 1 bus 5 (3 + x) = (-2000000002) ∧ t_adds m 1 bus 5 (3 + x) = m := rf_adds1 (fun z => by omega)
  obtain ⟨e1, e2⟩ := e9
  rw [e2] at hq
  rw [e1]
  subst hq
  refine en_ldc (z := -2000000002) h dL_refuses_269 cn_L_refuses_18 (by decide) ?_
  refine en_icmp_ne (tgt := 537) h dL_refuses_271 (by decide) (by decide) (by decide) (fun c_271 => ?_) (fun c_271 => ?_)
  · exact absurd rfl c_271
  · exact K _ (cq_rf hI9.2.2.2)
set_option maxRecDepth 100000 in
set_option maxHeartbeats 4000000 in
theorem rc_13 {κ : en_C} {m : en_M} {bus line meter own x : Int} (hW : en_Wok (en_w κ)) (hP : HasL (en_w κ)) (h : en_Ok κ RL cL_refuses 8 wsL_refuses rm_L_refuses) (hx9 : en_Xs κ) (hR : RC m bus line meter own x) (K : ∀ M, cq M m → en_G κ 287 (rc_ls x bus line meter own) [] M 67 402) : en_G κ 274 (rc_ls x bus line meter own) [] m 62 372 := by
  obtain ⟨hI9, hN, hC, hx0, hb0, hl0, hm0⟩ := id hR
  have n9 := inv_n hI9
  have hI : ∀ k, 200 ≤ k → k < 204 → en_in κ k := hP.2.2.1
  have o0 := hC.2.2.2.1
  have o1 := hC.2.2.2.2
  have pO : pB m ((own + 1) % m 0 0) := ⟨Int.emod_nonneg _ (by omega), Int.emod_lt_of_pos _ (by omega)⟩
  have pO1 := pO.1
  have pO2 := pO.2
  have pX : 0 ≤ x % m 21 1 := by
    by_cases e : m 21 1 = 0
    · rw [e, Int.emod_zero]; omega
    · exact Int.emod_nonneg _ e
  have pX2 : m 21 1 ≠ 0 → x % m 21 1 < m 21 1 := fun e => Int.emod_lt_of_pos _ (by omega)
  refine en_aload_n (i := 0) h dL_refuses_274 rfl rfl ?_
  refine en_iconst h dL_refuses_275 ?_
  refine en_iload_n (i := 3) h dL_refuses_276 rfl rfl ?_
  refine en_iconst h dL_refuses_277 ?_
  refine en_iconst h dL_refuses_278 ?_
  refine en_callSS h hx9 (K_adds hW hP.1 (en_Xs_l hx9) hI9 (by decide) (by constructor <;> omega) (by decide) (by decide)) my_L_adds gL_refuses_L_adds rfl rfl ⟨by decide, by decide⟩ ⟨by decide, by decide⟩ (Nat.le_of_ble_eq_true rfl) dL_refuses_279 (fun r M1 hp => ?_)
  obtain ⟨rfl, hq⟩ := hp
  have e9 : w_adds m 1 bus 5 1 = (-2000000001) ∧ t_adds m 1 bus 5 1 = m := rf_adds2 ⟨Or.inr rfl, ⟨by decide, by decide⟩, by decide, by decide⟩ (fun z => by rw [if_neg (by decide)] at z; exact hR.2.2.1.1 z)
  obtain ⟨e1, e2⟩ := e9
  rw [e2] at hq
  rw [e1]
  subst hq
  refine en_ldc (z := -2000000001) h dL_refuses_282 cn_L_refuses_15 (by decide) ?_
  refine en_icmp_ne (tgt := 537) h dL_refuses_284 (by decide) (by decide) (by decide) (fun c_284 => ?_) (fun c_284 => ?_)
  · exact absurd rfl c_284
  · exact K _ (cq_rf hI9.2.2.2)
set_option maxRecDepth 100000 in
set_option maxHeartbeats 4000000 in
theorem rc_14 {κ : en_C} {m : en_M} {bus line meter own x : Int} (hW : en_Wok (en_w κ)) (hP : HasL (en_w κ)) (h : en_Ok κ RL cL_refuses 8 wsL_refuses rm_L_refuses) (hx9 : en_Xs κ) (hR : RC m bus line meter own x) (K : ∀ M, cq M m → en_G κ 301 (rc_ls x bus line meter own) [] M 72 432) : en_G κ 287 (rc_ls x bus line meter own) [] m 67 402 := by
  obtain ⟨hI9, hN, hC, hx0, hb0, hl0, hm0⟩ := id hR
  have n9 := inv_n hI9
  have hI : ∀ k, 200 ≤ k → k < 204 → en_in κ k := hP.2.2.1
  have o0 := hC.2.2.2.1
  have o1 := hC.2.2.2.2
  have pO : pB m ((own + 1) % m 0 0) := ⟨Int.emod_nonneg _ (by omega), Int.emod_lt_of_pos _ (by omega)⟩
  have pO1 := pO.1
  have pO2 := pO.2
  have pX : 0 ≤ x % m 21 1 := by
    by_cases e : m 21 1 = 0
    · rw [e, Int.emod_zero]; omega
    · exact Int.emod_nonneg _ e
  have pX2 : m 21 1 ≠ 0 → x % m 21 1 < m 21 1 := fun e => Int.emod_lt_of_pos _ (by omega)
  refine en_aload_n (i := 0) h dL_refuses_287 rfl rfl ?_
  refine en_iconst h dL_refuses_288 ?_
  refine en_iload (i := 4) h dL_refuses_289 rfl ?_
  refine en_iconst h dL_refuses_291 ?_
  refine en_iconst h dL_refuses_292 ?_
  refine en_callSS h hx9 (K_adds hW hP.1 (en_Xs_l hx9) hI9 (by decide) (by constructor <;> omega) (by decide) (by decide)) my_L_adds gL_refuses_L_adds rfl rfl ⟨by decide, by decide⟩ ⟨by decide, by decide⟩ (Nat.le_of_ble_eq_true rfl) dL_refuses_293 (fun r M1 hp => ?_)
  obtain ⟨rfl, hq⟩ := hp
  have e9 : w_adds m 0 line 5 1 = (-2000000001) ∧ t_adds m 0 line 5 1 = m := rf_adds2 ⟨Or.inl rfl, ⟨by decide, by decide⟩, by decide, by decide⟩ (fun z => by rw [if_pos rfl] at z; exact hR.2.2.1.2.1 z)
  obtain ⟨e1, e2⟩ := e9
  rw [e2] at hq
  rw [e1]
  subst hq
  refine en_ldc (z := -2000000001) h dL_refuses_296 cn_L_refuses_15 (by decide) ?_
  refine en_icmp_ne (tgt := 537) h dL_refuses_298 (by decide) (by decide) (by decide) (fun c_298 => ?_) (fun c_298 => ?_)
  · exact absurd rfl c_298
  · exact K _ (cq_rf hI9.2.2.2)
set_option maxRecDepth 100000 in
set_option maxHeartbeats 4000000 in
theorem rc_15 {κ : en_C} {m : en_M} {bus line meter own x : Int} (hW : en_Wok (en_w κ)) (hP : HasL (en_w κ)) (h : en_Ok κ RL cL_refuses 8 wsL_refuses rm_L_refuses) (hx9 : en_Xs κ) (hR : RC m bus line meter own x) (K : ∀ M, cq M m → en_G κ 314 (rc_ls x bus line meter own) [] M 74 444) : en_G κ 301 (rc_ls x bus line meter own) [] m 72 432 := by
  obtain ⟨hI9, hN, hC, hx0, hb0, hl0, hm0⟩ := id hR
  have n9 := inv_n hI9
  have hI : ∀ k, 200 ≤ k → k < 204 → en_in κ k := hP.2.2.1
  have o0 := hC.2.2.2.1
  have o1 := hC.2.2.2.2
  have pO : pB m ((own + 1) % m 0 0) := ⟨Int.emod_nonneg _ (by omega), Int.emod_lt_of_pos _ (by omega)⟩
  have pO1 := pO.1
  have pO2 := pO.2
  have pX : 0 ≤ x % m 21 1 := by
    by_cases e : m 21 1 = 0
    · rw [e, Int.emod_zero]; omega
    · exact Int.emod_nonneg _ e
  have pX2 : m 21 1 ≠ 0 → x % m 21 1 < m 21 1 := fun e => Int.emod_lt_of_pos _ (by omega)
  refine en_aload_n (i := 0) h dL_refuses_301 rfl rfl ?_
  refine en_iload (i := 5) h dL_refuses_302 rfl ?_
  refine en_bipush h dL_refuses_304 (by decide) ?_
  refine en_callSS h hx9 (K_reads hW hP.1 (en_Xs_l hx9) hI9 (by constructor <;> omega) (by decide)) my_L_reads gL_refuses_L_reads rfl rfl ⟨by decide, by decide⟩ ⟨by decide, by decide⟩ (Nat.le_of_ble_eq_true rfl) dL_refuses_306 (fun r M1 hp => ?_)
  obtain ⟨rfl, hq⟩ := hp
  have e9 : w_reads m meter 99 = (-2000000001) ∧ t_reads m meter 99 = m := rf_reads1 hR.2.2.1.2.2.1
  obtain ⟨e1, e2⟩ := e9
  rw [e2] at hq
  rw [e1]
  subst hq
  refine en_ldc (z := -2000000001) h dL_refuses_309 cn_L_refuses_15 (by decide) ?_
  refine en_icmp_ne (tgt := 537) h dL_refuses_311 (by decide) (by decide) (by decide) (fun c_311 => ?_) (fun c_311 => ?_)
  · exact absurd rfl c_311
  · exact K _ (cq_rf hI9.2.2.2)
set_option maxRecDepth 100000 in
set_option maxHeartbeats 4000000 in
theorem rc_16 {κ : en_C} {m : en_M} {bus line meter own x : Int} (hW : en_Wok (en_w κ)) (hP : HasL (en_w κ)) (h : en_Ok κ RL cL_refuses 8 wsL_refuses rm_L_refuses) (hx9 : en_Xs κ) (hR : RC m bus line meter own x) (K : ∀ M, cq M m → en_G κ 326 (rc_ls x bus line meter own) [] M 75 450) : en_G κ 314 (rc_ls x bus line meter own) [] m 74 444 := by
  obtain ⟨hI9, hN, hC, hx0, hb0, hl0, hm0⟩ := id hR
  have n9 := inv_n hI9
  have hI : ∀ k, 200 ≤ k → k < 204 → en_in κ k := hP.2.2.1
  have o0 := hC.2.2.2.1
  have o1 := hC.2.2.2.2
  have pO : pB m ((own + 1) % m 0 0) := ⟨Int.emod_nonneg _ (by omega), Int.emod_lt_of_pos _ (by omega)⟩
  have pO1 := pO.1
  have pO2 := pO.2
  have pX : 0 ≤ x % m 21 1 := by
    by_cases e : m 21 1 = 0
    · rw [e, Int.emod_zero]; omega
    · exact Int.emod_nonneg _ e
  have pX2 : m 21 1 ≠ 0 → x % m 21 1 < m 21 1 := fun e => Int.emod_lt_of_pos _ (by omega)
  refine en_aload_n (i := 0) h dL_refuses_314 rfl rfl ?_
  refine en_iload (i := 5) h dL_refuses_315 rfl ?_
  refine en_iconst h dL_refuses_317 ?_
  refine en_callSS h hx9 (K_uses hW hP.1 (en_Xs_l hx9) hI9 (by constructor <;> omega) (Or.inr rfl)) my_L_uses gL_refuses_L_uses rfl rfl ⟨by decide, by decide⟩ ⟨by decide, by decide⟩ (Nat.le_of_ble_eq_true rfl) dL_refuses_318 (fun r M1 hp => ?_)
  obtain ⟨rfl, hq⟩ := hp
  have e9 : w_uses m meter 1 = (-2000000001) ∧ t_uses m meter 1 = m := rf_uses1 hR.2.2.1.2.2.1
  obtain ⟨e1, e2⟩ := e9
  rw [e2] at hq
  rw [e1]
  subst hq
  refine en_ldc (z := -2000000001) h dL_refuses_321 cn_L_refuses_15 (by decide) ?_
  refine en_icmp_ne (tgt := 537) h dL_refuses_323 (by decide) (by decide) (by decide) (fun c_323 => ?_) (fun c_323 => ?_)
  · exact absurd rfl c_323
  · exact K _ (cq_rf hI9.2.2.2)
set_option maxRecDepth 100000 in
set_option maxHeartbeats 4000000 in
theorem rc_17 {κ : en_C} {m : en_M} {bus line meter own x : Int} (hW : en_Wok (en_w κ)) (hP : HasL (en_w κ)) (h : en_Ok κ RL cL_refuses 8 wsL_refuses rm_L_refuses) (hx9 : en_Xs κ) (hR : RC m bus line meter own x) (K : ∀ M, cq M m → en_G κ 337 (rc_ls x bus line meter own) [] M 76 456) : en_G κ 326 (rc_ls x bus line meter own) [] m 75 450 := by
  obtain ⟨hI9, hN, hC, hx0, hb0, hl0, hm0⟩ := id hR
  have n9 := inv_n hI9
  have hI : ∀ k, 200 ≤ k → k < 204 → en_in κ k := hP.2.2.1
  have o0 := hC.2.2.2.1
  have o1 := hC.2.2.2.2
  have pO : pB m ((own + 1) % m 0 0) := ⟨Int.emod_nonneg _ (by omega), Int.emod_lt_of_pos _ (by omega)⟩
  have pO1 := pO.1
  have pO2 := pO.2
  have pX : 0 ≤ x % m 21 1 := by
    by_cases e : m 21 1 = 0
    · rw [e, Int.emod_zero]; omega
    · exact Int.emod_nonneg _ e
  have pX2 : m 21 1 ≠ 0 → x % m 21 1 < m 21 1 := fun e => Int.emod_lt_of_pos _ (by omega)
  refine en_aload_n (i := 0) h dL_refuses_326 rfl rfl ?_
  refine en_iload (i := 5) h dL_refuses_327 rfl ?_
  refine en_callSS h hx9 (K_counts hW hP.1 (en_Xs_l hx9) hI9 (by constructor <;> omega)) my_L_counts gL_refuses_L_counts rfl rfl ⟨by decide, by decide⟩ ⟨by decide, by decide⟩ (Nat.le_of_ble_eq_true rfl) dL_refuses_329 (fun r M1 hp => ?_)
  obtain ⟨rfl, hq⟩ := hp
  have e1 : w_counts m meter = (-2000000001) := rf_counts1 hR.2.2.1.2.2.1
  rw [e1]
  subst hq
  refine en_ldc (z := -2000000001) h dL_refuses_332 cn_L_refuses_15 (by decide) ?_
  refine en_icmp_ne (tgt := 537) h dL_refuses_334 (by decide) (by decide) (by decide) (fun c_334 => ?_) (fun c_334 => ?_)
  · exact absurd rfl c_334
  · exact K _ (cq_rf hI9.2.2.2)
set_option maxRecDepth 100000 in
set_option maxHeartbeats 4000000 in
theorem rc_18 {κ : en_C} {m : en_M} {bus line meter own x : Int} (hW : en_Wok (en_w κ)) (hP : HasL (en_w κ)) (h : en_Ok κ RL cL_refuses 8 wsL_refuses rm_L_refuses) (hx9 : en_Xs κ) (hR : RC m bus line meter own x) (K : ∀ M, cq M m → en_G κ 347 (rc_ls x bus line meter own) [] M 77 462) : en_G κ 337 (rc_ls x bus line meter own) [] m 76 456 := by
  obtain ⟨hI9, hN, hC, hx0, hb0, hl0, hm0⟩ := id hR
  have n9 := inv_n hI9
  have hI : ∀ k, 200 ≤ k → k < 204 → en_in κ k := hP.2.2.1
  have o0 := hC.2.2.2.1
  have o1 := hC.2.2.2.2
  have pO : pB m ((own + 1) % m 0 0) := ⟨Int.emod_nonneg _ (by omega), Int.emod_lt_of_pos _ (by omega)⟩
  have pO1 := pO.1
  have pO2 := pO.2
  have pX : 0 ≤ x % m 21 1 := by
    by_cases e : m 21 1 = 0
    · rw [e, Int.emod_zero]; omega
    · exact Int.emod_nonneg _ e
  have pX2 : m 21 1 ≠ 0 → x % m 21 1 < m 21 1 := fun e => Int.emod_lt_of_pos _ (by omega)
  refine en_aload_n (i := 0) h dL_refuses_337 rfl rfl ?_
  refine en_iload_n (i := 3) h dL_refuses_338 rfl rfl ?_
  refine en_callSS h hx9 (K_rank hW hP.1 (en_Xs_l hx9) hI9 (by constructor <;> omega)) my_L_rank gL_refuses_L_rank rfl rfl ⟨by decide, by decide⟩ ⟨by decide, by decide⟩ (Nat.le_of_ble_eq_true rfl) dL_refuses_339 (fun r M1 hp => ?_)
  obtain ⟨rfl, hq⟩ := hp
  have e1 : w_rank m bus = (-2000000001) := rf_rank1 hR.2.2.1.1
  rw [e1]
  refine en_ldc (z := -2000000001) h dL_refuses_342 cn_L_refuses_15 (by decide) ?_
  refine en_icmp_ne (tgt := 537) h dL_refuses_344 (by decide) (by decide) (by decide) (fun c_344 => ?_) (fun c_344 => ?_)
  · exact absurd rfl c_344
  · exact K M1 hq
set_option maxRecDepth 100000 in
set_option maxHeartbeats 4000000 in
theorem rc_19 {κ : en_C} {m : en_M} {bus line meter own x : Int} (hW : en_Wok (en_w κ)) (hP : HasL (en_w κ)) (h : en_Ok κ RL cL_refuses 8 wsL_refuses rm_L_refuses) (hx9 : en_Xs κ) (hR : RC m bus line meter own x) (K : ∀ M, cq M m → en_G κ 357 (rc_ls x bus line meter own) [] M 78 468) : en_G κ 347 (rc_ls x bus line meter own) [] m 77 462 := by
  obtain ⟨hI9, hN, hC, hx0, hb0, hl0, hm0⟩ := id hR
  have n9 := inv_n hI9
  have hI : ∀ k, 200 ≤ k → k < 204 → en_in κ k := hP.2.2.1
  have o0 := hC.2.2.2.1
  have o1 := hC.2.2.2.2
  have pO : pB m ((own + 1) % m 0 0) := ⟨Int.emod_nonneg _ (by omega), Int.emod_lt_of_pos _ (by omega)⟩
  have pO1 := pO.1
  have pO2 := pO.2
  have pX : 0 ≤ x % m 21 1 := by
    by_cases e : m 21 1 = 0
    · rw [e, Int.emod_zero]; omega
    · exact Int.emod_nonneg _ e
  have pX2 : m 21 1 ≠ 0 → x % m 21 1 < m 21 1 := fun e => Int.emod_lt_of_pos _ (by omega)
  refine en_aload_n (i := 0) h dL_refuses_347 rfl rfl ?_
  refine en_iload_n (i := 3) h dL_refuses_348 rfl rfl ?_
  refine en_callSS h hx9 (K_observable hW hP.1 (en_Xs_l hx9) hI9 (by constructor <;> omega)) my_L_observable gL_refuses_L_observable rfl rfl ⟨by decide, by decide⟩ ⟨by decide, by decide⟩ (Nat.le_of_ble_eq_true rfl) dL_refuses_349 (fun r M1 hp => ?_)
  obtain ⟨rfl, hq⟩ := hp
  have e1 : w_observable m bus = (-2000000001) := rf_observable1 hR.2.2.1.1
  rw [e1]
  refine en_ldc (z := -2000000001) h dL_refuses_352 cn_L_refuses_15 (by decide) ?_
  refine en_icmp_ne (tgt := 537) h dL_refuses_354 (by decide) (by decide) (by decide) (fun c_354 => ?_) (fun c_354 => ?_)
  · exact absurd rfl c_354
  · exact K M1 hq
set_option maxRecDepth 100000 in
set_option maxHeartbeats 4000000 in
theorem rc_20 {κ : en_C} {m : en_M} {bus line meter own x : Int} (hW : en_Wok (en_w κ)) (hP : HasL (en_w κ)) (h : en_Ok κ RL cL_refuses 8 wsL_refuses rm_L_refuses) (hx9 : en_Xs κ) (hR : RC m bus line meter own x) (K : ∀ M, cq M m → en_G κ 368 (rc_ls x bus line meter own) [] M 79 474) : en_G κ 357 (rc_ls x bus line meter own) [] m 78 468 := by
  obtain ⟨hI9, hN, hC, hx0, hb0, hl0, hm0⟩ := id hR
  have n9 := inv_n hI9
  have hI : ∀ k, 200 ≤ k → k < 204 → en_in κ k := hP.2.2.1
  have o0 := hC.2.2.2.1
  have o1 := hC.2.2.2.2
  have pO : pB m ((own + 1) % m 0 0) := ⟨Int.emod_nonneg _ (by omega), Int.emod_lt_of_pos _ (by omega)⟩
  have pO1 := pO.1
  have pO2 := pO.2
  have pX : 0 ≤ x % m 21 1 := by
    by_cases e : m 21 1 = 0
    · rw [e, Int.emod_zero]; omega
    · exact Int.emod_nonneg _ e
  have pX2 : m 21 1 ≠ 0 → x % m 21 1 < m 21 1 := fun e => Int.emod_lt_of_pos _ (by omega)
  refine en_aload_n (i := 0) h dL_refuses_357 rfl rfl ?_
  refine en_iload (i := 5) h dL_refuses_358 rfl ?_
  refine en_callSS h hx9 (K_critical hW hP.1 (en_Xs_l hx9) hI9 (by constructor <;> omega)) my_L_critical gL_refuses_L_critical rfl rfl ⟨by decide, by decide⟩ ⟨by decide, by decide⟩ (Nat.le_of_ble_eq_true rfl) dL_refuses_360 (fun r M1 hp => ?_)
  obtain ⟨rfl, hq⟩ := hp
  have e1 : w_critical m meter = (-2000000001) := rf_critical1 hR.2.2.1.2.2.1
  rw [e1]
  refine en_ldc (z := -2000000001) h dL_refuses_363 cn_L_refuses_15 (by decide) ?_
  refine en_icmp_ne (tgt := 537) h dL_refuses_365 (by decide) (by decide) (by decide) (fun c_365 => ?_) (fun c_365 => ?_)
  · exact absurd rfl c_365
  · exact K M1 hq
set_option maxRecDepth 100000 in
set_option maxHeartbeats 4000000 in
theorem rc_21 {κ : en_C} {m : en_M} {bus line meter own x : Int} (hW : en_Wok (en_w κ)) (hP : HasL (en_w κ)) (h : en_Ok κ RL cL_refuses 8 wsL_refuses rm_L_refuses) (hx9 : en_Xs κ) (hR : RC m bus line meter own x) (K : ∀ M, cq M m → en_G κ 380 (rc_ls x bus line meter own) [] M 81 486) : en_G κ 368 (rc_ls x bus line meter own) [] m 79 474 := by
  obtain ⟨hI9, hN, hC, hx0, hb0, hl0, hm0⟩ := id hR
  have n9 := inv_n hI9
  have hI : ∀ k, 200 ≤ k → k < 204 → en_in κ k := hP.2.2.1
  have o0 := hC.2.2.2.1
  have o1 := hC.2.2.2.2
  have pO : pB m ((own + 1) % m 0 0) := ⟨Int.emod_nonneg _ (by omega), Int.emod_lt_of_pos _ (by omega)⟩
  have pO1 := pO.1
  have pO2 := pO.2
  have pX : 0 ≤ x % m 21 1 := by
    by_cases e : m 21 1 = 0
    · rw [e, Int.emod_zero]; omega
    · exact Int.emod_nonneg _ e
  have pX2 : m 21 1 ≠ 0 → x % m 21 1 < m 21 1 := fun e => Int.emod_lt_of_pos _ (by omega)
  refine en_aload_n (i := 0) h dL_refuses_368 rfl rfl ?_
  refine en_iload_n (i := 3) h dL_refuses_369 rfl rfl ?_
  refine en_callSS h hx9 (K_top hW hP.1 (en_Xs_l hx9) hI9 (by constructor <;> omega)) my_L_top gL_refuses_L_top rfl rfl ⟨by decide, by decide⟩ ⟨by decide, by decide⟩ (Nat.le_of_ble_eq_true rfl) dL_refuses_370 (fun r M1 hp => ?_)
  obtain ⟨rfl, hq⟩ := hp
  have e1 : w_top m bus = (-4000000000000000001) := rf_top1 hR.2.2.1.1
  rw [e1]
  refine en_ldc2 (z := -4000000000000000001) h dL_refuses_373 cn_L_refuses_58 (by decide) ?_
  refine en_lcmpR h dL_refuses_376 (by decide) (by decide) ?_
  refine en_if_ne (tgt := 537) h dL_refuses_377 (by decide) (by decide) (fun c_377 => ?_) (fun c_377 => ?_)
  · exact absurd (show en_cmp _ _ = 0 by decide) c_377
  · exact K M1 hq
set_option maxRecDepth 100000 in
set_option maxHeartbeats 4000000 in
theorem rc_22 {κ : en_C} {m : en_M} {bus line meter own x : Int} (hW : en_Wok (en_w κ)) (hP : HasL (en_w κ)) (h : en_Ok κ RL cL_refuses 8 wsL_refuses rm_L_refuses) (hx9 : en_Xs κ) (hR : RC m bus line meter own x) (K : ∀ M, cq M m → en_G κ 392 (rc_ls x bus line meter own) [] M 83 498) : en_G κ 380 (rc_ls x bus line meter own) [] m 81 486 := by
  obtain ⟨hI9, hN, hC, hx0, hb0, hl0, hm0⟩ := id hR
  have n9 := inv_n hI9
  have hI : ∀ k, 200 ≤ k → k < 204 → en_in κ k := hP.2.2.1
  have o0 := hC.2.2.2.1
  have o1 := hC.2.2.2.2
  have pO : pB m ((own + 1) % m 0 0) := ⟨Int.emod_nonneg _ (by omega), Int.emod_lt_of_pos _ (by omega)⟩
  have pO1 := pO.1
  have pO2 := pO.2
  have pX : 0 ≤ x % m 21 1 := by
    by_cases e : m 21 1 = 0
    · rw [e, Int.emod_zero]; omega
    · exact Int.emod_nonneg _ e
  have pX2 : m 21 1 ≠ 0 → x % m 21 1 < m 21 1 := fun e => Int.emod_lt_of_pos _ (by omega)
  refine en_aload_n (i := 0) h dL_refuses_380 rfl rfl ?_
  refine en_iload_n (i := 3) h dL_refuses_381 rfl rfl ?_
  refine en_callSS h hx9 (K_bottom hW hP.1 (en_Xs_l hx9) hI9 (by constructor <;> omega)) my_L_bottom gL_refuses_L_bottom rfl rfl ⟨by decide, by decide⟩ ⟨by decide, by decide⟩ (Nat.le_of_ble_eq_true rfl) dL_refuses_382 (fun r M1 hp => ?_)
  obtain ⟨rfl, hq⟩ := hp
  have e1 : w_bottom m bus = (-4000000000000000001) := rf_bottom1 hR.2.2.1.1
  rw [e1]
  refine en_ldc2 (z := -4000000000000000001) h dL_refuses_385 cn_L_refuses_58 (by decide) ?_
  refine en_lcmpR h dL_refuses_388 (by decide) (by decide) ?_
  refine en_if_ne (tgt := 537) h dL_refuses_389 (by decide) (by decide) (fun c_389 => ?_) (fun c_389 => ?_)
  · exact absurd (show en_cmp _ _ = 0 by decide) c_389
  · exact K M1 hq
set_option maxRecDepth 100000 in
set_option maxHeartbeats 4000000 in
theorem rc_23 {κ : en_C} {m : en_M} {bus line meter own x : Int} (hW : en_Wok (en_w κ)) (hP : HasL (en_w κ)) (h : en_Ok κ RL cL_refuses 8 wsL_refuses rm_L_refuses) (hx9 : en_Xs κ) (hR : RC m bus line meter own x) (K : ∀ M, cq M m → en_G κ 405 (rc_ls x bus line meter own) [] M 86 516) : en_G κ 392 (rc_ls x bus line meter own) [] m 83 498 := by
  obtain ⟨hI9, hN, hC, hx0, hb0, hl0, hm0⟩ := id hR
  have n9 := inv_n hI9
  have hI : ∀ k, 200 ≤ k → k < 204 → en_in κ k := hP.2.2.1
  have o0 := hC.2.2.2.1
  have o1 := hC.2.2.2.2
  have pO : pB m ((own + 1) % m 0 0) := ⟨Int.emod_nonneg _ (by omega), Int.emod_lt_of_pos _ (by omega)⟩
  have pO1 := pO.1
  have pO2 := pO.2
  have pX : 0 ≤ x % m 21 1 := by
    by_cases e : m 21 1 = 0
    · rw [e, Int.emod_zero]; omega
    · exact Int.emod_nonneg _ e
  have pX2 : m 21 1 ≠ 0 → x % m 21 1 < m 21 1 := fun e => Int.emod_lt_of_pos _ (by omega)
  refine en_aload_n (i := 0) h dL_refuses_392 rfl rfl ?_
  refine en_iload (i := 5) h dL_refuses_393 rfl ?_
  refine en_callSS h hx9 (K_over hW hP.1 (en_Xs_l hx9) hI9 (by constructor <;> omega)) my_L_over gL_refuses_L_over rfl rfl ⟨by decide, by decide⟩ ⟨by decide, by decide⟩ (Nat.le_of_ble_eq_true rfl) dL_refuses_395 (fun r M1 hp => ?_)
  obtain ⟨rfl, hq⟩ := hp
  have e1 : w_over m meter = (-4000000000000000001) := rf_over1 hR.2.2.1.2.2.1
  rw [e1]
  refine en_ldc2 (z := -4000000000000000001) h dL_refuses_398 cn_L_refuses_58 (by decide) ?_
  refine en_lcmpR h dL_refuses_401 (by decide) (by decide) ?_
  refine en_if_ne (tgt := 537) h dL_refuses_402 (by decide) (by decide) (fun c_402 => ?_) (fun c_402 => ?_)
  · exact absurd (show en_cmp _ _ = 0 by decide) c_402
  · exact K M1 hq
set_option maxRecDepth 100000 in
set_option maxHeartbeats 4000000 in
theorem rc_24 {κ : en_C} {m : en_M} {bus line meter own x : Int} (hW : en_Wok (en_w κ)) (hP : HasL (en_w κ)) (h : en_Ok κ RL cL_refuses 8 wsL_refuses rm_L_refuses) (hx9 : en_Xs κ) (hR : RC m bus line meter own x) (K : ∀ M, cq M m → en_G κ 418 (rc_ls x bus line meter own) [] M 89 534) : en_G κ 405 (rc_ls x bus line meter own) [] m 86 516 := by
  obtain ⟨hI9, hN, hC, hx0, hb0, hl0, hm0⟩ := id hR
  have n9 := inv_n hI9
  have hI : ∀ k, 200 ≤ k → k < 204 → en_in κ k := hP.2.2.1
  have o0 := hC.2.2.2.1
  have o1 := hC.2.2.2.2
  have pO : pB m ((own + 1) % m 0 0) := ⟨Int.emod_nonneg _ (by omega), Int.emod_lt_of_pos _ (by omega)⟩
  have pO1 := pO.1
  have pO2 := pO.2
  have pX : 0 ≤ x % m 21 1 := by
    by_cases e : m 21 1 = 0
    · rw [e, Int.emod_zero]; omega
    · exact Int.emod_nonneg _ e
  have pX2 : m 21 1 ≠ 0 → x % m 21 1 < m 21 1 := fun e => Int.emod_lt_of_pos _ (by omega)
  refine en_aload_n (i := 0) h dL_refuses_405 rfl rfl ?_
  refine en_iload (i := 5) h dL_refuses_406 rfl ?_
  refine en_callSS h hx9 (K_under hW hP.1 (en_Xs_l hx9) hI9 (by constructor <;> omega)) my_L_under gL_refuses_L_under rfl rfl ⟨by decide, by decide⟩ ⟨by decide, by decide⟩ (Nat.le_of_ble_eq_true rfl) dL_refuses_408 (fun r M1 hp => ?_)
  obtain ⟨rfl, hq⟩ := hp
  have e1 : w_under m meter = (-4000000000000000001) := rf_under1 hR.2.2.1.2.2.1
  rw [e1]
  refine en_ldc2 (z := -4000000000000000001) h dL_refuses_411 cn_L_refuses_58 (by decide) ?_
  refine en_lcmpR h dL_refuses_414 (by decide) (by decide) ?_
  refine en_if_ne (tgt := 537) h dL_refuses_415 (by decide) (by decide) (fun c_415 => ?_) (fun c_415 => ?_)
  · exact absurd (show en_cmp _ _ = 0 by decide) c_415
  · exact K M1 hq
set_option maxRecDepth 100000 in
set_option maxHeartbeats 4000000 in
theorem rc_25 {κ : en_C} {m : en_M} {bus line meter own x : Int} (hW : en_Wok (en_w κ)) (hP : HasL (en_w κ)) (h : en_Ok κ RL cL_refuses 8 wsL_refuses rm_L_refuses) (hx9 : en_Xs κ) (hR : RC m bus line meter own x) (K : ∀ M, cq M m → en_G κ 428 (rc_ls x bus line meter own) [] M 91 546) : en_G κ 418 (rc_ls x bus line meter own) [] m 89 534 := by
  obtain ⟨hI9, hN, hC, hx0, hb0, hl0, hm0⟩ := id hR
  have n9 := inv_n hI9
  have hI : ∀ k, 200 ≤ k → k < 204 → en_in κ k := hP.2.2.1
  have o0 := hC.2.2.2.1
  have o1 := hC.2.2.2.2
  have pO : pB m ((own + 1) % m 0 0) := ⟨Int.emod_nonneg _ (by omega), Int.emod_lt_of_pos _ (by omega)⟩
  have pO1 := pO.1
  have pO2 := pO.2
  have pX : 0 ≤ x % m 21 1 := by
    by_cases e : m 21 1 = 0
    · rw [e, Int.emod_zero]; omega
    · exact Int.emod_nonneg _ e
  have pX2 : m 21 1 ≠ 0 → x % m 21 1 < m 21 1 := fun e => Int.emod_lt_of_pos _ (by omega)
  refine en_aload_n (i := 0) h dL_refuses_418 rfl rfl ?_
  refine en_iload_n (i := 3) h dL_refuses_419 rfl rfl ?_
  refine en_callSS h hx9 (K_worst hW hP.1 (en_Xs_l hx9) hI9 (by constructor <;> omega)) my_L_worst gL_refuses_L_worst rfl rfl ⟨by decide, by decide⟩ ⟨by decide, by decide⟩ (Nat.le_of_ble_eq_true rfl) dL_refuses_420 (fun r M1 hp => ?_)
  obtain ⟨rfl, hq⟩ := hp
  have e1 : w_worst m bus = (-2000000001) := rf_worst1 hR.2.2.1.1
  rw [e1]
  refine en_ldc (z := -2000000001) h dL_refuses_423 cn_L_refuses_15 (by decide) ?_
  refine en_icmp_ne (tgt := 537) h dL_refuses_425 (by decide) (by decide) (by decide) (fun c_425 => ?_) (fun c_425 => ?_)
  · exact absurd rfl c_425
  · exact K M1 hq
set_option maxRecDepth 100000 in
set_option maxHeartbeats 4000000 in
theorem rc_26 {κ : en_C} {m : en_M} {bus line meter own x : Int} (hW : en_Wok (en_w κ)) (hP : HasL (en_w κ)) (h : en_Ok κ RL cL_refuses 8 wsL_refuses rm_L_refuses) (hx9 : en_Xs κ) (hR : RC m bus line meter own x) (K : ∀ M, cq M m → en_G κ 439 (rc_ls x bus line meter own) [] M 94 564) : en_G κ 428 (rc_ls x bus line meter own) [] m 91 546 := by
  obtain ⟨hI9, hN, hC, hx0, hb0, hl0, hm0⟩ := id hR
  have n9 := inv_n hI9
  have hI : ∀ k, 200 ≤ k → k < 204 → en_in κ k := hP.2.2.1
  have o0 := hC.2.2.2.1
  have o1 := hC.2.2.2.2
  have pO : pB m ((own + 1) % m 0 0) := ⟨Int.emod_nonneg _ (by omega), Int.emod_lt_of_pos _ (by omega)⟩
  have pO1 := pO.1
  have pO2 := pO.2
  have pX : 0 ≤ x % m 21 1 := by
    by_cases e : m 21 1 = 0
    · rw [e, Int.emod_zero]; omega
    · exact Int.emod_nonneg _ e
  have pX2 : m 21 1 ≠ 0 → x % m 21 1 < m 21 1 := fun e => Int.emod_lt_of_pos _ (by omega)
  refine en_aload_n (i := 0) h dL_refuses_428 rfl rfl ?_
  refine en_iload_n (i := 3) h dL_refuses_429 rfl rfl ?_
  refine en_iconst h dL_refuses_430 ?_
  refine en_callSS h hx9 (K_cleans hW hP.1 (en_Xs_l hx9) hI9 (by constructor <;> omega) (by decide)) my_L_cleans gL_refuses_L_cleans rfl rfl ⟨by decide, by decide⟩ ⟨by decide, by decide⟩ (Nat.le_of_ble_eq_true rfl) dL_refuses_431 (fun r M1 hp => ?_)
  obtain ⟨rfl, hq⟩ := hp
  have e9 : w_cleans m bus (-1) = (-2000000001) ∧ t_cleans m bus (-1) = m := rf_cleans1 hR.2.2.1.1
  obtain ⟨e1, e2⟩ := e9
  rw [e2] at hq
  rw [e1]
  refine en_ldc (z := -2000000001) h dL_refuses_434 cn_L_refuses_15 (by decide) ?_
  refine en_icmp_ne (tgt := 537) h dL_refuses_436 (by decide) (by decide) (by decide) (fun c_436 => ?_) (fun c_436 => ?_)
  · exact absurd rfl c_436
  · exact K M1 hq
set_option maxRecDepth 100000 in
set_option maxHeartbeats 4000000 in
theorem rc_27 {κ : en_C} {m : en_M} {bus line meter own x : Int} (hW : en_Wok (en_w κ)) (hP : HasL (en_w κ)) (h : en_Ok κ RL cL_refuses 8 wsL_refuses rm_L_refuses) (hx9 : en_Xs κ) (hR : RC m bus line meter own x) (K : ∀ M, cq M m → en_G κ 453 (rc_ls x bus line meter own) [] M 97 582) : en_G κ 439 (rc_ls x bus line meter own) [] m 94 564 := by
  obtain ⟨hI9, hN, hC, hx0, hb0, hl0, hm0⟩ := id hR
  have n9 := inv_n hI9
  have hI : ∀ k, 200 ≤ k → k < 204 → en_in κ k := hP.2.2.1
  have o0 := hC.2.2.2.1
  have o1 := hC.2.2.2.2
  have pO : pB m ((own + 1) % m 0 0) := ⟨Int.emod_nonneg _ (by omega), Int.emod_lt_of_pos _ (by omega)⟩
  have pO1 := pO.1
  have pO2 := pO.2
  have pX : 0 ≤ x % m 21 1 := by
    by_cases e : m 21 1 = 0
    · rw [e, Int.emod_zero]; omega
    · exact Int.emod_nonneg _ e
  have pX2 : m 21 1 ≠ 0 → x % m 21 1 < m 21 1 := fun e => Int.emod_lt_of_pos _ (by omega)
  refine en_aload_n (i := 0) h dL_refuses_439 rfl rfl ?_
  refine en_iload (i := 6) h dL_refuses_440 rfl ?_
  refine en_iconst h dL_refuses_442 ?_
  refine en_iload_n (i := 2) h dL_refuses_443 rfl rfl ?_
  refine en_isub h dL_refuses_444 ?_
  refine en_callSS h hx9 (K_cleans hW hP.1 (en_Xs_l hx9) hI9 (by constructor <;> omega) (by constructor <;> omega)) my_L_cleans gL_refuses_L_cleans rfl rfl ⟨by decide, by decide⟩ ⟨by decide, by decide⟩ (Nat.le_of_ble_eq_true rfl) dL_refuses_445 (fun r M1 hp => ?_)
  obtain ⟨rfl, hq⟩ := hp
  have e9 : w_cleans m own (-1 - x) = (-2000000002) ∧ t_cleans m own (-1 - x) = m := rf_cleans2 hR.2.2.1.2.2.2 (fun z => by omega)
  obtain ⟨e1, e2⟩ := e9
  rw [e2] at hq
  rw [e1]
  refine en_ldc (z := -2000000002) h dL_refuses_448 cn_L_refuses_18 (by decide) ?_
  refine en_icmp_ne (tgt := 537) h dL_refuses_450 (by decide) (by decide) (by decide) (fun c_450 => ?_) (fun c_450 => ?_)
  · exact absurd rfl c_450
  · exact K M1 hq
set_option maxRecDepth 100000 in
set_option maxHeartbeats 4000000 in
theorem rc_28 {κ : en_C} {m : en_M} {bus line meter own x : Int} (hW : en_Wok (en_w κ)) (hP : HasL (en_w κ)) (h : en_Ok κ RL cL_refuses 8 wsL_refuses rm_L_refuses) (hx9 : en_Xs κ) (hR : RC m bus line meter own x) (K : ∀ M, cq M m → en_G κ 469 (rc_ls x bus line meter own) [] M 100 600) : en_G κ 453 (rc_ls x bus line meter own) [] m 97 582 := by
  obtain ⟨hI9, hN, hC, hx0, hb0, hl0, hm0⟩ := id hR
  have n9 := inv_n hI9
  have hI : ∀ k, 200 ≤ k → k < 204 → en_in κ k := hP.2.2.1
  have o0 := hC.2.2.2.1
  have o1 := hC.2.2.2.2
  have pO : pB m ((own + 1) % m 0 0) := ⟨Int.emod_nonneg _ (by omega), Int.emod_lt_of_pos _ (by omega)⟩
  have pO1 := pO.1
  have pO2 := pO.2
  have pX : 0 ≤ x % m 21 1 := by
    by_cases e : m 21 1 = 0
    · rw [e, Int.emod_zero]; omega
    · exact Int.emod_nonneg _ e
  have pX2 : m 21 1 ≠ 0 → x % m 21 1 < m 21 1 := fun e => Int.emod_lt_of_pos _ (by omega)
  refine en_aload_n (i := 0) h dL_refuses_453 rfl rfl ?_
  refine en_iload (i := 6) h dL_refuses_454 rfl ?_
  refine en_sipush h dL_refuses_456 (by decide) ?_
  refine en_iload_n (i := 2) h dL_refuses_459 rfl rfl ?_
  refine en_iadd h dL_refuses_460 ?_
  refine en_callSS h hx9 (K_cleans hW hP.1 (en_Xs_l hx9) hI9 (by constructor <;> omega) (by constructor <;> omega)) my_L_cleans gL_refuses_L_cleans rfl rfl ⟨by decide, by decide⟩ ⟨by decide, by decide⟩ (Nat.le_of_ble_eq_true rfl) dL_refuses_461 (fun r M1 hp => ?_)
  obtain ⟨rfl, hq⟩ := hp
  have e9 : w_cleans m own (201 + x) = (-2000000002) ∧ t_cleans m own (201 + x) = m := rf_cleans2 hR.2.2.1.2.2.2 (fun z => by omega)
  obtain ⟨e1, e2⟩ := e9
  rw [e2] at hq
  rw [e1]
  refine en_ldc (z := -2000000002) h dL_refuses_464 cn_L_refuses_18 (by decide) ?_
  refine en_icmp_ne (tgt := 537) h dL_refuses_466 (by decide) (by decide) (by decide) (fun c_466 => ?_) (fun c_466 => ?_)
  · exact absurd rfl c_466
  · exact K M1 hq
set_option maxRecDepth 100000 in
set_option maxHeartbeats 4000000 in
theorem rt_full {κ : en_C} {m : en_M} {bus line meter own x : Int} (hW : en_Wok (en_w κ)) (hP : HasL (en_w κ)) (h : en_Ok κ RL cL_refuses 8 wsL_refuses rm_L_refuses) (hx9 : en_Xs κ) (hR : RC m bus line meter own x) (hf : 10 ≤ m 21 1) (K : ∀ M, cq M m → en_G κ 491 (rc_ls x bus line meter own) [] M 105 630) : en_G κ 477 (rc_ls x bus line meter own) [] m 100 600 := by
  obtain ⟨hI9, hN, hC, hx0, hb0, hl0, hm0⟩ := id hR
  have n9 := inv_n hI9
  have hI : ∀ k, 200 ≤ k → k < 204 → en_in κ k := hP.2.2.1
  have o0 := hC.2.2.2.1
  have o1 := hC.2.2.2.2
  have pO : pB m ((own + 1) % m 0 0) := ⟨Int.emod_nonneg _ (by omega), Int.emod_lt_of_pos _ (by omega)⟩
  have pO1 := pO.1
  have pO2 := pO.2
  have pX : 0 ≤ x % m 21 1 := by
    by_cases e : m 21 1 = 0
    · rw [e, Int.emod_zero]; omega
    · exact Int.emod_nonneg _ e
  have pX2 : m 21 1 ≠ 0 → x % m 21 1 < m 21 1 := fun e => Int.emod_lt_of_pos _ (by omega)
  refine en_aload_n (i := 0) h dL_refuses_477 rfl rfl ?_
  refine en_iconst h dL_refuses_478 ?_
  refine en_iload (i := 6) h dL_refuses_479 rfl ?_
  refine en_iconst h dL_refuses_481 ?_
  refine en_iconst h dL_refuses_482 ?_
  refine en_callSS h hx9 (K_adds hW hP.1 (en_Xs_l hx9) hI9 (by decide) (by constructor <;> omega) (by decide) (by decide)) my_L_adds gL_refuses_L_adds rfl rfl ⟨by decide, by decide⟩ ⟨by decide, by decide⟩ (Nat.le_of_ble_eq_true rfl) dL_refuses_483 (fun r M1 hp => ?_)
  obtain ⟨rfl, hq⟩ := hp
  have e9 : w_adds m 1 own 5 1 = (-2000000003) ∧ t_adds m 1 own 5 1 = m := rf_adds3 ⟨Or.inr rfl, ⟨by decide, by decide⟩, by decide, by decide⟩ (by rw [if_neg (by decide)]; exact hC.2.2.2) (by omega)
  obtain ⟨e1, e2⟩ := e9
  rw [e2] at hq
  rw [e1]
  subst hq
  refine en_ldc (z := -2000000003) h dL_refuses_486 cn_L_refuses_21 (by decide) ?_
  refine en_icmp_ne (tgt := 537) h dL_refuses_488 (by decide) (by decide) (by decide) (fun c_488 => ?_) (fun c_488 => ?_)
  · exact absurd rfl c_488
  · exact K _ (cq_rf hI9.2.2.2)
set_option maxRecDepth 100000 in
set_option maxHeartbeats 4000000 in
theorem rt_rd1 {κ : en_C} {m : en_M} {bus line meter own x : Int} (hW : en_Wok (en_w κ)) (hP : HasL (en_w κ)) (h : en_Ok κ RL cL_refuses 8 wsL_refuses rm_L_refuses) (hx9 : en_Xs κ) (hR : RC m bus line meter own x) (hf : m 21 1 ≠ 0) (K : ∀ M, cq M m → en_G κ 515 (rc_ls x bus line meter own) [] M 107 642) : en_G κ 497 (rc_ls x bus line meter own) [] m 105 630 := by
  obtain ⟨hI9, hN, hC, hx0, hb0, hl0, hm0⟩ := id hR
  have n9 := inv_n hI9
  have hI : ∀ k, 200 ≤ k → k < 204 → en_in κ k := hP.2.2.1
  have o0 := hC.2.2.2.1
  have o1 := hC.2.2.2.2
  have pO : pB m ((own + 1) % m 0 0) := ⟨Int.emod_nonneg _ (by omega), Int.emod_lt_of_pos _ (by omega)⟩
  have pO1 := pO.1
  have pO2 := pO.2
  have pX : 0 ≤ x % m 21 1 := by
    by_cases e : m 21 1 = 0
    · rw [e, Int.emod_zero]; omega
    · exact Int.emod_nonneg _ e
  have pX2 : m 21 1 ≠ 0 → x % m 21 1 < m 21 1 := fun e => Int.emod_lt_of_pos _ (by omega)
  have pY := pX2 hf
  refine en_aload_n (i := 0) h dL_refuses_497 rfl rfl ?_
  refine en_iload_n (i := 2) h dL_refuses_498 rfl rfl ?_
  refine en_aload_n (i := 1) h dL_refuses_499 rfl rfl ?_
  refine en_iconst h dL_refuses_500 ?_
  refine en_iaload h dL_refuses_501 (hI _ (by omega) (by omega)) rfl (by omega) hN.2.2 ?_
  refine en_iremP h dL_refuses_502 (by omega) (by omega) ?_
  refine en_bipush h dL_refuses_503 (by decide) ?_
  refine en_iload_n (i := 2) h dL_refuses_505 rfl rfl ?_
  refine en_iadd h dL_refuses_506 ?_
  refine en_callSS h hx9 (K_reads hW hP.1 (en_Xs_l hx9) hI9 (by constructor <;> omega) (by constructor <;> omega)) my_L_reads gL_refuses_L_reads rfl rfl ⟨by decide, by decide⟩ ⟨by decide, by decide⟩ (Nat.le_of_ble_eq_true rfl) dL_refuses_507 (fun r M1 hp => ?_)
  obtain ⟨rfl, hq⟩ := hp
  have e9 : w_reads m (x % m 21 1) (51 + x) = (-2000000002) ∧ t_reads m (x % m 21 1) (51 + x) = m := rf_reads2 ⟨pX, pX2 hf⟩ (fun z => by omega)
  obtain ⟨e1, e2⟩ := e9
  rw [e2] at hq
  rw [e1]
  subst hq
  refine en_ldc (z := -2000000002) h dL_refuses_510 cn_L_refuses_18 (by decide) ?_
  refine en_icmp_ne (tgt := 537) h dL_refuses_512 (by decide) (by decide) (by decide) (fun c_512 => ?_) (fun c_512 => ?_)
  · exact absurd rfl c_512
  · exact K _ (cq_rf hI9.2.2.2)
set_option maxRecDepth 100000 in
set_option maxHeartbeats 4000000 in
theorem rt_rd2 {κ : en_C} {m : en_M} {bus line meter own x : Int} (hW : en_Wok (en_w κ)) (hP : HasL (en_w κ)) (h : en_Ok κ RL cL_refuses 8 wsL_refuses rm_L_refuses) (hx9 : en_Xs κ) (hR : RC m bus line meter own x) (hf : m 21 1 ≠ 0) (K : ∀ M, cq M m → en_G κ 533 (rc_ls x bus line meter own) [] M 109 654) : en_G κ 515 (rc_ls x bus line meter own) [] m 107 642 := by
  obtain ⟨hI9, hN, hC, hx0, hb0, hl0, hm0⟩ := id hR
  have n9 := inv_n hI9
  have hI : ∀ k, 200 ≤ k → k < 204 → en_in κ k := hP.2.2.1
  have o0 := hC.2.2.2.1
  have o1 := hC.2.2.2.2
  have pO : pB m ((own + 1) % m 0 0) := ⟨Int.emod_nonneg _ (by omega), Int.emod_lt_of_pos _ (by omega)⟩
  have pO1 := pO.1
  have pO2 := pO.2
  have pX : 0 ≤ x % m 21 1 := by
    by_cases e : m 21 1 = 0
    · rw [e, Int.emod_zero]; omega
    · exact Int.emod_nonneg _ e
  have pX2 : m 21 1 ≠ 0 → x % m 21 1 < m 21 1 := fun e => Int.emod_lt_of_pos _ (by omega)
  have pY := pX2 hf
  refine en_aload_n (i := 0) h dL_refuses_515 rfl rfl ?_
  refine en_iload_n (i := 2) h dL_refuses_516 rfl rfl ?_
  refine en_aload_n (i := 1) h dL_refuses_517 rfl rfl ?_
  refine en_iconst h dL_refuses_518 ?_
  refine en_iaload h dL_refuses_519 (hI _ (by omega) (by omega)) rfl (by omega) hN.2.2 ?_
  refine en_iremP h dL_refuses_520 (by omega) (by omega) ?_
  refine en_bipush h dL_refuses_521 (by decide) ?_
  refine en_iload_n (i := 2) h dL_refuses_523 rfl rfl ?_
  refine en_isub h dL_refuses_524 ?_
  refine en_callSS h hx9 (K_reads hW hP.1 (en_Xs_l hx9) hI9 (by constructor <;> omega) (by constructor <;> omega)) my_L_reads gL_refuses_L_reads rfl rfl ⟨by decide, by decide⟩ ⟨by decide, by decide⟩ (Nat.le_of_ble_eq_true rfl) dL_refuses_525 (fun r M1 hp => ?_)
  obtain ⟨rfl, hq⟩ := hp
  have e9 : w_reads m (x % m 21 1) (-51 - x) = (-2000000002) ∧ t_reads m (x % m 21 1) (-51 - x) = m := rf_reads2 ⟨pX, pX2 hf⟩ (fun z => by omega)
  obtain ⟨e1, e2⟩ := e9
  rw [e2] at hq
  rw [e1]
  subst hq
  refine en_ldc (z := -2000000002) h dL_refuses_528 cn_L_refuses_18 (by decide) ?_
  refine en_icmp_ne (tgt := 537) h dL_refuses_530 (by decide) (by decide) (by decide) (fun c_530 => ?_) (fun c_530 => ?_)
  · exact absurd rfl c_530
  · exact K _ (cq_rf hI9.2.2.2)
abbrev rc_l1 (x bus line meter own : Int) : List (Option en_V) := [some (en_R 49), some (en_R 200), some (en_I x), some (en_I bus), some (en_I line), some (en_I meter), some (en_I own), some (en_I 1)]
set_option maxRecDepth 100000 in
set_option maxHeartbeats 4000000 in
theorem rt_top {κ : en_C} {m : en_M} {bus line meter own x : Int} (hW : en_Wok (en_w κ)) (hP : HasL (en_w κ)) (h : en_Ok κ RL cL_refuses 8 wsL_refuses rm_L_refuses) (hx9 : en_Xs κ) (hR : RC m bus line meter own x) (hf : ¬ obs m (m 5 own)) (K : ∀ M, cq M m → en_G κ 568 (rc_l1 x bus line meter own) [] M 112 672) : en_G κ 555 (rc_l1 x bus line meter own) [] m 110 660 := by
  obtain ⟨hI9, hN, hC, hx0, hb0, hl0, hm0⟩ := id hR
  have n9 := inv_n hI9
  have hI : ∀ k, 200 ≤ k → k < 204 → en_in κ k := hP.2.2.1
  have o0 := hC.2.2.2.1
  have o1 := hC.2.2.2.2
  have pO : pB m ((own + 1) % m 0 0) := ⟨Int.emod_nonneg _ (by omega), Int.emod_lt_of_pos _ (by omega)⟩
  have pO1 := pO.1
  have pO2 := pO.2
  have pX : 0 ≤ x % m 21 1 := by
    by_cases e : m 21 1 = 0
    · rw [e, Int.emod_zero]; omega
    · exact Int.emod_nonneg _ e
  have pX2 : m 21 1 ≠ 0 → x % m 21 1 < m 21 1 := fun e => Int.emod_lt_of_pos _ (by omega)
  refine en_aload_n (i := 0) h dL_refuses_555 rfl rfl ?_
  refine en_iload (i := 6) h dL_refuses_556 rfl ?_
  refine en_callSS h hx9 (K_top hW hP.1 (en_Xs_l hx9) hI9 (by constructor <;> omega)) my_L_top gL_refuses_L_top rfl rfl ⟨by decide, by decide⟩ ⟨by decide, by decide⟩ (Nat.le_of_ble_eq_true rfl) dL_refuses_558 (fun r M1 hp => ?_)
  obtain ⟨rfl, hq⟩ := hp
  have e1 : w_top m own = (-4000000000000000003) := rf_top2 hC.2.2.2 hf
  rw [e1]
  refine en_ldc2 (z := -4000000000000000003) h dL_refuses_561 cn_L_refuses_60 (by decide) ?_
  refine en_lcmpR h dL_refuses_564 (by decide) (by decide) ?_
  refine en_if_ne (tgt := 608) h dL_refuses_565 (by decide) (by decide) (fun c_565 => ?_) (fun c_565 => ?_)
  · exact absurd (show en_cmp _ _ = 0 by decide) c_565
  · exact K M1 hq
set_option maxRecDepth 100000 in
set_option maxHeartbeats 4000000 in
theorem rt_bot {κ : en_C} {m : en_M} {bus line meter own x : Int} (hW : en_Wok (en_w κ)) (hP : HasL (en_w κ)) (h : en_Ok κ RL cL_refuses 8 wsL_refuses rm_L_refuses) (hx9 : en_Xs κ) (hR : RC m bus line meter own x) (hf : ¬ obs m (m 5 own)) (K : ∀ M, cq M m → en_G κ 581 (rc_l1 x bus line meter own) [] M 114 684) : en_G κ 568 (rc_l1 x bus line meter own) [] m 112 672 := by
  obtain ⟨hI9, hN, hC, hx0, hb0, hl0, hm0⟩ := id hR
  have n9 := inv_n hI9
  have hI : ∀ k, 200 ≤ k → k < 204 → en_in κ k := hP.2.2.1
  have o0 := hC.2.2.2.1
  have o1 := hC.2.2.2.2
  have pO : pB m ((own + 1) % m 0 0) := ⟨Int.emod_nonneg _ (by omega), Int.emod_lt_of_pos _ (by omega)⟩
  have pO1 := pO.1
  have pO2 := pO.2
  have pX : 0 ≤ x % m 21 1 := by
    by_cases e : m 21 1 = 0
    · rw [e, Int.emod_zero]; omega
    · exact Int.emod_nonneg _ e
  have pX2 : m 21 1 ≠ 0 → x % m 21 1 < m 21 1 := fun e => Int.emod_lt_of_pos _ (by omega)
  refine en_aload_n (i := 0) h dL_refuses_568 rfl rfl ?_
  refine en_iload (i := 6) h dL_refuses_569 rfl ?_
  refine en_callSS h hx9 (K_bottom hW hP.1 (en_Xs_l hx9) hI9 (by constructor <;> omega)) my_L_bottom gL_refuses_L_bottom rfl rfl ⟨by decide, by decide⟩ ⟨by decide, by decide⟩ (Nat.le_of_ble_eq_true rfl) dL_refuses_571 (fun r M1 hp => ?_)
  obtain ⟨rfl, hq⟩ := hp
  have e1 : w_bottom m own = (-4000000000000000003) := rf_bottom2 hC.2.2.2 hf
  rw [e1]
  refine en_ldc2 (z := -4000000000000000003) h dL_refuses_574 cn_L_refuses_60 (by decide) ?_
  refine en_lcmpR h dL_refuses_577 (by decide) (by decide) ?_
  refine en_if_ne (tgt := 608) h dL_refuses_578 (by decide) (by decide) (fun c_578 => ?_) (fun c_578 => ?_)
  · exact absurd (show en_cmp _ _ = 0 by decide) c_578
  · exact K M1 hq
set_option maxRecDepth 100000 in
set_option maxHeartbeats 4000000 in
theorem rt_wst {κ : en_C} {m : en_M} {bus line meter own x : Int} (hW : en_Wok (en_w κ)) (hP : HasL (en_w κ)) (h : en_Ok κ RL cL_refuses 8 wsL_refuses rm_L_refuses) (hx9 : en_Xs κ) (hR : RC m bus line meter own x) (hf : ¬ obs m (m 5 own)) (K : ∀ M, cq M m → en_G κ 592 (rc_l1 x bus line meter own) [] M 116 696) : en_G κ 581 (rc_l1 x bus line meter own) [] m 114 684 := by
  obtain ⟨hI9, hN, hC, hx0, hb0, hl0, hm0⟩ := id hR
  have n9 := inv_n hI9
  have hI : ∀ k, 200 ≤ k → k < 204 → en_in κ k := hP.2.2.1
  have o0 := hC.2.2.2.1
  have o1 := hC.2.2.2.2
  have pO : pB m ((own + 1) % m 0 0) := ⟨Int.emod_nonneg _ (by omega), Int.emod_lt_of_pos _ (by omega)⟩
  have pO1 := pO.1
  have pO2 := pO.2
  have pX : 0 ≤ x % m 21 1 := by
    by_cases e : m 21 1 = 0
    · rw [e, Int.emod_zero]; omega
    · exact Int.emod_nonneg _ e
  have pX2 : m 21 1 ≠ 0 → x % m 21 1 < m 21 1 := fun e => Int.emod_lt_of_pos _ (by omega)
  refine en_aload_n (i := 0) h dL_refuses_581 rfl rfl ?_
  refine en_iload (i := 6) h dL_refuses_582 rfl ?_
  refine en_callSS h hx9 (K_worst hW hP.1 (en_Xs_l hx9) hI9 (by constructor <;> omega)) my_L_worst gL_refuses_L_worst rfl rfl ⟨by decide, by decide⟩ ⟨by decide, by decide⟩ (Nat.le_of_ble_eq_true rfl) dL_refuses_584 (fun r M1 hp => ?_)
  obtain ⟨rfl, hq⟩ := hp
  have e1 : w_worst m own = (-2000000003) := rf_worst2 hC.2.2.2 hf
  rw [e1]
  refine en_ldc (z := -2000000003) h dL_refuses_587 cn_L_refuses_21 (by decide) ?_
  refine en_icmp_ne (tgt := 608) h dL_refuses_589 (by decide) (by decide) (by decide) (fun c_589 => ?_) (fun c_589 => ?_)
  · exact absurd rfl c_589
  · exact K M1 hq
set_option maxRecDepth 100000 in
set_option maxHeartbeats 4000000 in
theorem rt_cln {κ : en_C} {m : en_M} {bus line meter own x : Int} (hW : en_Wok (en_w κ)) (hP : HasL (en_w κ)) (h : en_Ok κ RL cL_refuses 8 wsL_refuses rm_L_refuses) (hx9 : en_Xs κ) (hR : RC m bus line meter own x) (hf : ¬ obs m (m 5 own)) (K : ∀ M, cq M m → en_G κ 604 (rc_l1 x bus line meter own) [] M 119 714) : en_G κ 592 (rc_l1 x bus line meter own) [] m 116 696 := by
  obtain ⟨hI9, hN, hC, hx0, hb0, hl0, hm0⟩ := id hR
  have n9 := inv_n hI9
  have hI : ∀ k, 200 ≤ k → k < 204 → en_in κ k := hP.2.2.1
  have o0 := hC.2.2.2.1
  have o1 := hC.2.2.2.2
  have pO : pB m ((own + 1) % m 0 0) := ⟨Int.emod_nonneg _ (by omega), Int.emod_lt_of_pos _ (by omega)⟩
  have pO1 := pO.1
  have pO2 := pO.2
  have pX : 0 ≤ x % m 21 1 := by
    by_cases e : m 21 1 = 0
    · rw [e, Int.emod_zero]; omega
    · exact Int.emod_nonneg _ e
  have pX2 : m 21 1 ≠ 0 → x % m 21 1 < m 21 1 := fun e => Int.emod_lt_of_pos _ (by omega)
  refine en_aload_n (i := 0) h dL_refuses_592 rfl rfl ?_
  refine en_iload (i := 6) h dL_refuses_593 rfl ?_
  refine en_iconst h dL_refuses_595 ?_
  refine en_callSS h hx9 (K_cleans hW hP.1 (en_Xs_l hx9) hI9 (by constructor <;> omega) (by decide)) my_L_cleans gL_refuses_L_cleans rfl rfl ⟨by decide, by decide⟩ ⟨by decide, by decide⟩ (Nat.le_of_ble_eq_true rfl) dL_refuses_596 (fun r M1 hp => ?_)
  obtain ⟨rfl, hq⟩ := hp
  have e9 : w_cleans m own 5 = (-2000000003) ∧ t_cleans m own 5 = m := rf_cleans3 hC.2.2.2 (by decide) hf
  obtain ⟨e1, e2⟩ := e9
  rw [e2] at hq
  rw [e1]
  refine en_ldc (z := -2000000003) h dL_refuses_599 cn_L_refuses_21 (by decide) ?_
  refine en_icmp_ne (tgt := 608) h dL_refuses_601 (by decide) (by decide) (by decide) (fun c_601 => ?_) (fun c_601 => ?_)
  · exact absurd rfl c_601
  · exact K M1 hq
