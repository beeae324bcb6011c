/-! LAW 5: breakers and meters, on both sides -/
theorem inv_sw {m : en_M} (h : INV m) {i c : Int} (hc : c = 0 ∨ c = 1) (v : Int) : INV (en_set (en_set (en_set (xm_fl (xm_sw m i c)) 50 0 v) 51 0 0) 55 i c) := by
  have n := inv_n h
  obtain ⟨⟨hk, hl, hm, h5, hg, hne⟩, hu, hz, ho⟩ := id h
  obtain ⟨k1, k2, k3, k4, k5, k6, k7, k8, k9, k10, k11, k12⟩ := hk
  have w : ∀ k : Int, k ≠ 4 → xm_sw m i c k = m k := fun k q => en_set_ne q
  have w4 : xm_sw m i c 4 = upd1 (m 4) i c := en_set_f
  have h1 : 0 ≤ xm_sw m i c 0 1 ∧ xm_sw m i c 0 1 ≤ 8 := by rw [w 0 (by decide)]; exact n.2.1
  have e : ∀ k : Int, k ≠ 5 → k ≠ 50 → k ≠ 51 → k ≠ 55 → (k < 8 ∨ 21 ≤ k) → en_set (en_set (en_set (xm_fl (xm_sw m i c)) 50 0 v) 51 0 0) 55 i c k = xm_sw m i c k := fun k q1 q2 q3 q4 q5 => by rw [en_set_ne q4, en_set_ne q3, en_set_ne q2, fl_k h1 q1 q5]
  have e51 : en_set (en_set (en_set (xm_fl (xm_sw m i c)) 50 0 v) 51 0 0) 55 i c 51 = upd1 (m 51) 0 0 := by rw [en_set_ne (by decide), en_set_f, en_set_ne (by decide), fl_k h1 (by decide) (by decide), w 51 (by decide)]
  have e55 : en_set (en_set (en_set (xm_fl (xm_sw m i c)) 50 0 v) 51 0 0) 55 i c 55 = upd1 (m 55) i c := by rw [en_set_f, en_set_ne (by decide), en_set_ne (by decide), fl_k h1 (by decide) (by decide), w 55 (by decide)]
  have em : ∀ k : Int, k ≠ 4 → k ≠ 5 → k ≠ 50 → k ≠ 51 → k ≠ 55 → (k < 8 ∨ 21 ≤ k) → en_set (en_set (en_set (xm_fl (xm_sw m i c)) 50 0 v) 51 0 0) 55 i c k = m k := fun k q0 q1 q2 q3 q4 q5 => by rw [e k q1 q2 q3 q4 q5, w k q0]
  have l51 : ∀ j : Int, j ≠ 0 → upd1 (m 51) 0 0 j = m 51 j := fun j hj => upd1_ne hj
  refine inv_of h1 (fun k hk9 => ?_) ?_ ?_ ?_ ?_ ?_ ?_ ?_
  · rw [en_set_ne (by omega), en_set_ne (by omega), en_set_ne (by omega)]
  · intro j b j0 j1 b0 b1
    rw [w 0 (by decide)] at j0
    rw [w _ (by omega)]
    exact hz j b j0 j1 b0 b1
  · unfold xl_k
    rw [e51, e55, em 0 (by decide) (by decide) (by decide) (by decide) (by decide) (by decide), em 21 (by decide) (by decide) (by decide) (by decide) (by decide) (by decide), em 1 (by decide) (by decide) (by decide) (by decide) (by decide) (by decide), em 2 (by decide) (by decide) (by decide) (by decide) (by decide) (by decide), em 3 (by decide) (by decide) (by decide) (by decide) (by decide) (by decide), e 4 (by decide) (by decide) (by decide) (by decide) (by decide), w4, em 52 (by decide) (by decide) (by decide) (by decide) (by decide) (by decide), em 53 (by decide) (by decide) (by decide) (by decide) (by decide) (by decide), em 54 (by decide) (by decide) (by decide) (by decide) (by decide) (by decide), em 56 (by decide) (by decide) (by decide) (by decide) (by decide) (by decide), em 57 (by decide) (by decide) (by decide) (by decide) (by decide) (by decide), em 58 (by decide) (by decide) (by decide) (by decide) (by decide) (by decide), em 59 (by decide) (by decide) (by decide) (by decide) (by decide) (by decide), em 60 (by decide) (by decide) (by decide) (by decide) (by decide) (by decide), em 22 (by decide) (by decide) (by decide) (by decide) (by decide) (by decide), em 23 (by decide) (by decide) (by decide) (by decide) (by decide) (by decide), em 24 (by decide) (by decide) (by decide) (by decide) (by decide) (by decide), em 25 (by decide) (by decide) (by decide) (by decide) (by decide) (by decide), em 26 (by decide) (by decide) (by decide) (by decide) (by decide) (by decide), l51 1 (by decide), l51 2 (by decide), l51 7 (by decide)]
    exact ⟨k1, k2, k3, k4, k5, k6, by rw [k7], k8, k9, k10, k11, k12⟩
  · unfold xo_ln
    rw [e51, e55, em 52 (by decide) (by decide) (by decide) (by decide) (by decide) (by decide), em 53 (by decide) (by decide) (by decide) (by decide) (by decide) (by decide), em 54 (by decide) (by decide) (by decide) (by decide) (by decide) (by decide), l51 1 (by decide), l51 2 (by decide)]
    refine ⟨hl.1, hl.2.1, fun j j0 j1 => ?_⟩
    obtain ⟨z1, z2, z3, z4⟩ := hl.2.2 j j0 j1
    refine ⟨z1, z2, ?_, z4⟩
    by_cases ej : j = i
    · rw [ej, upd1_at]
      exact hc
    · rw [upd1_ne ej]
      exact z3
  · exact xo_mt_k (fun k hk9 => em k (by omega) (by omega) (by omega) (by omega) (by omega) (by omega)) (by rw [e51, l51 1 (by decide)]) (by rw [e51, l51 2 (by decide)]) (by rw [e51, l51 7 (by decide)]) hm
  · rw [w 0 (by decide), w 1 (by decide), w 2 (by decide)]
    exact hne
  · unfold xl_u
    rw [w 0 (by decide), w 1 (by decide), w 2 (by decide)]
    exact hu
  · exact xr_ok_k (em 28 (by decide) (by decide) (by decide) (by decide) (by decide) (by decide)) ho
def S_setBreaker (m M1 : en_M) (i c' c : Int) : Prop := (c = 0 ∧ (0 ≤ i ∧ i < m 0 1) ∧ M1 = en_set (xm_fl (xm_sw m i c')) 50 0 (m 4 i)) ∨ (c = 1 ∧ ¬ (0 ≤ i ∧ i < m 0 1) ∧ M1 = m)
theorem s_setBreaker {m M1 : en_M} {r : Option en_V} {i c' : Int} (hp : (∃ v M1', (some (en_I v) = some (en_I (m 4 i)) ∧ M1' = xm_fl (xm_sw m i c') ∧ 0 ≤ i ∧ i < m 0 1) ∧ r = some (en_I 0) ∧ M1 = en_set M1' 50 0 v) ∨ ∃ E, (E = eIO ∧ M1 = m ∧ ¬ (0 ≤ i ∧ i < m 0 1)) ∧ (E = eIO ∧ r = some (en_I 1))) : ∃ c, r = some (en_I c) ∧ en_i32 c ∧ S_setBreaker m M1 i c' c := by
  rcases hp with ⟨v, M1', ⟨hv, rfl, hr⟩, rfl, rfl⟩ | ⟨E, ⟨-, hm, hr⟩, -, rfl⟩
  · have hv := en_inI hv
    subst hv
    exact ⟨0, rfl, by decide, Or.inl ⟨rfl, hr, rfl⟩⟩
  · exact ⟨1, rfl, by decide, Or.inr ⟨rfl, hr, hm⟩⟩
theorem g_setBreaker {m M1 : en_M} {i c' c : Int} (hI : INV m) (hs : S_setBreaker m M1 i c' c) : mg_ag M1 m := by
  rcases hs with ⟨-, -, rfl⟩ | ⟨-, -, rfl⟩
  · intro k hk
    have n := inv_n hI
    have w : ∀ k : Int, k ≠ 4 → xm_sw m i c' k = m k := fun k q => en_set_ne q
    rw [en_set_ne (by omega), fl_k (by rw [w 0 (by decide)]; exact n.2.1) (by omega) (by omega), w k (by omega)]
  · exact fun k _ => rfl
theorem t_setBreaker {m M1 M2 : en_M} {r : Option en_V} {i c' c : Int} (hI : INV m) (hc : c' = 0 ∨ c' = 1) (hs : S_setBreaker m M1 i c' c) (hp : (¬ (0 ≤ i ∧ i < M1 51 2) ∧ r = some (en_I 0) ∧ M2 = en_set M1 51 0 1) ∨ ((0 ≤ i ∧ i < M1 51 2) ∧ r = some (en_I (M1 55 i)) ∧ M2 = en_set (en_set M1 51 0 0) 55 i c')) : fin_Z r c M2 := by
  have ga := g_setBreaker hI hs
  rw [ga 51 (by decide), ga 55 (by decide), inv_e2 hI] at hp
  rcases hs with ⟨rfl, hr, rfl⟩ | ⟨rfl, hr, rfl⟩
  · rcases hp with ⟨h1, -⟩ | ⟨-, rfl, rfl⟩
    · exact absurd hr h1
    · have z := inv_ln hI i hr.1 hr.2
      refine ⟨_, rfl, ?_, ?_, fun _ => ?_, inv_sw hI hc _⟩
      · rw [hI.1.1.2.2.2.2.2.2.1]
        exact z.2.2.1
      · rw [en_set_ne (by decide), en_set_at]
      · rw [en_set_ne (by decide), en_set_ne (by decide), en_set_at, hI.1.1.2.2.2.2.2.2.1]
  · rcases hp with ⟨-, rfl, rfl⟩ | ⟨h1, -⟩
    · obtain ⟨f1, f2, f3⟩ := fq hI (fr_51 M1 1)
      exact ⟨0, rfl, Or.inl rfl, f1, fun z => absurd z (by decide), f3⟩
    · exact absurd h1 hr
/-! addMeter -/
theorem am_k {m : en_M} {k p r a j : Int} (h1 : j < 21 ∨ 26 < j) : xm_am m k p r a j = m j := by
  unfold xm_am
  rw [en_set_ne (by omega), en_set_ne (by omega), en_set_ne (by omega), en_set_ne (by omega), en_set_ne (by omega), en_set_ne (by omega)]
theorem am_21 {m : en_M} {k p r a : Int} : xm_am m k p r a 21 = upd1 (m 21) 1 (m 21 1 + 1) := by
  unfold xm_am
  rw [en_set_f, en_set_ne (by decide), en_set_ne (by decide), en_set_ne (by decide), en_set_ne (by decide), en_set_ne (by decide)]
theorem am_22 {m : en_M} {k p r a : Int} : xm_am m k p r a 22 = upd1 (m 22) (m 21 1) k := by
  unfold xm_am
  rw [en_set_ne (by decide), en_set_ne (by decide), en_set_ne (by decide), en_set_ne (by decide), en_set_ne (by decide), en_set_f]
theorem am_23 {m : en_M} {k p r a : Int} : xm_am m k p r a 23 = upd1 (m 23) (m 21 1) p := by
  unfold xm_am
  rw [en_set_ne (by decide), en_set_ne (by decide), en_set_ne (by decide), en_set_ne (by decide), en_set_f, en_set_ne (by decide)]
theorem am_24 {m : en_M} {k p r a : Int} : xm_am m k p r a 24 = upd1 (m 24) (m 21 1) r := by
  unfold xm_am
  rw [en_set_ne (by decide), en_set_ne (by decide), en_set_ne (by decide), en_set_f, en_set_ne (by decide), en_set_ne (by decide)]
theorem am_25 {m : en_M} {k p r a : Int} : xm_am m k p r a 25 = upd1 (m 25) (m 21 1) a := by
  unfold xm_am
  rw [en_set_ne (by decide), en_set_ne (by decide), en_set_f, en_set_ne (by decide), en_set_ne (by decide), en_set_ne (by decide)]
theorem am_26 {m : en_M} {k p r a : Int} : xm_am m k p r a 26 = upd1 (m 26) (m 21 1) 1 := by
  unfold xm_am
  rw [en_set_ne (by decide), en_set_f, en_set_ne (by decide), en_set_ne (by decide), en_set_ne (by decide), en_set_ne (by decide)]
theorem mp_k {m : en_M} {k p r a j : Int} (h1 : j < 51 ∨ (51 < j ∧ j < 56) ∨ 60 < j) : mo_mp m k p r a j = m j := by
  unfold mo_mp
  rw [en_set_ne (by omega), en_set_ne (by omega), en_set_ne (by omega), en_set_ne (by omega), en_set_ne (by omega), en_set_ne (by omega), en_set_ne (by omega)]
theorem mp_51 {m : en_M} {k p r a : Int} : mo_mp m k p r a 51 = upd1 (upd1 (m 51) 0 0) 7 (m 51 7 + 1) := by
  unfold mo_mp
  rw [en_set_f, en_set_ne (by decide), en_set_ne (by decide), en_set_ne (by decide), en_set_ne (by decide), en_set_ne (by decide), en_set_f]
theorem mp_56 {m : en_M} {k p r a : Int} : mo_mp m k p r a 56 = upd1 (m 56) (m 51 7) k := by
  unfold mo_mp
  rw [en_set_ne (by decide), en_set_ne (by decide), en_set_ne (by decide), en_set_ne (by decide), en_set_ne (by decide), en_set_f, en_set_ne (by decide)]
theorem mp_57 {m : en_M} {k p r a : Int} : mo_mp m k p r a 57 = upd1 (m 57) (m 51 7) p := by
  unfold mo_mp
  rw [en_set_ne (by decide), en_set_ne (by decide), en_set_ne (by decide), en_set_ne (by decide), en_set_f, en_set_ne (by decide), en_set_ne (by decide)]
theorem mp_58 {m : en_M} {k p r a : Int} : mo_mp m k p r a 58 = upd1 (m 58) (m 51 7) r := by
  unfold mo_mp
  rw [en_set_ne (by decide), en_set_ne (by decide), en_set_ne (by decide), en_set_f, en_set_ne (by decide), en_set_ne (by decide), en_set_ne (by decide)]
theorem mp_59 {m : en_M} {k p r a : Int} : mo_mp m k p r a 59 = upd1 (m 59) (m 51 7) a := by
  unfold mo_mp
  rw [en_set_ne (by decide), en_set_ne (by decide), en_set_f, en_set_ne (by decide), en_set_ne (by decide), en_set_ne (by decide), en_set_ne (by decide)]
theorem mp_60 {m : en_M} {k p r a : Int} : mo_mp m k p r a 60 = upd1 (m 60) (m 51 7) 1 := by
  unfold mo_mp
  rw [en_set_ne (by decide), en_set_f, en_set_ne (by decide), en_set_ne (by decide), en_set_ne (by decide), en_set_ne (by decide), en_set_ne (by decide)]
theorem mo_am_g {M m : en_M} (h : mg_ag M m) (k p r a : Int) : mo_am M k p r a = mo_am m k p r a := by
  unfold mo_am
  rw [h 51 (by decide)]
abbrev am_ok (m : en_M) (k p r a : Int) : Prop := (k = 0 ∨ k = 1) ∧ (-50 ≤ r ∧ r ≤ 50) ∧ (1 ≤ a ∧ a ≤ 2) ∧ (0 ≤ p ∧ p < if k = 0 then m 0 1 else m 0 0) ∧ m 21 1 < 10
theorem inv_am {m : en_M} (h : INV m) {k p r a : Int} (hk9 : am_ok m k p r a) (v : Int) : INV (mo_mp (en_set (xm_am m k p r a) 50 0 v) k p r a) := by
  have n := inv_n h
  obtain ⟨b1, b2, b3, b4, b5⟩ := hk9
  have hk := h.1.1
  have hl := h.1.2.1
  have hm := h.1.2.2.1
  obtain ⟨k1, k2, k3, k4, k5, k6, k7, k8, k9, k10, k11, k12⟩ := hk
  have o : ∀ j : Int, (j < 21 ∨ 26 < j) → j ≠ 50 → en_set (xm_am m k p r a) 50 0 v j = m j := fun j q1 q2 => by rw [en_set_ne q2, am_k q1]
  have c : ∀ j : Int, j ≠ 50 → j < 51 → mo_mp (en_set (xm_am m k p r a) 50 0 v) k p r a j = xm_am m k p r a j := fun j q1 q2 => by rw [mp_k (Or.inl q2), en_set_ne q1]
  have l51 : ∀ j : Int, j ≠ 0 → j ≠ 7 → upd1 (upd1 (m 51) 0 0) 7 (m 51 7 + 1) j = m 51 j := fun j q1 q2 => by rw [upd1_ne q2, upd1_ne q1]
  refine inv_keep h (fun j hj => ?_) ?_ ?_ ?_ ?_
  · rw [c j (by omega) (by omega), am_k (Or.inl hj)]
  · exact xr_ok_k (by rw [c 28 (by decide) (by decide), am_k (by decide)]) h.2.2.2
  · unfold xl_k
    rw [mp_51, mp_56, mp_57, mp_58, mp_59, mp_60, mp_k (j := 52) (by decide), mp_k (j := 53) (by decide), mp_k (j := 54) (by decide), mp_k (j := 55) (by decide), o 51 (by decide) (by decide), o 52 (by decide) (by decide), o 53 (by decide) (by decide), o 54 (by decide) (by decide), o 55 (by decide) (by decide), o 56 (by decide) (by decide), o 57 (by decide) (by decide), o 58 (by decide) (by decide), o 59 (by decide) (by decide), o 60 (by decide) (by decide), c 0 (by decide) (by decide), c 1 (by decide) (by decide), c 2 (by decide) (by decide), c 3 (by decide) (by decide), c 4 (by decide) (by decide), c 21 (by decide) (by decide), c 22 (by decide) (by decide), c 23 (by decide) (by decide), c 24 (by decide) (by decide), c 25 (by decide) (by decide), c 26 (by decide) (by decide), am_k (j := 0) (by decide), am_k (j := 1) (by decide), am_k (j := 2) (by decide), am_k (j := 3) (by decide), am_k (j := 4) (by decide), am_21, am_22, am_23, am_24, am_25, am_26, l51 1 (by decide) (by decide), l51 2 (by decide) (by decide), upd1_at, upd1_at, k8, k9, k10, k11, k12, k3]
    exact ⟨k1, k2, rfl, k4, k5, k6, k7, rfl, rfl, rfl, rfl, rfl⟩
  · exact xo_ln_k (fun j hj => by rw [mp_k (by omega), o j (by omega) (by omega)]) (by rw [mp_51, o 51 (by decide) (by decide), l51 1 (by decide) (by decide)]) (by rw [mp_51, o 51 (by decide) (by decide), l51 2 (by decide) (by decide)]) hl
  · unfold xo_mt xo_m
    rw [mp_51, mp_56, mp_57, mp_58, mp_59, mp_60, o 51 (by decide) (by decide), o 56 (by decide) (by decide), o 57 (by decide) (by decide), o 58 (by decide) (by decide), o 59 (by decide) (by decide), o 60 (by decide) (by decide), l51 1 (by decide) (by decide), l51 2 (by decide) (by decide), upd1_at, k3]
    refine ⟨by omega, fun i i0 i1 => ?_⟩
    by_cases ei : i = m 21 1
    · rw [ei, upd1_at, upd1_at, upd1_at, upd1_at, upd1_at]
      refine ⟨?_, Or.inr rfl, b2, b3⟩
      rw [k1, k2]
      rcases b1 with e | e
      · rw [if_pos e] at b4
        exact Or.inr ⟨e, b4⟩
      · rw [if_neg (by omega)] at b4
        exact Or.inl ⟨e, b4⟩
    · rw [upd1_ne ei, upd1_ne ei, upd1_ne ei, upd1_ne ei, upd1_ne ei]
      exact hm.2 i i0 (by omega)
def S_addMeter (m M1 : en_M) (k p r a c : Int) : Prop := c = mo_am m k p r a ∧ ((c = 0 ∧ am_ok m k p r a ∧ M1 = en_set (xm_am m k p r a) 50 0 (m 21 1)) ∨ (c ≠ 0 ∧ M1 = m))
theorem s_addMeter {m M1 : en_M} {r' : Option en_V} {k p r a : Int} (hI : INV m) (hp : (∃ v M1', (some (en_I v) = some (en_I (m 21 1)) ∧ M1' = xm_am m k p r a ∧ (k = 0 ∨ k = 1) ∧ (-50 ≤ r ∧ r ≤ 50) ∧ (1 ≤ a ∧ a ≤ 2) ∧ (0 ≤ p ∧ p < if k = 0 then m 0 1 else m 0 0) ∧ m 21 1 < 10) ∧ r' = some (en_I 0) ∧ M1 = en_set M1' 50 0 v) ∨ ∃ E, (M1 = m ∧ ((E = eIA ∧ ¬ ((k = 0 ∨ k = 1) ∧ (-50 ≤ r ∧ r ≤ 50) ∧ (1 ≤ a ∧ a ≤ 2))) ∨ (E = eIO ∧ ((k = 0 ∨ k = 1) ∧ (-50 ≤ r ∧ r ≤ 50) ∧ (1 ≤ a ∧ a ≤ 2)) ∧ ¬ (0 ≤ p ∧ p < if k = 0 then m 0 1 else m 0 0)) ∨ (E = eIS ∧ ((k = 0 ∨ k = 1) ∧ (-50 ≤ r ∧ r ≤ 50) ∧ (1 ≤ a ∧ a ≤ 2)) ∧ (0 ≤ p ∧ p < if k = 0 then m 0 1 else m 0 0) ∧ ¬ m 21 1 < 10))) ∧ ((E = eIA ∧ r' = some (en_I 1)) ∨ (E = eIO ∧ r' = some (en_I 2)) ∨ (E = eIS ∧ r' = some (en_I 3)))) : ∃ c, r' = some (en_I c) ∧ en_i32 c ∧ S_addMeter m M1 k p r a c := by
  have n := inv_n hI
  have hk := hI.1.1
  unfold S_addMeter mo_am
  rw [hk.1, hk.2.1, hk.2.2.1]
  rcases hp with ⟨v, M1', ⟨hv, rfl, a1, a2, a3, a4, a5⟩, rfl, rfl⟩ | ⟨E, ⟨rfl, hx⟩, hc⟩
  · have hv := en_inI hv
    subst hv
    refine ⟨0, rfl, by decide, ?_, Or.inl ⟨rfl, ⟨a1, a2, a3, a4, a5⟩, rfl⟩⟩
    rw [if_neg (fun z => z ⟨a1, a2, a3⟩), if_neg (fun z => z a4), if_neg (by omega)]
  · rcases hx with ⟨e1, b1⟩ | ⟨e1, b1, b2⟩ | ⟨e1, b1, b2, b3⟩
    · rcases hc with ⟨-, rfl⟩ | ⟨e2, -⟩ | ⟨e2, -⟩
      · exact ⟨1, rfl, by decide, by rw [if_pos b1], Or.inr ⟨by decide, rfl⟩⟩
      · exact absurd (e2.symm.trans e1) ne_IO_IA
      · exact absurd (e1.symm.trans e2) ne_IA_IS
    · rcases hc with ⟨e2, -⟩ | ⟨-, rfl⟩ | ⟨e2, -⟩
      · exact absurd (e1.symm.trans e2) ne_IO_IA
      · exact ⟨2, rfl, by decide, by rw [if_neg (fun z => z b1), if_pos b2], Or.inr ⟨by decide, rfl⟩⟩
      · exact absurd (e1.symm.trans e2) ne_IO_IS
    · rcases hc with ⟨e2, -⟩ | ⟨e2, -⟩ | ⟨-, rfl⟩
      · exact absurd (e2.symm.trans e1) ne_IA_IS
      · exact absurd (e2.symm.trans e1) ne_IO_IS
      · exact ⟨3, rfl, by decide, by rw [if_neg (fun z => z b1), if_neg (fun z => z b2), if_pos (by omega)], Or.inr ⟨by decide, rfl⟩⟩
theorem g_addMeter {m M1 : en_M} {k p r a c : Int} (hs : S_addMeter m M1 k p r a c) : mg_ag M1 m := by
  rcases hs.2 with ⟨-, -, rfl⟩ | ⟨-, rfl⟩
  · intro j hj
    rw [en_set_ne (by omega), am_k (by omega)]
  · exact fun j _ => rfl
theorem t_addMeter {m M1 M2 : en_M} {r' : Option en_V} {k p r a c : Int} (hI : INV m) (hs : S_addMeter m M1 k p r a c) (hp : (mo_am M1 k p r a ≠ 0 ∧ r' = some (en_I 0) ∧ M2 = en_set M1 51 0 (mo_am M1 k p r a)) ∨ (mo_am M1 k p r a = 0 ∧ r' = some (en_I (M1 51 7)) ∧ M2 = mo_mp M1 k p r a)) : fin_I r' c M2 := by
  have n := inv_n hI
  have ga := g_addMeter hs
  rw [mo_am_g ga, ← hs.1] at hp
  obtain ⟨hc, hs⟩ := hs
  rcases hp with ⟨h1, rfl, rfl⟩ | ⟨h1, rfl, rfl⟩
  · rcases hs with ⟨z, -⟩ | ⟨-, rfl⟩
    · exact absurd z h1
    · obtain ⟨f1, f2, f3⟩ := fq hI (fr_51 M1 c)
      exact ⟨0, rfl, by decide, f1, fun z => absurd z h1, f3⟩
  · rcases hs with ⟨-, hk, rfl⟩ | ⟨z, -⟩
    · refine ⟨_, rfl, ?_, ?_, fun _ => ?_, inv_am hI hk _⟩
      · rw [ga 51 (by decide), inv_e7 hI]
        constructor <;> omega
      · rw [mp_51, upd1_ne (by decide), upd1_at, h1]
      · rw [mp_k (by decide), en_set_at, ga 51 (by decide), inv_e7 hI]
    · exact absurd h1 z
/-! read -/
theorem inv_read {m : en_M} (h : INV m) {i r : Int} (hr : -50 ≤ r ∧ r ≤ 50) (v : Int) : INV (en_set (en_set (en_set (en_set m 24 i r) 50 0 v) 51 0 0) 58 i r) := by
  have e : ∀ k : Int, k ≠ 24 → k ≠ 50 → k ≠ 51 → k ≠ 58 → en_set (en_set (en_set (en_set m 24 i r) 50 0 v) 51 0 0) 58 i r k = m k := fun k a b c d => by rw [en_set_ne d, en_set_ne c, en_set_ne b, en_set_ne a]
  have e51 : ∀ j : Int, j ≠ 0 → en_set (en_set (en_set (en_set m 24 i r) 50 0 v) 51 0 0) 58 i r 51 j = m 51 j := fun j hj => by rw [en_set_ne (by decide), en_set_nj hj, en_set_ne (by decide), en_set_ne (by decide)]
  have e58 : en_set (en_set (en_set (en_set m 24 i r) 50 0 v) 51 0 0) 58 i r 58 = upd1 (m 58) i r := by rw [en_set_f, en_set_ne (by decide), en_set_ne (by decide), en_set_ne (by decide)]
  have e24 : en_set (en_set (en_set (en_set m 24 i r) 50 0 v) 51 0 0) 58 i r 24 = upd1 (m 24) i r := by rw [en_set_ne (by decide), en_set_ne (by decide), en_set_ne (by decide), en_set_f]
  have hk := h.1.1
  have hm := h.1.2.2.1
  refine inv_keep h (fun k hk9 => e k (by omega) (by omega) (by omega) (by omega)) (xr_ok_k (e 28 (by decide) (by decide) (by decide) (by decide)) h.2.2.2) ?_ ?_ ?_
  · unfold xl_k at hk ⊢
    obtain ⟨k1, k2, k3, k4, k5, k6, k7, k8, k9, k10, k11, k12⟩ := hk
    rw [e51 1 (by decide), e51 2 (by decide), e51 7 (by decide), e58, e24, e 0 (by decide) (by decide) (by decide) (by decide), e 21 (by decide) (by decide) (by decide) (by decide), e 52 (by decide) (by decide) (by decide) (by decide), e 53 (by decide) (by decide) (by decide) (by decide), e 54 (by decide) (by decide) (by decide) (by decide), e 55 (by decide) (by decide) (by decide) (by decide), e 56 (by decide) (by decide) (by decide) (by decide), e 57 (by decide) (by decide) (by decide) (by decide), e 59 (by decide) (by decide) (by decide) (by decide), e 60 (by decide) (by decide) (by decide) (by decide), e 1 (by decide) (by decide) (by decide) (by decide), e 2 (by decide) (by decide) (by decide) (by decide), e 3 (by decide) (by decide) (by decide) (by decide), e 4 (by decide) (by decide) (by decide) (by decide), e 22 (by decide) (by decide) (by decide) (by decide), e 23 (by decide) (by decide) (by decide) (by decide), e 25 (by decide) (by decide) (by decide) (by decide), e 26 (by decide) (by decide) (by decide) (by decide)]
    exact ⟨k1, k2, k3, k4, k5, k6, k7, k8, k9, by rw [k10], k11, k12⟩
  · exact xo_ln_k (fun k hk9 => e k (by omega) (by omega) (by omega) (by omega)) (e51 1 (by decide)) (e51 2 (by decide)) h.1.2.1
  · unfold xo_mt xo_m at hm ⊢
    rw [e51 1 (by decide), e51 2 (by decide), e51 7 (by decide), e58, e 56 (by decide) (by decide) (by decide) (by decide), e 57 (by decide) (by decide) (by decide) (by decide), e 59 (by decide) (by decide) (by decide) (by decide), e 60 (by decide) (by decide) (by decide) (by decide)]
    refine ⟨hm.1, fun j j0 j1 => ?_⟩
    obtain ⟨z1, z2, z3, z4⟩ := hm.2 j j0 j1
    refine ⟨z1, z2, ?_, z4⟩
    by_cases ej : j = i
    · rw [ej, upd1_at]
      exact hr
    · rw [upd1_ne ej]
      exact z3
def S_read (m M1 : en_M) (i r c : Int) : Prop := (c = 0 ∧ (0 ≤ i ∧ i < m 21 1) ∧ (-50 ≤ r ∧ r ≤ 50) ∧ M1 = en_set (en_set m 24 i r) 50 0 (m 24 i)) ∨ (c = 1 ∧ ¬ (0 ≤ i ∧ i < m 21 1) ∧ M1 = m) ∨ (c = 2 ∧ (0 ≤ i ∧ i < m 21 1) ∧ ¬ (-50 ≤ r ∧ r ≤ 50) ∧ M1 = m)
theorem s_read {m M1 : en_M} {r' : Option en_V} {i r : Int} (hp : (∃ v M1', (some (en_I v) = some (en_I (m 24 i)) ∧ M1' = en_set m 24 i r ∧ (0 ≤ i ∧ i < m 21 1) ∧ -50 ≤ r ∧ r ≤ 50) ∧ r' = some (en_I 0) ∧ M1 = en_set M1' 50 0 v) ∨ ∃ E, (M1 = m ∧ ((E = eIO ∧ ¬ (0 ≤ i ∧ i < m 21 1)) ∨ (E = eIA ∧ (0 ≤ i ∧ i < m 21 1) ∧ ¬ (-50 ≤ r ∧ r ≤ 50)))) ∧ ((E = eIO ∧ r' = some (en_I 1)) ∨ (E = eIA ∧ r' = some (en_I 2)))) : ∃ c, r' = some (en_I c) ∧ en_i32 c ∧ S_read m M1 i r c := by
  rcases hp with ⟨v, M1', ⟨hv, rfl, hr, hb⟩, rfl, rfl⟩ | ⟨E, ⟨hm, hx⟩, hc⟩
  · have hv := en_inI hv
    subst hv
    exact ⟨0, rfl, by decide, Or.inl ⟨rfl, hr, hb, rfl⟩⟩
  · rcases hx with ⟨e1, b1⟩ | ⟨e1, b1, b2⟩
    · rcases hc with ⟨-, rfl⟩ | ⟨e2, -⟩
      · exact ⟨1, rfl, by decide, Or.inr (Or.inl ⟨rfl, b1, hm⟩)⟩
      · exact absurd (e1.symm.trans e2) ne_IO_IA
    · rcases hc with ⟨e2, -⟩ | ⟨-, rfl⟩
      · exact absurd (e2.symm.trans e1) ne_IO_IA
      · exact ⟨2, rfl, by decide, Or.inr (Or.inr ⟨rfl, b1, b2, hm⟩)⟩
theorem g_read {m M1 : en_M} {i r c : Int} (hs : S_read m M1 i r c) : mg_ag M1 m := by
  rcases hs with ⟨-, -, -, rfl⟩ | ⟨-, -, rfl⟩ | ⟨-, -, -, rfl⟩
  · intro j hj
    rw [en_set_ne (by omega), en_set_ne (by omega)]
  · exact fun j _ => rfl
  · exact fun j _ => rfl
theorem t_read {m M1 M2 : en_M} {r' : Option en_V} {i r c : Int} (hI : INV m) (hs : S_read m M1 i r c) (hp : (¬ (0 ≤ i ∧ i < M1 51 7) ∧ r' = some (en_I 0) ∧ M2 = en_set M1 51 0 1) ∨ ((0 ≤ i ∧ i < M1 51 7) ∧ ¬ (-50 ≤ r ∧ r ≤ 50) ∧ r' = some (en_I 0) ∧ M2 = en_set M1 51 0 2) ∨ ((0 ≤ i ∧ i < M1 51 7) ∧ (-50 ≤ r ∧ r ≤ 50) ∧ r' = some (en_I (M1 58 i)) ∧ M2 = en_set (en_set M1 51 0 0) 58 i r)) : fin_I r' c M2 := by
  have ga := g_read hs
  rw [ga 51 (by decide), ga 58 (by decide), inv_e7 hI, hI.1.1.2.2.2.2.2.2.2.2.2.1] at hp
  rcases hs with ⟨rfl, hr, hb, rfl⟩ | ⟨rfl, hr, rfl⟩ | ⟨rfl, hr, hb, rfl⟩
  · rcases hp with ⟨h1, -⟩ | ⟨-, h1, -⟩ | ⟨-, -, rfl, rfl⟩
    · exact absurd hr h1
    · exact absurd hb h1
    · have z := inv_mt hI i hr.1 hr.2
      refine ⟨_, rfl, by constructor <;> omega, ?_, fun _ => ?_, inv_read hI hb _⟩
      · rw [en_set_ne (by decide), en_set_at]
      · rw [en_set_ne (by decide), en_set_ne (by decide), en_set_at]
  · rcases hp with ⟨-, rfl, rfl⟩ | ⟨h1, -⟩ | ⟨h1, -⟩
    · obtain ⟨f1, f2, f3⟩ := fq hI (fr_51 M1 1)
      exact ⟨0, rfl, by decide, f1, fun z => absurd z (by decide), f3⟩
    · exact absurd h1 hr
    · exact absurd h1 hr
  · rcases hp with ⟨h1, -⟩ | ⟨-, -, rfl, rfl⟩ | ⟨-, h1, -⟩
    · exact absurd hr h1
    · obtain ⟨f1, f2, f3⟩ := fq hI (fr_51 M1 2)
      exact ⟨0, rfl, by decide, f1, fun z => absurd z (by decide), f3⟩
    · exact absurd h1 hb
/-! use -/
def S_use (m M1 : en_M) (i c' c : Int) : Prop := (c = 0 ∧ (0 ≤ i ∧ i < m 21 1) ∧ M1 = en_set (en_set m 26 i c') 50 0 (m 26 i)) ∨ (c = 1 ∧ ¬ (0 ≤ i ∧ i < m 21 1) ∧ M1 = m)
theorem s_use {m M1 : en_M} {r : Option en_V} {i c' : Int} (hp : (∃ v M1', (some (en_I v) = some (en_I (m 26 i)) ∧ M1' = en_set m 26 i c' ∧ (0 ≤ i ∧ i < m 21 1)) ∧ r = some (en_I 0) ∧ M1 = en_set M1' 50 0 v) ∨ ∃ E, (E = eIO ∧ M1 = m ∧ ¬ (0 ≤ i ∧ i < m 21 1)) ∧ (E = eIO ∧ r = some (en_I 1))) : ∃ c, r = some (en_I c) ∧ en_i32 c ∧ S_use m M1 i c' c := by
  rcases hp with ⟨v, M1', ⟨hv, rfl, hr⟩, rfl, rfl⟩ | ⟨E, ⟨-, hm, hr⟩, -, rfl⟩
  · have hv := en_inI hv
    subst hv
    exact ⟨0, rfl, by decide, Or.inl ⟨rfl, hr, rfl⟩⟩
  · exact ⟨1, rfl, by decide, Or.inr ⟨rfl, hr, hm⟩⟩
theorem g_use {m M1 : en_M} {i c' c : Int} (hs : S_use m M1 i c' c) : mg_ag M1 m := by
  rcases hs with ⟨-, -, rfl⟩ | ⟨-, -, rfl⟩
  · intro j hj
    rw [en_set_ne (by omega), en_set_ne (by omega)]
  · exact fun j _ => rfl
theorem t_use {m M1 M2 : en_M} {r : Option en_V} {i c' c : Int} (hI : INV m) (hc : c' = 0 ∨ c' = 1) (hs : S_use m M1 i c' c) (hp : (¬ (0 ≤ i ∧ i < M1 51 7) ∧ r = some (en_I 0) ∧ M2 = en_set M1 51 0 1) ∨ ((0 ≤ i ∧ i < M1 51 7) ∧ r = some (en_I (M1 60 i)) ∧ M2 = en_set (en_set M1 51 0 0) 60 i c')) : fin_Z r c M2 := by
  have ga := g_use hs
  rw [ga 51 (by decide), ga 60 (by decide), inv_e7 hI, hI.1.1.2.2.2.2.2.2.2.2.2.2.2] at hp
  rcases hs with ⟨rfl, hr, rfl⟩ | ⟨rfl, hr, rfl⟩
  · rcases hp with ⟨h1, -⟩ | ⟨-, rfl, rfl⟩
    · exact absurd hr h1
    · have z := inv_mt hI i hr.1 hr.2
      refine ⟨_, rfl, z.2.1, ?_, fun _ => ?_, ?_⟩
      · rw [en_set_ne (by decide), en_set_at]
      · rw [en_set_ne (by decide), en_set_ne (by decide), en_set_at]
      · refine inv_same (inv_use hI (i := i) hc) (fun k hk => ?_) ?_ (fun k k0 k1 => ?_) (fun j hj => ?_)
        · rw [en_set_ne (by omega), en_set_ne (by omega), en_set_ne (by omega), en_set_ne (k := 60) (by omega)]
        · exact xr_ok_k (by rw [en_set_ne (by decide), en_set_ne (by decide), en_set_ne (by decide), en_set_ne (by decide)]) hI.2.2.2
        · by_cases e : k = 60
          · subst e
            rw [en_set_f, en_set_f, en_set_ne (k := 51) (by decide), en_set_ne (k := 50) (by decide)]
          · rw [en_set_ne e, en_set_ne e, en_set_ne (by omega), en_set_ne (k := 50) (by omega)]
        · rw [en_set_ne (by decide), en_set_nj (by omega), en_set_ne (by decide), en_set_ne (k := 60) (by decide)]
  · rcases hp with ⟨-, rfl, rfl⟩ | ⟨h1, -⟩
    · obtain ⟨f1, f2, f3⟩ := fq hI (fr_51 M1 1)
      exact ⟨0, rfl, Or.inl rfl, f1, fun z => absurd z (by decide), f3⟩
    · exact absurd h1 hr
/-! islands -/
theorem t_islands {m M2 : en_M} {r r' : Option en_V} (hI : INV m) (h1 : r = some (en_I (gs_is (m 5) (m 0 0).toNat))) (h2 : r' = some (en_I (gs_is (mo_dv m 61) (m 51 1).toNat)) ∧ M2 = en_set (mo_dv m) 51 0 0) : r' = r ∧ INV M2 := by
  obtain ⟨rfl, rfl⟩ := h2
  have n := inv_n hI
  refine ⟨?_, (fq hI (fr_qm m 0)).2.2⟩
  rw [h1, inv_e1 hI, gs_is_cong (R' := m 5) (m 0 0).toNat (fun b b0 b1 => dv_b hI b0 (by omega))]
/-! clean -/
def S_clean (m M1 : en_M) (b lim c : Int) : Prop := xr_ok M1 ∧ ((c = 0 ∧ (0 ≤ b ∧ b < m 0 0) ∧ (0 ≤ lim ∧ lim ≤ 200) ∧ xm_ob m (m 5 b) ∧ (∀ k, (k < 28 ∨ 51 ≤ k) → M1 k = (xe_cl (m 5 b) lim 10 m).2 k) ∧ M1 50 0 = (xe_cl (m 5 b) lim 10 m).1) ∨ ((∀ k, (k < 28 ∨ 51 ≤ k) → M1 k = m k) ∧ ((c = 1 ∧ ¬ (0 ≤ b ∧ b < m 0 0)) ∨ (c = 2 ∧ (0 ≤ b ∧ b < m 0 0) ∧ ¬ (0 ≤ lim ∧ lim ≤ 200)) ∨ (c = 3 ∧ (0 ≤ b ∧ b < m 0 0) ∧ (0 ≤ lim ∧ lim ≤ 200) ∧ ¬ xm_ob m (m 5 b)))))
theorem s_clean {m M1 : en_M} {r : Option en_V} {b lim : Int} (hp : (∃ v M1', (some (en_I v) = some (en_I (xe_cl (m 5 b) lim 10 m).1) ∧ en_sc M1' (xe_cl (m 5 b) lim 10 m).2 ∧ xr_ok M1' ∧ (0 ≤ b ∧ b < m 0 0) ∧ (0 ≤ lim ∧ lim ≤ 200) ∧ xm_ob m (m 5 b)) ∧ r = some (en_I 0) ∧ M1 = en_set M1' 50 0 v) ∨ ∃ E, (en_sc M1 m ∧ xr_ok M1 ∧ ((E = eIO ∧ ¬ (0 ≤ b ∧ b < m 0 0)) ∨ (E = eIA ∧ (0 ≤ b ∧ b < m 0 0) ∧ ¬ (0 ≤ lim ∧ lim ≤ 200)) ∨ (E = eIS ∧ (0 ≤ b ∧ b < m 0 0) ∧ (0 ≤ lim ∧ lim ≤ 200) ∧ ¬ xm_ob m (m 5 b)))) ∧ ((E = eIO ∧ r = some (en_I 1)) ∨ (E = eIA ∧ r = some (en_I 2)) ∨ (E = eIS ∧ r = some (en_I 3)))) : ∃ c, r = some (en_I c) ∧ en_i32 c ∧ S_clean m M1 b lim c := by
  rcases hp with ⟨v, M1', ⟨hv, hs, ho, h1, h2, h3⟩, rfl, rfl⟩ | ⟨E, ⟨hs, ho, hx⟩, hc⟩
  · have hv := en_inI hv
    subst hv
    exact ⟨0, rfl, by decide, xr_ok_k (en_set_ne (by decide)) ho, Or.inl ⟨rfl, h1, h2, h3, fun k hk => by rw [en_set_ne (by omega)]; exact hs k (by omega), en_set_at⟩⟩
  · have keep : ∀ k, (k < 28 ∨ 51 ≤ k) → M1 k = m k := fun k hk => hs k (by omega)
    rcases hx with ⟨e1, b1⟩ | ⟨e1, b1, b2⟩ | ⟨e1, b1, b2, b3⟩
    · rcases hc with ⟨-, rfl⟩ | ⟨e2, -⟩ | ⟨e2, -⟩
      · exact ⟨1, rfl, by decide, ho, Or.inr ⟨keep, Or.inl ⟨rfl, b1⟩⟩⟩
      · exact absurd (e1.symm.trans e2) ne_IO_IA
      · exact absurd (e1.symm.trans e2) ne_IO_IS
    · rcases hc with ⟨e2, -⟩ | ⟨-, rfl⟩ | ⟨e2, -⟩
      · exact absurd (e2.symm.trans e1) ne_IO_IA
      · exact ⟨2, rfl, by decide, ho, Or.inr ⟨keep, Or.inr (Or.inl ⟨rfl, b1, b2⟩)⟩⟩
      · exact absurd (e1.symm.trans e2) ne_IA_IS
    · rcases hc with ⟨e2, -⟩ | ⟨e2, -⟩ | ⟨-, rfl⟩
      · exact absurd (e2.symm.trans e1) ne_IO_IS
      · exact absurd (e2.symm.trans e1) ne_IA_IS
      · exact ⟨3, rfl, by decide, ho, Or.inr ⟨keep, Or.inr (Or.inr ⟨rfl, b1, b2, b3⟩)⟩⟩
theorem g_clean {m M1 : en_M} {b lim c : Int} (hs : S_clean m M1 b lim c) : mg_ag M1 m := by
  rcases hs.2 with ⟨-, -, -, -, hk, -⟩ | ⟨hk, -⟩
  · intro k k0
    rw [hk k (Or.inr k0), xe_cl_k _ _ _ _ _ (by omega)]
  · exact fun k k0 => hk k (Or.inr k0)
theorem xe_cl_rng (q lim : Int) : ∀ (n : Nat) (m : en_M), 0 ≤ (xe_cl q lim n m).1 ∧ (xe_cl q lim n m).1 ≤ n
  | 0, m => by simp [xe_cl]
  | n + 1, m => by
    have ih := xe_cl_rng q lim n (xe_st m q lim)
    simp only [xe_cl]
    split
    · show 0 ≤ (xe_cl q lim n (xe_st m q lim)).1 + 1 ∧ (xe_cl q lim n (xe_st m q lim)).1 + 1 ≤ _
      omega
    · show (0 : Int) ≤ 0 ∧ (0 : Int) ≤ _
      omega
theorem t_clean {m M1 M2 : en_M} {r : Option en_V} {b lim c : Int} (hI : INV m) (hs : S_clean m M1 b lim c) (hp : (¬ (0 ≤ b ∧ b < M1 51 1) ∧ r = some (en_I 0) ∧ mo_fr M2 M1 1) ∨ ((0 ≤ b ∧ b < M1 51 1) ∧ ¬ (0 ≤ lim ∧ lim ≤ 200) ∧ r = some (en_I 0) ∧ mo_fr M2 M1 2) ∨ ((0 ≤ b ∧ b < M1 51 1) ∧ (0 ≤ lim ∧ lim ≤ 200) ∧ en_w64 (mg_D (mo_qm M1 0) (mo_dv M1 61 b) (-1)) = 0 ∧ r = some (en_I 0) ∧ mo_fr M2 M1 3) ∨ ((0 ≤ b ∧ b < M1 51 1) ∧ (0 ≤ lim ∧ lim ≤ 200) ∧ en_w64 (mg_D (mo_qm M1 0) (mo_dv M1 61 b) (-1)) ≠ 0 ∧ r = some (en_I (mc_cl (mo_dv M1 61 b) lim 10 (mo_qm M1 0)).1) ∧ mo_sm M2 (mc_cl (mo_dv M1 61 b) lim 10 (mo_qm M1 0)).2 ∧ M2 51 0 = 0)) : fin_I r c M2 := by
  have n := inv_n hI
  have ga := g_clean hs
  have gq := mo_qm_g ga 0
  have dvb : (0 ≤ b ∧ b < m 0 0) → mo_dv M1 61 b = m 5 b := fun hr => by rw [mo_dv_g ga 61 (by decide), dv_b hI hr.1 hr.2]
  have obs : (0 ≤ b ∧ b < m 0 0) → (en_w64 (mg_D (mo_qm M1 0) (mo_dv M1 61 b) (-1)) ≠ 0 ↔ xm_ob m (m 5 b)) := fun hr => by
    rw [dvb hr, mg_D_g gq]
    exact inv_ob hI (inv_rng hI b hr.1 (by omega)).1
  rw [ga 51 (by decide), inv_e1 hI] at hp
  obtain ⟨ho, hs⟩ := hs
  rcases hs with ⟨rfl, hr, hl, hb, hk, h50⟩ | ⟨hk, hs⟩
  · rcases hp with ⟨g, -⟩ | ⟨-, g, -⟩ | ⟨-, -, g, -⟩ | ⟨-, -, -, rfl, hsm, h0⟩
    · exact absurd hr g
    · exact absurd hl g
    · exact absurd g ((obs hr).mpr hb)
    · rw [dvb hr] at hsm ⊢
      have cg := mc_cl_g (m 5 b) lim 10 _ _ gq
      obtain ⟨i1, m', i2, i3, i4, i5⟩ := cl_all (m 5 b) lim 10 m hI
      have xr := xe_cl_rng (m 5 b) lim 10 m
      refine ⟨_, rfl, ?_, h0, fun _ => ?_, ?_⟩
      · rw [cg.1, ← i1]
        constructor <;> omega
      · rw [hsm.1 50 (by decide) (by decide), mc_cl_k _ _ _ _ _ (by decide), mo_qm_kk (by decide) (by decide), h50, cg.1, i1]
      · have low : ∀ k, k < 51 → M2 k = M1 k := fun k hk9 => by rw [hsm.1 k (by omega) (by omega), mc_cl_k _ _ _ _ _ (by omega), mo_qm_kk (by omega) (by omega)]
        refine inv_same i2 (fun k hk9 => ?_) (xr_ok_k (low 28 (by decide)) ho) (fun k k0 k1 => ?_) (fun j hj => ?_)
        · rw [low k (by omega), hk k (Or.inl hk9)]
          by_cases e : k < 27
          · exact i3 k e
          · rw [xe_cl_k _ _ _ _ _ (by omega), i5 k (by omega) (by omega)]
        · rw [hsm.1 k (by omega) (by omega), cg.2 k (by omega), i4 k (by omega) (by omega), mo_qm_kk (by omega) (by omega)]
        · rw [hsm.2 j hj, cg.2 51 (by decide), i4 51 (by decide) (by decide), mo_qm_j (by omega)]
  · have h1 : INV M1 := inv_cq hI ⟨hk, ho⟩
    rcases hp with ⟨g, rfl, hf⟩ | ⟨g, g2, rfl, hf⟩ | ⟨g, g2, g3, rfl, hf⟩ | ⟨g, g2, g3, -⟩
    · obtain ⟨f1, f2, f3⟩ := fq h1 hf
      rcases hs with ⟨rfl, hr⟩ | ⟨rfl, hr, -⟩ | ⟨rfl, hr, -⟩
      · exact ⟨0, rfl, by decide, f1, fun z => absurd z (by decide), f3⟩
      · exact absurd hr g
      · exact absurd hr g
    · obtain ⟨f1, f2, f3⟩ := fq h1 hf
      rcases hs with ⟨rfl, hr⟩ | ⟨rfl, hr, -⟩ | ⟨rfl, hr, hl, -⟩
      · exact absurd g hr
      · exact ⟨0, rfl, by decide, f1, fun z => absurd z (by decide), f3⟩
      · exact absurd hl g2
    · obtain ⟨f1, f2, f3⟩ := fq h1 hf
      rcases hs with ⟨rfl, hr⟩ | ⟨rfl, hr, hl⟩ | ⟨rfl, hr, hl, -⟩
      · exact absurd g hr
      · exact absurd g2 hl
      · exact ⟨0, rfl, by decide, f1, fun z => absurd z (by decide), f3⟩
    · rcases hs with ⟨rfl, hr⟩ | ⟨rfl, hr, hl⟩ | ⟨rfl, hr, hl, hb⟩
      · exact absurd g hr
      · exact absurd g2 hl
      · exact absurd ((obs hr).mp g3) hb
