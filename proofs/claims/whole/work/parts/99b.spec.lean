/-! LAW 2: a call on both sides -/
theorem en_inI {a b : Int} (h : (some (en_I a) : Option en_V) = some (en_I b)) : a = b := Sum.inl.inj (Option.some.inj h)
theorem en_inL {a b : Int} (h : (some (en_L a) : Option en_V) = some (en_L b)) : a = b := Sum.inl.inj (Sum.inr.inj (Option.some.inj h))
/-- what the law needs of the two answers: ints, booleans, longs -/
def fin_I (r : Option en_V) (c : Int) (M : en_M) : Prop := ∃ v, r = some (en_I v) ∧ en_i32 v ∧ M 51 0 = c ∧ (c = 0 → M 50 0 = v) ∧ INV M
def fin_Z (r : Option en_V) (c : Int) (M : en_M) : Prop := ∃ v, r = some (en_I v) ∧ (v = 0 ∨ v = 1) ∧ M 51 0 = c ∧ (c = 0 → M 50 0 = v) ∧ INV M
def fin_L (r : Option en_V) (c : Int) (M : en_M) : Prop := ∃ v, r = some (en_L v) ∧ M 51 0 = c ∧ (c = 0 → M 50 0 = v) ∧ INV M
theorem cq_f {m M1 : en_M} (hI : INV m) (hc : cq M1 m) : INV M1 ∧ M1 51 1 = m 0 0 ∧ M1 51 2 = m 0 1 ∧ M1 51 7 = m 21 1 ∧ en_ag M1 m := by
  have hk := hI.1.1
  refine ⟨inv_cq hI hc, ?_, ?_, ?_, cq_ag hc⟩
  · rw [hc.1 51 (by decide), hk.1]
  · rw [hc.1 51 (by decide), hk.2.1]
  · rw [hc.1 51 (by decide), hk.2.2.1]
theorem inv_e1 {m : en_M} (h : INV m) : m 51 1 = m 0 0 := h.1.1.1
theorem inv_e2 {m : en_M} (h : INV m) : m 51 2 = m 0 1 := h.1.1.2.1
theorem inv_e7 {m : en_M} (h : INV m) : m 51 7 = m 21 1 := h.1.1.2.2.1
/-- the model's references -/
theorem dv_b {m : en_M} (h : INV m) {b : Int} (b0 : 0 ≤ b) (b1 : b < m 0 0) : mo_dv m 61 b = m 5 b := by
  have z := lk_ref h.1.1 h.1.2.1 h.1.2.2.2.1 b0 b1
  rw [mo_qm_k (by decide)] at z
  exact z
theorem fq {M1 M2 : en_M} {c : Int} (hI : INV M1) (hf : mo_fr M2 M1 c) : M2 51 0 = c ∧ M2 50 = M1 50 ∧ INV M2 := ⟨hf.2.2, hf.1 50 (by decide) (by decide), inv_fr hI hf⟩
theorem fr_dv (m : en_M) (c : Int) : mo_fr (mo_dv (en_set m 51 0 c)) m c := ⟨fun k k0 k1 => by rw [mo_dv_k (by omega), en_set_ne k0], fun j hj => by rw [mo_dv_k (by decide), en_set_nj (by omega)], mo_rf_0⟩
theorem fr_qm (m : en_M) (c : Int) : mo_fr (mo_qm m c) m c := ⟨fun k k0 k1 => mo_qm_kk k0 (by omega), fun j hj => mo_qm_j (by omega), mo_qm_0⟩
theorem io_dv (m : en_M) (i : Int) : mo_io (mo_dv m) i = mo_io (mo_qm m 0) i := by
  unfold mo_io mo_iu
  rw [mo_qm_k (k := 60) (by decide), mo_qm_k (k := 56) (by decide), mo_qm_k (k := 57) (by decide), mo_qm_k (k := 55) (by decide), mo_qm_k (k := 52) (by decide), mo_qm_k (k := 61) (by decide)]
theorem lk_tp {m : en_M} (h : xl m) {q b : Int} (b0 : 0 ≤ b) (b1 : b < m 0 0) : mo_tp (mo_qm m 0) q b = gl_D m q b := by
  have n0 := h.2.1.1
  rw [h.1.1] at n0
  have e := lk_ref h.1 h.2.1 h.2.2.2.1 b0 b1
  unfold mo_tp
  by_cases c : m 5 b = q ∧ b ≠ q
  · have z := lk_T h b0 (by omega) c
    have a : ma_ao (mo_qm m 0 61) q b ≠ -1 := by
      have p := gs_cu_rng (mo_qm m 0 61) q b.toNat
      rw [ma_ao_of (by rw [e]; exact c)]
      omega
    rw [if_neg a]
    exact z
  · have a : ma_ao (mo_qm m 0 61) q b = -1 := by
      unfold ma_ao
      rw [e, if_neg c]
    rw [if_pos a]
    exact (lk_T0 h b0 (by omega) c).symm
/-- the bounds that the fractions ask for -/
theorem inv_bd {m : en_M} (h : INV m) {q : Int} (q0 : 0 ≤ q) (ho : xm_ob m q) : xb_d m q := by
  have hx := inv_xc h
  have p := lk_pos h.1 hx.2.2.1 hx.2.2.2 q0 ho
  have d := bd_D h.1 hx.2.2.1 hx.2.2.2 q (-1) (by omega)
  exact ⟨p, by omega⟩
theorem inv_ba {m : en_M} (h : INV m) {q b : Int} (b0 : 0 ≤ b) (b1 : b < 5) : xb_a m q b := by
  have hx := inv_xc h
  have d := bd_D h.1 hx.2.2.1 hx.2.2.2 q b (by omega)
  constructor <;> omega
theorem inv_br {m : en_M} (h : INV m) {q i : Int} (i0 : 0 ≤ i) (i1 : i < m 21 1) : xb_r m q i := by
  have hx := inv_xc h
  have d := bd_rs h.1 hx.2.2.1 hx.2.2.2 q i0 i1
  constructor <;> omega
theorem inv_ob {m : en_M} (h : INV m) {q : Int} (q0 : 0 ≤ q) : en_w64 (mg_D (mo_qm m 0) q (-1)) ≠ 0 ↔ xm_ob m q := lk_ob h.1 (inv_xc h).2.2.1 (inv_xc h).2.2.2 q0
theorem inv_iu {m : en_M} (h : INV m) {i : Int} (i0 : 0 ≤ i) (i1 : i < m 21 1) : -1 ≤ xm_iu m i ∧ xm_iu m i < 5 := by
  obtain ⟨c1, -⟩ := inv_mt h i i0 i1
  have n := inv_n h
  have hr := inv_rng h
  unfold xm_iu
  rcases c1 with ⟨a, b, c⟩ | ⟨a, b, c⟩
  · rw [if_pos a]
    have z := hr _ b (by omega)
    omega
  · rw [if_neg (by omega)]
    have z := inv_ln h _ b c
    have z2 := hr (m 1 (m 23 i)) (by omega) (by omega)
    split <;> omega
theorem inv_io {m : en_M} (h : INV m) {i : Int} (i0 : 0 ≤ i) (i1 : i < m 21 1) : -1 ≤ xm_io m i ∧ xm_io m i < 5 := by
  have z := inv_iu h i0 i1
  unfold xm_io
  split <;> omega
theorem inv_bd_m {m : en_M} (h : INV m) {q b : Int} (q0 : 0 ≤ q) (b0 : 0 ≤ b) (b1 : b < m 0 0) (ho : en_w64 (mg_D (mo_qm m 0) q (-1)) ≠ 0) : mo_bd (mo_qm m 0) q (mo_tp (mo_qm m 0) q b) := by
  have n := inv_n h
  have d := inv_bd h q0 ((inv_ob h q0).mp ho)
  have a := inv_ba h (q := q) b0 (by omega)
  unfold mo_bd
  rw [lk_D h.1, lk_tp h.1 b0 b1]
  exact ⟨d, a⟩
theorem inv_br_m {m : en_M} (h : INV m) {q i : Int} (q0 : 0 ≤ q) (i0 : 0 ≤ i) (i1 : i < m 21 1) (ho : en_w64 (mg_D (mo_qm m 0) q (-1)) ≠ 0) : mo_bd (mo_qm m 0) q (mg_rs (mo_qm m 0) q i) := by
  have d := inv_bd h q0 ((inv_ob h q0).mp ho)
  have a := inv_br h (q := q) i0 i1
  unfold mo_bd
  rw [lk_D h.1, lk_rs h.1 i0 i1]
  exact ⟨d, a⟩
/-- what the model's bounds of angles and residuals are asked with -/
theorem hb_ang {m : en_M} (h : INV m) {b : Int} : 0 ≤ b → b < m 51 1 → en_w64 (mg_D (mo_qm m 0) (mo_dv m 61 b) (-1)) ≠ 0 → mo_bd (mo_qm m 0) (mo_dv m 61 b) (mo_tp (mo_qm m 0) (mo_dv m 61 b) b) := by
  intro b0 b1 ho
  rw [inv_e1 h] at b1
  have n := inv_n h
  rw [dv_b h b0 b1] at ho ⊢
  exact inv_bd_m h (inv_rng h b b0 (by omega)).1 b0 b1 ho
theorem hb_res {m : en_M} (h : INV m) {i : Int} : 0 ≤ i → i < m 51 7 → mo_iu (mo_qm m 0) i ≠ -1 → en_w64 (mg_D (mo_qm m 0) (mo_iu (mo_qm m 0) i) (-1)) ≠ 0 → mo_bd (mo_qm m 0) (mo_iu (mo_qm m 0) i) (mg_rs (mo_qm m 0) (mo_iu (mo_qm m 0) i) i) := by
  intro i0 i1 hn ho
  rw [inv_e7 h] at i1
  rw [lk_iu h.1.1 h.1.2.1 h.1.2.2.1 h.1.2.2.2.1 i0 i1] at hn ho ⊢
  have z := inv_iu h i0 i1
  exact inv_br_m h (by omega) i0 i1 ho
theorem hbx_ang {m : en_M} (h : INV m) {b : Int} : 0 ≤ b → b < m 0 0 → xm_ob m (m 5 b) → xb_d m (m 5 b) ∧ xb_a m (m 5 b) b := by
  intro b0 b1 ho
  have n := inv_n h
  exact ⟨inv_bd h (inv_rng h b b0 (by omega)).1 ho, inv_ba h b0 (by omega)⟩
theorem hbx_res {m : en_M} (h : INV m) {i : Int} : 0 ≤ i → i < m 21 1 → xm_iu m i ≠ -1 → xm_ob m (xm_iu m i) → xb_d m (xm_iu m i) ∧ xb_r m (xm_iu m i) i := by
  intro i0 i1 hn ho
  have z := inv_iu h i0 i1
  exact ⟨inv_bd h (by omega) ho, inv_br h i0 i1⟩
theorem ne_IO_IS : eIO ≠ eIS := by decide
theorem ne_IO_IA : eIO ≠ eIA := by decide
theorem ne_IA_IS : eIA ≠ eIS := by decide
def S_reference (m M1 : en_M) (b c : Int) : Prop := cq M1 m ∧ ((c = 0 ∧ (0 ≤ b ∧ b < m 0 0) ∧ M1 50 0 = m 5 b) ∨ (c = 1 ∧ ¬ (0 ≤ b ∧ b < m 0 0)))
theorem s_reference {m M1 : en_M} {r : Option en_V} {b : Int} (hI : INV m) (hp : (∃ v M1', (some (en_I v) = some (en_I (m 5 b)) ∧ M1' = m ∧ (0 ≤ b ∧ b < m 0 0)) ∧ r = some (en_I 0) ∧ M1 = en_set M1' 50 0 v) ∨ ∃ E, (E = eIO ∧ M1 = m ∧ ¬ (0 ≤ b ∧ b < m 0 0)) ∧ (E = eIO ∧ r = some (en_I 1))) : ∃ c, r = some (en_I c) ∧ en_i32 c ∧ S_reference m M1 b c := by
  rcases hp with ⟨v, M1', hq, rfl, rfl⟩ | ⟨E, ⟨-, rfl, hr⟩, -, rfl⟩
  · obtain ⟨hv, rfl, hr⟩ := hq
    have hv := en_inI hv
    exact ⟨0, rfl, by decide, cq_50 (cq_rf hI.2.2.2), Or.inl ⟨rfl, hr, by rw [en_set_at]; exact hv⟩⟩
  · exact ⟨1, rfl, by decide, cq_rf hI.2.2.2, Or.inr ⟨rfl, hr⟩⟩
theorem t_reference {m M1 M2 : en_M} {r : Option en_V} {b c : Int} (hI : INV m) (hs : S_reference m M1 b c) (hp : (¬ (0 ≤ b ∧ b < M1 51 1) ∧ r = some (en_I 0) ∧ M2 = en_set M1 51 0 1) ∨ ((0 ≤ b ∧ b < M1 51 1) ∧ r = some (en_I (mo_dv M1 61 b)) ∧ M2 = mo_dv (en_set M1 51 0 0))) : fin_I r c M2 := by
  obtain ⟨hc, hs⟩ := hs
  obtain ⟨h1, e1, e2, e7, ag⟩ := cq_f hI hc
  have hx := inv_xc hI
  have hx1 := inv_xc h1
  have nn := inv_n hI
  rcases hp with ⟨g, rfl, hf⟩ | ⟨g, hv, hf⟩
  · rw [e1] at g
    rcases hs with ⟨rfl, hr, -⟩ | ⟨rfl, hr⟩
    · exact absurd hr g
    · subst hf
      obtain ⟨f1, f2, f3⟩ := fq h1 (fr_51 M1 1)
      exact ⟨0, rfl, by decide, f1, fun z => absurd z (by decide), f3⟩
  · rw [e1] at g
    rcases hs with ⟨rfl, hr, h50⟩ | ⟨rfl, hr⟩
    · subst hf; have hf := fr_dv M1 0
      obtain ⟨f1, f2, f3⟩ := fq h1 hf
      rw [dv_b h1 hr.1 (by rw [ag 0 (by decide)]; exact hr.2), ag 5 (by decide)] at hv
      refine ⟨_, hv, by have z := inv_rng hI b hr.1 (by omega); constructor <;> omega, f1, fun _ => ?_, f3⟩
      rw [f2, h50]
    · exact absurd g hr
def S_countsIn (m M1 : en_M) (i c : Int) : Prop := cq M1 m ∧ ((c = 0 ∧ (0 ≤ i ∧ i < m 21 1) ∧ M1 50 0 = xm_io m i) ∨ (c = 1 ∧ ¬ (0 ≤ i ∧ i < m 21 1)))
theorem s_countsIn {m M1 : en_M} {r : Option en_V} {i : Int} (hI : INV m) (hp : (∃ v M1', (some (en_I v) = some (en_I (xm_io m i)) ∧ M1' = m ∧ (0 ≤ i ∧ i < m 21 1)) ∧ r = some (en_I 0) ∧ M1 = en_set M1' 50 0 v) ∨ ∃ E, (E = eIO ∧ M1 = m ∧ ¬ (0 ≤ i ∧ i < m 21 1)) ∧ (E = eIO ∧ r = some (en_I 1))) : ∃ c, r = some (en_I c) ∧ en_i32 c ∧ S_countsIn m M1 i c := by
  rcases hp with ⟨v, M1', hq, rfl, rfl⟩ | ⟨E, ⟨-, rfl, hr⟩, -, rfl⟩
  · obtain ⟨hv, rfl, hr⟩ := hq
    have hv := en_inI hv
    exact ⟨0, rfl, by decide, cq_50 (cq_rf hI.2.2.2), Or.inl ⟨rfl, hr, by rw [en_set_at]; exact hv⟩⟩
  · exact ⟨1, rfl, by decide, cq_rf hI.2.2.2, Or.inr ⟨rfl, hr⟩⟩
theorem t_countsIn {m M1 M2 : en_M} {r : Option en_V} {i c : Int} (hI : INV m) (hs : S_countsIn m M1 i c) (hp : (¬ (0 ≤ i ∧ i < M1 51 7) ∧ r = some (en_I 0) ∧ M2 = en_set M1 51 0 1) ∨ ((0 ≤ i ∧ i < M1 51 7) ∧ r = some (en_I (mo_io (mo_dv M1) i)) ∧ M2 = mo_dv (en_set M1 51 0 0))) : fin_I r c M2 := by
  obtain ⟨hc, hs⟩ := hs
  obtain ⟨h1, e1, e2, e7, ag⟩ := cq_f hI hc
  have hx := inv_xc hI
  have hx1 := inv_xc h1
  have nn := inv_n hI
  rcases hp with ⟨g, rfl, hf⟩ | ⟨g, hv, hf⟩
  · rw [e7] at g
    rcases hs with ⟨rfl, hr, -⟩ | ⟨rfl, hr⟩
    · exact absurd hr g
    · subst hf
      obtain ⟨f1, f2, f3⟩ := fq h1 (fr_51 M1 1)
      exact ⟨0, rfl, by decide, f1, fun z => absurd z (by decide), f3⟩
  · rw [e7] at g
    rcases hs with ⟨rfl, hr, h50⟩ | ⟨rfl, hr⟩
    · subst hf; have hf := fr_dv M1 0
      obtain ⟨f1, f2, f3⟩ := fq h1 hf
      rw [io_dv, lk_io h1.1.1 h1.1.2.1 h1.1.2.2.1 h1.1.2.2.2.1 hr.1 (by rw [ag 21 (by decide)]; exact hr.2), xm_io_ag ag] at hv
      refine ⟨_, hv, by have z := inv_io hI hr.1 hr.2; constructor <;> omega, f1, fun _ => ?_, f3⟩
      rw [f2, h50]
    · exact absurd g hr
def S_rank (m M1 : en_M) (b c : Int) : Prop := cq M1 m ∧ ((c = 0 ∧ (0 ≤ b ∧ b < m 0 0) ∧ M1 50 0 = xm_rk m (-1) (m 5 b)) ∨ (c = 1 ∧ ¬ (0 ≤ b ∧ b < m 0 0)))
theorem s_rank {m M1 : en_M} {r : Option en_V} {b : Int} (hI : INV m) (hp : (∃ v M1', (some (en_I v) = some (en_I (xm_rk m (-1) (m 5 b))) ∧ en_sc M1' m ∧ xr_ok M1' ∧ (0 ≤ b ∧ b < m 0 0)) ∧ r = some (en_I 0) ∧ M1 = en_set M1' 50 0 v) ∨ ∃ E, (E = eIO ∧ M1 = m ∧ ¬ (0 ≤ b ∧ b < m 0 0)) ∧ (E = eIO ∧ r = some (en_I 1))) : ∃ c, r = some (en_I c) ∧ en_i32 c ∧ S_rank m M1 b c := by
  rcases hp with ⟨v, M1', hq, rfl, rfl⟩ | ⟨E, ⟨-, rfl, hr⟩, -, rfl⟩
  · obtain ⟨hv, hs, ho, hr⟩ := hq
    have hv := en_inI hv
    exact ⟨0, rfl, by decide, cq_50 (cq_sc hs ho), Or.inl ⟨rfl, hr, by rw [en_set_at]; exact hv⟩⟩
  · exact ⟨1, rfl, by decide, cq_rf hI.2.2.2, Or.inr ⟨rfl, hr⟩⟩
theorem t_rank {m M1 M2 : en_M} {r : Option en_V} {b c : Int} (hI : INV m) (hs : S_rank m M1 b c) (hp : (¬ (0 ≤ b ∧ b < M1 51 1) ∧ r = some (en_I 0) ∧ M2 = en_set M1 51 0 1) ∨ ((0 ≤ b ∧ b < M1 51 1) ∧ r = some (en_I (mo_rk (mo_qm M1 0) (mo_dv M1 61 b))) ∧ mo_fr M2 M1 0)) : fin_I r c M2 := by
  obtain ⟨hc, hs⟩ := hs
  obtain ⟨h1, e1, e2, e7, ag⟩ := cq_f hI hc
  have hx := inv_xc hI
  have hx1 := inv_xc h1
  have nn := inv_n hI
  rcases hp with ⟨g, rfl, hf⟩ | ⟨g, hv, hf⟩
  · rw [e1] at g
    rcases hs with ⟨rfl, hr, -⟩ | ⟨rfl, hr⟩
    · exact absurd hr g
    · subst hf
      obtain ⟨f1, f2, f3⟩ := fq h1 (fr_51 M1 1)
      exact ⟨0, rfl, by decide, f1, fun z => absurd z (by decide), f3⟩
  · rw [e1] at g
    rcases hs with ⟨rfl, hr, h50⟩ | ⟨rfl, hr⟩
    · skip
      obtain ⟨f1, f2, f3⟩ := fq h1 hf
      have q0 := (inv_rng hI b hr.1 (by omega)).1
      rw [dv_b h1 hr.1 (by rw [ag 0 (by decide)]; exact hr.2), ag 5 (by decide), lk_rk h1.1 hx1.2.2.1 hx1.2.2.2 q0, xm_rk_ag ag hx.2.2.1] at hv
      have z1 := rk_le hI.1 q0 (-1)
      have z2 := gs_cu_rng (m 5) (m 5 b) 5
      have z3 := (la_el_cong (A := xm_row m (-1) (m 5 b)) (A' := xm_row m (-1) (m 5 b)) (fun _ _ _ _ _ _ => rfl) 5 (Nat.le_refl _)).2.1
      refine ⟨_, hv, by unfold xm_rk at z1 ⊢; constructor <;> omega, f1, fun _ => ?_, f3⟩
      rw [f2, h50]
    · exact absurd g hr
def S_isObservable (m M1 : en_M) (b c : Int) : Prop := cq M1 m ∧ ((c = 0 ∧ (0 ≤ b ∧ b < m 0 0) ∧ M1 50 0 = if xm_rk m (-1) (m 5 b) = gs_cu (m 5) (m 5 b) 5 then 1 else 0) ∨ (c = 1 ∧ ¬ (0 ≤ b ∧ b < m 0 0)))
theorem s_isObservable {m M1 : en_M} {r : Option en_V} {b : Int} (hI : INV m) (hp : (∃ v M1', (some (en_I v) = some (en_I (if xm_rk m (-1) (m 5 b) = gs_cu (m 5) (m 5 b) 5 then 1 else 0)) ∧ en_sc M1' m ∧ xr_ok M1' ∧ (0 ≤ b ∧ b < m 0 0)) ∧ r = some (en_I 0) ∧ M1 = en_set M1' 50 0 v) ∨ ∃ E, (E = eIO ∧ M1 = m ∧ ¬ (0 ≤ b ∧ b < m 0 0)) ∧ (E = eIO ∧ r = some (en_I 1))) : ∃ c, r = some (en_I c) ∧ en_i32 c ∧ S_isObservable m M1 b c := by
  rcases hp with ⟨v, M1', hq, rfl, rfl⟩ | ⟨E, ⟨-, rfl, hr⟩, -, rfl⟩
  · obtain ⟨hv, hs, ho, hr⟩ := hq
    have hv := en_inI hv
    exact ⟨0, rfl, by decide, cq_50 (cq_sc hs ho), Or.inl ⟨rfl, hr, by rw [en_set_at]; exact hv⟩⟩
  · exact ⟨1, rfl, by decide, cq_rf hI.2.2.2, Or.inr ⟨rfl, hr⟩⟩
theorem t_isObservable {m M1 M2 : en_M} {r : Option en_V} {b c : Int} (hI : INV m) (hs : S_isObservable m M1 b c) (hp : (¬ (0 ≤ b ∧ b < M1 51 1) ∧ r = some (en_I 0) ∧ M2 = en_set M1 51 0 1) ∨ ((0 ≤ b ∧ b < M1 51 1) ∧ r = some (en_I (if en_w64 (mg_D (mo_qm M1 0) (mo_dv M1 61 b) (-1)) = 0 then 0 else 1)) ∧ mo_fr M2 M1 0)) : fin_Z r c M2 := by
  obtain ⟨hc, hs⟩ := hs
  obtain ⟨h1, e1, e2, e7, ag⟩ := cq_f hI hc
  have hx := inv_xc hI
  have hx1 := inv_xc h1
  have nn := inv_n hI
  rcases hp with ⟨g, rfl, hf⟩ | ⟨g, hv, hf⟩
  · rw [e1] at g
    rcases hs with ⟨rfl, hr, -⟩ | ⟨rfl, hr⟩
    · exact absurd hr g
    · subst hf
      obtain ⟨f1, f2, f3⟩ := fq h1 (fr_51 M1 1)
      exact ⟨0, rfl, Or.inl rfl, f1, fun z => absurd z (by decide), f3⟩
  · rw [e1] at g
    rcases hs with ⟨rfl, hr, h50⟩ | ⟨rfl, hr⟩
    · skip
      obtain ⟨f1, f2, f3⟩ := fq h1 hf
      have q0 := (inv_rng hI b hr.1 (by omega)).1
      have ob := inv_ob h1 q0
      unfold xm_ob at ob
      rw [xm_rk_ag ag hx.2.2.1, ag 5 (by decide)] at ob
      rw [dv_b h1 hr.1 (by rw [ag 0 (by decide)]; exact hr.2), ag 5 (by decide)] at hv
      have ev : (if en_w64 (mg_D (mo_qm M1 0) (m 5 b) (-1)) = 0 then (0 : Int) else 1) = if xm_rk m (-1) (m 5 b) = gs_cu (m 5) (m 5 b) 5 then 1 else 0 := by
        by_cases c : xm_rk m (-1) (m 5 b) = gs_cu (m 5) (m 5 b) 5
        · rw [if_pos c, if_neg (ob.mpr c)]
        · rw [if_neg c, if_pos (Decidable.byContradiction (fun z => c (ob.mp z)))]
      rw [ev] at hv
      refine ⟨_, hv, by split <;> omega, f1, fun _ => ?_, f3⟩
      rw [f2, h50]
    · exact absurd g hr
def S_isCritical (m M1 : en_M) (i c : Int) : Prop := cq M1 m ∧ ((c = 0 ∧ (0 ≤ i ∧ i < m 21 1) ∧ M1 50 0 = if xm_nd m i then 1 else 0) ∨ (c = 1 ∧ ¬ (0 ≤ i ∧ i < m 21 1)))
theorem s_isCritical {m M1 : en_M} {r : Option en_V} {i : Int} (hI : INV m) (hp : (∃ v M1', (some (en_I v) = some (en_I (if xm_nd m i then 1 else 0)) ∧ en_sc M1' m ∧ xr_ok M1' ∧ (0 ≤ i ∧ i < m 21 1)) ∧ r = some (en_I 0) ∧ M1 = en_set M1' 50 0 v) ∨ ∃ E, (E = eIO ∧ M1 = m ∧ ¬ (0 ≤ i ∧ i < m 21 1)) ∧ (E = eIO ∧ r = some (en_I 1))) : ∃ c, r = some (en_I c) ∧ en_i32 c ∧ S_isCritical m M1 i c := by
  rcases hp with ⟨v, M1', hq, rfl, rfl⟩ | ⟨E, ⟨-, rfl, hr⟩, -, rfl⟩
  · obtain ⟨hv, hs, ho, hr⟩ := hq
    have hv := en_inI hv
    exact ⟨0, rfl, by decide, cq_50 (cq_sc hs ho), Or.inl ⟨rfl, hr, by rw [en_set_at]; exact hv⟩⟩
  · exact ⟨1, rfl, by decide, cq_rf hI.2.2.2, Or.inr ⟨rfl, hr⟩⟩
theorem t_isCritical {m M1 M2 : en_M} {r : Option en_V} {i c : Int} (hI : INV m) (hs : S_isCritical m M1 i c) (hp : (¬ (0 ≤ i ∧ i < M1 51 7) ∧ r = some (en_I 0) ∧ M2 = en_set M1 51 0 1) ∨ ((0 ≤ i ∧ i < M1 51 7) ∧ r = some (en_I (if mo_nd (mo_qm M1 0) i then 1 else 0)) ∧ mo_fr M2 M1 0)) : fin_Z r c M2 := by
  obtain ⟨hc, hs⟩ := hs
  obtain ⟨h1, e1, e2, e7, ag⟩ := cq_f hI hc
  have hx := inv_xc hI
  have hx1 := inv_xc h1
  have nn := inv_n hI
  rcases hp with ⟨g, rfl, hf⟩ | ⟨g, hv, hf⟩
  · rw [e7] at g
    rcases hs with ⟨rfl, hr, -⟩ | ⟨rfl, hr⟩
    · exact absurd hr g
    · subst hf
      obtain ⟨f1, f2, f3⟩ := fq h1 (fr_51 M1 1)
      exact ⟨0, rfl, Or.inl rfl, f1, fun z => absurd z (by decide), f3⟩
  · rw [e7] at g
    rcases hs with ⟨rfl, hr, h50⟩ | ⟨rfl, hr⟩
    · skip
      obtain ⟨f1, f2, f3⟩ := fq h1 hf
      have nd := lk_nd h1.1 hx1.2.2.1 hx1.2.2.2 hr.1 (by rw [ag 21 (by decide)]; exact hr.2)
      rw [xm_nd_ag ag hx.2.2.1] at nd
      have ev : (if mo_nd (mo_qm M1 0) i then (1 : Int) else 0) = if xm_nd m i then 1 else 0 := by
        by_cases c : xm_nd m i
        · rw [if_pos c, if_pos (nd.mpr c)]
        · rw [if_neg c, if_neg (fun z => c (nd.mp z))]
      rw [ev] at hv
      refine ⟨_, hv, by split <;> omega, f1, fun _ => ?_, f3⟩
      rw [f2, h50]
    · exact absurd g hr
