/-! LAW 3: estimates on both sides -/
def S_angleNumerator (m M1 : en_M) (b c : Int) : Prop := cq M1 m ∧ ((c = 0 ∧ (0 ≤ b ∧ b < m 0 0) ∧ (xm_ob m (m 5 b)) ∧ M1 50 0 = (gl_D m (m 5 b) b).tdiv (xg (gl_D m (m 5 b) b) (gl_D m (m 5 b) (-1)))) ∨ (c = 1 ∧ ¬ (0 ≤ b ∧ b < m 0 0)) ∨ (c = 2 ∧ (0 ≤ b ∧ b < m 0 0) ∧ (¬ xm_ob m (m 5 b))))
theorem s_angleNumerator {m M1 : en_M} {r : Option en_V} {b : Int} (hp : (∃ v M1', (some (en_L v) = some (en_L ((gl_D m (m 5 b) b).tdiv (xg (gl_D m (m 5 b) b) (gl_D m (m 5 b) (-1))))) ∧ en_sc M1' m ∧ xr_ok M1' ∧ (0 ≤ b ∧ b < m 0 0) ∧ (xm_ob m (m 5 b))) ∧ r = some (en_I 0) ∧ M1 = en_set M1' 50 0 v) ∨ ∃ E, (en_sc M1 m ∧ xr_ok M1 ∧ ((E = eIO ∧ ¬ (0 ≤ b ∧ b < m 0 0)) ∨ (E = eIS ∧ (0 ≤ b ∧ b < m 0 0) ∧ (¬ xm_ob m (m 5 b))))) ∧ ((E = eIO ∧ r = some (en_I 1)) ∨ (E = eIS ∧ r = some (en_I 2)))) : ∃ c, r = some (en_I c) ∧ en_i32 c ∧ S_angleNumerator m M1 b c := by
  rcases hp with ⟨v, M1', ⟨hv, hs, ho, hr, hb⟩, rfl, rfl⟩ | ⟨E, ⟨hs, ho, hx⟩, hc⟩
  · have hv := en_inL hv
    exact ⟨0, rfl, by decide, cq_50 (cq_sc hs ho), Or.inl ⟨rfl, hr, hb, by rw [en_set_at]; exact hv⟩⟩
  · rcases hx with ⟨hE, hr⟩ | ⟨hE, hr, hb⟩
    · rcases hc with ⟨-, rfl⟩ | ⟨hE2, -⟩
      · exact ⟨1, rfl, by decide, cq_sc hs ho, Or.inr (Or.inl ⟨rfl, hr⟩)⟩
      · exact absurd (hE.symm.trans hE2) ne_IO_IS
    · rcases hc with ⟨hE2, -⟩ | ⟨-, rfl⟩
      · exact absurd (hE2.symm.trans hE) ne_IO_IS
      · exact ⟨2, rfl, by decide, cq_sc hs ho, Or.inr (Or.inr ⟨rfl, hr, hb⟩)⟩
theorem t_angleNumerator {m M1 M2 : en_M} {r : Option en_V} {b c : Int} (hI : INV m) (hs : S_angleNumerator m M1 b c) (hp : (¬ (0 ≤ b ∧ b < M1 51 1) ∧ r = some (en_L 0) ∧ mo_fr M2 M1 1) ∨ ((0 ≤ b ∧ b < M1 51 1) ∧ en_w64 (mg_D (mo_qm M1 0) (mo_dv M1 61 b) (-1)) = 0 ∧ r = some (en_L 0) ∧ mo_fr M2 M1 2) ∨ ((0 ≤ b ∧ b < M1 51 1) ∧ en_w64 (mg_D (mo_qm M1 0) (mo_dv M1 61 b) (-1)) ≠ 0 ∧ r = some (en_L ((mo_tp (mo_qm M1 0) (mo_dv M1 61 b) b).tdiv (xg (mo_tp (mo_qm M1 0) (mo_dv M1 61 b) b) (mg_D (mo_qm M1 0) (mo_dv M1 61 b) (-1))))) ∧ mo_fr M2 M1 0)) : fin_L r c M2 := by
  obtain ⟨hc, hs⟩ := hs
  obtain ⟨h1, e1, e2, e7, ag⟩ := cq_f hI hc
  have hx := inv_xc hI
  have hx1 := inv_xc h1
  have nn := inv_n hI
  have dvb : (0 ≤ b ∧ b < m 0 0) → mo_dv M1 61 b = m 5 b := fun hr => by rw [dv_b h1 hr.1 (by rw [ag 0 (by decide)]; exact hr.2), ag 5 (by decide)]
  have obs : (0 ≤ b ∧ b < m 0 0) → (en_w64 (mg_D (mo_qm M1 0) (mo_dv M1 61 b) (-1)) ≠ 0 ↔ xm_ob m (m 5 b)) := fun hr => by
    have z := inv_ob h1 (inv_rng hI b hr.1 (by omega)).1
    rw [xm_ob_ag ag hx.2.2.1] at z
    rw [dvb hr]
    exact z
  rw [e1] at hp
  rcases hp with ⟨g, rfl, hf⟩ | ⟨g, g2, rfl, hf⟩ | ⟨g, g2, hv, hf⟩
  · obtain ⟨f1, f2, f3⟩ := fq h1 hf
    rcases hs with ⟨rfl, hr, -⟩ | ⟨rfl, hr⟩ | ⟨rfl, hr, -⟩
    · exact absurd hr g
    · exact ⟨0, rfl, f1, fun z => absurd z (by decide), f3⟩
    · exact absurd hr g
  · obtain ⟨f1, f2, f3⟩ := fq h1 hf
    rcases hs with ⟨rfl, hr, hb, -⟩ | ⟨rfl, hr⟩ | ⟨rfl, hr, -⟩
    · exact absurd g2 ((obs hr).mpr hb)
    · exact absurd g hr
    · exact ⟨0, rfl, f1, fun z => absurd z (by decide), f3⟩
  · obtain ⟨f1, f2, f3⟩ := fq h1 hf
    rcases hs with ⟨rfl, hr, hb, h50⟩ | ⟨rfl, hr⟩ | ⟨rfl, hr, hb⟩
    · rw [dvb hr, lk_tp h1.1 hr.1 (by rw [ag 0 (by decide)]; exact hr.2), lk_D h1.1, gl_D_ag ag hx.2.2.1, gl_D_ag ag hx.2.2.1] at hv
      refine ⟨_, hv, f1, fun _ => ?_, f3⟩
      rw [f2, h50]
    · exact absurd g hr
    · exact absurd ((obs hr).mp g2) hb
def S_angleDenominator (m M1 : en_M) (b c : Int) : Prop := cq M1 m ∧ ((c = 0 ∧ (0 ≤ b ∧ b < m 0 0) ∧ (xm_ob m (m 5 b)) ∧ M1 50 0 = (gl_D m (m 5 b) (-1)).tdiv (xg (gl_D m (m 5 b) b) (gl_D m (m 5 b) (-1)))) ∨ (c = 1 ∧ ¬ (0 ≤ b ∧ b < m 0 0)) ∨ (c = 2 ∧ (0 ≤ b ∧ b < m 0 0) ∧ (¬ xm_ob m (m 5 b))))
theorem s_angleDenominator {m M1 : en_M} {r : Option en_V} {b : Int} (hp : (∃ v M1', (some (en_L v) = some (en_L ((gl_D m (m 5 b) (-1)).tdiv (xg (gl_D m (m 5 b) b) (gl_D m (m 5 b) (-1))))) ∧ en_sc M1' m ∧ xr_ok M1' ∧ (0 ≤ b ∧ b < m 0 0) ∧ (xm_ob m (m 5 b))) ∧ r = some (en_I 0) ∧ M1 = en_set M1' 50 0 v) ∨ ∃ E, (en_sc M1 m ∧ xr_ok M1 ∧ ((E = eIO ∧ ¬ (0 ≤ b ∧ b < m 0 0)) ∨ (E = eIS ∧ (0 ≤ b ∧ b < m 0 0) ∧ (¬ xm_ob m (m 5 b))))) ∧ ((E = eIO ∧ r = some (en_I 1)) ∨ (E = eIS ∧ r = some (en_I 2)))) : ∃ c, r = some (en_I c) ∧ en_i32 c ∧ S_angleDenominator m M1 b c := by
  rcases hp with ⟨v, M1', ⟨hv, hs, ho, hr, hb⟩, rfl, rfl⟩ | ⟨E, ⟨hs, ho, hx⟩, hc⟩
  · have hv := en_inL hv
    exact ⟨0, rfl, by decide, cq_50 (cq_sc hs ho), Or.inl ⟨rfl, hr, hb, by rw [en_set_at]; exact hv⟩⟩
  · rcases hx with ⟨hE, hr⟩ | ⟨hE, hr, hb⟩
    · rcases hc with ⟨-, rfl⟩ | ⟨hE2, -⟩
      · exact ⟨1, rfl, by decide, cq_sc hs ho, Or.inr (Or.inl ⟨rfl, hr⟩)⟩
      · exact absurd (hE.symm.trans hE2) ne_IO_IS
    · rcases hc with ⟨hE2, -⟩ | ⟨-, rfl⟩
      · exact absurd (hE2.symm.trans hE) ne_IO_IS
      · exact ⟨2, rfl, by decide, cq_sc hs ho, Or.inr (Or.inr ⟨rfl, hr, hb⟩)⟩
theorem t_angleDenominator {m M1 M2 : en_M} {r : Option en_V} {b c : Int} (hI : INV m) (hs : S_angleDenominator m M1 b c) (hp : (¬ (0 ≤ b ∧ b < M1 51 1) ∧ r = some (en_L 0) ∧ mo_fr M2 M1 1) ∨ ((0 ≤ b ∧ b < M1 51 1) ∧ en_w64 (mg_D (mo_qm M1 0) (mo_dv M1 61 b) (-1)) = 0 ∧ r = some (en_L 0) ∧ mo_fr M2 M1 2) ∨ ((0 ≤ b ∧ b < M1 51 1) ∧ en_w64 (mg_D (mo_qm M1 0) (mo_dv M1 61 b) (-1)) ≠ 0 ∧ r = some (en_L ((mg_D (mo_qm M1 0) (mo_dv M1 61 b) (-1)).tdiv (xg (mo_tp (mo_qm M1 0) (mo_dv M1 61 b) b) (mg_D (mo_qm M1 0) (mo_dv M1 61 b) (-1))))) ∧ mo_fr M2 M1 0)) : fin_L r c M2 := by
  obtain ⟨hc, hs⟩ := hs
  obtain ⟨h1, e1, e2, e7, ag⟩ := cq_f hI hc
  have hx := inv_xc hI
  have hx1 := inv_xc h1
  have nn := inv_n hI
  have dvb : (0 ≤ b ∧ b < m 0 0) → mo_dv M1 61 b = m 5 b := fun hr => by rw [dv_b h1 hr.1 (by rw [ag 0 (by decide)]; exact hr.2), ag 5 (by decide)]
  have obs : (0 ≤ b ∧ b < m 0 0) → (en_w64 (mg_D (mo_qm M1 0) (mo_dv M1 61 b) (-1)) ≠ 0 ↔ xm_ob m (m 5 b)) := fun hr => by
    have z := inv_ob h1 (inv_rng hI b hr.1 (by omega)).1
    rw [xm_ob_ag ag hx.2.2.1] at z
    rw [dvb hr]
    exact z
  rw [e1] at hp
  rcases hp with ⟨g, rfl, hf⟩ | ⟨g, g2, rfl, hf⟩ | ⟨g, g2, hv, hf⟩
  · obtain ⟨f1, f2, f3⟩ := fq h1 hf
    rcases hs with ⟨rfl, hr, -⟩ | ⟨rfl, hr⟩ | ⟨rfl, hr, -⟩
    · exact absurd hr g
    · exact ⟨0, rfl, f1, fun z => absurd z (by decide), f3⟩
    · exact absurd hr g
  · obtain ⟨f1, f2, f3⟩ := fq h1 hf
    rcases hs with ⟨rfl, hr, hb, -⟩ | ⟨rfl, hr⟩ | ⟨rfl, hr, -⟩
    · exact absurd g2 ((obs hr).mpr hb)
    · exact absurd g hr
    · exact ⟨0, rfl, f1, fun z => absurd z (by decide), f3⟩
  · obtain ⟨f1, f2, f3⟩ := fq h1 hf
    rcases hs with ⟨rfl, hr, hb, h50⟩ | ⟨rfl, hr⟩ | ⟨rfl, hr, hb⟩
    · rw [dvb hr, lk_tp h1.1 hr.1 (by rw [ag 0 (by decide)]; exact hr.2), lk_D h1.1, gl_D_ag ag hx.2.2.1, gl_D_ag ag hx.2.2.1] at hv
      refine ⟨_, hv, f1, fun _ => ?_, f3⟩
      rw [f2, h50]
    · exact absurd g hr
    · exact absurd ((obs hr).mp g2) hb
def S_worst (m M1 : en_M) (b c : Int) : Prop := cq M1 m ∧ ((c = 0 ∧ (0 ≤ b ∧ b < m 0 0) ∧ (xm_ob m (m 5 b)) ∧ M1 50 0 = xe_wm m (m 5 b)) ∨ (c = 1 ∧ ¬ (0 ≤ b ∧ b < m 0 0)) ∨ (c = 2 ∧ (0 ≤ b ∧ b < m 0 0) ∧ (¬ xm_ob m (m 5 b))))
theorem s_worst {m M1 : en_M} {r : Option en_V} {b : Int} (hp : (∃ v M1', (some (en_I v) = some (en_I (xe_wm m (m 5 b))) ∧ en_sc M1' m ∧ xr_ok M1' ∧ (0 ≤ b ∧ b < m 0 0) ∧ (xm_ob m (m 5 b))) ∧ r = some (en_I 0) ∧ M1 = en_set M1' 50 0 v) ∨ ∃ E, (en_sc M1 m ∧ xr_ok M1 ∧ ((E = eIO ∧ ¬ (0 ≤ b ∧ b < m 0 0)) ∨ (E = eIS ∧ (0 ≤ b ∧ b < m 0 0) ∧ (¬ xm_ob m (m 5 b))))) ∧ ((E = eIO ∧ r = some (en_I 1)) ∨ (E = eIS ∧ r = some (en_I 2)))) : ∃ c, r = some (en_I c) ∧ en_i32 c ∧ S_worst m M1 b c := by
  rcases hp with ⟨v, M1', ⟨hv, hs, ho, hr, hb⟩, rfl, rfl⟩ | ⟨E, ⟨hs, ho, hx⟩, hc⟩
  · have hv := en_inI hv
    exact ⟨0, rfl, by decide, cq_50 (cq_sc hs ho), Or.inl ⟨rfl, hr, hb, by rw [en_set_at]; exact hv⟩⟩
  · rcases hx with ⟨hE, hr⟩ | ⟨hE, hr, hb⟩
    · rcases hc with ⟨-, rfl⟩ | ⟨hE2, -⟩
      · exact ⟨1, rfl, by decide, cq_sc hs ho, Or.inr (Or.inl ⟨rfl, hr⟩)⟩
      · exact absurd (hE.symm.trans hE2) ne_IO_IS
    · rcases hc with ⟨hE2, -⟩ | ⟨-, rfl⟩
      · exact absurd (hE2.symm.trans hE) ne_IO_IS
      · exact ⟨2, rfl, by decide, cq_sc hs ho, Or.inr (Or.inr ⟨rfl, hr, hb⟩)⟩
theorem t_worst {m M1 M2 : en_M} {r : Option en_V} {b c : Int} (hI : INV m) (hs : S_worst m M1 b c) (hp : (¬ (0 ≤ b ∧ b < M1 51 1) ∧ r = some (en_I 0) ∧ mo_fr M2 M1 1) ∨ ((0 ≤ b ∧ b < M1 51 1) ∧ en_w64 (mg_D (mo_qm M1 0) (mo_dv M1 61 b) (-1)) = 0 ∧ r = some (en_I 0) ∧ mo_fr M2 M1 2) ∨ ((0 ≤ b ∧ b < M1 51 1) ∧ en_w64 (mg_D (mo_qm M1 0) (mo_dv M1 61 b) (-1)) ≠ 0 ∧ r = some (en_I (mg_wm (mo_qm M1 0) (mo_dv M1 61 b))) ∧ mo_fr M2 M1 0)) : fin_I r c M2 := by
  obtain ⟨hc, hs⟩ := hs
  obtain ⟨h1, e1, e2, e7, ag⟩ := cq_f hI hc
  have hx := inv_xc hI
  have hx1 := inv_xc h1
  have nn := inv_n hI
  have dvb : (0 ≤ b ∧ b < m 0 0) → mo_dv M1 61 b = m 5 b := fun hr => by rw [dv_b h1 hr.1 (by rw [ag 0 (by decide)]; exact hr.2), ag 5 (by decide)]
  have obs : (0 ≤ b ∧ b < m 0 0) → (en_w64 (mg_D (mo_qm M1 0) (mo_dv M1 61 b) (-1)) ≠ 0 ↔ xm_ob m (m 5 b)) := fun hr => by
    have z := inv_ob h1 (inv_rng hI b hr.1 (by omega)).1
    rw [xm_ob_ag ag hx.2.2.1] at z
    rw [dvb hr]
    exact z
  rw [e1] at hp
  rcases hp with ⟨g, rfl, hf⟩ | ⟨g, g2, rfl, hf⟩ | ⟨g, g2, hv, hf⟩
  · obtain ⟨f1, f2, f3⟩ := fq h1 hf
    rcases hs with ⟨rfl, hr, -⟩ | ⟨rfl, hr⟩ | ⟨rfl, hr, -⟩
    · exact absurd hr g
    · exact ⟨0, rfl, by decide, f1, fun z => absurd z (by decide), f3⟩
    · exact absurd hr g
  · obtain ⟨f1, f2, f3⟩ := fq h1 hf
    rcases hs with ⟨rfl, hr, hb, -⟩ | ⟨rfl, hr⟩ | ⟨rfl, hr, -⟩
    · exact absurd g2 ((obs hr).mpr hb)
    · exact absurd g hr
    · exact ⟨0, rfl, by decide, f1, fun z => absurd z (by decide), f3⟩
  · obtain ⟨f1, f2, f3⟩ := fq h1 hf
    rcases hs with ⟨rfl, hr, hb, h50⟩ | ⟨rfl, hr⟩ | ⟨rfl, hr, hb⟩
    · rw [dvb hr, lk_wm h1.1 hx1.2.2.1 hx1.2.2.2, xe_wm_ag ag hx.2.2.1] at hv
      have w := xe_wm_rng hx.2.2.1 (m 5 b)
      refine ⟨_, hv, by constructor <;> omega, f1, fun _ => ?_, f3⟩
      rw [f2, h50]
    · exact absurd g hr
    · exact absurd ((obs hr).mp g2) hb
def S_residualNumerator (m M1 : en_M) (i c : Int) : Prop := cq M1 m ∧ ((c = 0 ∧ (0 ≤ i ∧ i < m 21 1) ∧ (xm_iu m i ≠ -1 ∧ xm_ob m (xm_iu m i)) ∧ M1 50 0 = (xe_rs m (xm_iu m i) i).tdiv (xg (xe_rs m (xm_iu m i) i) (gl_D m (xm_iu m i) (-1)))) ∨ (c = 1 ∧ ¬ (0 ≤ i ∧ i < m 21 1)) ∨ (c = 2 ∧ (0 ≤ i ∧ i < m 21 1) ∧ (xm_iu m i = -1 ∨ ¬ xm_ob m (xm_iu m i))))
theorem s_residualNumerator {m M1 : en_M} {r : Option en_V} {i : Int} (hp : (∃ v M1', (some (en_L v) = some (en_L ((xe_rs m (xm_iu m i) i).tdiv (xg (xe_rs m (xm_iu m i) i) (gl_D m (xm_iu m i) (-1))))) ∧ en_sc M1' m ∧ xr_ok M1' ∧ (0 ≤ i ∧ i < m 21 1) ∧ (xm_iu m i ≠ -1 ∧ xm_ob m (xm_iu m i))) ∧ r = some (en_I 0) ∧ M1 = en_set M1' 50 0 v) ∨ ∃ E, (en_sc M1 m ∧ xr_ok M1 ∧ ((E = eIO ∧ ¬ (0 ≤ i ∧ i < m 21 1)) ∨ (E = eIS ∧ (0 ≤ i ∧ i < m 21 1) ∧ (xm_iu m i = -1 ∨ ¬ xm_ob m (xm_iu m i))))) ∧ ((E = eIO ∧ r = some (en_I 1)) ∨ (E = eIS ∧ r = some (en_I 2)))) : ∃ c, r = some (en_I c) ∧ en_i32 c ∧ S_residualNumerator m M1 i c := by
  rcases hp with ⟨v, M1', ⟨hv, hs, ho, hr, hb⟩, rfl, rfl⟩ | ⟨E, ⟨hs, ho, hx⟩, hc⟩
  · have hv := en_inL hv
    exact ⟨0, rfl, by decide, cq_50 (cq_sc hs ho), Or.inl ⟨rfl, hr, hb, by rw [en_set_at]; exact hv⟩⟩
  · rcases hx with ⟨hE, hr⟩ | ⟨hE, hr, hb⟩
    · rcases hc with ⟨-, rfl⟩ | ⟨hE2, -⟩
      · exact ⟨1, rfl, by decide, cq_sc hs ho, Or.inr (Or.inl ⟨rfl, hr⟩)⟩
      · exact absurd (hE.symm.trans hE2) ne_IO_IS
    · rcases hc with ⟨hE2, -⟩ | ⟨-, rfl⟩
      · exact absurd (hE2.symm.trans hE) ne_IO_IS
      · exact ⟨2, rfl, by decide, cq_sc hs ho, Or.inr (Or.inr ⟨rfl, hr, hb⟩)⟩
theorem t_residualNumerator {m M1 M2 : en_M} {r : Option en_V} {i c : Int} (hI : INV m) (hs : S_residualNumerator m M1 i c) (hp : (¬ (0 ≤ i ∧ i < M1 51 7) ∧ r = some (en_L 0) ∧ mo_fr M2 M1 1) ∨ ((0 ≤ i ∧ i < M1 51 7) ∧ ¬ (mo_iu (mo_qm M1 0) i ≠ -1 ∧ en_w64 (mg_D (mo_qm M1 0) (mo_iu (mo_qm M1 0) i) (-1)) ≠ 0) ∧ r = some (en_L 0) ∧ mo_fr M2 M1 2) ∨ ((0 ≤ i ∧ i < M1 51 7) ∧ (mo_iu (mo_qm M1 0) i ≠ -1 ∧ en_w64 (mg_D (mo_qm M1 0) (mo_iu (mo_qm M1 0) i) (-1)) ≠ 0) ∧ r = some (en_L ((mg_rs (mo_qm M1 0) (mo_iu (mo_qm M1 0) i) i).tdiv (xg (mg_rs (mo_qm M1 0) (mo_iu (mo_qm M1 0) i) i) (mg_D (mo_qm M1 0) (mo_iu (mo_qm M1 0) i) (-1))))) ∧ mo_fr M2 M1 0)) : fin_L r c M2 := by
  obtain ⟨hc, hs⟩ := hs
  obtain ⟨h1, e1, e2, e7, ag⟩ := cq_f hI hc
  have hx := inv_xc hI
  have hx1 := inv_xc h1
  have nn := inv_n hI
  have iub : (0 ≤ i ∧ i < m 21 1) → mo_iu (mo_qm M1 0) i = xm_iu m i := fun hr => by rw [lk_iu h1.1.1 h1.1.2.1 h1.1.2.2.1 h1.1.2.2.2.1 hr.1 (by rw [ag 21 (by decide)]; exact hr.2), xm_iu_ag ag]
  have obs : (0 ≤ i ∧ i < m 21 1) → xm_iu m i ≠ -1 → (en_w64 (mg_D (mo_qm M1 0) (mo_iu (mo_qm M1 0) i) (-1)) ≠ 0 ↔ xm_ob m (xm_iu m i)) := fun hr hn => by
    have z := inv_ob h1 (q := xm_iu m i) (by have w := inv_iu hI hr.1 hr.2; omega)
    rw [xm_ob_ag ag hx.2.2.1] at z
    rw [iub hr]
    exact z
  rw [e7] at hp
  rcases hp with ⟨g, rfl, hf⟩ | ⟨g, g2, rfl, hf⟩ | ⟨g, g2, hv, hf⟩
  · obtain ⟨f1, f2, f3⟩ := fq h1 hf
    rcases hs with ⟨rfl, hr, -⟩ | ⟨rfl, hr⟩ | ⟨rfl, hr, -⟩
    · exact absurd hr g
    · exact ⟨0, rfl, f1, fun z => absurd z (by decide), f3⟩
    · exact absurd hr g
  · obtain ⟨f1, f2, f3⟩ := fq h1 hf
    rcases hs with ⟨rfl, hr, hb, -⟩ | ⟨rfl, hr⟩ | ⟨rfl, hr, -⟩
    · exact absurd ⟨by rw [iub hr]; exact hb.1, (obs hr hb.1).mpr hb.2⟩ g2
    · exact absurd g hr
    · exact ⟨0, rfl, f1, fun z => absurd z (by decide), f3⟩
  · obtain ⟨f1, f2, f3⟩ := fq h1 hf
    rcases hs with ⟨rfl, hr, hb, h50⟩ | ⟨rfl, hr⟩ | ⟨rfl, hr, hb⟩
    · rw [iub hr, lk_rs h1.1 hr.1 (by rw [ag 21 (by decide)]; exact hr.2), lk_D h1.1, gl_D_ag ag hx.2.2.1, xe_rs_ag ag hx.2.2.1 (hx.2.2.1.2.1 i hr.1 hr.2).1] at hv
      refine ⟨_, hv, f1, fun _ => ?_, f3⟩
      rw [f2, h50]
    · exact absurd g hr
    · have n1 : xm_iu m i ≠ -1 := by rw [← iub hr]; exact g2.1
      rcases hb with hb | hb
      · exact absurd hb n1
      · exact absurd ((obs hr n1).mp g2.2) hb
def S_residualDenominator (m M1 : en_M) (i c : Int) : Prop := cq M1 m ∧ ((c = 0 ∧ (0 ≤ i ∧ i < m 21 1) ∧ (xm_iu m i ≠ -1 ∧ xm_ob m (xm_iu m i)) ∧ M1 50 0 = (gl_D m (xm_iu m i) (-1)).tdiv (xg (xe_rs m (xm_iu m i) i) (gl_D m (xm_iu m i) (-1)))) ∨ (c = 1 ∧ ¬ (0 ≤ i ∧ i < m 21 1)) ∨ (c = 2 ∧ (0 ≤ i ∧ i < m 21 1) ∧ (xm_iu m i = -1 ∨ ¬ xm_ob m (xm_iu m i))))
theorem s_residualDenominator {m M1 : en_M} {r : Option en_V} {i : Int} (hp : (∃ v M1', (some (en_L v) = some (en_L ((gl_D m (xm_iu m i) (-1)).tdiv (xg (xe_rs m (xm_iu m i) i) (gl_D m (xm_iu m i) (-1))))) ∧ en_sc M1' m ∧ xr_ok M1' ∧ (0 ≤ i ∧ i < m 21 1) ∧ (xm_iu m i ≠ -1 ∧ xm_ob m (xm_iu m i))) ∧ r = some (en_I 0) ∧ M1 = en_set M1' 50 0 v) ∨ ∃ E, (en_sc M1 m ∧ xr_ok M1 ∧ ((E = eIO ∧ ¬ (0 ≤ i ∧ i < m 21 1)) ∨ (E = eIS ∧ (0 ≤ i ∧ i < m 21 1) ∧ (xm_iu m i = -1 ∨ ¬ xm_ob m (xm_iu m i))))) ∧ ((E = eIO ∧ r = some (en_I 1)) ∨ (E = eIS ∧ r = some (en_I 2)))) : ∃ c, r = some (en_I c) ∧ en_i32 c ∧ S_residualDenominator m M1 i c := by
  rcases hp with ⟨v, M1', ⟨hv, hs, ho, hr, hb⟩, rfl, rfl⟩ | ⟨E, ⟨hs, ho, hx⟩, hc⟩
  · have hv := en_inL hv
    exact ⟨0, rfl, by decide, cq_50 (cq_sc hs ho), Or.inl ⟨rfl, hr, hb, by rw [en_set_at]; exact hv⟩⟩
  · rcases hx with ⟨hE, hr⟩ | ⟨hE, hr, hb⟩
    · rcases hc with ⟨-, rfl⟩ | ⟨hE2, -⟩
      · exact ⟨1, rfl, by decide, cq_sc hs ho, Or.inr (Or.inl ⟨rfl, hr⟩)⟩
      · exact absurd (hE.symm.trans hE2) ne_IO_IS
    · rcases hc with ⟨hE2, -⟩ | ⟨-, rfl⟩
      · exact absurd (hE2.symm.trans hE) ne_IO_IS
      · exact ⟨2, rfl, by decide, cq_sc hs ho, Or.inr (Or.inr ⟨rfl, hr, hb⟩)⟩
theorem t_residualDenominator {m M1 M2 : en_M} {r : Option en_V} {i c : Int} (hI : INV m) (hs : S_residualDenominator m M1 i c) (hp : (¬ (0 ≤ i ∧ i < M1 51 7) ∧ r = some (en_L 0) ∧ mo_fr M2 M1 1) ∨ ((0 ≤ i ∧ i < M1 51 7) ∧ ¬ (mo_iu (mo_qm M1 0) i ≠ -1 ∧ en_w64 (mg_D (mo_qm M1 0) (mo_iu (mo_qm M1 0) i) (-1)) ≠ 0) ∧ r = some (en_L 0) ∧ mo_fr M2 M1 2) ∨ ((0 ≤ i ∧ i < M1 51 7) ∧ (mo_iu (mo_qm M1 0) i ≠ -1 ∧ en_w64 (mg_D (mo_qm M1 0) (mo_iu (mo_qm M1 0) i) (-1)) ≠ 0) ∧ r = some (en_L ((mg_D (mo_qm M1 0) (mo_iu (mo_qm M1 0) i) (-1)).tdiv (xg (mg_rs (mo_qm M1 0) (mo_iu (mo_qm M1 0) i) i) (mg_D (mo_qm M1 0) (mo_iu (mo_qm M1 0) i) (-1))))) ∧ mo_fr M2 M1 0)) : fin_L r c M2 := by
  obtain ⟨hc, hs⟩ := hs
  obtain ⟨h1, e1, e2, e7, ag⟩ := cq_f hI hc
  have hx := inv_xc hI
  have hx1 := inv_xc h1
  have nn := inv_n hI
  have iub : (0 ≤ i ∧ i < m 21 1) → mo_iu (mo_qm M1 0) i = xm_iu m i := fun hr => by rw [lk_iu h1.1.1 h1.1.2.1 h1.1.2.2.1 h1.1.2.2.2.1 hr.1 (by rw [ag 21 (by decide)]; exact hr.2), xm_iu_ag ag]
  have obs : (0 ≤ i ∧ i < m 21 1) → xm_iu m i ≠ -1 → (en_w64 (mg_D (mo_qm M1 0) (mo_iu (mo_qm M1 0) i) (-1)) ≠ 0 ↔ xm_ob m (xm_iu m i)) := fun hr hn => by
    have z := inv_ob h1 (q := xm_iu m i) (by have w := inv_iu hI hr.1 hr.2; omega)
    rw [xm_ob_ag ag hx.2.2.1] at z
    rw [iub hr]
    exact z
  rw [e7] at hp
  rcases hp with ⟨g, rfl, hf⟩ | ⟨g, g2, rfl, hf⟩ | ⟨g, g2, hv, hf⟩
  · obtain ⟨f1, f2, f3⟩ := fq h1 hf
    rcases hs with ⟨rfl, hr, -⟩ | ⟨rfl, hr⟩ | ⟨rfl, hr, -⟩
    · exact absurd hr g
    · exact ⟨0, rfl, f1, fun z => absurd z (by decide), f3⟩
    · exact absurd hr g
  · obtain ⟨f1, f2, f3⟩ := fq h1 hf
    rcases hs with ⟨rfl, hr, hb, -⟩ | ⟨rfl, hr⟩ | ⟨rfl, hr, -⟩
    · exact absurd ⟨by rw [iub hr]; exact hb.1, (obs hr hb.1).mpr hb.2⟩ g2
    · exact absurd g hr
    · exact ⟨0, rfl, f1, fun z => absurd z (by decide), f3⟩
  · obtain ⟨f1, f2, f3⟩ := fq h1 hf
    rcases hs with ⟨rfl, hr, hb, h50⟩ | ⟨rfl, hr⟩ | ⟨rfl, hr, hb⟩
    · rw [iub hr, lk_rs h1.1 hr.1 (by rw [ag 21 (by decide)]; exact hr.2), lk_D h1.1, gl_D_ag ag hx.2.2.1, xe_rs_ag ag hx.2.2.1 (hx.2.2.1.2.1 i hr.1 hr.2).1] at hv
      refine ⟨_, hv, f1, fun _ => ?_, f3⟩
      rw [f2, h50]
    · exact absurd g hr
    · have n1 : xm_iu m i ≠ -1 := by rw [← iub hr]; exact g2.1
      rcases hb with hb | hb
      · exact absurd hb n1
      · exact absurd ((obs hr n1).mp g2.2) hb
