/-! LAW 4: calls that change something, on both sides -/
theorem gs_hb_cong {fi se fi' se' : Int → Int} {b o : Int} : ∀ n : Nat, (∀ j, 0 ≤ j → j < (n : Int) → fi j = fi' j ∧ se j = se' j) → gs_hb fi se b o n = gs_hb fi' se' b o n
  | 0, _ => rfl
  | n + 1, h => by
    have e := h (n : Int) (by omega) (by omega)
    simp only [gs_hb]
    rw [gs_hb_cong n (fun j j0 j1 => h j j0 (by omega)), e.1, e.2]
theorem gs_is_cong {R R' : Int → Int} : ∀ n : Nat, (∀ b, 0 ≤ b → b < (n : Int) → R b = R' b) → gs_is R n = gs_is R' n
  | 0, _ => rfl
  | n + 1, h => by
    have e := h (n : Int) (by omega) (by omega)
    simp only [gs_is]
    rw [gs_is_cong n (fun j j0 j1 => h j j0 (by omega)), e]
def upd1 (f : Int → Int) (i x : Int) : Int → Int := fun j => if j = i then x else f j
theorem en_set_f {m : en_M} {k i x : Int} : en_set m k i x k = upd1 (m k) i x := by
  funext j
  unfold en_set upd1
  by_cases e : j = i <;> simp [e]
theorem upd1_at {f : Int → Int} {i x : Int} : upd1 f i x i = x := if_pos rfl
theorem upd1_ne {f : Int → Int} {i x j : Int} (h : j ≠ i) : upd1 f i x j = f j := if_neg h
/-! addLine -/
theorem xa_k {m : en_M} {f s g k : Int} (h0 : k ≠ 0) (h1 : k ≠ 1) (h2 : k ≠ 2) (h3 : k ≠ 3) (h4 : k ≠ 4) : xm_ap m f s g k = m k := by
  unfold xm_ap
  rw [en_set_ne h0, en_set_ne h4, en_set_ne h3, en_set_ne h2, en_set_ne h1]
theorem xa_0 {m : en_M} {f s g : Int} : xm_ap m f s g 0 = upd1 (m 0) 1 (m 0 1 + 1) := by
  unfold xm_ap
  rw [en_set_f, en_set_ne (by decide), en_set_ne (by decide), en_set_ne (by decide), en_set_ne (by decide)]
theorem xa_1 {m : en_M} {f s g : Int} : xm_ap m f s g 1 = upd1 (m 1) (m 0 1) f := by
  unfold xm_ap
  rw [en_set_ne (by decide), en_set_ne (by decide), en_set_ne (by decide), en_set_ne (by decide), en_set_f]
theorem xa_2 {m : en_M} {f s g : Int} : xm_ap m f s g 2 = upd1 (m 2) (m 0 1) s := by
  unfold xm_ap
  rw [en_set_ne (by decide), en_set_ne (by decide), en_set_ne (by decide), en_set_f, en_set_ne (by decide)]
theorem xa_3 {m : en_M} {f s g : Int} : xm_ap m f s g 3 = upd1 (m 3) (m 0 1) g := by
  unfold xm_ap
  rw [en_set_ne (by decide), en_set_ne (by decide), en_set_f, en_set_ne (by decide), en_set_ne (by decide)]
theorem xa_4 {m : en_M} {f s g : Int} : xm_ap m f s g 4 = upd1 (m 4) (m 0 1) 1 := by
  unfold xm_ap
  rw [en_set_ne (by decide), en_set_f, en_set_ne (by decide), en_set_ne (by decide), en_set_ne (by decide)]
theorem oa_k {m : en_M} {f s g k : Int} (h1 : k ≠ 51) (h2 : k ≠ 52) (h3 : k ≠ 53) (h4 : k ≠ 54) (h5 : k ≠ 55) : mo_ap m f s g k = m k := by
  unfold mo_ap
  rw [en_set_ne h1, en_set_ne h5, en_set_ne h4, en_set_ne h3, en_set_ne h2, en_set_ne h1]
theorem oa_51 {m : en_M} {f s g : Int} : mo_ap m f s g 51 = upd1 (upd1 (m 51) 0 0) 2 (m 51 2 + 1) := by
  unfold mo_ap
  rw [en_set_f, en_set_ne (by decide), en_set_ne (by decide), en_set_ne (by decide), en_set_ne (by decide), en_set_f]
theorem oa_52 {m : en_M} {f s g : Int} : mo_ap m f s g 52 = upd1 (m 52) (m 51 2) f := by
  unfold mo_ap
  rw [en_set_ne (by decide), en_set_ne (by decide), en_set_ne (by decide), en_set_ne (by decide), en_set_f, en_set_ne (by decide)]
theorem oa_53 {m : en_M} {f s g : Int} : mo_ap m f s g 53 = upd1 (m 53) (m 51 2) s := by
  unfold mo_ap
  rw [en_set_ne (by decide), en_set_ne (by decide), en_set_ne (by decide), en_set_f, en_set_ne (by decide), en_set_ne (by decide)]
theorem oa_54 {m : en_M} {f s g : Int} : mo_ap m f s g 54 = upd1 (m 54) (m 51 2) g := by
  unfold mo_ap
  rw [en_set_ne (by decide), en_set_ne (by decide), en_set_f, en_set_ne (by decide), en_set_ne (by decide), en_set_ne (by decide)]
theorem oa_55 {m : en_M} {f s g : Int} : mo_ap m f s g 55 = upd1 (m 55) (m 51 2) 1 := by
  unfold mo_ap
  rw [en_set_ne (by decide), en_set_f, en_set_ne (by decide), en_set_ne (by decide), en_set_ne (by decide), en_set_ne (by decide)]
theorem mo_al_g {M m : en_M} (h : mg_ag M m) (f s g : Int) : mo_al M f s g = mo_al m f s g := by
  unfold mo_al
  rw [h 51 (by decide), h 52 (by decide), h 53 (by decide)]
theorem inv_add {m : en_M} (h : INV m) {f s g : Int} (f0 : 0 ≤ f ∧ f < m 0 0) (s0 : 0 ≤ s ∧ s < m 0 0) (hfs : f ≠ s) (g0 : 1 ≤ g ∧ g ≤ 2) (n8 : m 0 1 < 8) (hb : gs_hb (m 1) (m 2) f s (m 0 1).toNat = false) (v : Int) : INV (mo_ap (en_set (xm_fl (xm_ap m f s g)) 50 0 v) f s g) := by
  have n := inv_n h
  obtain ⟨⟨hk, hl, hm, h5, hg, hne⟩, hu, hz, ho⟩ := id h
  obtain ⟨k1, k2, k3, k4, k5, k6, k7, k8, k9, k10, k11, k12⟩ := hk
  have a01 : xm_ap m f s g 0 1 = m 0 1 + 1 := by rw [xa_0, upd1_at]
  have a00 : xm_ap m f s g 0 0 = m 0 0 := by rw [xa_0, upd1_ne (by decide)]
  have h1 : 0 ≤ xm_ap m f s g 0 1 ∧ xm_ap m f s g 0 1 ≤ 8 := by rw [a01]; omega
  have e : ∀ k : Int, k ≠ 5 → k ≠ 50 → (k < 8 ∨ 21 ≤ k) → en_set (xm_fl (xm_ap m f s g)) 50 0 v k = xm_ap m f s g k := fun k q1 q2 q3 => by rw [en_set_ne q2, fl_k h1 q1 q3]
  have e51 : en_set (xm_fl (xm_ap m f s g)) 50 0 v 51 = m 51 := by rw [e 51 (by decide) (by decide) (by decide), xa_k (by decide) (by decide) (by decide) (by decide) (by decide)]
  have em : ∀ k : Int, 21 ≤ k → k ≠ 50 → en_set (xm_fl (xm_ap m f s g)) 50 0 v k = m k := fun k q1 q2 => by rw [e k (by omega) q2 (Or.inr q1), xa_k (by omega) (by omega) (by omega) (by omega) (by omega)]
  have lt : ∀ j, j < m 0 1 → j ≠ m 0 1 := fun j hj => by omega
  refine inv_of h1 (fun k hk9 => ?_) ?_ ?_ ?_ ?_ ?_ ?_ ?_
  · rw [oa_k (by omega) (by omega) (by omega) (by omega) (by omega), en_set_ne (by omega)]
  · intro j b j0 j1 b0 b1
    rw [a01] at j0
    rw [xa_k (by omega) (by omega) (by omega) (by omega) (by omega)]
    exact hz j b (by omega) j1 b0 b1
  · unfold xl_k
    have ek : ∀ k : Int, k < 51 ∨ 55 < k → mo_ap (en_set (xm_fl (xm_ap m f s g)) 50 0 v) f s g k = en_set (xm_fl (xm_ap m f s g)) 50 0 v k := fun k q => oa_k (by omega) (by omega) (by omega) (by omega) (by omega)
    rw [oa_51, oa_52, oa_53, oa_54, oa_55, e51, em 52 (by decide) (by decide), em 53 (by decide) (by decide), em 54 (by decide) (by decide), em 55 (by decide) (by decide), ek 0 (by decide), ek 21 (by decide), ek 1 (by decide), ek 2 (by decide), ek 3 (by decide), ek 4 (by decide), ek 56 (by decide), ek 57 (by decide), ek 58 (by decide), ek 59 (by decide), ek 60 (by decide), ek 22 (by decide), ek 23 (by decide), ek 24 (by decide), ek 25 (by decide), ek 26 (by decide), e 0 (by decide) (by decide) (by decide), e 1 (by decide) (by decide) (by decide), e 2 (by decide) (by decide) (by decide), e 3 (by decide) (by decide) (by decide), e 4 (by decide) (by decide) (by decide), em 21 (by decide) (by decide), em 22 (by decide) (by decide), em 23 (by decide) (by decide), em 24 (by decide) (by decide), em 25 (by decide) (by decide), em 26 (by decide) (by decide), em 56 (by decide) (by decide), em 57 (by decide) (by decide), em 58 (by decide) (by decide), em 59 (by decide) (by decide), em 60 (by decide) (by decide), xa_1, xa_2, xa_3, xa_4, a00, a01, k4, k5, k6, k7, k2]
    refine ⟨?_, ?_, ?_, rfl, rfl, rfl, rfl, k8, k9, k10, k11, k12⟩
    · rw [upd1_ne (by decide), upd1_ne (by decide), k1]
    · rw [upd1_at]
    · rw [upd1_ne (by decide), upd1_ne (by decide), k3]
  · unfold xo_ln
    rw [oa_51, oa_52, oa_53, oa_54, oa_55, e51, em 52 (by decide) (by decide), em 53 (by decide) (by decide), em 54 (by decide) (by decide), em 55 (by decide) (by decide), upd1_at, upd1_ne (by decide), upd1_ne (by decide), k2, k1]
    refine ⟨n.1, by omega, fun j j0 j1 => ?_⟩
    by_cases ej : j = m 0 1
    · rw [ej, upd1_at, upd1_at, upd1_at, upd1_at]
      exact ⟨f0, s0, Or.inr rfl, g0⟩
    · rw [upd1_ne ej, upd1_ne ej, upd1_ne ej, upd1_ne ej]
      have z := hl.2.2 j j0 (by omega)
      rw [k1] at z
      exact z
  · unfold xo_mt xo_m
    have ek : ∀ k : Int, 55 < k → mo_ap (en_set (xm_fl (xm_ap m f s g)) 50 0 v) f s g k = m k := fun k q => by rw [oa_k (by omega) (by omega) (by omega) (by omega) (by omega), em k (by omega) (by omega)]
    rw [oa_51, e51, ek 56 (by decide), ek 57 (by decide), ek 58 (by decide), ek 59 (by decide), ek 60 (by decide), upd1_at, upd1_ne (j := 7) (by decide), upd1_ne (j := 7) (by decide), upd1_ne (j := 1) (by decide), upd1_ne (j := 1) (by decide)]
    refine ⟨hm.1, fun i i0 i1 => ?_⟩
    obtain ⟨z1, z2⟩ := hm.2 i i0 i1
    refine ⟨?_, z2⟩
    rcases z1 with ⟨a, b, c⟩ | ⟨a, b, c⟩
    · exact Or.inl ⟨a, b, c⟩
    · exact Or.inr ⟨a, b, by omega⟩
  · intro j j0 j1
    rw [a01] at j1
    rw [xa_1, xa_2]
    by_cases ej : j = m 0 1
    · rw [ej, upd1_at, upd1_at]
      exact hfs
    · rw [upd1_ne ej, upd1_ne ej]
      exact hne j j0 (by omega)
  · intro k hk9
    rw [a01] at hk9
    rw [xa_1, xa_2, gs_hb_cong (fi' := m 1) (se' := m 2) k (fun j j0 j1 => ⟨upd1_ne (by omega), upd1_ne (by omega)⟩)]
    by_cases ej : (k : Int) = m 0 1
    · rw [ej, upd1_at, upd1_at, show k = (m 0 1).toNat by omega]
      exact hb
    · rw [upd1_ne ej, upd1_ne ej]
      exact hu k (by omega)
  · refine xr_ok_k ?_ ho
    rw [oa_k (by decide) (by decide) (by decide) (by decide) (by decide), em 28 (by decide) (by decide)]
def S_addLine (m M1 : en_M) (f s g c : Int) : Prop := c = mo_al m f s g ∧ ((c = 0 ∧ ((0 ≤ f ∧ f < m 0 0) ∧ (0 ≤ s ∧ s < m 0 0) ∧ f ≠ s ∧ (1 ≤ g ∧ g ≤ 2) ∧ m 0 1 < 8 ∧ gs_hb (m 1) (m 2) f s (m 0 1).toNat = false) ∧ M1 = en_set (xm_fl (xm_ap m f s g)) 50 0 (m 0 1)) ∨ (c ≠ 0 ∧ M1 = m))
theorem s_addLine {m M1 : en_M} {r : Option en_V} {f s g : Int} (hI : INV m) (hp : (∃ v M1', (some (en_I v) = some (en_I (m 0 1)) ∧ M1' = xm_fl (xm_ap m f s g) ∧ (0 ≤ f ∧ f < m 0 0) ∧ (0 ≤ s ∧ s < m 0 0) ∧ f ≠ s ∧ (1 ≤ g ∧ g ≤ 2) ∧ m 0 1 < 8 ∧ gs_hb (m 1) (m 2) f s (m 0 1).toNat = false) ∧ r = some (en_I 0) ∧ M1 = en_set M1' 50 0 v) ∨ ∃ E, (M1 = m ∧ ((E = eIO ∧ ¬ ((0 ≤ f ∧ f < m 0 0) ∧ (0 ≤ s ∧ s < m 0 0))) ∨ (E = eIA ∧ ((0 ≤ f ∧ f < m 0 0) ∧ (0 ≤ s ∧ s < m 0 0)) ∧ ¬ (f ≠ s ∧ (1 ≤ g ∧ g ≤ 2))) ∨ (E = eIS ∧ ((0 ≤ f ∧ f < m 0 0) ∧ (0 ≤ s ∧ s < m 0 0)) ∧ (f ≠ s ∧ (1 ≤ g ∧ g ≤ 2)) ∧ ¬ (m 0 1 < 8 ∧ gs_hb (m 1) (m 2) f s (m 0 1).toNat = false)))) ∧ ((E = eIO ∧ r = some (en_I 1)) ∨ (E = eIA ∧ r = some (en_I 2)) ∨ (E = eIS ∧ r = some (en_I 3)))) : ∃ c, r = some (en_I c) ∧ en_i32 c ∧ S_addLine m M1 f s g c := by
  have n := inv_n hI
  have hk := hI.1.1
  unfold S_addLine mo_al
  rw [hk.1, hk.2.1, hk.2.2.2.1, hk.2.2.2.2.1]
  rcases hp with ⟨v, M1', ⟨hv, rfl, a1, a2, a3, a4, a5, a6⟩, rfl, rfl⟩ | ⟨E, ⟨rfl, hx⟩, hc⟩
  · have hv := en_inI hv
    subst hv
    refine ⟨0, rfl, by decide, ?_, Or.inl ⟨rfl, ⟨a1, a2, a3, a4, a5, a6⟩, rfl⟩⟩
    rw [if_neg (fun z => z ⟨a1, a2⟩), if_neg (fun z => by rcases z with z | z; exact a3 z; exact z a4), if_neg (fun z => by rcases z with z | z; rw [a6] at z; cases z; omega)]
  · rcases hx with ⟨e1, b1⟩ | ⟨e1, b1, b2⟩ | ⟨e1, b1, b2, b3⟩
    · rcases hc with ⟨-, rfl⟩ | ⟨e2, -⟩ | ⟨e2, -⟩
      · exact ⟨1, rfl, by decide, by rw [if_pos b1], Or.inr ⟨by decide, rfl⟩⟩
      · exact absurd (e1.symm.trans e2) ne_IO_IA
      · exact absurd (e1.symm.trans e2) ne_IO_IS
    · rcases hc with ⟨e2, -⟩ | ⟨-, rfl⟩ | ⟨e2, -⟩
      · exact absurd (e2.symm.trans e1) ne_IO_IA
      · refine ⟨2, rfl, by decide, ?_, Or.inr ⟨by decide, rfl⟩⟩
        rw [if_neg (fun z => z b1), if_pos]
        by_cases q : f = s
        · exact Or.inl q
        · exact Or.inr (fun z => b2 ⟨q, z⟩)
      · exact absurd (e1.symm.trans e2) ne_IA_IS
    · rcases hc with ⟨e2, -⟩ | ⟨e2, -⟩ | ⟨-, rfl⟩
      · exact absurd (e2.symm.trans e1) ne_IO_IS
      · exact absurd (e2.symm.trans e1) ne_IA_IS
      · refine ⟨3, rfl, by decide, ?_, Or.inr ⟨by decide, rfl⟩⟩
        rw [if_neg (fun z => z b1), if_neg (fun z => by rcases z with z | z; exact b2.1 z; exact z b2.2), if_pos]
        by_cases q : M1 0 1 < 8
        · left
          cases hh : gs_hb (M1 1) (M1 2) f s (M1 0 1).toNat with
          | true => rfl
          | false => exact absurd ⟨q, hh⟩ b3
        · right
          omega
theorem g_addLine {m M1 : en_M} {f s g c : Int} (hI : INV m) (hs : S_addLine m M1 f s g c) : mg_ag M1 m := by
  rcases hs.2 with ⟨-, ⟨a1, a2, a3, a4, a5, a6⟩, rfl⟩ | ⟨-, rfl⟩
  · have n := inv_n hI
    intro k hk
    rw [en_set_ne (by omega), fl_k (by rw [xa_0, upd1_at]; omega) (by omega) (by omega), xa_k (by omega) (by omega) (by omega) (by omega) (by omega)]
  · exact fun k hk => rfl
theorem t_addLine {m M1 M2 : en_M} {r : Option en_V} {f s g c : Int} (hI : INV m) (hs : S_addLine m M1 f s g c) (hp : (mo_al M1 f s g ≠ 0 ∧ r = some (en_I 0) ∧ M2 = en_set M1 51 0 (mo_al M1 f s g)) ∨ (mo_al M1 f s g = 0 ∧ r = some (en_I (M1 51 2)) ∧ M2 = mo_ap M1 f s g)) : fin_I r c M2 := by
  have n := inv_n hI
  have ga := g_addLine hI hs
  rw [mo_al_g ga, ← hs.1] at hp
  obtain ⟨hc, hs⟩ := hs
  rcases hp with ⟨h1, rfl, rfl⟩ | ⟨h1, rfl, rfl⟩
  · rcases hs with ⟨z, -⟩ | ⟨-, rfl⟩
    · exact absurd z h1
    · obtain ⟨f1, f2, f3⟩ := fq hI (fr_51 M1 c)
      exact ⟨0, rfl, by decide, f1, fun z => absurd z h1, f3⟩
  · rcases hs with ⟨-, ⟨a1, a2, a3, a4, a5, a6⟩, rfl⟩ | ⟨z, -⟩
    · refine ⟨_, rfl, ?_, ?_, fun _ => ?_, inv_add hI a1 a2 a3 a4 a5 a6 _⟩
      · rw [ga 51 (by decide), inv_e2 hI]
        constructor <;> omega
      · rw [oa_51, upd1_ne (by decide), upd1_at, h1]
      · rw [oa_k (by decide) (by decide) (by decide) (by decide) (by decide), en_set_at, ga 51 (by decide), inv_e2 hI]
    · exact absurd h1 z
