/-! PURE 9: all that a grid keeps between two calls -/
/-- no two lines join the same buses -/
def xl_u (m : en_M) : Prop := ∀ k : Nat, (k : Int) < m 0 1 → gs_hb (m 1) (m 2) (m 1 (k : Int)) (m 2 (k : Int)) k = false
/-- rows of lines to come are 0 -/
def xl_z (m : en_M) : Prop := ∀ j b, m 0 1 ≤ j → j < 8 → 0 ≤ b → b < 5 → m (8 + j) b = 0
def INV (m : en_M) : Prop := xl m ∧ xl_u m ∧ xl_z m ∧ xr_ok m
theorem inv_n {m : en_M} (h : INV m) : (2 ≤ m 0 0 ∧ m 0 0 ≤ 5) ∧ (0 ≤ m 0 1 ∧ m 0 1 ≤ 8) ∧ (0 ≤ m 21 1 ∧ m 21 1 ≤ 10) := ⟨h.1.1.1, h.1.1.2.1, h.1.2.1.1⟩
theorem inv_ln {m : en_M} (h : INV m) : ∀ j, 0 ≤ j → j < m 0 1 → (0 ≤ m 1 j ∧ m 1 j < m 0 0) ∧ (0 ≤ m 2 j ∧ m 2 j < m 0 0) ∧ (m 4 j = 0 ∨ m 4 j = 1) ∧ (1 ≤ m 3 j ∧ m 3 j ≤ 2) ∧ m 1 j ≠ m 2 j := h.1.1.2.2
theorem inv_mt {m : en_M} (h : INV m) : ∀ i, 0 ≤ i → i < m 21 1 → ((m 22 i = 1 ∧ 0 ≤ m 23 i ∧ m 23 i < m 0 0) ∨ (m 22 i = 0 ∧ 0 ≤ m 23 i ∧ m 23 i < m 0 1)) ∧ (m 26 i = 0 ∨ m 26 i = 1) ∧ (-50 ≤ m 24 i ∧ m 24 i ≤ 50) ∧ (1 ≤ m 25 i ∧ m 25 i ≤ 2) := h.1.2.1.2
theorem inv_rng {m : en_M} (h : INV m) : ∀ b, 0 ≤ b → b < 5 → 0 ≤ m 5 b ∧ m 5 b ≤ b := lk_rng h.1
theorem inv_xc {m : en_M} (h : INV m) : xc m := by
  obtain ⟨n0, n1, n2⟩ := inv_n h
  have hl := inv_ln h
  have hr := inv_rng h
  have hm := inv_mt h
  obtain ⟨hx, hu, hz, ho⟩ := id h
  obtain ⟨hlm, hmm, h5, hg⟩ := hx
  refine ⟨⟨n0, n1, fun j j0 j1 => ?_, fun j b j0 j1 b0 b1 hb1 hb2 => ?_, hz⟩, ho, ⟨n2, fun i i0 i1 => ?_, fun b b0 b1 => ?_⟩, fun i i0 i1 => ?_⟩
  · have z := hl j j0 j1
    omega
  · rw [hg.1 j b j0 j1 b0 b1]
    unfold gs_fg
    rw [if_neg hb2, if_neg hb1]
  · obtain ⟨c1, c2, c3, c4⟩ := hm i i0 i1
    have hv : xv_m m i := by
      rcases c1 with ⟨a, b, c⟩ | ⟨a, b, c⟩
      · exact Or.inl ⟨a, b, by omega⟩
      · have z := hl _ b c
        exact Or.inr ⟨a, b, by omega, by omega, by omega, z.2.2.1⟩
    refine ⟨hv, c2, ?_, fun b b0 b1 => ?_⟩
    · have z := lk_iu h.1 i0 i1
      constructor <;> omega
    · unfold xm_gr
      rcases c1 with ⟨a, b9, c⟩ | ⟨a, b9, c⟩
      · rw [if_pos a, hg.2 (m 23 i) b b9 (by omega) b0 b1]
        exact gs_ig_8 (by omega) _ (fun j j0 j1 => by have z := hl j j0 (by omega); exact ⟨z.2.2.2.2, by omega, by omega, by omega, by omega⟩) (fun k hk9 => hu k (by omega))
      · rw [if_neg (by omega), hg.1 (m 23 i) b b9 c b0 b1]
        have z := hl _ b9 c
        exact gs_fg_8 (by omega)
  · have z := hr b b0 b1
    constructor <;> omega
  · have z := hm i i0 i1
    exact ⟨z.2.2.1, z.2.2.2⟩
theorem fl_k {m : en_M} (h1 : 0 ≤ m 0 1 ∧ m 0 1 ≤ 8) {k : Int} (h : k ≠ 5) (h2 : k < 8 ∨ 21 ≤ k) : xm_fl m k = m k := by
  unfold xm_fl
  rw [en_rw_ne (by omega), en_rw_ne (by omega), en_ar_ne h]
theorem fl_5 {m : en_M} (h1 : 0 ≤ m 0 1 ∧ m 0 1 ≤ 8) {b : Int} (b0 : 0 ≤ b) (b1 : b < 5) : xm_fl m 5 b = gs_it (m 0 1).toNat (m 1) (m 2) (m 4) 4 b := by
  unfold xm_fl
  rw [en_rw_ne (by omega), en_rw_ne (by omega), en_ar_at b0 b1]
theorem fl_8 {m : en_M} (h1 : 0 ≤ m 0 1 ∧ m 0 1 ≤ 8) {j b : Int} (j0 : 0 ≤ j) (j1 : j < m 0 1) (b0 : 0 ≤ b) (b1 : b < 5) : xm_fl m (8 + j) b = gs_fg (m 1) (m 2) (m 3) (m 4) j b := by
  unfold xm_fl
  rw [en_rw_ne (by omega), en_rw_at j0 j1 b0 b1]
theorem fl_8z {m : en_M} (h1 : 0 ≤ m 0 1 ∧ m 0 1 ≤ 8) {j : Int} (j0 : m 0 1 ≤ j) (j1 : j < 8) : xm_fl m (8 + j) = m (8 + j) := by
  unfold xm_fl
  rw [en_rw_ne (by omega), en_rw_ne (by omega), en_ar_ne (by omega)]
theorem fl_16 {m : en_M} {p b : Int} (p0 : 0 ≤ p) (p1 : p < 5) (b0 : 0 ≤ b) (b1 : b < 5) : xm_fl m (16 + p) b = gs_ig (m 1) (m 2) (gs_fg (m 1) (m 2) (m 3) (m 4)) (m 0 1).toNat p b := by
  unfold xm_fl
  rw [en_rw_at p0 p1 b0 b1]
theorem inv_of {M m : en_M} (h1 : 0 ≤ m 0 1 ∧ m 0 1 ≤ 8) (hc : ∀ k, k < 21 → M k = xm_fl m k) (hz : xl_z m) (hl : xi_ln M) (hm : xi_mt M) (hu : xl_u m) (ho : xr_ok M) : INV M := by
  have e0 : M 0 = m 0 := (hc 0 (by decide)).trans (fl_k h1 (by decide) (by decide))
  have e1 : M 1 = m 1 := (hc 1 (by decide)).trans (fl_k h1 (by decide) (by decide))
  have e2 : M 2 = m 2 := (hc 2 (by decide)).trans (fl_k h1 (by decide) (by decide))
  have e3 : M 3 = m 3 := (hc 3 (by decide)).trans (fl_k h1 (by decide) (by decide))
  have e4 : M 4 = m 4 := (hc 4 (by decide)).trans (fl_k h1 (by decide) (by decide))
  refine ⟨⟨hl, hm, fun b b0 b1 => ?_, ⟨fun j b j0 j1 b0 b1 => ?_, fun p b p0 p1 b0 b1 => ?_⟩⟩, ?_, fun j b j0 j1 b0 b1 => ?_, ho⟩
  · rw [e0, e1, e2, e4, hc 5 (by decide), fl_5 h1 b0 b1]
  · rw [e0] at j1
    rw [e1, e2, e3, e4, hc (8 + j) (by omega), fl_8 h1 j0 j1 b0 b1]
  · rw [e0, e1, e2, e3, e4, hc (16 + p) (by omega), fl_16 p0 p1 b0 b1]
  · unfold xl_u
    rw [e0, e1, e2]
    exact hu
  · rw [e0] at j0
    rw [hc (8 + j) (by omega), fl_8z h1 j0 j1]
    exact hz j b j0 j1 b0 b1
theorem inv_keep {M m : en_M} (h : INV m) (hc : ∀ k, k < 21 → M k = m k) (hm : xi_mt M) (h28 : xr_ok M) : INV M := by
  obtain ⟨⟨hl, -, h5, hg⟩, hu, hz, -⟩ := h
  have e0 := hc 0 (by decide)
  have e1 := hc 1 (by decide)
  have e2 := hc 2 (by decide)
  have e3 := hc 3 (by decide)
  have e4 := hc 4 (by decide)
  have e5 := hc 5 (by decide)
  have n1 := hl.2.1
  refine ⟨⟨?_, hm, ?_, ⟨fun j b j0 j1 b0 b1 => ?_, fun p b p0 p1 b0 b1 => ?_⟩⟩, ?_, fun j b j0 j1 b0 b1 => ?_, h28⟩
  · unfold xi_ln
    rw [e0, e1, e2, e3, e4]
    exact hl
  · unfold xl_r
    rw [e0, e1, e2, e4, e5]
    exact h5
  · rw [e0] at j1
    rw [e1, e2, e3, e4, hc (8 + j) (by omega)]
    exact hg.1 j b j0 j1 b0 b1
  · rw [e0, e1, e2, e3, e4, hc (16 + p) (by omega)]
    exact hg.2 p b p0 p1 b0 b1
  · unfold xl_u
    rw [e0, e1, e2]
    exact hu
  · rw [e0] at j0
    rw [hc (8 + j) (by omega)]
    exact hz j b j0 j1 b0 b1
/-- only scratch has changed -/
def cq (M m : en_M) : Prop := (∀ k, (k < 28 ∨ 49 ≤ k) → M k = m k) ∧ xr_ok M
theorem cq_rf {m : en_M} (ho : xr_ok m) : cq m m := ⟨fun _ _ => rfl, ho⟩
theorem cq_tr {M m m0 : en_M} (h : cq M m) (h2 : cq m m0) : cq M m0 := ⟨fun k hk => (h.1 k hk).trans (h2.1 k hk), h.2⟩
theorem xr_ok_k {M m : en_M} (h : M 28 = m 28) (ho : xr_ok m) : xr_ok M := by
  unfold xr_ok
  rw [h]
  exact ho
theorem cq_ag {M m : en_M} (h : cq M m) : en_ag M m := fun k hk => h.1 k (by omega)
theorem inv_cq {M m : en_M} (h : INV m) (hc : cq M m) : INV M := by
  refine inv_keep h (fun k hk => hc.1 k (by omega)) ?_ hc.2
  unfold xi_mt
  rw [hc.1 21 (by decide), hc.1 22 (by decide), hc.1 23 (by decide), hc.1 24 (by decide), hc.1 25 (by decide), hc.1 26 (by decide), hc.1 0 (by decide)]
  exact h.1.2.1
/-! what changes something -/
def upd1 (f : Int → Int) (i x : Int) : Int → Int := fun j => if j = i then x else f j
theorem en_set_f {m : en_M} {k i x : Int} : en_set m k i x k = upd1 (m k) i x := by
  funext j
  unfold en_set upd1
  by_cases e : j = i <;> simp [e]
theorem upd1_at {f : Int → Int} {i x : Int} : upd1 f i x i = x := if_pos rfl
theorem upd1_ne {f : Int → Int} {i x j : Int} (h : j ≠ i) : upd1 f i x j = f j := if_neg h
theorem gs_hb_cong {fi se fi' se' : Int → Int} {b o : Int} : ∀ n : Nat, (∀ j, 0 ≤ j → j < (n : Int) → fi j = fi' j ∧ se j = se' j) → gs_hb fi se b o n = gs_hb fi' se' b o n
  | 0, _ => rfl
  | n + 1, h => by
    have e := h (n : Int) (by omega) (by omega)
    simp only [gs_hb]
    rw [gs_hb_cong n (fun j j0 j1 => h j j0 (by omega)), e.1, e.2]
theorem xa_k {m : en_M} {f s g k : Int} (h0 : k ≠ 0) (h1 : k ≠ 1) (h2 : k ≠ 2) (h3 : k ≠ 3) (h4 : k ≠ 4) : xm_ap m f s g k = m k := by
  unfold xm_ap
  rw [en_set_ne h0, en_set_ne h4, en_set_ne h3, en_set_ne h2, en_set_ne h1]
theorem xa_0 {m : en_M} {f s g : Int} : xm_ap m f s g 0 = upd1 (m 0) 1 (m 0 1 + 1) := by
  unfold xm_ap
  rw [en_set_f, en_set_ne (by decide), en_set_ne (by decide), en_set_ne (by decide), en_set_ne (by decide)]
theorem xa_1 {m : en_M} {f s g : Int} : xm_ap m f s g 1 = upd1 (m 1) (m 0 1) f := by
  unfold xm_ap
  rw [en_set_ne (by decide), en_set_ne (by decide), en_set_ne (by decide), en_set_ne (by decide), en_set_f]
theorem xa_2 {m : en_M} {f s g : Int} : xm_ap m f s g 2 = upd1 (m 2) (m 0 1) s := by
  unfold xm_ap
  rw [en_set_ne (by decide), en_set_ne (by decide), en_set_ne (by decide), en_set_f, en_set_ne (by decide)]
theorem xa_3 {m : en_M} {f s g : Int} : xm_ap m f s g 3 = upd1 (m 3) (m 0 1) g := by
  unfold xm_ap
  rw [en_set_ne (by decide), en_set_ne (by decide), en_set_f, en_set_ne (by decide), en_set_ne (by decide)]
theorem xa_4 {m : en_M} {f s g : Int} : xm_ap m f s g 4 = upd1 (m 4) (m 0 1) 1 := by
  unfold xm_ap
  rw [en_set_ne (by decide), en_set_f, en_set_ne (by decide), en_set_ne (by decide), en_set_ne (by decide)]
theorem inv_add {m : en_M} (h : INV m) {f s g : Int} (f0 : 0 ≤ f ∧ f < m 0 0) (s0 : 0 ≤ s ∧ s < m 0 0) (hfs : f ≠ s) (g0 : 1 ≤ g ∧ g ≤ 2) (n8 : m 0 1 < 8) (hb : gs_hb (m 1) (m 2) f s (m 0 1).toNat = false) : INV (xm_fl (xm_ap m f s g)) := by
  have n := inv_n h
  obtain ⟨⟨hl, hm, h5, hg⟩, hu, hz, ho⟩ := id h
  have a01 : xm_ap m f s g 0 1 = m 0 1 + 1 := by rw [xa_0, upd1_at]
  have a00 : xm_ap m f s g 0 0 = m 0 0 := by rw [xa_0, upd1_ne (by decide)]
  have h1 : 0 ≤ xm_ap m f s g 0 1 ∧ xm_ap m f s g 0 1 ≤ 8 := by rw [a01]; omega
  have e : ∀ k : Int, k ≠ 5 → (k < 8 ∨ 21 ≤ k) → xm_fl (xm_ap m f s g) k = xm_ap m f s g k := fun k q1 q3 => fl_k h1 q1 q3
  have em : ∀ k : Int, 21 ≤ k → xm_fl (xm_ap m f s g) k = m k := fun k q1 => by rw [e k (by omega) (Or.inr q1), xa_k (by omega) (by omega) (by omega) (by omega) (by omega)]
  refine inv_of h1 (fun k hk9 => rfl) ?_ ?_ ?_ ?_ ?_
  · intro j b j0 j1 b0 b1
    rw [a01] at j0
    rw [xa_k (by omega) (by omega) (by omega) (by omega) (by omega)]
    exact hz j b (by omega) j1 b0 b1
  · unfold xi_ln
    rw [e 0 (by decide) (by decide), e 1 (by decide) (by decide), e 2 (by decide) (by decide), e 3 (by decide) (by decide), e 4 (by decide) (by decide), a01, a00, xa_1, xa_2, xa_3, xa_4]
    refine ⟨n.1, by omega, fun j j0 j1 => ?_⟩
    by_cases ej : j = m 0 1
    · rw [ej, upd1_at, upd1_at, upd1_at, upd1_at]
      exact ⟨f0, s0, Or.inr rfl, g0, hfs⟩
    · rw [upd1_ne ej, upd1_ne ej, upd1_ne ej, upd1_ne ej]
      exact hl.2.2 j j0 (by omega)
  · unfold xi_mt
    rw [em 21 (by decide), em 22 (by decide), em 23 (by decide), em 24 (by decide), em 25 (by decide), em 26 (by decide), e 0 (by decide) (by decide), a01, a00]
    refine ⟨hm.1, fun i i0 i1 => ?_⟩
    obtain ⟨z1, z2⟩ := hm.2 i i0 i1
    refine ⟨?_, z2⟩
    rcases z1 with ⟨a, b, c⟩ | ⟨a, b, c⟩
    · exact Or.inl ⟨a, b, c⟩
    · exact Or.inr ⟨a, b, by omega⟩
  · intro k hk9
    rw [a01] at hk9
    rw [xa_1, xa_2, gs_hb_cong (fi' := m 1) (se' := m 2) k (fun j j0 j1 => ⟨upd1_ne (by omega), upd1_ne (by omega)⟩)]
    by_cases ej : (k : Int) = m 0 1
    · rw [ej, upd1_at, upd1_at, show k = (m 0 1).toNat by omega]
      exact hb
    · rw [upd1_ne ej, upd1_ne ej]
      exact hu k (by omega)
  · exact xr_ok_k (em 28 (by decide)) ho
theorem xw_k {m : en_M} {i c k : Int} (h : k ≠ 4) : xm_sw m i c k = m k := en_set_ne h
theorem inv_sw {m : en_M} (h : INV m) {i c : Int} (i0 : 0 ≤ i ∧ i < m 0 1) (c0 : c = 0 ∨ c = 1) : INV (xm_fl (xm_sw m i c)) := by
  have n := inv_n h
  obtain ⟨⟨hl, hm, h5, hg⟩, hu, hz, ho⟩ := id h
  have a0 : xm_sw m i c 0 = m 0 := xw_k (by decide)
  have h1 : 0 ≤ xm_sw m i c 0 1 ∧ xm_sw m i c 0 1 ≤ 8 := by rw [a0]; exact n.2.1
  have e : ∀ k : Int, k ≠ 5 → (k < 8 ∨ 21 ≤ k) → xm_fl (xm_sw m i c) k = xm_sw m i c k := fun k q1 q3 => fl_k h1 q1 q3
  have em : ∀ k : Int, k ≠ 4 → k ≠ 5 → (k < 8 ∨ 21 ≤ k) → xm_fl (xm_sw m i c) k = m k := fun k q0 q1 q3 => by rw [e k q1 q3, xw_k q0]
  refine inv_of h1 (fun k hk9 => rfl) ?_ ?_ ?_ ?_ ?_
  · intro j b j0 j1 b0 b1
    rw [a0] at j0
    rw [xw_k (by omega)]
    exact hz j b j0 j1 b0 b1
  · unfold xi_ln
    rw [em 0 (by decide) (by decide) (by decide), em 1 (by decide) (by decide) (by decide), em 2 (by decide) (by decide) (by decide), em 3 (by decide) (by decide) (by decide), e 4 (by decide) (by decide)]
    refine ⟨n.1, n.2.1, fun j j0 j1 => ?_⟩
    have z := hl.2.2 j j0 j1
    refine ⟨z.1, z.2.1, ?_, z.2.2.2⟩
    unfold xm_sw
    rw [en_set_f]
    by_cases ej : j = i
    · rw [ej, upd1_at]
      exact c0
    · rw [upd1_ne ej]
      exact z.2.2.1
  · unfold xi_mt
    rw [em 21 (by decide) (by decide) (by decide), em 22 (by decide) (by decide) (by decide), em 23 (by decide) (by decide) (by decide), em 24 (by decide) (by decide) (by decide), em 25 (by decide) (by decide) (by decide), em 26 (by decide) (by decide) (by decide), em 0 (by decide) (by decide) (by decide)]
    exact hm
  · unfold xl_u
    rw [a0, xw_k (by decide), xw_k (by decide)]
    exact hu
  · exact xr_ok_k (em 28 (by decide) (by decide) (by decide)) ho
theorem xn_k {m : en_M} {k p r a j : Int} (h : j ≠ 21 ∧ j ≠ 22 ∧ j ≠ 23 ∧ j ≠ 24 ∧ j ≠ 25 ∧ j ≠ 26) : xm_am m k p r a j = m j := by
  unfold xm_am
  rw [en_set_ne (by omega), en_set_ne (by omega), en_set_ne (by omega), en_set_ne (by omega), en_set_ne (by omega), en_set_ne (by omega)]
theorem xn_21 {m : en_M} {k p r a : Int} : xm_am m k p r a 21 = upd1 (m 21) 1 (m 21 1 + 1) := by
  unfold xm_am
  rw [en_set_f, en_set_ne (by decide), en_set_ne (by decide), en_set_ne (by decide), en_set_ne (by decide), en_set_ne (by decide)]
theorem xn_22 {m : en_M} {k p r a : Int} : xm_am m k p r a 22 = upd1 (m 22) (m 21 1) k := by
  unfold xm_am
  rw [en_set_ne (by decide), en_set_ne (by decide), en_set_ne (by decide), en_set_ne (by decide), en_set_ne (by decide), en_set_f]
theorem xn_23 {m : en_M} {k p r a : Int} : xm_am m k p r a 23 = upd1 (m 23) (m 21 1) p := by
  unfold xm_am
  rw [en_set_ne (by decide), en_set_ne (by decide), en_set_ne (by decide), en_set_ne (by decide), en_set_f, en_set_ne (by decide)]
theorem xn_24 {m : en_M} {k p r a : Int} : xm_am m k p r a 24 = upd1 (m 24) (m 21 1) r := by
  unfold xm_am
  rw [en_set_ne (by decide), en_set_ne (by decide), en_set_ne (by decide), en_set_f, en_set_ne (by decide), en_set_ne (by decide)]
theorem xn_25 {m : en_M} {k p r a : Int} : xm_am m k p r a 25 = upd1 (m 25) (m 21 1) a := by
  unfold xm_am
  rw [en_set_ne (by decide), en_set_ne (by decide), en_set_f, en_set_ne (by decide), en_set_ne (by decide), en_set_ne (by decide)]
theorem xn_26 {m : en_M} {k p r a : Int} : xm_am m k p r a 26 = upd1 (m 26) (m 21 1) 1 := by
  unfold xm_am
  rw [en_set_ne (by decide), en_set_f, en_set_ne (by decide), en_set_ne (by decide), en_set_ne (by decide), en_set_ne (by decide)]
theorem inv_am {m : en_M} (h : INV m) {k p r a : Int} (k0 : k = 0 ∨ k = 1) (r0 : -50 ≤ r ∧ r ≤ 50) (a0 : 1 ≤ a ∧ a ≤ 2) (p0 : 0 ≤ p ∧ p < if k = 0 then m 0 1 else m 0 0) (n10 : m 21 1 < 10) : INV (xm_am m k p r a) := by
  have n := inv_n h
  refine inv_keep h (fun j hj => xn_k (by omega)) ?_ (xr_ok_k (xn_k (by decide)) h.2.2.2)
  unfold xi_mt
  rw [xn_21, xn_22, xn_23, xn_24, xn_25, xn_26, xn_k (by decide), upd1_at]
  refine ⟨by omega, fun i i0 i1 => ?_⟩
  by_cases e : i = m 21 1
  · rw [e, upd1_at, upd1_at, upd1_at, upd1_at, upd1_at]
    refine ⟨?_, Or.inr rfl, r0, a0⟩
    rcases k0 with rfl | rfl
    · rw [if_pos rfl] at p0
      exact Or.inr ⟨rfl, p0⟩
    · rw [if_neg (by decide)] at p0
      exact Or.inl ⟨rfl, p0⟩
  · rw [upd1_ne e, upd1_ne e, upd1_ne e, upd1_ne e, upd1_ne e]
    exact inv_mt h i i0 (by omega)
theorem inv_rd {m : en_M} (h : INV m) {i r : Int} (r0 : -50 ≤ r ∧ r ≤ 50) : INV (en_set m 24 i r) := by
  refine inv_keep h (fun j hj => en_set_ne (by omega)) ?_ (xr_ok_k (en_set_ne (by decide)) h.2.2.2)
  unfold xi_mt
  rw [en_set_ne (k' := 21) (by decide), en_set_ne (k' := 22) (by decide), en_set_ne (k' := 23) (by decide), en_set_ne (k' := 25) (by decide), en_set_ne (k' := 26) (by decide), en_set_ne (k' := 0) (by decide), en_set_f]
  refine ⟨(inv_n h).2.2, fun j j0 j1 => ?_⟩
  have z := inv_mt h j j0 j1
  by_cases e : j = i
  · rw [e, upd1_at]
    rw [e] at z
    exact ⟨z.1, z.2.1, r0, z.2.2.2⟩
  · rw [upd1_ne e]
    exact z
theorem inv_us {m : en_M} (h : INV m) {i c : Int} (c0 : c = 0 ∨ c = 1) : INV (en_set m 26 i c) := by
  refine inv_keep h (fun j hj => en_set_ne (by omega)) ?_ (xr_ok_k (en_set_ne (by decide)) h.2.2.2)
  unfold xi_mt
  rw [en_set_ne (k' := 21) (by decide), en_set_ne (k' := 22) (by decide), en_set_ne (k' := 23) (by decide), en_set_ne (k' := 24) (by decide), en_set_ne (k' := 25) (by decide), en_set_ne (k' := 0) (by decide), en_set_f]
  refine ⟨(inv_n h).2.2, fun j j0 j1 => ?_⟩
  have z := inv_mt h j j0 j1
  by_cases e : j = i
  · rw [e, upd1_at]
    rw [e] at z
    exact ⟨z.1, c0, z.2.2⟩
  · rw [upd1_ne e]
    exact z
