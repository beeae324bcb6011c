/-! PURE 27: how much a meter grows; what class and model keep -/
/-- how many of the first n lines join p and c -/
def jn (fi se : Int → Int) (p c : Int) : Nat → Int
  | 0 => 0
  | n + 1 => jn fi se p c n + if (fi (n : Int) = p ∧ se (n : Int) = c) ∨ (fi (n : Int) = c ∧ se (n : Int) = p) then 1 else 0
theorem jn_0 (fi se : Int → Int) (p c : Int) : ∀ n : Nat, 0 ≤ jn fi se p c n
  | 0 => Int.le_refl _
  | n + 1 => by
    have ih := jn_0 fi se p c n
    simp only [jn]
    split <;> omega
theorem jn_hb (fi se : Int → Int) (p c : Int) : ∀ n : Nat, jn fi se p c n = 0 ∨ gs_hb fi se p c n = true
  | 0 => Or.inl rfl
  | n + 1 => by
    simp only [jn, gs_hb]
    by_cases e : (fi (n : Int) = p ∧ se (n : Int) = c) ∨ (fi (n : Int) = c ∧ se (n : Int) = p)
    · right
      rw [decide_eq_true e, Bool.or_true]
    · rw [if_neg e, decide_eq_false e, Bool.or_false, Int.add_zero]
      exact jn_hb fi se p c n
theorem gs_hb_sym (fi se : Int → Int) (b o : Int) : ∀ n : Nat, gs_hb fi se b o n = gs_hb fi se o b n
  | 0 => rfl
  | n + 1 => by
    simp only [gs_hb]
    rw [gs_hb_sym fi se b o n]
    congr 1
    by_cases e : (fi (n : Int) = b ∧ se (n : Int) = o) ∨ (fi (n : Int) = o ∧ se (n : Int) = b)
    · rw [decide_eq_true e, decide_eq_true (Or.symm e)]
    · rw [decide_eq_false e, decide_eq_false (fun z => e (Or.symm z))]
theorem jn_1 {fi se : Int → Int} (p c : Int) : ∀ n : Nat, (∀ k : Nat, k < n → gs_hb fi se (fi (k : Int)) (se (k : Int)) k = false) → jn fi se p c n ≤ 1
  | 0, _ => by simp [jn]
  | n + 1, hu => by
    have ih := jn_1 p c n (fun k hk => hu k (by omega))
    have u := hu n (by omega)
    have h := jn_hb fi se p c n
    simp only [jn]
    by_cases e : (fi (n : Int) = p ∧ se (n : Int) = c) ∨ (fi (n : Int) = c ∧ se (n : Int) = p)
    · rw [if_pos e]
      have z : gs_hb fi se p c n = false := by
        rcases e with e | e
        · rw [e.1, e.2] at u
          exact u
        · rw [e.1, e.2, gs_hb_sym] at u
          exact u
      rw [z] at h
      have z2 : jn fi se p c n = 0 := h.resolve_right (fun x => by cases x)
      omega
    · rw [if_neg e]
      omega
section GROW
variable {fi se sg cl : Int → Int}
def gs_w (sg cl : Int → Int) (l : Int) : Int := if cl l = 0 then 0 else sg l
theorem gs_fg_w (l b : Int) : gs_fg fi se sg cl l b = if b = se l then -(gs_w sg cl l) else if b = fi l then gs_w sg cl l else 0 := rfl
/-- with another bus's angle -/
theorem gs_ig_off {p b : Int} (hpb : p ≠ b) : ∀ n : Nat, (∀ j, 0 ≤ j → j < (n : Int) → fi j ≠ se j ∧ 0 ≤ sg j ∧ sg j ≤ 2) → -(2 * jn fi se p b n) ≤ gs_ig fi se (gs_fg fi se sg cl) n p b ∧ gs_ig fi se (gs_fg fi se sg cl) n p b ≤ 2 * jn fi se p b n
  | 0, _ => by simp [gs_ig, jn]
  | n + 1, h => by
    have ih := gs_ig_off hpb n (fun j j0 j1 => h j j0 (by omega))
    obtain ⟨h1, h2, h3⟩ := h (n : Int) (by omega) (by omega)
    have w : 0 ≤ gs_w sg cl (n : Int) ∧ gs_w sg cl (n : Int) ≤ 2 := by
      unfold gs_w
      split <;> omega
    simp only [gs_ig, jn]
    rw [gs_fg_w]
    generalize gs_w sg cl (n : Int) = w9 at w ⊢
    generalize gs_ig fi se (gs_fg fi se sg cl) n p b = g9 at ih ⊢
    generalize jn fi se p b n = j9 at ih ⊢
    by_cases c1 : p = fi (n : Int)
    · rw [if_pos c1, if_neg (show ¬ p = se (n : Int) from fun z => h1 (by rw [← c1, ← z]))]
      by_cases c2 : b = se (n : Int)
      · rw [if_pos c2, if_pos (Or.inl ⟨c1.symm, c2.symm⟩)]
        omega
      · rw [if_neg c2, if_neg (show ¬ b = fi (n : Int) from fun z => hpb (by rw [c1, z]))]
        split <;> omega
    · rw [if_neg c1]
      by_cases c3 : p = se (n : Int)
      · rw [if_pos c3, if_neg (show ¬ b = se (n : Int) from fun z => hpb (by rw [c3, z]))]
        by_cases c2 : b = fi (n : Int)
        · rw [if_pos c2, if_pos (Or.inr ⟨c2.symm, c3.symm⟩)]
          omega
        · rw [if_neg c2]
          split <;> omega
      · rw [if_neg c3]
        split <;> omega
/-- with its own angle -/
theorem gs_ig_on {p : Int} : ∀ n : Nat, (∀ j, 0 ≤ j → j < (n : Int) → fi j ≠ se j ∧ (0 ≤ sg j ∧ sg j ≤ 2) ∧ (0 ≤ fi j ∧ fi j < 5) ∧ 0 ≤ se j ∧ se j < 5) → 0 ≤ gs_ig fi se (gs_fg fi se sg cl) n p p ∧ gs_ig fi se (gs_fg fi se sg cl) n p p ≤ 2 * (jn fi se p 0 n + jn fi se p 1 n + jn fi se p 2 n + jn fi se p 3 n + jn fi se p 4 n)
  | 0, _ => by simp [gs_ig, jn]
  | n + 1, h => by
    have ih := gs_ig_on (p := p) n (fun j j0 j1 => h j j0 (by omega))
    obtain ⟨h1, h2, h3, h4, h5⟩ := h (n : Int) (by omega) (by omega)
    have w : 0 ≤ gs_w sg cl (n : Int) ∧ gs_w sg cl (n : Int) ≤ 2 := by
      unfold gs_w
      split <;> omega
    have i0 : ∀ c : Int, 0 ≤ (if (fi (n : Int) = p ∧ se (n : Int) = c) ∨ (fi (n : Int) = c ∧ se (n : Int) = p) then (1 : Int) else 0) := fun c => by split <;> decide
    have i1 : ∀ c : Int, ((fi (n : Int) = p ∧ se (n : Int) = c) ∨ (fi (n : Int) = c ∧ se (n : Int) = p)) → (if (fi (n : Int) = p ∧ se (n : Int) = c) ∨ (fi (n : Int) = c ∧ se (n : Int) = p) then (1 : Int) else 0) = 1 := fun c hc => if_pos hc
    simp only [gs_ig, jn]
    rw [gs_fg_w]
    have a0 := i0 0
    have a1 := i0 1
    have a2 := i0 2
    have a3 := i0 3
    have a4 := i0 4
    have b0 := i1 0
    have b1 := i1 1
    have b2 := i1 2
    have b3 := i1 3
    have b4 := i1 4
    generalize gs_w sg cl (n : Int) = w9 at w ⊢
    generalize gs_ig fi se (gs_fg fi se sg cl) n p p = g9 at ih ⊢
    generalize (if (fi (n : Int) = p ∧ se (n : Int) = 0) ∨ (fi (n : Int) = 0 ∧ se (n : Int) = p) then (1 : Int) else 0) = x0 at a0 b0 ⊢
    generalize (if (fi (n : Int) = p ∧ se (n : Int) = 1) ∨ (fi (n : Int) = 1 ∧ se (n : Int) = p) then (1 : Int) else 0) = x1 at a1 b1 ⊢
    generalize (if (fi (n : Int) = p ∧ se (n : Int) = 2) ∨ (fi (n : Int) = 2 ∧ se (n : Int) = p) then (1 : Int) else 0) = x2 at a2 b2 ⊢
    generalize (if (fi (n : Int) = p ∧ se (n : Int) = 3) ∨ (fi (n : Int) = 3 ∧ se (n : Int) = p) then (1 : Int) else 0) = x3 at a3 b3 ⊢
    generalize (if (fi (n : Int) = p ∧ se (n : Int) = 4) ∨ (fi (n : Int) = 4 ∧ se (n : Int) = p) then (1 : Int) else 0) = x4 at a4 b4 ⊢
    by_cases c1 : p = fi (n : Int)
    · rw [if_pos c1, if_neg (show ¬ p = se (n : Int) from fun z => h1 (by rw [← c1, ← z])), if_pos c1]
      have hs : se (n : Int) = 0 ∨ se (n : Int) = 1 ∨ se (n : Int) = 2 ∨ se (n : Int) = 3 ∨ se (n : Int) = 4 := by omega
      rcases hs with e | e | e | e | e
      · have z := b0 (Or.inl ⟨c1.symm, e⟩); omega
      · have z := b1 (Or.inl ⟨c1.symm, e⟩); omega
      · have z := b2 (Or.inl ⟨c1.symm, e⟩); omega
      · have z := b3 (Or.inl ⟨c1.symm, e⟩); omega
      · have z := b4 (Or.inl ⟨c1.symm, e⟩); omega
    · rw [if_neg c1]
      by_cases c3 : p = se (n : Int)
      · rw [if_pos c3, if_pos c3]
        have hs : fi (n : Int) = 0 ∨ fi (n : Int) = 1 ∨ fi (n : Int) = 2 ∨ fi (n : Int) = 3 ∨ fi (n : Int) = 4 := by omega
        rcases hs with e | e | e | e | e
        · have z := b0 (Or.inr ⟨e, c3.symm⟩); omega
        · have z := b1 (Or.inr ⟨e, c3.symm⟩); omega
        · have z := b2 (Or.inr ⟨e, c3.symm⟩); omega
        · have z := b3 (Or.inr ⟨e, c3.symm⟩); omega
        · have z := b4 (Or.inr ⟨e, c3.symm⟩); omega
      · rw [if_neg c3]
        omega
theorem jn_self {p : Int} : ∀ n : Nat, (∀ j, 0 ≤ j → j < (n : Int) → fi j ≠ se j) → jn fi se p p n = 0
  | 0, _ => rfl
  | n + 1, h => by
    have ih := jn_self (p := p) n (fun j j0 j1 => h j j0 (by omega))
    have h1 := h (n : Int) (by omega) (by omega)
    simp only [jn]
    rw [ih, if_neg (fun z => by rcases z with z | z <;> exact h1 (by rw [z.1, z.2]))]
    rfl
theorem gs_ig_8 {p b : Int} (p0 : 0 ≤ p ∧ p < 5) (n : Nat) (h : ∀ j, 0 ≤ j → j < (n : Int) → fi j ≠ se j ∧ (0 ≤ sg j ∧ sg j ≤ 2) ∧ (0 ≤ fi j ∧ fi j < 5) ∧ 0 ≤ se j ∧ se j < 5) (hu : ∀ k : Nat, k < n → gs_hb fi se (fi (k : Int)) (se (k : Int)) k = false) : -8 ≤ gs_ig fi se (gs_fg fi se sg cl) n p b ∧ gs_ig fi se (gs_fg fi se sg cl) n p b ≤ 8 := by
  by_cases e : p = b
  · subst e
    have z := gs_ig_on (cl := cl) (p := p) n h
    have s := jn_self (fi := fi) (se := se) (p := p) n (fun j j0 j1 => (h j j0 j1).1)
    have q0 := jn_1 (fi := fi) (se := se) p 0 n hu
    have q1 := jn_1 (fi := fi) (se := se) p 1 n hu
    have q2 := jn_1 (fi := fi) (se := se) p 2 n hu
    have q3 := jn_1 (fi := fi) (se := se) p 3 n hu
    have q4 := jn_1 (fi := fi) (se := se) p 4 n hu
    have hp : p = 0 ∨ p = 1 ∨ p = 2 ∨ p = 3 ∨ p = 4 := by omega
    rcases hp with rfl | rfl | rfl | rfl | rfl <;> omega
  · have z := gs_ig_off (cl := cl) e n (fun j j0 j1 => ⟨(h j j0 j1).1, (h j j0 j1).2.1⟩)
    have q := jn_1 (fi := fi) (se := se) p b n hu
    omega
theorem gs_fg_8 {l b : Int} (h : 0 ≤ sg l ∧ sg l ≤ 2) : -8 ≤ gs_fg fi se sg cl l b ∧ gs_fg fi se sg cl l b ≤ 8 := by
  rw [gs_fg_w]
  have w : 0 ≤ gs_w sg cl l ∧ gs_w sg cl l ≤ 2 := by
    unfold gs_w
    split <;> omega
  split
  · omega
  · split <;> omega
end GROW
/-- no two lines join the same buses -/
def xl_u (m : en_M) : Prop := ∀ k : Nat, (k : Int) < m 0 1 → gs_hb (m 1) (m 2) (m 1 (k : Int)) (m 2 (k : Int)) k = false
/-- rows of lines to come are 0 -/
def xl_z (m : en_M) : Prop := ∀ j b, m 0 1 ≤ j → j < 8 → 0 ≤ b → b < 5 → m (8 + j) b = 0
/-- all that class and model keep, between two calls -/
def INV (m : en_M) : Prop := xl m ∧ xl_u m ∧ xl_z m ∧ xr_ok m
theorem inv_n {m : en_M} (h : INV m) : (2 ≤ m 0 0 ∧ m 0 0 ≤ 5) ∧ (0 ≤ m 0 1 ∧ m 0 1 ≤ 8) ∧ (0 ≤ m 21 1 ∧ m 21 1 ≤ 10) := by
  obtain ⟨⟨hk, hl, hm, -⟩, -⟩ := h
  have a := hl.1
  have b := hl.2.1
  have c := hm.1
  rw [hk.1] at a
  rw [hk.2.1] at b
  rw [hk.2.2.1] at c
  exact ⟨a, b, c⟩
theorem inv_ln {m : en_M} (h : INV m) : ∀ j, 0 ≤ j → j < m 0 1 → (0 ≤ m 1 j ∧ m 1 j < m 0 0) ∧ (0 ≤ m 2 j ∧ m 2 j < m 0 0) ∧ (m 4 j = 0 ∨ m 4 j = 1) ∧ (1 ≤ m 3 j ∧ m 3 j ≤ 2) := by
  obtain ⟨⟨hk, hl, -⟩, -⟩ := h
  obtain ⟨k1, k2, k3, k4, k5, k6, k7, -⟩ := hk
  obtain ⟨n0, n1, hr⟩ := hl
  rw [k1, k2, k4, k5, k6, k7] at hr
  exact hr
theorem inv_rng {m : en_M} (h : INV m) : ∀ b, 0 ≤ b → b < 5 → 0 ≤ m 5 b ∧ m 5 b ≤ b := by
  intro b b0 b1
  have hl := inv_ln h
  rw [h.1.2.2.2.1 b b0 b1]
  exact gs_it_rng (fun j j0 j1 => by have z := hl j j0 (by omega); omega) 4 b b0
theorem inv_mt {m : en_M} (h : INV m) : ∀ i, 0 ≤ i → i < m 21 1 → ((m 22 i = 1 ∧ 0 ≤ m 23 i ∧ m 23 i < m 0 0) ∨ (m 22 i = 0 ∧ 0 ≤ m 23 i ∧ m 23 i < m 0 1)) ∧ (m 26 i = 0 ∨ m 26 i = 1) ∧ (-50 ≤ m 24 i ∧ m 24 i ≤ 50) ∧ (1 ≤ m 25 i ∧ m 25 i ≤ 2) := by
  obtain ⟨⟨hk, hl, hm, -⟩, -⟩ := h
  obtain ⟨k1, k2, k3, k4, k5, k6, k7, k8, k9, k10, k11, k12⟩ := hk
  have hr := hm.2
  unfold xo_m at hr
  rw [k1, k2, k3, k8, k9, k10, k11, k12] at hr
  exact hr
theorem inv_xc {m : en_M} (h : INV m) : xc m := by
  obtain ⟨n0, n1, n2⟩ := inv_n h
  have hl := inv_ln h
  have hr := inv_rng h
  have hm := inv_mt h
  obtain ⟨hx, hu, hz, ho⟩ := id h
  obtain ⟨hk, hlm, hmm, h5, hg, hne⟩ := hx
  refine ⟨⟨n0, n1, fun j j0 j1 => ?_, fun j b j0 j1 b0 b1 hb1 hb2 => ?_, hz⟩, ho, ⟨n2, fun i i0 i1 => ?_, fun b b0 b1 => ?_⟩, fun i i0 i1 => ?_⟩
  · have z := hl j j0 j1
    omega
  · rw [hg.1 j b j0 j1 b0 b1]
    unfold gs_fg
    rw [if_neg hb2, if_neg hb1]
  · obtain ⟨c1, c2, c3, c4⟩ := hm i i0 i1
    have hv : xv_m m i := by
      rcases c1 with ⟨a, b, c⟩ | ⟨a, b, c⟩
      · exact Or.inl ⟨a, b, by omega⟩
      · have z := hl _ b c
        exact Or.inr ⟨a, b, by omega, by omega, by omega, z.2.2.1⟩
    refine ⟨hv, c2, ?_, fun b b0 b1 => ?_⟩
    · unfold xm_iu
      rcases c1 with ⟨a, b, c⟩ | ⟨a, b, c⟩
      · rw [if_pos a]
        have z := hr _ b (by omega)
        constructor <;> omega
      · rw [if_neg (by omega)]
        have z := hl _ b c
        have z2 := hr (m 1 (m 23 i)) (by omega) (by omega)
        split <;> constructor <;> omega
    · unfold xm_gr
      rcases c1 with ⟨a, b9, c⟩ | ⟨a, b9, c⟩
      · rw [if_pos a, hg.2 (m 23 i) b b9 (by omega) b0 b1]
        exact gs_ig_8 (by omega) _ (fun j j0 j1 => by have z := hl j j0 (by omega); exact ⟨hne j j0 (by omega), by omega, by omega, by omega, by omega⟩) (fun k hk9 => hu k (by omega))
      · rw [if_neg (by omega), hg.1 (m 23 i) b b9 c b0 b1]
        have z := hl _ b9 c
        exact gs_fg_8 (by omega)
  · have z := hr b b0 b1
    constructor <;> omega
  · have z := hm i i0 i1
    exact ⟨z.2.2.1, z.2.2.2⟩
/-- what the lines' methods leave -/
theorem fl_k {m : en_M} (h1 : 0 ≤ m 0 1 ∧ m 0 1 ≤ 8) {k : Int} (h : k ≠ 5) (h2 : k < 8 ∨ 21 ≤ k) : xm_fl m k = m k := by
  unfold xm_fl
  rw [en_rw_ne (by omega), en_rw_ne (by omega), en_ar_ne h]
theorem fl_5 {m : en_M} (h1 : 0 ≤ m 0 1 ∧ m 0 1 ≤ 8) {b : Int} (b0 : 0 ≤ b) (b1 : b < 5) : xm_fl m 5 b = gs_it (m 0 1).toNat (m 1) (m 2) (m 4) 4 b := by
  unfold xm_fl
  rw [en_rw_ne (by omega), en_rw_ne (by omega), en_ar_at b0 b1]
theorem fl_8 {m : en_M} (h1 : 0 ≤ m 0 1 ∧ m 0 1 ≤ 8) {j b : Int} (j0 : 0 ≤ j) (j1 : j < m 0 1) (b0 : 0 ≤ b) (b1 : b < 5) : xm_fl m (8 + j) b = gs_fg (m 1) (m 2) (m 3) (m 4) j b := by
  unfold xm_fl
  rw [en_rw_ne (by omega), en_rw_at j0 j1 b0 b1]
theorem fl_8z {m : en_M} (h1 : 0 ≤ m 0 1 ∧ m 0 1 ≤ 8) {j : Int} (j0 : m 0 1 ≤ j) (j1 : j < 8) : xm_fl m (8 + j) = m (8 + j) := by
  unfold xm_fl
  rw [en_rw_ne (by omega), en_rw_ne (by omega), en_ar_ne (by omega)]
theorem fl_16 {m : en_M} {p b : Int} (p0 : 0 ≤ p) (p1 : p < 5) (b0 : 0 ≤ b) (b1 : b < 5) : xm_fl m (16 + p) b = gs_ig (m 1) (m 2) (gs_fg (m 1) (m 2) (m 3) (m 4)) (m 0 1).toNat p b := by
  unfold xm_fl
  rw [en_rw_at p0 p1 b0 b1]
theorem inv_of {M m : en_M} (h1 : 0 ≤ m 0 1 ∧ m 0 1 ≤ 8) (hc : ∀ k, k < 21 → M k = xm_fl m k) (hz : xl_z m) (hk : xl_k M) (hl : xo_ln M) (hm : xo_mt M) (hne : ∀ j, 0 ≤ j → j < m 0 1 → m 1 j ≠ m 2 j) (hu : xl_u m) (ho : xr_ok M) : INV M := by
  have e0 : M 0 = m 0 := (hc 0 (by decide)).trans (fl_k h1 (by decide) (by decide))
  have e1 : M 1 = m 1 := (hc 1 (by decide)).trans (fl_k h1 (by decide) (by decide))
  have e2 : M 2 = m 2 := (hc 2 (by decide)).trans (fl_k h1 (by decide) (by decide))
  have e3 : M 3 = m 3 := (hc 3 (by decide)).trans (fl_k h1 (by decide) (by decide))
  have e4 : M 4 = m 4 := (hc 4 (by decide)).trans (fl_k h1 (by decide) (by decide))
  refine ⟨⟨hk, hl, hm, fun b b0 b1 => ?_, ⟨fun j b j0 j1 b0 b1 => ?_, fun p b p0 p1 b0 b1 => ?_⟩, ?_⟩, ?_, fun j b j0 j1 b0 b1 => ?_, ho⟩
  · rw [e0, e1, e2, e4, hc 5 (by decide), fl_5 h1 b0 b1]
  · rw [e0] at j1
    rw [e1, e2, e3, e4, hc (8 + j) (by omega), fl_8 h1 j0 j1 b0 b1]
  · rw [e0, e1, e2, e3, e4, hc (16 + p) (by omega), fl_16 p0 p1 b0 b1]
  · rw [e0, e1, e2]
    exact hne
  · unfold xl_u
    rw [e0, e1, e2]
    exact hu
  · rw [e0] at j0
    rw [hc (8 + j) (by omega), fl_8z h1 j0 j1]
    exact hz j b j0 j1 b0 b1
theorem inv_keep {M m : en_M} (h : INV m) (hc : ∀ k, k < 21 → M k = m k) (h28 : xr_ok M) (hk : xl_k M) (hl : xo_ln M) (hm : xo_mt M) : INV M := by
  have n1 := (inv_n h).2.1
  obtain ⟨⟨-, -, -, h5, hg, hne⟩, hu, hz, -⟩ := h
  have e0 := hc 0 (by decide)
  have e1 := hc 1 (by decide)
  have e2 := hc 2 (by decide)
  have e3 := hc 3 (by decide)
  have e4 := hc 4 (by decide)
  have e5 := hc 5 (by decide)
  refine ⟨⟨hk, hl, hm, ?_, ⟨fun j b j0 j1 b0 b1 => ?_, fun p b p0 p1 b0 b1 => ?_⟩, ?_⟩, ?_, fun j b j0 j1 b0 b1 => ?_, h28⟩
  · unfold xl_r
    rw [e0, e1, e2, e4, e5]
    exact h5
  · rw [e0] at j1
    rw [e1, e2, e3, e4, hc (8 + j) (by omega)]
    exact hg.1 j b j0 j1 b0 b1
  · rw [e0, e1, e2, e3, e4, hc (16 + p) (by omega)]
    exact hg.2 p b p0 p1 b0 b1
  · rw [e0, e1, e2]
    exact hne
  · unfold xl_u
    rw [e0, e1, e2]
    exact hu
  · rw [e0] at j0
    rw [hc (8 + j) (by omega)]
    exact hz j b j0 j1 b0 b1
/-- only scratch and the answer's cell have changed -/
def cq (M m : en_M) : Prop := (∀ k, (k < 28 ∨ 51 ≤ k) → M k = m k) ∧ xr_ok M
theorem cq_sc {M m : en_M} (h : en_sc M m) (ho : xr_ok M) : cq M m := ⟨fun k hk => h k (by omega), ho⟩
theorem cq_rf {m : en_M} (ho : xr_ok m) : cq m m := ⟨fun _ _ => rfl, ho⟩
theorem xr_ok_k {M m : en_M} (h : M 28 = m 28) (ho : xr_ok m) : xr_ok M := by
  unfold xr_ok
  rw [h]
  exact ho
theorem cq_50 {M m : en_M} {v : Int} (h : cq M m) : cq (en_set M 50 0 v) m := ⟨fun k hk => by rw [en_set_ne (by omega)]; exact h.1 k hk, xr_ok_k (en_set_ne (by decide)) h.2⟩
theorem cq_ag {M m : en_M} (h : cq M m) : en_ag M m := fun k hk => h.1 k (by omega)
theorem inv_cq {M m : en_M} (h : INV m) (hc : cq M m) : INV M := by
  refine inv_keep h (fun k hk => hc.1 k (by omega)) hc.2 ?_ ?_ ?_
  · have hk := h.1.1
    unfold xl_k at hk ⊢
    rw [hc.1 51 (by decide), hc.1 0 (by decide), hc.1 21 (by decide), hc.1 52 (by decide), hc.1 53 (by decide), hc.1 54 (by decide), hc.1 55 (by decide), hc.1 56 (by decide), hc.1 57 (by decide), hc.1 58 (by decide), hc.1 59 (by decide), hc.1 60 (by decide), hc.1 1 (by decide), hc.1 2 (by decide), hc.1 3 (by decide), hc.1 4 (by decide), hc.1 22 (by decide), hc.1 23 (by decide), hc.1 24 (by decide), hc.1 25 (by decide), hc.1 26 (by decide)]
    exact hk
  · exact xo_ln_k (fun k hk => hc.1 k (by omega)) (by rw [hc.1 51 (by decide)]) (by rw [hc.1 51 (by decide)]) h.1.2.1
  · exact xo_mt_k (fun k hk => hc.1 k (by omega)) (by rw [hc.1 51 (by decide)]) (by rw [hc.1 51 (by decide)]) (by rw [hc.1 51 (by decide)]) h.1.2.2.1
theorem inv_fr {M m : en_M} {c : Int} (h : INV m) (hf : mo_fr M m c) : INV M := by
  obtain ⟨h1, h2, h3⟩ := hf
  refine inv_keep h (fun k hk => h1 k (by omega) (by omega)) (xr_ok_k (h1 28 (by decide) (by decide)) h.2.2.2) ?_ ?_ ?_
  · have hk := h.1.1
    unfold xl_k at hk ⊢
    rw [h2 1 (by decide), h2 2 (by decide), h2 7 (by decide), h1 0 (by decide) (by decide), h1 21 (by decide) (by decide), h1 52 (by decide) (by decide), h1 53 (by decide) (by decide), h1 54 (by decide) (by decide), h1 55 (by decide) (by decide), h1 56 (by decide) (by decide), h1 57 (by decide) (by decide), h1 58 (by decide) (by decide), h1 59 (by decide) (by decide), h1 60 (by decide) (by decide), h1 1 (by decide) (by decide), h1 2 (by decide) (by decide), h1 3 (by decide) (by decide), h1 4 (by decide) (by decide), h1 22 (by decide) (by decide), h1 23 (by decide) (by decide), h1 24 (by decide) (by decide), h1 25 (by decide) (by decide), h1 26 (by decide) (by decide)]
    exact hk
  · exact xo_ln_k (fun k hk => h1 k (by omega) (by omega)) (h2 1 (by decide)) (h2 2 (by decide)) h.1.2.1
  · exact xo_mt_k (fun k hk => h1 k (by omega) (by omega)) (h2 1 (by decide)) (h2 2 (by decide)) (h2 7 (by decide)) h.1.2.2.1
theorem fr_51 (m : en_M) (c : Int) : mo_fr (en_set m 51 0 c) m c := ⟨fun k k0 _ => en_set_ne k0, fun j hj => en_set_nj (by omega), en_set_at⟩
