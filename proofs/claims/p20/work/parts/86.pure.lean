/-! PURE 14: an act leaves grids alike alike -/
theorem tw_hb {fi se fi' se' : Int → Int} {b o : Int} : ∀ n : Nat, (∀ j, 0 ≤ j → j < (n : Int) → fi' j = se j ∧ se' j = fi j) → gs_hb fi' se' o b n = gs_hb fi se b o n
  | 0, _ => rfl
  | n + 1, h => by
    have e := h n (by omega) (by omega)
    simp only [gs_hb]
    rw [tw_hb n (fun j j0 j1 => h j j0 (by omega)), e.1, e.2]
    congr 1
    apply decide_eq_decide.mpr
    constructor
    · rintro (⟨a, b⟩ | ⟨a, b⟩)
      · exact Or.inl ⟨b, a⟩
      · exact Or.inr ⟨b, a⟩
    · rintro (⟨a, b⟩ | ⟨a, b⟩)
      · exact Or.inl ⟨b, a⟩
      · exact Or.inr ⟨b, a⟩
section TW2
variable {M m : en_M}
theorem tl_k {M m : en_M} {f s g k : Int} (hI : INV m) (hk : 21 ≤ k) : t_lines m f s g k = m k := by
  have n := inv_n hI
  unfold t_lines
  by_cases c : (pB m f ∧ pB m s) ∧ (f ≠ s ∧ (1 ≤ g ∧ g ≤ 2)) ∧ (m 0 1 < 8 ∧ gs_hb (m 1) (m 2) f s (m 0 1).toNat = false)
  · rw [if_pos c, fl_k (by rw [xa_0, upd1_at]; omega) (by omega) (Or.inr hk), xa_k (by omega) (by omega) (by omega) (by omega) (by omega)]
  · rw [if_neg c]
theorem s_lines (h : tw M m) (hM : INV M) (hm : INV m) (f s g : Int) : w_lines M s f g = w_lines m f s g ∧ tw (t_lines M s f g) (t_lines m f s g) := by
  have n := inv_n hm
  have nM := inv_n hM
  have e1 : (pB M s ∧ pB M f) ↔ (pB m f ∧ pB m s) := by
    rw [tw_pB h, tw_pB h]
    exact And.comm
  have e2 : (s ≠ f ∧ (1 ≤ g ∧ g ≤ 2)) ↔ (f ≠ s ∧ (1 ≤ g ∧ g ≤ 2)) := by
    constructor
    · rintro ⟨a, b⟩
      exact ⟨fun z => a z.symm, b⟩
    · rintro ⟨a, b⟩
      exact ⟨fun z => a z.symm, b⟩
  have e3 : (M 0 1 < 8 ∧ gs_hb (M 1) (M 2) s f (M 0 1).toNat = false) ↔ (m 0 1 < 8 ∧ gs_hb (m 1) (m 2) f s (m 0 1).toNat = false) := by
    rw [h.1.2.1, tw_hb (fi := m 1) (se := m 2) (b := f) (o := s) (m 0 1).toNat (fun j j0 j1 => by have z := h.2.1 j j0 (by omega); exact ⟨z.1, z.2.1⟩)]
  constructor
  · unfold w_lines
    exact ite_c e1 (fun _ => ite_c e2 (fun _ => ite_c e3 (fun _ => h.1.2.1) (fun _ => rfl)) (fun _ => rfl)) (fun _ => rfl)
  · unfold t_lines
    by_cases c : (pB m f ∧ pB m s) ∧ (f ≠ s ∧ (1 ≤ g ∧ g ≤ 2)) ∧ (m 0 1 < 8 ∧ gs_hb (m 1) (m 2) f s (m 0 1).toNat = false)
    · rw [if_pos c, if_pos ⟨e1.mpr c.1, e2.mpr c.2.1, e3.mpr c.2.2⟩]
      have k1 : 0 ≤ xm_ap m f s g 0 1 ∧ xm_ap m f s g 0 1 ≤ 8 := by rw [xa_0, upd1_at]; omega
      have k2 : 0 ≤ xm_ap M s f g 0 1 ∧ xm_ap M s f g 0 1 ≤ 8 := by rw [xa_0, upd1_at, h.1.2.1]; omega
      have q1 : ∀ k : Int, k ≠ 5 → (k < 8 ∨ 21 ≤ k) → xm_fl (xm_ap m f s g) k = xm_ap m f s g k := fun k a b => fl_k k1 a b
      have q2 : ∀ k : Int, k ≠ 5 → (k < 8 ∨ 21 ≤ k) → xm_fl (xm_ap M s f g) k = xm_ap M s f g k := fun k a b => fl_k k2 a b
      have r1 : ∀ k : Int, 21 ≤ k → xm_fl (xm_ap m f s g) k = m k := fun k a => by rw [q1 k (by omega) (Or.inr a), xa_k (by omega) (by omega) (by omega) (by omega) (by omega)]
      have r2 : ∀ k : Int, 21 ≤ k → xm_fl (xm_ap M s f g) k = M k := fun k a => by rw [q2 k (by omega) (Or.inr a), xa_k (by omega) (by omega) (by omega) (by omega) (by omega)]
      unfold tw
      rw [q1 0 (by decide) (by decide), q1 1 (by decide) (by decide), q1 2 (by decide) (by decide), q1 3 (by decide) (by decide), q1 4 (by decide) (by decide), q2 0 (by decide) (by decide), q2 1 (by decide) (by decide), q2 2 (by decide) (by decide), q2 3 (by decide) (by decide), q2 4 (by decide) (by decide), r1 21 (by decide), r1 22 (by decide), r1 23 (by decide), r1 24 (by decide), r1 25 (by decide), r1 26 (by decide), r2 21 (by decide), r2 22 (by decide), r2 23 (by decide), r2 24 (by decide), r2 25 (by decide), r2 26 (by decide), xa_0, xa_0, xa_1, xa_1, xa_2, xa_2, xa_3, xa_3, xa_4, xa_4, upd1_at, upd1_at, upd1_ne (by decide), upd1_ne (by decide), h.1.2.1]
      refine ⟨⟨h.1.1, rfl, h.1.2.2⟩, fun j j0 j1 => ?_, h.2.2⟩
      by_cases e : j = m 0 1
      · rw [e, upd1_at, upd1_at, upd1_at, upd1_at, upd1_at, upd1_at, upd1_at, upd1_at]
        exact ⟨rfl, rfl, rfl, rfl⟩
      · rw [upd1_ne e, upd1_ne e, upd1_ne e, upd1_ne e, upd1_ne e, upd1_ne e, upd1_ne e, upd1_ne e]
        exact h.2.1 j j0 (by omega)
    · rw [if_neg c, if_neg (fun z => c ⟨e1.mp z.1, e2.mp z.2.1, e3.mp z.2.2⟩)]
      exact h
theorem s_breaks (h : tw M m) (hM : INV M) (hm : INV m) (i c : Int) : w_breaks M i c = w_breaks m i c ∧ tw (t_breaks M i c) (t_breaks m i c) := by
  have n := inv_n hm
  constructor
  · unfold w_breaks
    exact ite_c (tw_pL h i) (fun z => (h.2.1 i z.1 z.2).2.2.2) (fun _ => rfl)
  · unfold t_breaks
    by_cases z : pL m i
    · rw [if_pos z, if_pos ((tw_pL h i).mpr z)]
      have w0 : xm_sw m i c 0 = m 0 := xw_k (by decide)
      have w1 : xm_sw M i c 0 = M 0 := xw_k (by decide)
      have q1 : ∀ k : Int, k ≠ 5 → (k < 8 ∨ 21 ≤ k) → xm_fl (xm_sw m i c) k = xm_sw m i c k := fun k a b => fl_k (by rw [w0]; exact n.2.1) a b
      have q2 : ∀ k : Int, k ≠ 5 → (k < 8 ∨ 21 ≤ k) → xm_fl (xm_sw M i c) k = xm_sw M i c k := fun k a b => fl_k (by rw [w1]; exact (inv_n hM).2.1) a b
      have r1 : ∀ k : Int, k ≠ 5 → k ≠ 4 → (k < 8 ∨ 21 ≤ k) → xm_fl (xm_sw m i c) k = m k := fun k a a2 b => by rw [q1 k a b, xw_k a2]
      have r2 : ∀ k : Int, k ≠ 5 → k ≠ 4 → (k < 8 ∨ 21 ≤ k) → xm_fl (xm_sw M i c) k = M k := fun k a a2 b => by rw [q2 k a b, xw_k a2]
      unfold tw
      rw [r1 0 (by decide) (by decide) (by decide), r1 1 (by decide) (by decide) (by decide), r1 2 (by decide) (by decide) (by decide), r1 3 (by decide) (by decide) (by decide), q1 4 (by decide) (by decide), r2 0 (by decide) (by decide) (by decide), r2 1 (by decide) (by decide) (by decide), r2 2 (by decide) (by decide) (by decide), r2 3 (by decide) (by decide) (by decide), q2 4 (by decide) (by decide), r1 21 (by decide) (by decide) (by decide), r1 22 (by decide) (by decide) (by decide), r1 23 (by decide) (by decide) (by decide), r1 24 (by decide) (by decide) (by decide), r1 25 (by decide) (by decide) (by decide), r1 26 (by decide) (by decide) (by decide), r2 21 (by decide) (by decide) (by decide), r2 22 (by decide) (by decide) (by decide), r2 23 (by decide) (by decide) (by decide), r2 24 (by decide) (by decide) (by decide), r2 25 (by decide) (by decide) (by decide), r2 26 (by decide) (by decide) (by decide)]
      refine ⟨h.1, fun j j0 j1 => ?_, h.2.2⟩
      have y := h.2.1 j j0 j1
      refine ⟨y.1, y.2.1, y.2.2.1, ?_⟩
      unfold xm_sw
      rw [en_set_f, en_set_f]
      by_cases e : j = i
      · rw [e, upd1_at, upd1_at]
      · rw [upd1_ne e, upd1_ne e]
        exact y.2.2.2
    · rw [if_neg z, if_neg (fun y => z ((tw_pL h i).mp y))]
      exact h
theorem s_adds (h : tw M m) (hM : INV M) (hm : INV m) (k p z a : Int) (hz : k = 0 ∨ k = 1) : w_adds M k p (sgk k * z) a = w_adds m k p z a ∧ tw (t_adds M k p (sgk k * z) a) (t_adds m k p z a) := by
  have n := inv_n hm
  have e1 : ((k = 0 ∨ k = 1) ∧ (-50 ≤ sgk k * z ∧ sgk k * z ≤ 50) ∧ (1 ≤ a ∧ a ≤ 2)) ↔ ((k = 0 ∨ k = 1) ∧ (-50 ≤ z ∧ z ≤ 50) ∧ (1 ≤ a ∧ a ≤ 2)) := by
    rcases sgk_c k with c | c <;> rw [c] <;> omega
  have e2 : (0 ≤ p ∧ p < (if k = 0 then M 0 1 else M 0 0)) ↔ (0 ≤ p ∧ p < (if k = 0 then m 0 1 else m 0 0)) := by
    rw [h.1.1, h.1.2.1]
  have e3 : M 21 1 < 10 ↔ m 21 1 < 10 := by rw [h.1.2.2]
  constructor
  · unfold w_adds
    exact ite_c e1 (fun _ => ite_c e2 (fun _ => ite_c e3 (fun _ => h.1.2.2) (fun _ => rfl)) (fun _ => rfl)) (fun _ => rfl)
  · unfold t_adds
    by_cases c : ((k = 0 ∨ k = 1) ∧ (-50 ≤ z ∧ z ≤ 50) ∧ (1 ≤ a ∧ a ≤ 2)) ∧ (0 ≤ p ∧ p < (if k = 0 then m 0 1 else m 0 0)) ∧ (m 21 1 < 10)
    · rw [if_pos c, if_pos ⟨e1.mpr c.1, e2.mpr c.2.1, e3.mpr c.2.2⟩]
      unfold tw
      rw [xn_21, xn_21, xn_22, xn_22, xn_23, xn_23, xn_24, xn_24, xn_25, xn_25, xn_26, xn_26, upd1_at, upd1_at, xn_k (j := 0) (by decide), xn_k (j := 0) (by decide), xn_k (j := 1) (by decide), xn_k (j := 1) (by decide), xn_k (j := 2) (by decide), xn_k (j := 2) (by decide), xn_k (j := 3) (by decide), xn_k (j := 3) (by decide), xn_k (j := 4) (by decide), xn_k (j := 4) (by decide), h.1.2.2]
      refine ⟨⟨h.1.1, h.1.2.1, rfl⟩, h.2.1, fun i i0 i1 => ?_⟩
      by_cases e : i = m 21 1
      · rw [e, upd1_at, upd1_at, upd1_at, upd1_at, upd1_at, upd1_at, upd1_at, upd1_at, upd1_at, upd1_at]
        exact ⟨rfl, rfl, rfl, rfl, rfl⟩
      · rw [upd1_ne e, upd1_ne e, upd1_ne e, upd1_ne e, upd1_ne e, upd1_ne e, upd1_ne e, upd1_ne e, upd1_ne e, upd1_ne e]
        exact h.2.2 i i0 (by omega)
    · rw [if_neg c, if_neg (fun y => c ⟨e1.mp y.1, e2.mp y.2.1, e3.mp y.2.2⟩)]
      exact h
theorem tw_set26 (h : tw M m) (i c : Int) : tw (en_set M 26 i c) (en_set m 26 i c) := by
  unfold tw
  have e : ∀ (m : en_M) (k : Int), k ≠ 26 → en_set m 26 i c k = m k := fun m k hk => en_set_ne hk
  rw [e M 0 (by decide), e M 1 (by decide), e M 2 (by decide), e M 3 (by decide), e M 4 (by decide), e M 21 (by decide), e M 22 (by decide), e M 23 (by decide), e M 24 (by decide), e M 25 (by decide), e m 0 (by decide), e m 1 (by decide), e m 2 (by decide), e m 3 (by decide), e m 4 (by decide), e m 21 (by decide), e m 22 (by decide), e m 23 (by decide), e m 24 (by decide), e m 25 (by decide), en_set_f, en_set_f]
  refine ⟨h.1, h.2.1, fun j j0 j1 => ?_⟩
  have z := h.2.2 j j0 j1
  refine ⟨z.1, z.2.1, z.2.2.1, z.2.2.2.1, ?_⟩
  by_cases ej : j = i
  · rw [ej, upd1_at, upd1_at]
  · rw [upd1_ne ej, upd1_ne ej]
    exact z.2.2.2.2
theorem s_reads (h : tw M m) (hM : INV M) (hm : INV m) (i z s : Int) (hs : pM m i → s = sgk (m 22 i)) (hs2 : s = 1 ∨ s = -1) : (if w_reads M i (s * z) < -50 then w_reads M i (s * z) else s * w_reads M i (s * z)) = w_reads m i z ∧ tw (t_reads M i (s * z)) (t_reads m i z) := by
  have e2 : (-50 ≤ s * z ∧ s * z ≤ 50) ↔ (-50 ≤ z ∧ z ≤ 50) := by
    rcases hs2 with c | c <;> rw [c] <;> omega
  constructor
  · unfold w_reads
    by_cases c : pM m i
    · have y := h.2.2 i c.1 c.2
      have r := (inv_mt hm i c.1 c.2).2.2.1
      rw [if_pos c, if_pos ((tw_pM h i).mpr c)]
      by_cases c2 : -50 ≤ z ∧ z ≤ 50
      · rw [if_pos c2, if_pos (e2.mpr c2), y.2.2.1, ← hs c]
        have q : s * (s * m 24 i) = m 24 i := by
          rcases hs2 with c | c <;> rw [c] <;> omega
        have q2 : ¬ s * m 24 i < -50 := by
          rcases hs2 with c | c <;> rw [c] <;> omega
        rw [if_neg q2, q]
      · rw [if_neg c2, if_neg (fun z => c2 (e2.mp z)), if_pos (by decide)]
    · rw [if_neg c, if_neg (fun z => c ((tw_pM h i).mp z)), if_pos (by decide)]
  · unfold t_reads
    by_cases c : (pM m i) ∧ (-50 ≤ z ∧ z ≤ 50)
    · rw [if_pos c, if_pos ⟨(tw_pM h i).mpr c.1, e2.mpr c.2⟩]
      unfold tw
      have e : ∀ (m : en_M) (v k : Int), k ≠ 24 → en_set m 24 i v k = m k := fun m v k hk => en_set_ne hk
      rw [e M _ 0 (by decide), e M _ 1 (by decide), e M _ 2 (by decide), e M _ 3 (by decide), e M _ 4 (by decide), e M _ 21 (by decide), e M _ 22 (by decide), e M _ 23 (by decide), e M _ 26 (by decide), e M _ 25 (by decide), e m _ 0 (by decide), e m _ 1 (by decide), e m _ 2 (by decide), e m _ 3 (by decide), e m _ 4 (by decide), e m _ 21 (by decide), e m _ 22 (by decide), e m _ 23 (by decide), e m _ 26 (by decide), e m _ 25 (by decide), en_set_f, en_set_f]
      refine ⟨h.1, h.2.1, fun j j0 j1 => ?_⟩
      have y := h.2.2 j j0 j1
      refine ⟨y.1, y.2.1, ?_, y.2.2.2⟩
      by_cases ej : j = i
      · rw [ej, upd1_at, upd1_at, hs c.1]
      · rw [upd1_ne ej, upd1_ne ej]
        exact y.2.2.1
    · rw [if_neg c, if_neg (fun y => c ⟨(tw_pM h i).mp y.1, e2.mp y.2⟩)]
      exact h
theorem s_uses (h : tw M m) (i c : Int) : w_uses M i c = w_uses m i c ∧ tw (t_uses M i c) (t_uses m i c) := by
  constructor
  · unfold w_uses
    exact ite_c (tw_pM h i) (fun z => (h.2.2 i z.1 z.2).2.2.2.2) (fun _ => rfl)
  · unfold t_uses
    by_cases z : pM m i
    · rw [if_pos z, if_pos ((tw_pM h i).mpr z)]
      exact tw_set26 h i c
    · rw [if_neg z, if_neg (fun y => z ((tw_pM h i).mp y))]
      exact h
theorem wm_rng (m : en_M) (q : Int) (h : 0 ≤ m 21 1) : -1 ≤ xe_wm m q ∧ xe_wm m q < m 21 1 := by
  have z := gm_wm_rng (xm_io m) (xe_ws m q) q (m 21 1).toNat
  unfold xe_wm
  omega
theorem s_dr (h : tw M m) (hM : INV M) (hm : INV m) (q lim : Int) : xe_dr M q lim ↔ xe_dr m q lim := by
  have n := inv_n hm
  have r := wm_rng m q n.2.2.1
  unfold xe_dr
  rw [tw_wm h hM hm, tw_D h hM.1 hm.1]
  by_cases c : xe_wm m q = -1
  · exact ⟨fun z => absurd c z.1, fun z => absurd c z.1⟩
  · rw [tw_ws h hM hm q (by omega) r.2, tw_nd h hM.1 hm.1 (by omega) r.2]
theorem s_cl (q lim : Int) : ∀ (n : Nat) {M m : en_M}, tw M m → INV M → INV m → (xe_cl q lim n M).1 = (xe_cl q lim n m).1 ∧ tw (xe_cl q lim n M).2 (xe_cl q lim n m).2
  | 0, M, m, h, hM, hm => ⟨rfl, h⟩
  | n + 1, M, m, h, hM, hm => by
    have d := s_dr h hM hm q lim
    simp only [xe_cl]
    by_cases c : xe_dr m q lim
    · have t : tw (xe_st M q lim) (xe_st m q lim) := by
        unfold xe_st
        rw [if_pos c, if_pos (d.mpr c), tw_wm h hM hm]
        exact tw_set26 h _ _
      have ih := s_cl q lim n t (it_st hM q lim) (it_st hm q lim)
      rw [if_pos c, if_pos (d.mpr c)]
      exact ⟨by rw [ih.1], ih.2⟩
    · rw [if_neg c, if_neg (fun z => c (d.mp z))]
      exact ⟨rfl, h⟩
theorem s_cleans (h : tw M m) (hM : INV M) (hm : INV m) (b lim : Int) : w_cleans M b lim = w_cleans m b lim ∧ tw (t_cleans M b lim) (t_cleans m b lim) := by
  have n := inv_n hm
  constructor
  · unfold w_cleans
    refine ite_c (tw_pB h b) (fun c => ite_c Iff.rfl (fun _ => ?_) (fun _ => rfl)) (fun _ => rfl)
    rw [tw_5 h hM.1 hm.1 c.1 (by omega)]
    exact ite_c (tw_ob h hM.1 hm.1 _) (fun _ => (s_cl _ _ 10 h hM hm).1) (fun _ => rfl)
  · unfold t_cleans
    by_cases c : pB m b
    · have e5 := tw_5 h hM.1 hm.1 c.1 (show b < 5 by omega)
      rw [e5]
      by_cases c2 : (pB m b) ∧ (0 ≤ lim ∧ lim ≤ 200) ∧ (obs m (m 5 b))
      · rw [if_pos c2, if_pos ⟨(tw_pB h b).mpr c, c2.2.1, (tw_ob h hM.1 hm.1 _).mpr c2.2.2⟩]
        exact (s_cl _ _ 10 h hM hm).2
      · rw [if_neg c2, if_neg (fun z => c2 ⟨c, z.2.1, (tw_ob h hM.1 hm.1 _).mp z.2.2⟩)]
        exact h
    · rw [if_neg (fun z => c ((tw_pB h b).mp z.1)), if_neg (fun z => c z.1)]
      exact h
/-- an act of both -/
theorem s_act (h : tw M m) (hM : INV M) (hm : INV m) {x : Int} (hx : 0 ≤ x ∧ x < 2147483648) : ac_w M 1 x = ac_w m 0 x ∧ tw (ac_t M 1 x) (ac_t m 0 x) := by
  have e1 : a1 M x = a1 m x := by unfold a1; rw [h.1.1]
  have e2 : a2 M x = a2 m x := by unfold a2; rw [h.1.1]
  have e3 : al M x = al m x := by unfold al; rw [h.1.2.1]
  have e4 : am M x = am m x := by unfold am; rw [h.1.2.2]
  have n := inv_n hm
  have r := (ac_rng hm hx).2.2.2.2.2.1
  unfold ac_w ac_t
  rw [e1, e2, e3, e4]
  by_cases c1 : x % 16 < 4
  · rw [if_pos c1, if_pos c1, if_pos c1, if_pos c1, if_neg (show ¬ (1 : Int) = 0 by decide), if_neg (show ¬ (1 : Int) = 0 by decide), if_pos (show (0 : Int) = 0 from rfl), if_pos (show (0 : Int) = 0 from rfl)]
    exact s_lines h hM hm _ _ _
  · rw [if_neg c1, if_neg c1, if_neg c1, if_neg c1]
    by_cases c2 : x % 16 < 6
    · rw [if_pos c2, if_pos c2, if_pos c2, if_pos c2]
      exact s_breaks h hM hm _ _
    · rw [if_neg c2, if_neg c2, if_neg c2, if_neg c2]
      by_cases c3 : x % 16 < 9
      · rw [if_pos c3, if_pos c3, if_pos c3, if_pos c3, if_neg (show ¬ (1 : Int) = 0 by decide), if_pos (show (0 : Int) = 0 from rfl)]
        have z := s_adds h hM hm 0 (al m x) (ar x) (1 + ay x % 2) (Or.inl rfl)
        rw [show sgk 0 * ar x = -(ar x) by unfold sgk; rw [if_pos rfl]; omega] at z
        exact z
      · rw [if_neg c3, if_neg c3, if_neg c3, if_neg c3]
        by_cases c4 : x % 16 < 11
        · rw [if_pos c4, if_pos c4, if_pos c4, if_pos c4]
          have z := s_adds h hM hm 1 (a1 m x) (ar x) (1 + ay x % 2) (Or.inr rfl)
          rw [show sgk 1 * ar x = ar x by unfold sgk; rw [if_neg (by decide)]; omega] at z
          exact z
        · rw [if_neg c4, if_neg c4, if_neg c4, if_neg c4]
          by_cases c5 : x % 16 < 13
          · rw [if_pos c5, if_pos c5, if_pos c5, if_pos c5]
            have s0 : asg m 0 x = 1 := by
              unfold asg
              rw [if_neg (fun z => z.1 rfl)]
            rw [s0, Int.one_mul]
            have w50 : (if w_reads m (am m x) (ar x) < -50 then w_reads m (am m x) (ar x) else 1 * w_reads m (am m x) (ar x)) = w_reads m (am m x) (ar x) := by
              rw [Int.one_mul]
              split <;> rfl
            rw [w50]
            refine s_reads h hM hm _ _ _ (fun hp => ?_) ?_
            · unfold asg sgk
              rw [e4, h.1.2.2, (h.2.2 _ hp.1 hp.2).1]
              by_cases c : m 22 (am m x) = 0
              · rw [if_pos c, if_pos ⟨by decide, by omega, c⟩]
              · rw [if_neg c, if_neg (fun z => c z.2.2)]
            · unfold asg
              split
              · exact Or.inr rfl
              · exact Or.inl rfl
          · rw [if_neg c5, if_neg c5, if_neg c5, if_neg c5]
            by_cases c6 : x % 16 < 15
            · rw [if_pos c6, if_pos c6, if_pos c6, if_pos c6]
              exact s_uses h _ _
            · rw [if_neg c6, if_neg c6, if_neg c6, if_neg c6]
              exact s_cleans h hM hm _ _
end TW2
