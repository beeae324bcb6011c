/-! LAW 2: what the wrappers answer, and what they leave -/
theorem en_MetS_imp {l : Launch} {w : en_W} {y : MethodName} {ws : List Cond} {rm : Room} {As : List en_V} {m : en_M} {post post' : Option en_V → en_M → Prop} (h : en_MetS l w y ws rm As m post) (hp : ∀ r m', post r m' → post' r m') : en_MetS l w y ws rm As m post' := by
  intro sz p e ha hc hk s m9 args below hf happ hP hK
  obtain ⟨n, o, h1, h2, h3, h4, h5⟩ := h sz p e ha hc hk s m9 args below hf happ hP hK
  obtain ⟨⟨r, m', q1, q2, q3, q4⟩, q5⟩ := h4
  exact ⟨n, o, h1, h2, h3, ⟨⟨r, m', q1, hp r m' q2, q3, q4⟩, q5⟩, h5⟩
abbrev pB (m : en_M) (b : Int) : Prop := 0 ≤ b ∧ b < m 0 0
abbrev pL (m : en_M) (j : Int) : Prop := 0 ≤ j ∧ j < m 0 1
abbrev pM (m : en_M) (i : Int) : Prop := 0 ≤ i ∧ i < m 21 1
abbrev obs (m : en_M) (q : Int) : Prop := xm_rk m (-1) q = gs_cu (m 5) q 5
theorem sp_b {m : en_M} (hI : INV m) {b : Int} (q0 : 0 ≤ m 5 b) (hb : -1 ≤ b ∧ b < 5) (ho : xm_ob m (m 5 b)) : xb_d m (m 5 b) ∧ xb_a m (m 5 b) b := by
  have x := inv_xc hI
  have p := lk_pos hI.1 x.2.2.2 q0 ho
  have d := bd_D hI.1 x.2.2.1 x.2.2.2 (m 5 b) (-1) (by omega)
  have e := bd_D hI.1 x.2.2.1 x.2.2.2 (m 5 b) b hb
  exact ⟨⟨p, by omega⟩, by constructor <;> omega⟩
theorem sp_r {m : en_M} (hI : INV m) {i : Int} (i0 : 0 ≤ i) (i1 : i < m 21 1) (hn : xm_iu m i ≠ -1) (ho : xm_ob m (xm_iu m i)) : xb_d m (xm_iu m i) ∧ xb_r m (xm_iu m i) i := by
  have x := inv_xc hI
  have z := lk_iu hI.1 i0 i1
  have p := lk_pos hI.1 x.2.2.2 (q := xm_iu m i) (by omega) ho
  have d := bd_D hI.1 x.2.2.1 x.2.2.2 (xm_iu m i) (-1) (by omega)
  have e := bd_rs hI.1 x.2.2.1 x.2.2.2 (xm_iu m i) i0 i1
  exact ⟨⟨p, by omega⟩, by constructor <;> omega⟩
def w_lines (m : en_M) (f s g : Int) : Int := if pB m f ∧ pB m s then (if f ≠ s ∧ (1 ≤ g ∧ g ≤ 2) then (if m 0 1 < 8 ∧ gs_hb (m 1) (m 2) f s (m 0 1).toNat = false then (m 0 1) else (-2000000003)) else (-2000000002)) else (-2000000001)
def t_lines (m : en_M) (f s g : Int) : en_M := if (pB m f ∧ pB m s) ∧ (f ≠ s ∧ (1 ≤ g ∧ g ≤ 2)) ∧ (m 0 1 < 8 ∧ gs_hb (m 1) (m 2) f s (m 0 1).toNat = false) then xm_fl (xm_ap m f s g) else m
theorem K_lines {l : Launch} {w : en_W} {m : en_M} {f s g : Int} (hw : en_Wok w) (hp : en_Has w 0 50) (hl : l.stackTraces = false) (hI : INV m) (rf : en_i32 f) (rs : en_i32 s) (rg : en_i32 g) : en_MetS l w yL_lines wsL_lines rm_L_lines [en_R 49, en_I f, en_I s, en_I g] m (fun r m' => r = some (en_I (w_lines m f s g)) ∧ m' = t_lines m f s g) := by
  have hx := inv_xc hI
  have hn := inv_n hI
  refine en_MetS_imp (k_L_lines hw hp hl (k_X4_addLine hw hp hl hx.1 rf rs rg) (fun r m1 hq => ⟨_, hq.1⟩) (fun E m1 hq => ?_)) (fun r m' hq => ?_)
  · rcases hq.2 with h | h | h
    · exact Or.inl (h.1)
    · exact Or.inr (Or.inl (h.1))
    · exact Or.inr (Or.inr (h.1))
  · unfold w_lines t_lines
    rcases hq with ⟨v, ⟨e, rfl, c11, c12, c21, c22, c31, c32⟩, rfl⟩ | ⟨E, hx9, hc⟩
    · rw [e]
      have c1 : pB m f ∧ pB m s := ⟨c11, c12⟩
      have c2 : f ≠ s ∧ (1 ≤ g ∧ g ≤ 2) := ⟨c21, c22⟩
      have c3 : m 0 1 < 8 ∧ gs_hb (m 1) (m 2) f s (m 0 1).toNat = false := ⟨c31, c32⟩
      rw [if_pos c1, if_pos c2, if_pos c3]
      rw [if_pos ⟨c1, c2, c3⟩]
      exact ⟨rfl, rfl⟩
    · obtain ⟨rfl, hr⟩ := hx9
      rcases hr with ⟨e1, b1⟩ | ⟨e1, b1, b2⟩ | ⟨e1, b1, b2, b3⟩
      · rcases hc with ⟨e2, rfl⟩ | ⟨e2, rfl⟩ | ⟨e2, rfl⟩
        · rw [if_neg b1]
          rw [if_neg (fun z => b1 z.1)]
          exact ⟨rfl, rfl⟩
        · exact absurd (e1.symm.trans e2) (by decide)
        · exact absurd (e1.symm.trans e2) (by decide)
      · rcases hc with ⟨e2, rfl⟩ | ⟨e2, rfl⟩ | ⟨e2, rfl⟩
        · exact absurd (e1.symm.trans e2) (by decide)
        · rw [if_pos b1, if_neg b2]
          rw [if_neg (fun z => b2 z.2.1)]
          exact ⟨rfl, rfl⟩
        · exact absurd (e1.symm.trans e2) (by decide)
      · rcases hc with ⟨e2, rfl⟩ | ⟨e2, rfl⟩ | ⟨e2, rfl⟩
        · exact absurd (e1.symm.trans e2) (by decide)
        · exact absurd (e1.symm.trans e2) (by decide)
        · rw [if_pos b1, if_pos b2, if_neg b3]
          rw [if_neg (fun z => b3 z.2.2)]
          exact ⟨rfl, rfl⟩
def w_breaks (m : en_M) (i c : Int) : Int := if pL m i then (m 4 i) else (-2000000001)
def t_breaks (m : en_M) (i c : Int) : en_M := if (pL m i) then xm_fl (xm_sw m i c) else m
theorem K_breaks {l : Launch} {w : en_W} {m : en_M} {i c : Int} (hw : en_Wok w) (hp : en_Has w 0 50) (hl : l.stackTraces = false) (hI : INV m) (ri : en_i32 i) (c0 : c = 0 ∨ c = 1) : en_MetS l w yL_breaks wsL_breaks rm_L_breaks [en_R 49, en_I i, en_I c] m (fun r m' => r = some (en_I (w_breaks m i c)) ∧ m' = t_breaks m i c) := by
  have hx := inv_xc hI
  have hn := inv_n hI
  refine en_MetS_imp (k_L_breaks hw hp hl (k_X4_setBreaker hw hp hl hx.1 ri c0) (fun r m1 hq => ⟨_, hq.1, (inv_ln hI i hq.2.2.1 hq.2.2.2).2.2.1⟩) (fun E m1 hq => ?_)) (fun r m' hq => ?_)
  · exact hq.1
  · unfold w_breaks t_breaks
    rcases hq with ⟨v, ⟨e, rfl, c1⟩, rfl⟩ | ⟨E, hx9, hc⟩
    · rw [e]
      rw [if_pos c1]
      rw [if_pos c1]
      exact ⟨rfl, rfl⟩
    · obtain ⟨-, rfl, b1⟩ := hx9
      obtain ⟨-, rfl⟩ := hc
      rw [if_neg b1]
      rw [if_neg b1]
      exact ⟨rfl, rfl⟩
def w_reference (m : en_M) (b : Int) : Int := if pB m b then (m 5 b) else (-2000000001)
theorem K_reference {l : Launch} {w : en_W} {m : en_M} {b : Int} (hw : en_Wok w) (hp : en_Has w 0 50) (hl : l.stackTraces = false) (hI : INV m) (rb : en_i32 b) : en_MetS l w yL_reference wsL_reference rm_L_reference [en_R 49, en_I b] m (fun r m' => r = some (en_I (w_reference m b)) ∧ m' = m) := by
  have hx := inv_xc hI
  have hn := inv_n hI
  refine en_MetS_imp (k_L_reference hw hp hl (k_X4_reference hw hp hl hn.1 rb) (fun r m1 hq => ⟨_, hq.1⟩) (fun E m1 hq => ?_)) (fun r m' hq => ?_)
  · exact hq.1
  · unfold w_reference
    rcases hq with ⟨v, ⟨e, rfl, c1⟩, rfl⟩ | ⟨E, hx9, hc⟩
    · rw [e]
      rw [if_pos c1]
      exact ⟨rfl, rfl⟩
    · obtain ⟨-, rfl, b1⟩ := hx9
      obtain ⟨-, rfl⟩ := hc
      rw [if_neg b1]
      exact ⟨rfl, rfl⟩
def w_adds (m : en_M) (k p z a : Int) : Int := if (k = 0 ∨ k = 1) ∧ (-50 ≤ z ∧ z ≤ 50) ∧ (1 ≤ a ∧ a ≤ 2) then (if 0 ≤ p ∧ p < (if k = 0 then m 0 1 else m 0 0) then (if m 21 1 < 10 then (m 21 1) else (-2000000003)) else (-2000000001)) else (-2000000002)
def t_adds (m : en_M) (k p z a : Int) : en_M := if ((k = 0 ∨ k = 1) ∧ (-50 ≤ z ∧ z ≤ 50) ∧ (1 ≤ a ∧ a ≤ 2)) ∧ (0 ≤ p ∧ p < (if k = 0 then m 0 1 else m 0 0)) ∧ (m 21 1 < 10) then xm_am m k p z a else m
theorem K_adds {l : Launch} {w : en_W} {m : en_M} {k p z a : Int} (hw : en_Wok w) (hp : en_Has w 0 50) (hl : l.stackTraces = false) (hI : INV m) (rk : en_i32 k) (rp : en_i32 p) (rr : en_i32 z) (ra : en_i32 a) : en_MetS l w yL_adds wsL_adds rm_L_adds [en_R 49, en_I k, en_I p, en_I z, en_I a] m (fun r m' => r = some (en_I (w_adds m k p z a)) ∧ m' = t_adds m k p z a) := by
  have hx := inv_xc hI
  have hn := inv_n hI
  refine en_MetS_imp (k_L_adds hw hp hl (k_X4_addMeter hw hp hl hn.1 hn.2.1 hn.2.2 rk rp rr ra) (fun r m1 hq => ⟨_, hq.1⟩) (fun E m1 hq => ?_)) (fun r m' hq => ?_)
  · rcases hq.2 with h | h | h
    · exact Or.inl (h.1)
    · exact Or.inr (Or.inl (h.1))
    · exact Or.inr (Or.inr (h.1))
  · unfold w_adds t_adds
    rcases hq with ⟨v, ⟨e, rfl, c11, c12, c13, c2, c3⟩, rfl⟩ | ⟨E, hx9, hc⟩
    · rw [e]
      have c1 : (k = 0 ∨ k = 1) ∧ (-50 ≤ z ∧ z ≤ 50) ∧ (1 ≤ a ∧ a ≤ 2) := ⟨c11, c12, c13⟩
      rw [if_pos c1, if_pos c2, if_pos c3]
      rw [if_pos ⟨c1, c2, c3⟩]
      exact ⟨rfl, rfl⟩
    · obtain ⟨rfl, hr⟩ := hx9
      rcases hr with ⟨e1, b1⟩ | ⟨e1, b1, b2⟩ | ⟨e1, b1, b2, b3⟩
      · rcases hc with ⟨e2, rfl⟩ | ⟨e2, rfl⟩ | ⟨e2, rfl⟩
        · rw [if_neg b1]
          rw [if_neg (fun z => b1 z.1)]
          exact ⟨rfl, rfl⟩
        · exact absurd (e1.symm.trans e2) (by decide)
        · exact absurd (e1.symm.trans e2) (by decide)
      · rcases hc with ⟨e2, rfl⟩ | ⟨e2, rfl⟩ | ⟨e2, rfl⟩
        · exact absurd (e1.symm.trans e2) (by decide)
        · rw [if_pos b1, if_neg b2]
          rw [if_neg (fun z => b2 z.2.1)]
          exact ⟨rfl, rfl⟩
        · exact absurd (e1.symm.trans e2) (by decide)
      · rcases hc with ⟨e2, rfl⟩ | ⟨e2, rfl⟩ | ⟨e2, rfl⟩
        · exact absurd (e1.symm.trans e2) (by decide)
        · exact absurd (e1.symm.trans e2) (by decide)
        · rw [if_pos b1, if_pos b2, if_neg b3]
          rw [if_neg (fun z => b3 z.2.2)]
          exact ⟨rfl, rfl⟩
def w_reads (m : en_M) (i z : Int) : Int := if pM m i then (if -50 ≤ z ∧ z ≤ 50 then (m 24 i) else (-2000000002)) else (-2000000001)
def t_reads (m : en_M) (i z : Int) : en_M := if (pM m i) ∧ (-50 ≤ z ∧ z ≤ 50) then en_set m 24 i z else m
theorem K_reads {l : Launch} {w : en_W} {m : en_M} {i z : Int} (hw : en_Wok w) (hp : en_Has w 0 50) (hl : l.stackTraces = false) (hI : INV m) (ri : en_i32 i) (rr : en_i32 z) : en_MetS l w yL_reads wsL_reads rm_L_reads [en_R 49, en_I i, en_I z] m (fun r m' => r = some (en_I (w_reads m i z)) ∧ m' = t_reads m i z) := by
  have hx := inv_xc hI
  have hn := inv_n hI
  refine en_MetS_imp (k_L_reads hw hp hl (k_X4_read hw hp hl hn.2.2 ri rr) (fun r m1 hq => ⟨_, hq.1⟩) (fun E m1 hq => ?_)) (fun r m' hq => ?_)
  · rcases hq.2 with h | h
    · exact Or.inl (h.1)
    · exact Or.inr (h.1)
  · unfold w_reads t_reads
    rcases hq with ⟨v, ⟨e, rfl, c1, c2⟩, rfl⟩ | ⟨E, hx9, hc⟩
    · rw [e]
      rw [if_pos c1, if_pos c2]
      rw [if_pos ⟨c1, c2⟩]
      exact ⟨rfl, rfl⟩
    · obtain ⟨rfl, hr⟩ := hx9
      rcases hr with ⟨e1, b1⟩ | ⟨e1, b1, b2⟩
      · rcases hc with ⟨e2, rfl⟩ | ⟨e2, rfl⟩
        · rw [if_neg b1]
          rw [if_neg (fun z => b1 z.1)]
          exact ⟨rfl, rfl⟩
        · exact absurd (e1.symm.trans e2) (by decide)
      · rcases hc with ⟨e2, rfl⟩ | ⟨e2, rfl⟩
        · exact absurd (e1.symm.trans e2) (by decide)
        · rw [if_pos b1, if_neg b2]
          rw [if_neg (fun z => b2 z.2)]
          exact ⟨rfl, rfl⟩
def w_uses (m : en_M) (i c : Int) : Int := if pM m i then (m 26 i) else (-2000000001)
def t_uses (m : en_M) (i c : Int) : en_M := if (pM m i) then en_set m 26 i c else m
theorem K_uses {l : Launch} {w : en_W} {m : en_M} {i c : Int} (hw : en_Wok w) (hp : en_Has w 0 50) (hl : l.stackTraces = false) (hI : INV m) (ri : en_i32 i) (c0 : c = 0 ∨ c = 1) : en_MetS l w yL_uses wsL_uses rm_L_uses [en_R 49, en_I i, en_I c] m (fun r m' => r = some (en_I (w_uses m i c)) ∧ m' = t_uses m i c) := by
  have hx := inv_xc hI
  have hn := inv_n hI
  refine en_MetS_imp (k_L_uses hw hp hl (k_X4_use hw hp hl hn.2.2 ri c0 (fun z0 z1 => (inv_mt hI i z0 z1).2.1)) (fun r m1 hq => ⟨_, hq.1, (inv_mt hI i hq.2.2.1 hq.2.2.2).2.1⟩) (fun E m1 hq => ?_)) (fun r m' hq => ?_)
  · exact hq.1
  · unfold w_uses t_uses
    rcases hq with ⟨v, ⟨e, rfl, c1⟩, rfl⟩ | ⟨E, hx9, hc⟩
    · rw [e]
      rw [if_pos c1]
      rw [if_pos c1]
      exact ⟨rfl, rfl⟩
    · obtain ⟨-, rfl, b1⟩ := hx9
      obtain ⟨-, rfl⟩ := hc
      rw [if_neg b1]
      rw [if_neg b1]
      exact ⟨rfl, rfl⟩
def w_counts (m : en_M) (i : Int) : Int := if pM m i then (xm_io m i) else (-2000000001)
theorem K_counts {l : Launch} {w : en_W} {m : en_M} {i : Int} (hw : en_Wok w) (hp : en_Has w 0 50) (hl : l.stackTraces = false) (hI : INV m) (ri : en_i32 i) : en_MetS l w yL_counts wsL_counts rm_L_counts [en_R 49, en_I i] m (fun r m' => r = some (en_I (w_counts m i)) ∧ m' = m) := by
  have hx := inv_xc hI
  have hn := inv_n hI
  refine en_MetS_imp (k_L_counts hw hp hl (k_X4_countsIn hw hp hl hx.2.2.1 ri) (fun r m1 hq => ⟨_, hq.1⟩) (fun E m1 hq => ?_)) (fun r m' hq => ?_)
  · exact hq.1
  · unfold w_counts
    rcases hq with ⟨v, ⟨e, rfl, c1⟩, rfl⟩ | ⟨E, hx9, hc⟩
    · rw [e]
      rw [if_pos c1]
      exact ⟨rfl, rfl⟩
    · obtain ⟨-, rfl, b1⟩ := hx9
      obtain ⟨-, rfl⟩ := hc
      rw [if_neg b1]
      exact ⟨rfl, rfl⟩
def w_rank (m : en_M) (b : Int) : Int := if pB m b then (xm_rk m (-1) (m 5 b)) else (-2000000001)
theorem K_rank {l : Launch} {w : en_W} {m : en_M} {b : Int} (hw : en_Wok w) (hp : en_Has w 0 50) (hl : l.stackTraces = false) (hI : INV m) (rb : en_i32 b) : en_MetS l w yL_rank wsL_rank rm_L_rank [en_R 49, en_I b] m (fun r m' => r = some (en_I (w_rank m b)) ∧ cq m' m) := by
  have hx := inv_xc hI
  have hn := inv_n hI
  refine en_MetS_imp (k_L_rank hw hp hl (k_X4_rank hw hp hl hx rb) (fun r m1 hq => ⟨_, hq.1⟩) (fun E m1 hq => ?_)) (fun r m' hq => ?_)
  · exact hq.1
  · unfold w_rank
    rcases hq with ⟨v, ⟨e, s1, s2, c1⟩, rfl⟩ | ⟨E, hx9, hc⟩
    · rw [e]
      rw [if_pos c1]
      exact ⟨rfl, s1, s2⟩
    · obtain ⟨-, rfl, b1⟩ := hx9
      obtain ⟨-, rfl⟩ := hc
      rw [if_neg b1]
      exact ⟨rfl, cq_rf hI.2.2.2⟩
def w_observable (m : en_M) (b : Int) : Int := if pB m b then (if obs m (m 5 b) then 1 else 0) else (-2000000001)
theorem K_observable {l : Launch} {w : en_W} {m : en_M} {b : Int} (hw : en_Wok w) (hp : en_Has w 0 50) (hl : l.stackTraces = false) (hI : INV m) (rb : en_i32 b) : en_MetS l w yL_observable wsL_observable rm_L_observable [en_R 49, en_I b] m (fun r m' => r = some (en_I (w_observable m b)) ∧ cq m' m) := by
  have hx := inv_xc hI
  have hn := inv_n hI
  refine en_MetS_imp (k_L_observable hw hp hl (k_X4_isObservable hw hp hl hx rb) (fun r m1 hq => ⟨_, hq.1, by split; exact Or.inr rfl; exact Or.inl rfl⟩) (fun E m1 hq => ?_)) (fun r m' hq => ?_)
  · exact hq.1
  · unfold w_observable
    rcases hq with ⟨v, ⟨e, s1, s2, c1⟩, rfl⟩ | ⟨E, hx9, hc⟩
    · rw [e]
      rw [if_pos c1]
      exact ⟨rfl, s1, s2⟩
    · obtain ⟨-, rfl, b1⟩ := hx9
      obtain ⟨-, rfl⟩ := hc
      rw [if_neg b1]
      exact ⟨rfl, cq_rf hI.2.2.2⟩
def w_critical (m : en_M) (i : Int) : Int := if pM m i then (if xm_nd m i then 1 else 0) else (-2000000001)
theorem K_critical {l : Launch} {w : en_W} {m : en_M} {i : Int} (hw : en_Wok w) (hp : en_Has w 0 50) (hl : l.stackTraces = false) (hI : INV m) (ri : en_i32 i) : en_MetS l w yL_critical wsL_critical rm_L_critical [en_R 49, en_I i] m (fun r m' => r = some (en_I (w_critical m i)) ∧ cq m' m) := by
  have hx := inv_xc hI
  have hn := inv_n hI
  refine en_MetS_imp (k_L_critical hw hp hl (k_X4_isCritical hw hp hl hx ri) (fun r m1 hq => ⟨_, hq.1, by split; exact Or.inr rfl; exact Or.inl rfl⟩) (fun E m1 hq => ?_)) (fun r m' hq => ?_)
  · exact hq.1
  · unfold w_critical
    rcases hq with ⟨v, ⟨e, s1, s2, c1⟩, rfl⟩ | ⟨E, hx9, hc⟩
    · rw [e]
      rw [if_pos c1]
      exact ⟨rfl, s1, s2⟩
    · obtain ⟨-, rfl, b1⟩ := hx9
      obtain ⟨-, rfl⟩ := hc
      rw [if_neg b1]
      exact ⟨rfl, cq_rf hI.2.2.2⟩
def w_top (m : en_M) (b : Int) : Int := if pB m b then (if obs m (m 5 b) then ((gl_D m (m 5 b) b).tdiv (xg (gl_D m (m 5 b) b) (gl_D m (m 5 b) (-1)))) else (-4000000000000000003)) else (-4000000000000000001)
theorem K_top {l : Launch} {w : en_W} {m : en_M} {b : Int} (hw : en_Wok w) (hp : en_Has w 0 50) (hl : l.stackTraces = false) (hI : INV m) (rb : en_i32 b) : en_MetS l w yL_top wsL_top rm_L_top [en_R 49, en_I b] m (fun r m' => r = some (en_L (w_top m b)) ∧ cq m' m) := by
  have hx := inv_xc hI
  have hn := inv_n hI
  refine en_MetS_imp (k_L_top hw hp hl (k_X4_angleNumerator hw hp hl hx rb (fun z0 z1 ho => sp_b hI (inv_rng hI b z0 (by omega)).1 (by omega) ho)) (fun r m1 hq => ⟨_, hq.1⟩) (fun E m1 hq => ?_)) (fun r m' hq => ?_)
  · rcases hq.2.2 with h | h
    · exact Or.inl (h.1)
    · exact Or.inr (h.1)
  · unfold w_top
    rcases hq with ⟨v, ⟨e, s1, s2, c1, c2⟩, rfl⟩ | ⟨E, hx9, hc⟩
    · rw [e]
      have c2 : obs m (m 5 b) := c2
      rw [if_pos c1, if_pos c2]
      exact ⟨rfl, s1, s2⟩
    · obtain ⟨s1, s2, hr⟩ := hx9
      rcases hr with ⟨e1, b1⟩ | ⟨e1, b1, b2⟩
      · rcases hc with ⟨e2, rfl⟩ | ⟨e2, rfl⟩
        · rw [if_neg b1]
          exact ⟨rfl, s1, s2⟩
        · exact absurd (e1.symm.trans e2) (by decide)
      · rcases hc with ⟨e2, rfl⟩ | ⟨e2, rfl⟩
        · exact absurd (e1.symm.trans e2) (by decide)
        · have b2 : ¬ obs m (m 5 b) := b2
          rw [if_pos b1, if_neg b2]
          exact ⟨rfl, s1, s2⟩
def w_bottom (m : en_M) (b : Int) : Int := if pB m b then (if obs m (m 5 b) then ((gl_D m (m 5 b) (-1)).tdiv (xg (gl_D m (m 5 b) b) (gl_D m (m 5 b) (-1)))) else (-4000000000000000003)) else (-4000000000000000001)
theorem K_bottom {l : Launch} {w : en_W} {m : en_M} {b : Int} (hw : en_Wok w) (hp : en_Has w 0 50) (hl : l.stackTraces = false) (hI : INV m) (rb : en_i32 b) : en_MetS l w yL_bottom wsL_bottom rm_L_bottom [en_R 49, en_I b] m (fun r m' => r = some (en_L (w_bottom m b)) ∧ cq m' m) := by
  have hx := inv_xc hI
  have hn := inv_n hI
  refine en_MetS_imp (k_L_bottom hw hp hl (k_X4_angleDenominator hw hp hl hx rb (fun z0 z1 ho => sp_b hI (inv_rng hI b z0 (by omega)).1 (by omega) ho)) (fun r m1 hq => ⟨_, hq.1⟩) (fun E m1 hq => ?_)) (fun r m' hq => ?_)
  · rcases hq.2.2 with h | h
    · exact Or.inl (h.1)
    · exact Or.inr (h.1)
  · unfold w_bottom
    rcases hq with ⟨v, ⟨e, s1, s2, c1, c2⟩, rfl⟩ | ⟨E, hx9, hc⟩
    · rw [e]
      have c2 : obs m (m 5 b) := c2
      rw [if_pos c1, if_pos c2]
      exact ⟨rfl, s1, s2⟩
    · obtain ⟨s1, s2, hr⟩ := hx9
      rcases hr with ⟨e1, b1⟩ | ⟨e1, b1, b2⟩
      · rcases hc with ⟨e2, rfl⟩ | ⟨e2, rfl⟩
        · rw [if_neg b1]
          exact ⟨rfl, s1, s2⟩
        · exact absurd (e1.symm.trans e2) (by decide)
      · rcases hc with ⟨e2, rfl⟩ | ⟨e2, rfl⟩
        · exact absurd (e1.symm.trans e2) (by decide)
        · have b2 : ¬ obs m (m 5 b) := b2
          rw [if_pos b1, if_neg b2]
          exact ⟨rfl, s1, s2⟩
def w_over (m : en_M) (i : Int) : Int := if pM m i then (if xm_iu m i ≠ -1 ∧ obs m (xm_iu m i) then ((xe_rs m (xm_iu m i) i).tdiv (xg (xe_rs m (xm_iu m i) i) (gl_D m (xm_iu m i) (-1)))) else (-4000000000000000003)) else (-4000000000000000001)
theorem K_over {l : Launch} {w : en_W} {m : en_M} {i : Int} (hw : en_Wok w) (hp : en_Has w 0 50) (hl : l.stackTraces = false) (hI : INV m) (ri : en_i32 i) : en_MetS l w yL_over wsL_over rm_L_over [en_R 49, en_I i] m (fun r m' => r = some (en_L (w_over m i)) ∧ cq m' m) := by
  have hx := inv_xc hI
  have hn := inv_n hI
  refine en_MetS_imp (k_L_over hw hp hl (k_X4_residualNumerator hw hp hl hx ri (fun z0 z1 hn ho => sp_r hI z0 z1 hn ho)) (fun r m1 hq => ⟨_, hq.1⟩) (fun E m1 hq => ?_)) (fun r m' hq => ?_)
  · rcases hq.2.2 with h | h
    · exact Or.inl (h.1)
    · exact Or.inr (h.1)
  · unfold w_over
    rcases hq with ⟨v, ⟨e, s1, s2, c1, c21, c22⟩, rfl⟩ | ⟨E, hx9, hc⟩
    · rw [e]
      have c2 : xm_iu m i ≠ -1 ∧ obs m (xm_iu m i) := ⟨c21, c22⟩
      rw [if_pos c1, if_pos c2]
      exact ⟨rfl, s1, s2⟩
    · obtain ⟨s1, s2, hr⟩ := hx9
      rcases hr with ⟨e1, b1⟩ | ⟨e1, b1, b2⟩
      · rcases hc with ⟨e2, rfl⟩ | ⟨e2, rfl⟩
        · rw [if_neg b1]
          exact ⟨rfl, s1, s2⟩
        · exact absurd (e1.symm.trans e2) (by decide)
      · rcases hc with ⟨e2, rfl⟩ | ⟨e2, rfl⟩
        · exact absurd (e1.symm.trans e2) (by decide)
        · have b2 : ¬ (xm_iu m i ≠ -1 ∧ obs m (xm_iu m i)) := fun z => by rcases b2 with y | y; exact z.1 y; exact y z.2
          rw [if_pos b1, if_neg b2]
          exact ⟨rfl, s1, s2⟩
def w_under (m : en_M) (i : Int) : Int := if pM m i then (if xm_iu m i ≠ -1 ∧ obs m (xm_iu m i) then ((gl_D m (xm_iu m i) (-1)).tdiv (xg (xe_rs m (xm_iu m i) i) (gl_D m (xm_iu m i) (-1)))) else (-4000000000000000003)) else (-4000000000000000001)
theorem K_under {l : Launch} {w : en_W} {m : en_M} {i : Int} (hw : en_Wok w) (hp : en_Has w 0 50) (hl : l.stackTraces = false) (hI : INV m) (ri : en_i32 i) : en_MetS l w yL_under wsL_under rm_L_under [en_R 49, en_I i] m (fun r m' => r = some (en_L (w_under m i)) ∧ cq m' m) := by
  have hx := inv_xc hI
  have hn := inv_n hI
  refine en_MetS_imp (k_L_under hw hp hl (k_X4_residualDenominator hw hp hl hx ri (fun z0 z1 hn ho => sp_r hI z0 z1 hn ho)) (fun r m1 hq => ⟨_, hq.1⟩) (fun E m1 hq => ?_)) (fun r m' hq => ?_)
  · rcases hq.2.2 with h | h
    · exact Or.inl (h.1)
    · exact Or.inr (h.1)
  · unfold w_under
    rcases hq with ⟨v, ⟨e, s1, s2, c1, c21, c22⟩, rfl⟩ | ⟨E, hx9, hc⟩
    · rw [e]
      have c2 : xm_iu m i ≠ -1 ∧ obs m (xm_iu m i) := ⟨c21, c22⟩
      rw [if_pos c1, if_pos c2]
      exact ⟨rfl, s1, s2⟩
    · obtain ⟨s1, s2, hr⟩ := hx9
      rcases hr with ⟨e1, b1⟩ | ⟨e1, b1, b2⟩
      · rcases hc with ⟨e2, rfl⟩ | ⟨e2, rfl⟩
        · rw [if_neg b1]
          exact ⟨rfl, s1, s2⟩
        · exact absurd (e1.symm.trans e2) (by decide)
      · rcases hc with ⟨e2, rfl⟩ | ⟨e2, rfl⟩
        · exact absurd (e1.symm.trans e2) (by decide)
        · have b2 : ¬ (xm_iu m i ≠ -1 ∧ obs m (xm_iu m i)) := fun z => by rcases b2 with y | y; exact z.1 y; exact y z.2
          rw [if_pos b1, if_neg b2]
          exact ⟨rfl, s1, s2⟩
def w_worst (m : en_M) (b : Int) : Int := if pB m b then (if obs m (m 5 b) then (xe_wm m (m 5 b)) else (-2000000003)) else (-2000000001)
theorem K_worst {l : Launch} {w : en_W} {m : en_M} {b : Int} (hw : en_Wok w) (hp : en_Has w 0 50) (hl : l.stackTraces = false) (hI : INV m) (rb : en_i32 b) : en_MetS l w yL_worst wsL_worst rm_L_worst [en_R 49, en_I b] m (fun r m' => r = some (en_I (w_worst m b)) ∧ cq m' m) := by
  have hx := inv_xc hI
  have hn := inv_n hI
  refine en_MetS_imp (k_L_worst hw hp hl (k_X4_worst hw hp hl hx rb) (fun r m1 hq => ⟨_, hq.1⟩) (fun E m1 hq => ?_)) (fun r m' hq => ?_)
  · rcases hq.2.2 with h | h
    · exact Or.inl (h.1)
    · exact Or.inr (h.1)
  · unfold w_worst
    rcases hq with ⟨v, ⟨e, s1, s2, c1, c2⟩, rfl⟩ | ⟨E, hx9, hc⟩
    · rw [e]
      have c2 : obs m (m 5 b) := c2
      rw [if_pos c1, if_pos c2]
      exact ⟨rfl, s1, s2⟩
    · obtain ⟨s1, s2, hr⟩ := hx9
      rcases hr with ⟨e1, b1⟩ | ⟨e1, b1, b2⟩
      · rcases hc with ⟨e2, rfl⟩ | ⟨e2, rfl⟩
        · rw [if_neg b1]
          exact ⟨rfl, s1, s2⟩
        · exact absurd (e1.symm.trans e2) (by decide)
      · rcases hc with ⟨e2, rfl⟩ | ⟨e2, rfl⟩
        · exact absurd (e1.symm.trans e2) (by decide)
        · have b2 : ¬ obs m (m 5 b) := b2
          rw [if_pos b1, if_neg b2]
          exact ⟨rfl, s1, s2⟩
def w_cleans (m : en_M) (b lim : Int) : Int := if pB m b then (if 0 ≤ lim ∧ lim ≤ 200 then (if obs m (m 5 b) then ((xe_cl (m 5 b) lim 10 m).1) else (-2000000003)) else (-2000000002)) else (-2000000001)
def t_cleans (m : en_M) (b lim : Int) : en_M := if (pB m b) ∧ (0 ≤ lim ∧ lim ≤ 200) ∧ (obs m (m 5 b)) then (xe_cl (m 5 b) lim 10 m).2 else m
theorem K_cleans {l : Launch} {w : en_W} {m : en_M} {b lim : Int} (hw : en_Wok w) (hp : en_Has w 0 50) (hl : l.stackTraces = false) (hI : INV m) (rb : en_i32 b) (rl : en_i32 lim) : en_MetS l w yL_cleans wsL_cleans rm_L_cleans [en_R 49, en_I b, en_I lim] m (fun r m' => r = some (en_I (w_cleans m b lim)) ∧ cq m' (t_cleans m b lim)) := by
  have hx := inv_xc hI
  have hn := inv_n hI
  refine en_MetS_imp (k_L_cleans hw hp hl (k_X4_clean hw hp hl hx rb rl) (fun r m1 hq => ⟨_, hq.1⟩) (fun E m1 hq => ?_)) (fun r m' hq => ?_)
  · rcases hq.2.2 with h | h | h
    · exact Or.inl (h.1)
    · exact Or.inr (Or.inl (h.1))
    · exact Or.inr (Or.inr (h.1))
  · unfold w_cleans t_cleans
    rcases hq with ⟨v, ⟨e, s1, s2, c1, c2, c3⟩, rfl⟩ | ⟨E, hx9, hc⟩
    · rw [e]
      have c3 : obs m (m 5 b) := c3
      rw [if_pos c1, if_pos c2, if_pos c3]
      rw [if_pos ⟨c1, c2, c3⟩]
      exact ⟨rfl, s1, s2⟩
    · obtain ⟨s1, s2, hr⟩ := hx9
      rcases hr with ⟨e1, b1⟩ | ⟨e1, b1, b2⟩ | ⟨e1, b1, b2, b3⟩
      · rcases hc with ⟨e2, rfl⟩ | ⟨e2, rfl⟩ | ⟨e2, rfl⟩
        · rw [if_neg b1]
          rw [if_neg (fun z => b1 z.1)]
          exact ⟨rfl, s1, s2⟩
        · exact absurd (e1.symm.trans e2) (by decide)
        · exact absurd (e1.symm.trans e2) (by decide)
      · rcases hc with ⟨e2, rfl⟩ | ⟨e2, rfl⟩ | ⟨e2, rfl⟩
        · exact absurd (e1.symm.trans e2) (by decide)
        · rw [if_pos b1, if_neg b2]
          rw [if_neg (fun z => b2 z.2.1)]
          exact ⟨rfl, s1, s2⟩
        · exact absurd (e1.symm.trans e2) (by decide)
      · rcases hc with ⟨e2, rfl⟩ | ⟨e2, rfl⟩ | ⟨e2, rfl⟩
        · exact absurd (e1.symm.trans e2) (by decide)
        · exact absurd (e1.symm.trans e2) (by decide)
        · have b3 : ¬ obs m (m 5 b) := b3
          rw [if_pos b1, if_pos b2, if_neg b3]
          rw [if_neg (fun z => b3 z.2.2)]
          exact ⟨rfl, s1, s2⟩
