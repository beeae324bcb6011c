/-! MODEL 4: rows of meters -/
theorem en_ar_out {m : en_M} {k N j : Int} {f : Int → Int} (h : N ≤ j) : en_ar m k N f k j = m k j := by
  unfold en_ar
  rw [if_neg (by omega)]
def ml_add (ao r : Int → Int) (b x : Int) : Int → Int := if ao b = -1 then r else gs_up r (ao b) (r (ao b) + x)
def ml_sg (m : en_M) (i n : Int) : Int := if m 55 n = 0 then 0 else if (m 56 i = 0 ∧ m 57 i = n) ∨ (m 56 i = 1 ∧ m 52 n = m 57 i) then 1 else if m 56 i = 1 ∧ m 53 n = m 57 i then -1 else 0
def ml_row (m : en_M) (ao : Int → Int) (i : Int) : Nat → Int → Int
  | 0 => fun _ => 0
  | n + 1 => ml_add ao (ml_add ao (ml_row m ao i n) (m 52 (n : Int)) (ml_sg m i (n : Int) * m 54 (n : Int))) (m 53 (n : Int)) (-ml_sg m i (n : Int) * m 54 (n : Int))
abbrev rm_X5_add : Room := { frames := 1, cells := 0, slots := 0, locals := 0 }
theorem my_X5_add : en_MY yX5_add RX5 cX5_add 3 none wsX5_add 2 := ⟨⟨_, rfl⟩, rfl, by decide, by decide, by decide +kernel, by decide +kernel⟩
set_option maxRecDepth 20000 in
theorem fl_X5_add_41 : en_FL wsX5_add RX5 41 5 14 := ⟨_, _, _, rfl, by decide, by decide +kernel, Or.inl (by decide +kernel)⟩
set_option maxRecDepth 20000 in
theorem fl_X5_add_44 : en_FL wsX5_add RX5 44 5 16 := ⟨_, _, _, rfl, by decide, by decide +kernel, Or.inl (by decide +kernel)⟩
set_option maxRecDepth 100000 in
set_option maxHeartbeats 4000000 in
theorem k_X5_add {l : Launch} {w : en_W} {m : en_M} {b x : Int} (hw : en_Wok w) (hp : en_Has w 0 68) (b0 : 0 ≤ b ∧ b < 5) (ha : -1 ≤ m 62 b ∧ m 62 b < 4) : en_Met l w yX5_add wsX5_add rm_X5_add [en_R 51, en_I b, en_I x] m (fun r m' => r = none ∧ m' = if m 62 b = -1 then m else en_set m 63 (m 62 b) (m 63 (m 62 b) + x)) := by
  refine en_met my_X5_add hw (Nat.le_of_ble_eq_true rfl) ?_
  intro κ hl9 hw9 h hf
  subst hw9
  subst hl9
  have hI : ∀ k, 0 ≤ k → k < 68 → en_in κ k := hp
  refine en_aload_n (i := 0) h dX5_add_0 rfl rfl ?_
  refine en_getR h dX5_add_1 fl_X5_add_41 (hI _ (by omega) (by omega)) rfl rfl ?_
  refine en_iload_n (i := 1) h dX5_add_4 rfl rfl ?_
  refine en_iaload h dX5_add_5 (hI _ (by omega) (by omega)) rfl (by omega) rfl ?_
  refine en_iconst h dX5_add_6 ?_
  refine en_icmp_eq (tgt := 25) h dX5_add_7 (by decide) (by omega) (by omega) (fun c_7 => ?_) (fun c_7 => ?_)
  · exact en_vret h hf dX5_add_25 ⟨by decide, by decide⟩ ⟨rfl, by rw [if_pos c_7]⟩
  · refine en_aload_n (i := 0) h dX5_add_10 rfl rfl ?_
    refine en_getR h dX5_add_11 fl_X5_add_44 (hI _ (by omega) (by omega)) rfl rfl ?_
    refine en_aload_n (i := 0) h dX5_add_14 rfl rfl ?_
    refine en_getR h dX5_add_15 fl_X5_add_41 (hI _ (by omega) (by omega)) rfl rfl ?_
    refine en_iload_n (i := 1) h dX5_add_18 rfl rfl ?_
    refine en_iaload h dX5_add_19 (hI _ (by omega) (by omega)) rfl (by omega) rfl ?_
    refine en_dup2 h dX5_add_20 ?_
    refine en_iaload h dX5_add_21 (hI _ (by omega) (by omega)) rfl (by omega) rfl ?_
    refine en_iload_n (i := 2) h dX5_add_22 rfl rfl ?_
    refine en_iadd h dX5_add_23 ?_
    refine en_iastore h dX5_add_24 (hI _ (by omega) (by omega)) rfl (by omega) ?_
    exact en_vret h hf dX5_add_25 ⟨by decide, by decide⟩ ⟨rfl, by rw [if_neg c_7]⟩
theorem ml_add_ar {m : en_M} {r : Int → Int} {b x : Int} (ha : -1 ≤ m 62 b ∧ m 62 b < 4) : (if en_ar m 63 4 r 62 b = -1 then en_ar m 63 4 r else en_set (en_ar m 63 4 r) 63 (en_ar m 63 4 r 62 b) (en_ar m 63 4 r 63 (en_ar m 63 4 r 62 b) + x)) = en_ar m 63 4 (ml_add (m 62) r b x) := by
  rw [en_ar_ne (k' := 62) (by decide)]
  unfold ml_add
  by_cases c : m 62 b = -1
  · rw [if_pos c, if_pos c]
  · rw [if_neg c, if_neg c, en_ar_at (by omega) (by omega), en_ar_set (by omega) (by omega)]
abbrev rm_X5_layRow : Room := { frames := 2, cells := 0, slots := 0, locals := 22 }
theorem my_X5_layRow : en_MY yX5_layRow RX5 cX5_layRow 7 none wsX5_layRow 1 := ⟨⟨_, rfl⟩, rfl, by decide, by decide, by decide +kernel, by decide +kernel⟩
set_option maxRecDepth 20000 in
theorem fl_X5_layRow_7 : en_FL wsX5_layRow RX5 7 5 3 := ⟨_, _, _, rfl, by decide, by decide +kernel, Or.inl (by decide +kernel)⟩
set_option maxRecDepth 20000 in
theorem fl_X5_layRow_13 : en_FL wsX5_layRow RX5 13 5 4 := ⟨_, _, _, rfl, by decide, by decide +kernel, Or.inl (by decide +kernel)⟩
set_option maxRecDepth 20000 in
theorem fl_X5_layRow_16 : en_FL wsX5_layRow RX5 16 5 5 := ⟨_, _, _, rfl, by decide, by decide +kernel, Or.inl (by decide +kernel)⟩
set_option maxRecDepth 20000 in
theorem fl_X5_layRow_19 : en_FL wsX5_layRow RX5 19 5 6 := ⟨_, _, _, rfl, by decide, by decide +kernel, Or.inl (by decide +kernel)⟩
set_option maxRecDepth 20000 in
theorem fl_X5_layRow_23 : en_FL wsX5_layRow RX5 23 5 8 := ⟨_, _, _, rfl, by decide, by decide +kernel, Or.inl (by decide +kernel)⟩
set_option maxRecDepth 20000 in
theorem fl_X5_layRow_26 : en_FL wsX5_layRow RX5 26 5 9 := ⟨_, _, _, rfl, by decide, by decide +kernel, Or.inl (by decide +kernel)⟩
set_option maxRecDepth 20000 in
theorem fl_X5_layRow_44 : en_FL wsX5_layRow RX5 44 5 16 := ⟨_, _, _, rfl, by decide, by decide +kernel, Or.inl (by decide +kernel)⟩
set_option maxRecDepth 20000 in
theorem fl_X5_layRow_71 : en_FL wsX5_layRow RX5 71 5 2 := ⟨_, _, _, rfl, by decide, by decide +kernel, Or.inl (by decide +kernel)⟩
set_option maxRecDepth 100000 in
set_option maxHeartbeats 4000000 in
theorem lp_X5_layRow_A {κ : en_C} {m : en_M} {i : Int} (hP : en_Has (en_w κ) 0 68) (h : en_Ok κ RX5 cX5_layRow 7 wsX5_layRow rm_X5_layRow) (K : en_G κ 20 [some (en_R 51), some (en_I i), some (en_I 4), none, none, none, none] [] (en_ar m 63 4 (fun _ => 0)) 0 0) : ∀ (f k : Nat), f + k = 4 → en_G κ 2 [some (en_R 51), some (en_I i), some (en_I (k : Int)), none, none, none, none] [] (en_ar m 63 k (fun _ => 0)) 0 0 := by
  have hI : ∀ k, 0 ≤ k → k < 68 → en_in κ k := hP
  intro f
  induction f with
  | zero =>
    intro k hk
    refine en_iload_n (i := 2) h dX5_layRow_2 rfl rfl ?_
    refine en_iconst h dX5_layRow_3 ?_
    refine en_icmp_ge (tgt := 20) h dX5_layRow_4 (by decide) (by omega) (by omega) (fun c_4 => ?_) (fun c_4 => ?_)
    · have e : (k : Int) = 4 := by omega
      rw [e]
      exact K
    · exact absurd c_4 (by omega)
  | succ f ih =>
    intro k hk
    refine en_iload_n (i := 2) h dX5_layRow_2 rfl rfl ?_
    refine en_iconst h dX5_layRow_3 ?_
    refine en_icmp_ge (tgt := 20) h dX5_layRow_4 (by decide) (by omega) (by omega) (fun c_4 => ?_) (fun c_4 => ?_)
    · exact absurd c_4 (by omega)
    · refine en_aload_n (i := 0) h dX5_layRow_7 rfl rfl ?_
      refine en_getR h dX5_layRow_8 fl_X5_layRow_44 (hI _ (by omega) (by omega)) rfl rfl ?_
      refine en_iload_n (i := 2) h dX5_layRow_11 rfl rfl ?_
      refine en_iconst h dX5_layRow_12 ?_
      refine en_iastore h dX5_layRow_13 (hI _ (by omega) (by omega)) rfl (by omega) ?_
      refine en_iinc h dX5_layRow_14 rfl (by decide) ?_
      refine en_goto (tgt := 2) h dX5_layRow_17 (by decide) ?_
      rw [en_ar_push (by omega) rfl]
      exact ih (k + 1) (by omega)
set_option maxRecDepth 100000 in
set_option maxHeartbeats 4000000 in
theorem lp_X5_layRow_B {κ : en_C} {m : en_M} {i : Int} (hW : en_Wok (en_w κ)) (hP : en_Has (en_w κ) 0 68) (h : en_Ok κ RX5 cX5_layRow 7 wsX5_layRow rm_X5_layRow) (hf : en_fin κ rm_X5_layRow none (fun r m' => r = none ∧ m' = en_ar m 63 4 (ml_row m (m 62) i (m 51 2).toNat))) (hl : xo_ln m) (i0 : 0 ≤ i ∧ i < 10) (hv : xo_m m i) (ha : ∀ b, 0 ≤ b → b < m 51 1 → -1 ≤ m 62 b ∧ m 62 b < 4) : ∀ (f n : Nat), (f : Int) + n = m 51 2 → ∀ o3 o4 o5 o6, en_G κ 22 [some (en_R 51), some (en_I i), some (en_I (n : Int)), o3, o4, o5, o6] [] (en_ar m 63 4 (ml_row m (m 62) i n)) 0 0 := by
  have hI : ∀ k, 0 ≤ k → k < 68 → en_in κ k := hP
  obtain ⟨n0, n1, hr⟩ := hl
  have v9 : en_i32 (m 56 i) ∧ en_i32 (m 57 i) := by rcases hv with hv | hv <;> omega
  intro f
  induction f with
  | zero =>
    intro n hn o3 o4 o5 o6
    refine en_iload_n (i := 2) h dX5_layRow_22 rfl rfl ?_
    refine en_aload_n (i := 0) h dX5_layRow_23 rfl rfl ?_
    refine en_getI (i := 2) h dX5_layRow_24 fl_X5_layRow_71 (hI _ (by omega) (by omega)) rfl rfl rfl (v9 := m 51 2) (by rw [en_ar_ne (by decide)]) ?_
    refine en_icmp_ge (tgt := 202) h dX5_layRow_27 (by decide) (by omega) (by omega) (fun c_27 => ?_) (fun c_27 => ?_)
    · exact en_vret h hf dX5_layRow_202 ⟨by decide, by decide⟩ ⟨rfl, by rw [show (m 51 2).toNat = n by omega]⟩
    · exact absurd c_27 (by omega)
  | succ f ih =>
    intro n hn o3 o4 o5 o6
    have r := hr n (by omega) (by omega)
    have s4 : ∀ o3 o4 o5 o6, en_G κ 155 [some (en_R 51), some (en_I i), some (en_I (n : Int)), o3, o4, o5, o6] [en_I (ml_sg m i (n : Int))] (en_ar m 63 4 (ml_row m (m 62) i n)) 0 0 := by
      intro o3 o4 o5 o6
      refine en_istore (i := 6) h dX5_layRow_155 (by decide) ?_
      refine en_aload_n (i := 0) h dX5_layRow_157 rfl rfl ?_
      refine en_aload_n (i := 0) h dX5_layRow_158 rfl rfl ?_
      refine en_getR h dX5_layRow_159 fl_X5_layRow_7 (hI _ (by omega) (by omega)) rfl rfl ?_
      refine en_iload_n (i := 2) h dX5_layRow_162 rfl rfl ?_
      refine en_iaload h dX5_layRow_163 (hI _ (by omega) (by omega)) rfl (by omega) (v9 := m 52 n) (by rw [en_ar_ne (by decide)]) ?_
      refine en_iload (i := 6) h dX5_layRow_164 rfl ?_
      refine en_aload_n (i := 0) h dX5_layRow_166 rfl rfl ?_
      refine en_getR h dX5_layRow_167 fl_X5_layRow_16 (hI _ (by omega) (by omega)) rfl rfl ?_
      refine en_iload_n (i := 2) h dX5_layRow_170 rfl rfl ?_
      refine en_iaload h dX5_layRow_171 (hI _ (by omega) (by omega)) rfl (by omega) (v9 := m 54 n) (by rw [en_ar_ne (by decide)]) ?_
      refine en_imul h dX5_layRow_172 ?_
      refine en_callV h (k_X5_add hW hI ⟨r.1.1, by omega⟩ (by rw [en_ar_ne (by decide)]; exact ha _ r.1.1 r.1.2)) my_X5_add gX5_layRow_X5_add (hI _ (by omega) (by omega)) rfl rfl rfl rfl ⟨by decide, by decide⟩ ⟨by decide, by decide⟩ (Nat.le_of_ble_eq_true rfl) dX5_layRow_173 (fun r M1 hp => ?_)
      obtain ⟨rfl, e1⟩ := hp
      rw [ml_add_ar (ha _ r.1.1 r.1.2)] at e1
      subst e1
      refine en_aload_n (i := 0) h dX5_layRow_176 rfl rfl ?_
      refine en_aload_n (i := 0) h dX5_layRow_177 rfl rfl ?_
      refine en_getR h dX5_layRow_178 fl_X5_layRow_13 (hI _ (by omega) (by omega)) rfl rfl ?_
      refine en_iload_n (i := 2) h dX5_layRow_181 rfl rfl ?_
      refine en_iaload h dX5_layRow_182 (hI _ (by omega) (by omega)) rfl (by omega) (v9 := m 53 n) (by rw [en_ar_ne (by decide)]) ?_
      refine en_iload (i := 6) h dX5_layRow_183 rfl ?_
      refine en_ineg h dX5_layRow_185 ?_
      refine en_aload_n (i := 0) h dX5_layRow_186 rfl rfl ?_
      refine en_getR h dX5_layRow_187 fl_X5_layRow_16 (hI _ (by omega) (by omega)) rfl rfl ?_
      refine en_iload_n (i := 2) h dX5_layRow_190 rfl rfl ?_
      refine en_iaload h dX5_layRow_191 (hI _ (by omega) (by omega)) rfl (by omega) (v9 := m 54 n) (by rw [en_ar_ne (by decide)]) ?_
      refine en_imul h dX5_layRow_192 ?_
      refine en_callV h (k_X5_add hW hI ⟨r.2.1.1, by omega⟩ (by rw [en_ar_ne (by decide)]; exact ha _ r.2.1.1 r.2.1.2)) my_X5_add gX5_layRow_X5_add (hI _ (by omega) (by omega)) rfl rfl rfl rfl ⟨by decide, by decide⟩ ⟨by decide, by decide⟩ (Nat.le_of_ble_eq_true rfl) dX5_layRow_193 (fun r M2 hp => ?_)
      obtain ⟨rfl, e1⟩ := hp
      rw [ml_add_ar (ha _ r.2.1.1 r.2.1.2)] at e1
      subst e1
      refine en_iinc h dX5_layRow_196 rfl (by decide) ?_
      refine en_goto (tgt := 22) h dX5_layRow_199 (by decide) ?_
      exact ih (n + 1) (by omega) _ _ _ _
    have s3 : ∀ (x y z : Int) o5 o6, (x = if m 56 i = 0 ∧ m 57 i = n then 1 else 0) → (y = if m 56 i = 1 ∧ m 52 n = m 57 i then 1 else 0) → (z = if m 56 i = 1 ∧ m 53 n = m 57 i then 1 else 0) → en_G κ 117 [some (en_R 51), some (en_I i), some (en_I (n : Int)), some (en_I x), some (en_I y), o5, o6] [en_I z] (en_ar m 63 4 (ml_row m (m 62) i n)) 0 0 := by
      intro x y z o5 o6 hx hy hz
      have x9 : x = 0 ∨ x = 1 := by rw [hx]; split <;> simp
      have y9 : y = 0 ∨ y = 1 := by rw [hy]; split <;> simp
      have z9 : z = 0 ∨ z = 1 := by rw [hz]; split <;> simp
      have x1 : x = 1 ↔ (m 56 i = 0 ∧ m 57 i = n) := by rw [hx]; split <;> simp [*]
      have y1 : y = 1 ↔ (m 56 i = 1 ∧ m 52 n = m 57 i) := by rw [hy]; split <;> simp [*]
      have z1 : z = 1 ↔ (m 56 i = 1 ∧ m 53 n = m 57 i) := by rw [hz]; split <;> simp [*]
      refine en_istore (i := 5) h dX5_layRow_117 (by decide) ?_
      refine en_aload_n (i := 0) h dX5_layRow_119 rfl rfl ?_
      refine en_getR h dX5_layRow_120 fl_X5_layRow_19 (hI _ (by omega) (by omega)) rfl rfl ?_
      refine en_iload_n (i := 2) h dX5_layRow_123 rfl rfl ?_
      refine en_zaload h dX5_layRow_124 (hI _ (by omega) (by omega)) rfl (by omega) (v9 := m 55 n) (by rw [en_ar_ne (by decide)]) ?_
      refine en_if_ne (tgt := 132) h dX5_layRow_125 (by decide) (by omega) (fun c_125 => ?_) (fun c_125 => ?_)
      · have s := s4 (some (en_I x)) (some (en_I y)) (some (en_I z)) o6
        unfold ml_sg at s
        rw [if_neg c_125] at s
        refine en_iload_n (i := 3) h dX5_layRow_132 rfl rfl ?_
        refine en_if_ne (tgt := 141) h dX5_layRow_133 (by decide) (by omega) (fun c_133 => ?_) (fun c_133 => ?_)
        · rw [if_pos (Or.inl (x1.mp (by omega)))] at s
          refine en_iconst h dX5_layRow_141 ?_
          refine en_goto (tgt := 155) h dX5_layRow_142 (by decide) ?_
          exact s
        · refine en_iload (i := 4) h dX5_layRow_136 rfl ?_
          refine en_if_eq (tgt := 145) h dX5_layRow_138 (by decide) (by omega) (fun c_138 => ?_) (fun c_138 => ?_)
          · rw [if_neg (fun q => by rcases q with q | q; exact absurd (x1.mpr q) (by omega); exact absurd (y1.mpr q) (by omega))] at s
            refine en_iload (i := 5) h dX5_layRow_145 rfl ?_
            refine en_if_eq (tgt := 154) h dX5_layRow_147 (by decide) (by omega) (fun c_147 => ?_) (fun c_147 => ?_)
            · rw [if_neg (fun q => absurd (z1.mpr q) (by omega))] at s
              refine en_iconst h dX5_layRow_154 ?_
              exact s
            · rw [if_pos (z1.mp (by omega))] at s
              refine en_iconst h dX5_layRow_150 ?_
              refine en_goto (tgt := 155) h dX5_layRow_151 (by decide) ?_
              exact s
          · rw [if_pos (Or.inr (y1.mp (by omega)))] at s
            refine en_iconst h dX5_layRow_141 ?_
            refine en_goto (tgt := 155) h dX5_layRow_142 (by decide) ?_
            exact s
      · have s := s4 (some (en_I x)) (some (en_I y)) (some (en_I z)) o6
        unfold ml_sg at s
        rw [if_pos c_125] at s
        refine en_iconst h dX5_layRow_128 ?_
        refine en_goto (tgt := 155) h dX5_layRow_129 (by decide) ?_
        exact s
    have s2 : ∀ (x y : Int) o4 o5 o6, (x = if m 56 i = 0 ∧ m 57 i = n then 1 else 0) → (y = if m 56 i = 1 ∧ m 52 n = m 57 i then 1 else 0) → en_G κ 85 [some (en_R 51), some (en_I i), some (en_I (n : Int)), some (en_I x), o4, o5, o6] [en_I y] (en_ar m 63 4 (ml_row m (m 62) i n)) 0 0 := by
      intro x y o4 o5 o6 hx hy
      refine en_istore (i := 4) h dX5_layRow_85 (by decide) ?_
      refine en_aload_n (i := 0) h dX5_layRow_87 rfl rfl ?_
      refine en_getR h dX5_layRow_88 fl_X5_layRow_23 (hI _ (by omega) (by omega)) rfl rfl ?_
      refine en_iload_n (i := 1) h dX5_layRow_91 rfl rfl ?_
      refine en_iaload h dX5_layRow_92 (hI _ (by omega) (by omega)) rfl (by omega) (v9 := m 56 i) (by rw [en_ar_ne (by decide)]) ?_
      refine en_iconst h dX5_layRow_93 ?_
      refine en_icmp_ne (tgt := 116) h dX5_layRow_94 (by decide) (by omega) (by omega) (fun c_94 => ?_) (fun c_94 => ?_)
      · refine en_iconst h dX5_layRow_116 ?_
        exact s3 x y 0 _ _ hx hy (by rw [if_neg (fun q => c_94 q.1)])
      · refine en_aload_n (i := 0) h dX5_layRow_97 rfl rfl ?_
        refine en_getR h dX5_layRow_98 fl_X5_layRow_13 (hI _ (by omega) (by omega)) rfl rfl ?_
        refine en_iload_n (i := 2) h dX5_layRow_101 rfl rfl ?_
        refine en_iaload h dX5_layRow_102 (hI _ (by omega) (by omega)) rfl (by omega) (v9 := m 53 n) (by rw [en_ar_ne (by decide)]) ?_
        refine en_aload_n (i := 0) h dX5_layRow_103 rfl rfl ?_
        refine en_getR h dX5_layRow_104 fl_X5_layRow_26 (hI _ (by omega) (by omega)) rfl rfl ?_
        refine en_iload_n (i := 1) h dX5_layRow_107 rfl rfl ?_
        refine en_iaload h dX5_layRow_108 (hI _ (by omega) (by omega)) rfl (by omega) (v9 := m 57 i) (by rw [en_ar_ne (by decide)]) ?_
        refine en_icmp_ne (tgt := 116) h dX5_layRow_109 (by decide) (by omega) (by omega) (fun c_109 => ?_) (fun c_109 => ?_)
        · refine en_iconst h dX5_layRow_116 ?_
          exact s3 x y 0 _ _ hx hy (by rw [if_neg (fun q => c_109 q.2)])
        · refine en_iconst h dX5_layRow_112 ?_
          refine en_goto (tgt := 117) h dX5_layRow_113 (by decide) ?_
          exact s3 x y 1 _ _ hx hy (by rw [if_pos ⟨c_94, c_109⟩])
    have s1 : ∀ (x : Int) o3 o4 o5 o6, (x = if m 56 i = 0 ∧ m 57 i = n then 1 else 0) → en_G κ 54 [some (en_R 51), some (en_I i), some (en_I (n : Int)), o3, o4, o5, o6] [en_I x] (en_ar m 63 4 (ml_row m (m 62) i n)) 0 0 := by
      intro x o3 o4 o5 o6 hx
      refine en_istore_n (i := 3) h dX5_layRow_54 rfl (by decide) ?_
      refine en_aload_n (i := 0) h dX5_layRow_55 rfl rfl ?_
      refine en_getR h dX5_layRow_56 fl_X5_layRow_23 (hI _ (by omega) (by omega)) rfl rfl ?_
      refine en_iload_n (i := 1) h dX5_layRow_59 rfl rfl ?_
      refine en_iaload h dX5_layRow_60 (hI _ (by omega) (by omega)) rfl (by omega) (v9 := m 56 i) (by rw [en_ar_ne (by decide)]) ?_
      refine en_iconst h dX5_layRow_61 ?_
      refine en_icmp_ne (tgt := 84) h dX5_layRow_62 (by decide) (by omega) (by omega) (fun c_62 => ?_) (fun c_62 => ?_)
      · refine en_iconst h dX5_layRow_84 ?_
        exact s2 x 0 _ _ _ hx (by rw [if_neg (fun q => c_62 q.1)])
      · refine en_aload_n (i := 0) h dX5_layRow_65 rfl rfl ?_
        refine en_getR h dX5_layRow_66 fl_X5_layRow_7 (hI _ (by omega) (by omega)) rfl rfl ?_
        refine en_iload_n (i := 2) h dX5_layRow_69 rfl rfl ?_
        refine en_iaload h dX5_layRow_70 (hI _ (by omega) (by omega)) rfl (by omega) (v9 := m 52 n) (by rw [en_ar_ne (by decide)]) ?_
        refine en_aload_n (i := 0) h dX5_layRow_71 rfl rfl ?_
        refine en_getR h dX5_layRow_72 fl_X5_layRow_26 (hI _ (by omega) (by omega)) rfl rfl ?_
        refine en_iload_n (i := 1) h dX5_layRow_75 rfl rfl ?_
        refine en_iaload h dX5_layRow_76 (hI _ (by omega) (by omega)) rfl (by omega) (v9 := m 57 i) (by rw [en_ar_ne (by decide)]) ?_
        refine en_icmp_ne (tgt := 84) h dX5_layRow_77 (by decide) (by omega) (by omega) (fun c_77 => ?_) (fun c_77 => ?_)
        · refine en_iconst h dX5_layRow_84 ?_
          exact s2 x 0 _ _ _ hx (by rw [if_neg (fun q => c_77 q.2)])
        · refine en_iconst h dX5_layRow_80 ?_
          refine en_goto (tgt := 85) h dX5_layRow_81 (by decide) ?_
          exact s2 x 1 _ _ _ hx (by rw [if_pos ⟨c_62, c_77⟩])
    refine en_iload_n (i := 2) h dX5_layRow_22 rfl rfl ?_
    refine en_aload_n (i := 0) h dX5_layRow_23 rfl rfl ?_
    refine en_getI (i := 2) h dX5_layRow_24 fl_X5_layRow_71 (hI _ (by omega) (by omega)) rfl rfl rfl (v9 := m 51 2) (by rw [en_ar_ne (by decide)]) ?_
    refine en_icmp_ge (tgt := 202) h dX5_layRow_27 (by decide) (by omega) (by omega) (fun c_27 => ?_) (fun c_27 => ?_)
    · exact absurd c_27 (by omega)
    · refine en_aload_n (i := 0) h dX5_layRow_30 rfl rfl ?_
      refine en_getR h dX5_layRow_31 fl_X5_layRow_23 (hI _ (by omega) (by omega)) rfl rfl ?_
      refine en_iload_n (i := 1) h dX5_layRow_34 rfl rfl ?_
      refine en_iaload h dX5_layRow_35 (hI _ (by omega) (by omega)) rfl (by omega) (v9 := m 56 i) (by rw [en_ar_ne (by decide)]) ?_
      refine en_if_ne (tgt := 53) h dX5_layRow_36 (by decide) (by omega) (fun c_36 => ?_) (fun c_36 => ?_)
      · refine en_iconst h dX5_layRow_53 ?_
        exact s1 0 _ _ _ _ (by rw [if_neg (fun q => c_36 q.1)])
      · refine en_aload_n (i := 0) h dX5_layRow_39 rfl rfl ?_
        refine en_getR h dX5_layRow_40 fl_X5_layRow_26 (hI _ (by omega) (by omega)) rfl rfl ?_
        refine en_iload_n (i := 1) h dX5_layRow_43 rfl rfl ?_
        refine en_iaload h dX5_layRow_44 (hI _ (by omega) (by omega)) rfl (by omega) (v9 := m 57 i) (by rw [en_ar_ne (by decide)]) ?_
        refine en_iload_n (i := 2) h dX5_layRow_45 rfl rfl ?_
        refine en_icmp_ne (tgt := 53) h dX5_layRow_46 (by decide) (by omega) (by omega) (fun c_46 => ?_) (fun c_46 => ?_)
        · refine en_iconst h dX5_layRow_53 ?_
          exact s1 0 _ _ _ _ (by rw [if_neg (fun q => c_46 q.2)])
        · refine en_iconst h dX5_layRow_49 ?_
          refine en_goto (tgt := 54) h dX5_layRow_50 (by decide) ?_
          exact s1 1 _ _ _ _ (by rw [if_pos ⟨c_36, c_46⟩])
set_option maxRecDepth 100000 in
set_option maxHeartbeats 4000000 in
theorem k_X5_layRow {l : Launch} {w : en_W} {m : en_M} {i : Int} (hw : en_Wok w) (hp : en_Has w 0 68) (hl : xo_ln m) (i0 : 0 ≤ i ∧ i < 10) (hv : xo_m m i) (ha : ∀ b, 0 ≤ b → b < m 51 1 → -1 ≤ m 62 b ∧ m 62 b < 4) : en_Met l w yX5_layRow wsX5_layRow rm_X5_layRow [en_R 51, en_I i] m (fun r m' => r = none ∧ m' = en_ar m 63 4 (ml_row m (m 62) i (m 51 2).toNat)) := by
  refine en_met my_X5_layRow hw (Nat.le_of_ble_eq_true rfl) ?_
  intro κ hl9 hw9 h hf
  subst hw9
  subst hl9
  have hI : ∀ k, 0 ≤ k → k < 68 → en_in κ k := hp
  have n1 := hl.2.1
  refine en_iconst h dX5_layRow_0 ?_
  refine en_istore_n (i := 2) h dX5_layRow_1 rfl (by decide) ?_
  rw [← en_ar_0 (m := m) (k := 63) (f := fun _ => 0)]
  refine lp_X5_layRow_A hp h ?_ 4 0 rfl
  refine en_iconst h dX5_layRow_20 ?_
  refine en_istore_n (i := 2) h dX5_layRow_21 rfl (by decide) ?_
  exact lp_X5_layRow_B hw hp h hf hl i0 hv ha (m 51 2).toNat 0 (by omega) _ _ _ _
theorem mb_mul {x y A B : Int} (hx : -A ≤ x ∧ x ≤ A) (hy : -B ≤ y ∧ y ≤ B) : -(A * B) ≤ x * y ∧ x * y ≤ A * B := by
  have h1 : x.natAbs ≤ A.natAbs := by omega
  have h2 : y.natAbs ≤ B.natAbs := by omega
  have h3 := Nat.mul_le_mul h1 h2
  rw [← Int.natAbs_mul, ← Int.natAbs_mul] at h3
  have h4 : 0 ≤ A * B := Int.mul_nonneg (by omega) (by omega)
  omega
theorem ml_sg_rng (m : en_M) (i n : Int) : -1 ≤ ml_sg m i n ∧ ml_sg m i n ≤ 1 := by
  unfold ml_sg
  repeat' split
  all_goals omega
theorem ml_add_bd {ao r : Int → Int} {b x B : Int} (hx : -2 ≤ x ∧ x ≤ 2) (h : ∀ k, -B ≤ r k ∧ r k ≤ B) (k : Int) : -(B + 2) ≤ ml_add ao r b x k ∧ ml_add ao r b x k ≤ B + 2 := by
  unfold ml_add gs_up
  have h1 := h k
  have h2 := h (ao b)
  split
  · omega
  · dsimp only
    split <;> omega
theorem ml_row_bd {m : en_M} {ao : Int → Int} {i : Int} : ∀ n : Nat, (∀ j, 0 ≤ j → j < (n : Int) → 1 ≤ m 54 j ∧ m 54 j ≤ 2) → ∀ k, -(4 * (n : Int)) ≤ ml_row m ao i n k ∧ ml_row m ao i n k ≤ 4 * (n : Int)
  | 0, _, k => by simp [ml_row]
  | n + 1, hs, k => by
    have ih := ml_row_bd (m := m) (ao := ao) (i := i) n (fun j j0 j1 => hs j j0 (by omega))
    have s := hs n (by omega) (by omega)
    have g := ml_sg_rng m i n
    have p1 := mb_mul (x := ml_sg m i n) (y := m 54 n) (A := 1) (B := 2) (by omega) (by omega)
    have p2 := mb_mul (x := -ml_sg m i n) (y := m 54 n) (A := 1) (B := 2) (by omega) (by omega)
    have q1 := ml_add_bd (ao := ao) (b := m 52 n) (x := ml_sg m i n * m 54 n) (by omega) ih
    have q2 := ml_add_bd (ao := ao) (b := m 53 n) (x := -ml_sg m i n * m 54 n) (by omega) q1 k
    simp only [ml_row]
    omega
