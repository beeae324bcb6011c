/-! LAW 5: one act of one grid -/
theorem it_lines {m : en_M} (hI : INV m) (f s g : Int) : INV (t_lines m f s g) := by
  unfold t_lines
  by_cases c : (pB m f ∧ pB m s) ∧ (f ≠ s ∧ (1 ≤ g ∧ g ≤ 2)) ∧ (m 0 1 < 8 ∧ gs_hb (m 1) (m 2) f s (m 0 1).toNat = false)
  · rw [if_pos c]
    exact inv_add hI c.1.1 c.1.2 c.2.1.1 c.2.1.2 c.2.2.1 c.2.2.2
  · rw [if_neg c]
    exact hI
theorem it_breaks {m : en_M} (hI : INV m) {i c : Int} (c0 : c = 0 ∨ c = 1) : INV (t_breaks m i c) := by
  unfold t_breaks
  by_cases z : pL m i
  · rw [if_pos z]
    exact inv_sw hI z c0
  · rw [if_neg z]
    exact hI
theorem it_adds {m : en_M} (hI : INV m) (k p z a : Int) : INV (t_adds m k p z a) := by
  unfold t_adds
  by_cases c : ((k = 0 ∨ k = 1) ∧ (-50 ≤ z ∧ z ≤ 50) ∧ (1 ≤ a ∧ a ≤ 2)) ∧ (0 ≤ p ∧ p < (if k = 0 then m 0 1 else m 0 0)) ∧ (m 21 1 < 10)
  · rw [if_pos c]
    exact inv_am hI c.1.1 c.1.2.1 c.1.2.2 c.2.1 c.2.2
  · rw [if_neg c]
    exact hI
theorem it_reads {m : en_M} (hI : INV m) (i z : Int) : INV (t_reads m i z) := by
  unfold t_reads
  by_cases c : (pM m i) ∧ (-50 ≤ z ∧ z ≤ 50)
  · rw [if_pos c]
    exact inv_rd hI c.2
  · rw [if_neg c]
    exact hI
theorem it_uses {m : en_M} (hI : INV m) {i c : Int} (c0 : c = 0 ∨ c = 1) : INV (t_uses m i c) := by
  unfold t_uses
  by_cases z : pM m i
  · rw [if_pos z]
    exact inv_us hI c0
  · rw [if_neg z]
    exact hI
theorem it_st {m : en_M} (hI : INV m) (q lim : Int) : INV (xe_st m q lim) := by
  unfold xe_st
  split
  · exact inv_us hI (Or.inl rfl)
  · exact hI
theorem it_cl (q lim : Int) : ∀ (n : Nat) {m : en_M}, INV m → INV (xe_cl q lim n m).2
  | 0, m, hI => hI
  | n + 1, m, hI => by
    simp only [xe_cl]
    split
    · exact it_cl q lim n (it_st hI q lim)
    · exact hI
theorem it_cleans {m : en_M} (hI : INV m) (b lim : Int) : INV (t_cleans m b lim) := by
  unfold t_cleans
  by_cases c : (pB m b) ∧ (0 ≤ lim ∧ lim ≤ 200) ∧ (obs m (m 5 b))
  · rw [if_pos c]
    exact it_cl _ _ _ hI
  · rw [if_neg c]
    exact hI
theorem rg_reads {m : en_M} (hI : INV m) (i z : Int) : -2000000003 ≤ w_reads m i z ∧ w_reads m i z ≤ 50 := by
  unfold w_reads
  by_cases c : pM m i
  · have y := inv_mt hI i c.1 c.2
    rw [if_pos c]
    split <;> omega
  · rw [if_neg c]
    omega
def ay (x : Int) : Int := x / 16
def a1 (m : en_M) (x : Int) : Int := ay x % m 0 0
def a2 (m : en_M) (x : Int) : Int := ay x / 5 % m 0 0
def ar (x : Int) : Int := ay x / 45 % (if ay x % 2 = 0 then 9 else 101) - (if ay x % 2 = 0 then 4 else 50)
def al (m : en_M) (x : Int) : Int := if m 0 1 = 0 then 0 else ay x % m 0 1
def am (m : en_M) (x : Int) : Int := if m 21 1 = 0 then 0 else ay x % m 21 1
def asg (m : en_M) (t x : Int) : Int := if t ≠ 0 ∧ 0 < m 21 1 ∧ m 22 (am m x) = 0 then -1 else 1
def ab (x : Int) : Int := if 0 < ay x / 8 % 3 then 1 else 0
def au (x : Int) : Int := if 0 < ay x / 10 % 3 then 1 else 0
def aq (x : Int) : Int := ay x / 5 % (if ay x % 2 = 0 then 5 else 201)
def ac_w (m : en_M) (t x : Int) : Int :=
  if x % 16 < 4 then w_lines m (if t = 0 then a1 m x else a2 m x) (if t = 0 then a2 m x else a1 m x) (1 + ay x / 25 % 2)
  else if x % 16 < 6 then w_breaks m (al m x) (ab x)
  else if x % 16 < 9 then w_adds m 0 (al m x) (if t = 0 then ar x else -(ar x)) (1 + ay x % 2)
  else if x % 16 < 11 then w_adds m 1 (a1 m x) (ar x) (1 + ay x % 2)
  else if x % 16 < 13 then (if w_reads m (am m x) (asg m t x * ar x) < -50 then w_reads m (am m x) (asg m t x * ar x) else asg m t x * w_reads m (am m x) (asg m t x * ar x))
  else if x % 16 < 15 then w_uses m (am m x) (au x)
  else w_cleans m (a1 m x) (aq x)
def ac_t (m : en_M) (t x : Int) : en_M :=
  if x % 16 < 4 then t_lines m (if t = 0 then a1 m x else a2 m x) (if t = 0 then a2 m x else a1 m x) (1 + ay x / 25 % 2)
  else if x % 16 < 6 then t_breaks m (al m x) (ab x)
  else if x % 16 < 9 then t_adds m 0 (al m x) (if t = 0 then ar x else -(ar x)) (1 + ay x % 2)
  else if x % 16 < 11 then t_adds m 1 (a1 m x) (ar x) (1 + ay x % 2)
  else if x % 16 < 13 then t_reads m (am m x) (asg m t x * ar x)
  else if x % 16 < 15 then t_uses m (am m x) (au x)
  else t_cleans m (a1 m x) (aq x)
theorem ab_01 (x : Int) : ab x = 0 ∨ ab x = 1 := by
  unfold ab
  split
  · exact Or.inr rfl
  · exact Or.inl rfl
theorem au_01 (x : Int) : au x = 0 ∨ au x = 1 := by
  unfold au
  split
  · exact Or.inr rfl
  · exact Or.inl rfl
theorem ac_inv {m : en_M} (hI : INV m) (t x : Int) : INV (ac_t m t x) := by
  unfold ac_t
  split
  · exact it_lines hI _ _ _
  · split
    · exact it_breaks hI (ab_01 x)
    · split
      · exact it_adds hI _ _ _ _
      · split
        · exact it_adds hI _ _ _ _
        · split
          · exact it_reads hI _ _
          · split
            · exact it_uses hI (au_01 x)
            · exact it_cleans hI _ _
theorem ac_rng {m : en_M} (hI : INV m) {x : Int} (hx : 0 ≤ x ∧ x < 2147483648) : (0 ≤ ay x ∧ ay x < 134217728) ∧ (0 ≤ a1 m x ∧ a1 m x < m 0 0) ∧ (0 ≤ a2 m x ∧ a2 m x < m 0 0) ∧ (-50 ≤ ar x ∧ ar x ≤ 50) ∧ (0 ≤ al m x ∧ al m x < 8) ∧ (0 ≤ am m x ∧ am m x < 10) ∧ (0 ≤ aq x ∧ aq x ≤ 200) := by
  have n := inv_n hI
  have y : 0 ≤ ay x ∧ ay x < 134217728 := by unfold ay; omega
  refine ⟨y, ⟨Int.emod_nonneg _ (by omega), Int.emod_lt_of_pos _ (by omega)⟩, ⟨Int.emod_nonneg _ (by omega), Int.emod_lt_of_pos _ (by omega)⟩, ?_, ?_, ?_, ?_⟩
  · unfold ar
    split <;> omega
  · unfold al
    split
    · omega
    · have a := Int.emod_nonneg (ay x) (b := m 0 1) (by omega)
      have b := Int.emod_lt_of_pos (ay x) (b := m 0 1) (by omega)
      omega
  · unfold am
    split
    · omega
    · have a := Int.emod_nonneg (ay x) (b := m 21 1) (by omega)
      have b := Int.emod_lt_of_pos (ay x) (b := m 21 1) (by omega)
      omega
  · unfold aq
    split <;> omega
abbrev act_ls (m : en_M) (t x : Int) (p q r : Option en_V) : List (Option en_V) := [some (en_R 49), some (en_R 200), some (en_R 201), some (en_I x), some (en_I t), some (en_I (ay x)), some (en_I (a1 m x)), some (en_I (a2 m x)), some (en_I (ar x)), p, q, r]
abbrev rm_L_act : Room := { frames := 9, cells := 23, slots := 138, locals := 185 }
theorem my_L_act : en_MY yL_act RL cL_act 12 (some .int) wsL_act 5 := ⟨⟨_, rfl⟩, rfl, by decide, by decide, by decide +kernel, by decide +kernel⟩
set_option maxRecDepth 100000 in
set_option maxHeartbeats 4000000 in
theorem k_L_act {l : Launch} {w : en_W} {m : en_M} {t x : Int} (hw : en_Wok w) (hp : HasL w) (hl : l.stackTraces = false) (hI9 : INV m) (hN : m 200 0 = m 0 0 ∧ m 200 1 = m 0 1 ∧ m 200 2 = m 21 1) (hK : ∀ i, 0 ≤ i → i < m 21 1 → m 201 i = m 22 i) (hx : 0 ≤ x ∧ x < 2147483648) (ht : t = 0 ∨ t = 1) : en_MetS l w yL_act wsL_act rm_L_act [en_R 49, en_R 200, en_R 201, en_I x, en_I t] m (fun r m' => r = some (en_I (ac_w m t x)) ∧ cq m' (ac_t m t x)) := by
  refine en_metP my_L_act hw hl (Nat.le_of_ble_eq_true rfl) ?_
  intro κ hl9 hw9 h hf hx9
  subst hw9
  subst hl9
  have hI : ∀ k, 200 ≤ k → k < 204 → en_in κ k := hp.2.2.1
  have n9 := inv_n hI9
  have hl := en_Xs_l hx9
  obtain ⟨ry, r1, r2, rr, rl, rm, rq⟩ := ac_rng hI9 hx
  have g140 : x % 16 < 4 → ∀ p q r, en_G κ 140 (act_ls m t x p q r) [] m 0 0 := by
    intro hc p q r
    have e1 : ac_w m t x = w_lines m (if t = 0 then a1 m x else a2 m x) (if t = 0 then a2 m x else a1 m x) (1 + ay x / 25 % 2) := if_pos hc
    have e2 : ac_t m t x = t_lines m (if t = 0 then a1 m x else a2 m x) (if t = 0 then a2 m x else a1 m x) (1 + ay x / 25 % 2) := if_pos hc
    have iv := ac_inv hI9 t x
    rw [e2] at iv
    refine en_aload_n (i := 0) h dL_act_140 rfl rfl ?_
    refine en_iload (i := 4) h dL_act_141 rfl ?_
    refine en_if_eq (tgt := 151) h dL_act_143 (by decide) (by omega) (fun c_143 => ?_) (fun c_143 => ?_)
    · rw [if_pos c_143, if_pos c_143] at e1 e2 iv
      refine en_iload (i := 6) h dL_act_151 rfl ?_
      refine en_iload (i := 4) h dL_act_153 rfl ?_
      refine en_if_eq (tgt := 163) h dL_act_155 (by decide) (by omega) (fun c_155 => ?_) (fun c_155 => ?_)
      · refine en_iload (i := 7) h dL_act_163 rfl ?_
        refine en_iconst h dL_act_165 ?_
        refine en_iload (i := 5) h dL_act_166 rfl ?_
        refine en_bipush h dL_act_168 (by decide) ?_
        refine en_idivP h dL_act_170 (by omega) (by omega) ?_
        refine en_iconst h dL_act_171 ?_
        refine en_iremP h dL_act_172 (by omega) (by omega) ?_
        refine en_iadd h dL_act_173 ?_
        refine en_callSS h hx9 (K_lines hw hp.1 hl hI9 (by constructor <;> omega) (by constructor <;> omega) (by constructor <;> omega)) my_L_lines gL_act_L_lines rfl rfl ⟨by decide, by decide⟩ ⟨by decide, by decide⟩ (Nat.le_of_ble_eq_true rfl) dL_act_174 (fun r m' hp => ?_)
        obtain ⟨rfl, rfl⟩ := hp
        exact en_iret h hf dL_act_177 ⟨by decide, by decide⟩ ⟨by rw [e1], by rw [e2]; exact cq_rf iv.2.2.2⟩
      · exact absurd c_143 c_155
    · rw [if_neg c_143, if_neg c_143] at e1 e2 iv
      refine en_iload (i := 7) h dL_act_146 rfl ?_
      refine en_goto (tgt := 153) h dL_act_148 (by decide) ?_
      refine en_iload (i := 4) h dL_act_153 rfl ?_
      refine en_if_eq (tgt := 163) h dL_act_155 (by decide) (by omega) (fun c_155 => ?_) (fun c_155 => ?_)
      · exact absurd c_155 c_143
      · refine en_iload (i := 6) h dL_act_158 rfl ?_
        refine en_goto (tgt := 165) h dL_act_160 (by decide) ?_
        refine en_iconst h dL_act_165 ?_
        refine en_iload (i := 5) h dL_act_166 rfl ?_
        refine en_bipush h dL_act_168 (by decide) ?_
        refine en_idivP h dL_act_170 (by omega) (by omega) ?_
        refine en_iconst h dL_act_171 ?_
        refine en_iremP h dL_act_172 (by omega) (by omega) ?_
        refine en_iadd h dL_act_173 ?_
        refine en_callSS h hx9 (K_lines hw hp.1 hl hI9 (by constructor <;> omega) (by constructor <;> omega) (by constructor <;> omega)) my_L_lines gL_act_L_lines rfl rfl ⟨by decide, by decide⟩ ⟨by decide, by decide⟩ (Nat.le_of_ble_eq_true rfl) dL_act_174 (fun r m' hp => ?_)
        obtain ⟨rfl, rfl⟩ := hp
        exact en_iret h hf dL_act_177 ⟨by decide, by decide⟩ ⟨by rw [e1], by rw [e2]; exact cq_rf iv.2.2.2⟩
  have g178 : ¬ x % 16 < 4 → x % 16 < 6 → ∀ p q r, en_G κ 178 (act_ls m t x p q r) [] m 0 0 := by
    intro hc hc2 p q r
    have e1 : ac_w m t x = w_breaks m (al m x) (ab x) := by unfold ac_w; rw [if_neg hc, if_pos hc2]
    have e2 : ac_t m t x = t_breaks m (al m x) (ab x) := by unfold ac_t; rw [if_neg hc, if_pos hc2]
    have iv := ac_inv hI9 t x
    rw [e2] at iv
    have fin : ∀ c, c = ab x → en_G κ 210 (act_ls m t x p q r) [en_I c, en_I (al m x), en_R 49] m 0 0 := by
      intro c hc
      subst hc
      refine en_callSS h hx9 (K_breaks hw hp.1 hl hI9 (by constructor <;> omega) (ab_01 x)) my_L_breaks gL_act_L_breaks rfl rfl ⟨by decide, by decide⟩ ⟨by decide, by decide⟩ (Nat.le_of_ble_eq_true rfl) dL_act_210 (fun r m' hp => ?_)
      obtain ⟨rfl, rfl⟩ := hp
      exact en_iret h hf dL_act_213 ⟨by decide, by decide⟩ ⟨by rw [e1], by rw [e2]; exact cq_rf iv.2.2.2⟩
    have mid : ∀ z, z = al m x → en_G κ 195 (act_ls m t x p q r) [en_I z, en_R 49] m 0 0 := by
      intro z hz
      subst hz
      refine en_iload (i := 5) h dL_act_195 rfl ?_
      refine en_bipush h dL_act_197 (by decide) ?_
      refine en_idivP h dL_act_199 (by omega) (by omega) ?_
      refine en_iconst h dL_act_200 ?_
      refine en_iremP h dL_act_201 (by omega) (by omega) ?_
      refine en_if_le (tgt := 209) h dL_act_202 (by decide) (by omega) (fun c_202 => ?_) (fun c_202 => ?_)
      · refine en_iconst h dL_act_209 ?_
        exact fin _ (by unfold ab; rw [if_neg (by omega)])
      · refine en_iconst h dL_act_205 ?_
        refine en_goto (tgt := 210) h dL_act_206 (by decide) ?_
        exact fin _ (by unfold ab; rw [if_pos (by omega)])
    refine en_aload_n (i := 0) h dL_act_178 rfl rfl ?_
    refine en_aload_n (i := 1) h dL_act_179 rfl rfl ?_
    refine en_iconst h dL_act_180 ?_
    refine en_iaload h dL_act_181 (hI _ (by omega) (by omega)) rfl (by omega) hN.2.1 ?_
    refine en_if_ne (tgt := 189) h dL_act_182 (by decide) (by omega) (fun c_182 => ?_) (fun c_182 => ?_)
    · refine en_iload (i := 5) h dL_act_189 rfl ?_
      refine en_aload_n (i := 1) h dL_act_191 rfl rfl ?_
      refine en_iconst h dL_act_192 ?_
      refine en_iaload h dL_act_193 (hI _ (by omega) (by omega)) rfl (by omega) hN.2.1 ?_
      refine en_iremP h dL_act_194 (by omega) (by omega) ?_
      exact mid _ (by unfold al; rw [if_neg c_182])
    · refine en_iconst h dL_act_185 ?_
      refine en_goto (tgt := 195) h dL_act_186 (by decide) ?_
      exact mid _ (by unfold al; rw [if_pos c_182])
  have g214 : ¬ x % 16 < 4 → ¬ x % 16 < 6 → x % 16 < 9 → ∀ p q r, en_G κ 214 (act_ls m t x p q r) [] m 0 0 := by
    intro hc hc2 hc3 p q r
    have e1 : ac_w m t x = w_adds m 0 (al m x) (if t = 0 then ar x else -(ar x)) (1 + ay x % 2) := by unfold ac_w; rw [if_neg hc, if_neg hc2, if_pos hc3]
    have e2 : ac_t m t x = t_adds m 0 (al m x) (if t = 0 then ar x else -(ar x)) (1 + ay x % 2) := by unfold ac_t; rw [if_neg hc, if_neg hc2, if_pos hc3]
    have iv := ac_inv hI9 t x
    rw [e2] at iv
    have mid : ∀ z, z = al m x → en_G κ 232 (act_ls m t x p q r) [en_I z, en_I 0, en_R 49] m 0 0 := by
      intro z hz
      subst hz
      refine en_iload (i := 4) h dL_act_232 rfl ?_
      refine en_if_eq (tgt := 243) h dL_act_234 (by decide) (by omega) (fun c_234 => ?_) (fun c_234 => ?_)
      · rw [if_pos c_234] at e1 e2 iv
        refine en_iload (i := 8) h dL_act_243 rfl ?_
        refine en_iconst h dL_act_245 ?_
        refine en_iload (i := 5) h dL_act_246 rfl ?_
        refine en_iconst h dL_act_248 ?_
        refine en_iremP h dL_act_249 (by omega) (by omega) ?_
        refine en_iadd h dL_act_250 ?_
        refine en_callSS h hx9 (K_adds hw hp.1 hl hI9 (by decide) (by constructor <;> omega) (by constructor <;> omega) (by constructor <;> omega)) my_L_adds gL_act_L_adds rfl rfl ⟨by decide, by decide⟩ ⟨by decide, by decide⟩ (Nat.le_of_ble_eq_true rfl) dL_act_251 (fun r m' hp => ?_)
        obtain ⟨rfl, rfl⟩ := hp
        exact en_iret h hf dL_act_254 ⟨by decide, by decide⟩ ⟨by rw [e1], by rw [e2]; exact cq_rf iv.2.2.2⟩
      · rw [if_neg c_234] at e1 e2 iv
        refine en_iload (i := 8) h dL_act_237 rfl ?_
        refine en_ineg h dL_act_239 ?_
        refine en_goto (tgt := 245) h dL_act_240 (by decide) ?_
        refine en_iconst h dL_act_245 ?_
        refine en_iload (i := 5) h dL_act_246 rfl ?_
        refine en_iconst h dL_act_248 ?_
        refine en_iremP h dL_act_249 (by omega) (by omega) ?_
        refine en_iadd h dL_act_250 ?_
        refine en_callSS h hx9 (K_adds hw hp.1 hl hI9 (by decide) (by constructor <;> omega) (by constructor <;> omega) (by constructor <;> omega)) my_L_adds gL_act_L_adds rfl rfl ⟨by decide, by decide⟩ ⟨by decide, by decide⟩ (Nat.le_of_ble_eq_true rfl) dL_act_251 (fun r m' hp => ?_)
        obtain ⟨rfl, rfl⟩ := hp
        exact en_iret h hf dL_act_254 ⟨by decide, by decide⟩ ⟨by rw [e1], by rw [e2]; exact cq_rf iv.2.2.2⟩
    refine en_aload_n (i := 0) h dL_act_214 rfl rfl ?_
    refine en_iconst h dL_act_215 ?_
    refine en_aload_n (i := 1) h dL_act_216 rfl rfl ?_
    refine en_iconst h dL_act_217 ?_
    refine en_iaload h dL_act_218 (hI _ (by omega) (by omega)) rfl (by omega) hN.2.1 ?_
    refine en_if_ne (tgt := 226) h dL_act_219 (by decide) (by omega) (fun c_219 => ?_) (fun c_219 => ?_)
    · refine en_iload (i := 5) h dL_act_226 rfl ?_
      refine en_aload_n (i := 1) h dL_act_228 rfl rfl ?_
      refine en_iconst h dL_act_229 ?_
      refine en_iaload h dL_act_230 (hI _ (by omega) (by omega)) rfl (by omega) hN.2.1 ?_
      refine en_iremP h dL_act_231 (by omega) (by omega) ?_
      exact mid _ (by unfold al; rw [if_neg c_219])
    · refine en_iconst h dL_act_222 ?_
      refine en_goto (tgt := 232) h dL_act_223 (by decide) ?_
      exact mid _ (by unfold al; rw [if_pos c_219])
  have g255 : ¬ x % 16 < 4 → ¬ x % 16 < 6 → ¬ x % 16 < 9 → x % 16 < 11 → ∀ p q r, en_G κ 255 (act_ls m t x p q r) [] m 0 0 := by
    intro hc hc2 hc3 hc4 p q r
    have e1 : ac_w m t x = w_adds m 1 (a1 m x) (ar x) (1 + ay x % 2) := by unfold ac_w; rw [if_neg hc, if_neg hc2, if_neg hc3, if_pos hc4]
    have e2 : ac_t m t x = t_adds m 1 (a1 m x) (ar x) (1 + ay x % 2) := by unfold ac_t; rw [if_neg hc, if_neg hc2, if_neg hc3, if_pos hc4]
    have iv := ac_inv hI9 t x
    rw [e2] at iv
    refine en_aload_n (i := 0) h dL_act_255 rfl rfl ?_
    refine en_iconst h dL_act_256 ?_
    refine en_iload (i := 6) h dL_act_257 rfl ?_
    refine en_iload (i := 8) h dL_act_259 rfl ?_
    refine en_iconst h dL_act_261 ?_
    refine en_iload (i := 5) h dL_act_262 rfl ?_
    refine en_iconst h dL_act_264 ?_
    refine en_iremP h dL_act_265 (by omega) (by omega) ?_
    refine en_iadd h dL_act_266 ?_
    refine en_callSS h hx9 (K_adds hw hp.1 hl hI9 (by decide) (by constructor <;> omega) (by constructor <;> omega) (by constructor <;> omega)) my_L_adds gL_act_L_adds rfl rfl ⟨by decide, by decide⟩ ⟨by decide, by decide⟩ (Nat.le_of_ble_eq_true rfl) dL_act_267 (fun r m' hp => ?_)
    obtain ⟨rfl, rfl⟩ := hp
    exact en_iret h hf dL_act_270 ⟨by decide, by decide⟩ ⟨by rw [e1], by rw [e2]; exact cq_rf iv.2.2.2⟩
  have g271 : ¬ x % 16 < 4 → ¬ x % 16 < 6 → ¬ x % 16 < 9 → ¬ x % 16 < 11 → x % 16 < 13 → ∀ p q r, en_G κ 271 (act_ls m t x p q r) [] m 0 0 := by
    intro hc hc2 hc3 hc4 hc5 p q r
    have e1 : ac_w m t x = (if w_reads m (am m x) (asg m t x * ar x) < -50 then w_reads m (am m x) (asg m t x * ar x) else asg m t x * w_reads m (am m x) (asg m t x * ar x)) := by unfold ac_w; rw [if_neg hc, if_neg hc2, if_neg hc3, if_neg hc4, if_pos hc5]
    have e2 : ac_t m t x = t_reads m (am m x) (asg m t x * ar x) := by unfold ac_t; rw [if_neg hc, if_neg hc2, if_neg hc3, if_neg hc4, if_pos hc5]
    have iv := ac_inv hI9 t x
    rw [e2] at iv
    have rs : -50 ≤ asg m t x * ar x ∧ asg m t x * ar x ≤ 50 := by
      unfold asg
      split
      · rw [show (-1 : Int) * ar x = -(ar x) by omega]
        omega
      · rw [Int.one_mul]
        omega
    have g := rg_reads hI9 (am m x) (asg m t x * ar x)
    have fin : ∀ s, s = asg m t x → en_G κ 312 (act_ls m t x (some (en_I (am m x))) q r) [en_I s] m 0 0 := by
      intro s hs
      subst hs
      refine en_istore (i := 10) h dL_act_312 (by decide) ?_
      refine en_aload_n (i := 0) h dL_act_314 rfl rfl ?_
      refine en_iload (i := 9) h dL_act_315 rfl ?_
      refine en_iload (i := 10) h dL_act_317 rfl ?_
      refine en_iload (i := 8) h dL_act_319 rfl ?_
      refine en_imul h dL_act_321 ?_
      refine en_callSS h hx9 (K_reads hw hp.1 hl hI9 (by constructor <;> omega) (by constructor <;> omega)) my_L_reads gL_act_L_reads rfl rfl ⟨by decide, by decide⟩ ⟨by decide, by decide⟩ (Nat.le_of_ble_eq_true rfl) dL_act_322 (fun r m' hp => ?_)
      obtain ⟨rfl, rfl⟩ := hp
      refine en_istore (i := 11) h dL_act_325 (by decide) ?_
      refine en_iload (i := 11) h dL_act_327 rfl ?_
      refine en_bipush h dL_act_329 (by decide) ?_
      refine en_icmp_ge (tgt := 339) h dL_act_331 (by decide) (by omega) (by omega) (fun c_331 => ?_) (fun c_331 => ?_)
      · refine en_iload (i := 10) h dL_act_339 rfl ?_
        refine en_iload (i := 11) h dL_act_341 rfl ?_
        refine en_imul h dL_act_343 ?_
        exact en_iret h hf dL_act_344 ⟨by decide, by decide⟩ ⟨by rw [e1, if_neg (by omega)], by rw [e2]; exact cq_rf iv.2.2.2⟩
      · refine en_iload (i := 11) h dL_act_334 rfl ?_
        refine en_goto (tgt := 344) h dL_act_336 (by decide) ?_
        exact en_iret h hf dL_act_344 ⟨by decide, by decide⟩ ⟨by rw [e1, if_pos (by omega)], by rw [e2]; exact cq_rf iv.2.2.2⟩
    have mid : ∀ z, z = am m x → en_G κ 287 (act_ls m t x p q r) [en_I z] m 0 0 := by
      intro z hz
      subst hz
      refine en_istore (i := 9) h dL_act_287 (by decide) ?_
      refine en_iload (i := 4) h dL_act_289 rfl ?_
      refine en_if_eq (tgt := 311) h dL_act_291 (by decide) (by omega) (fun c_291 => ?_) (fun c_291 => ?_)
      · refine en_iconst h dL_act_311 ?_
        exact fin _ (by unfold asg; rw [if_neg (fun z => z.1 c_291)])
      · refine en_aload_n (i := 1) h dL_act_294 rfl rfl ?_
        refine en_iconst h dL_act_295 ?_
        refine en_iaload h dL_act_296 (hI _ (by omega) (by omega)) rfl (by omega) hN.2.2 ?_
        refine en_if_le (tgt := 311) h dL_act_297 (by decide) (by omega) (fun c_297 => ?_) (fun c_297 => ?_)
        · refine en_iconst h dL_act_311 ?_
          exact fin _ (by unfold asg; rw [if_neg (fun z => by omega)])
        · have e22 : m 201 (am m x) = m 22 (am m x) := hK _ rm.1 (by unfold am; rw [if_neg (by omega)]; exact Int.emod_lt_of_pos _ (by omega))
          have k22 := (inv_mt hI9 (am m x) rm.1 (by unfold am; rw [if_neg (by omega)]; exact Int.emod_lt_of_pos _ (by omega))).1
          refine en_aload_n (i := 2) h dL_act_300 rfl rfl ?_
          refine en_iload (i := 9) h dL_act_301 rfl ?_
          refine en_iaload h dL_act_303 (hI _ (by omega) (by omega)) rfl (by omega) e22 ?_
          refine en_if_ne (tgt := 311) h dL_act_304 (by decide) (by omega) (fun c_304 => ?_) (fun c_304 => ?_)
          · refine en_iconst h dL_act_311 ?_
            exact fin _ (by unfold asg; rw [if_neg (fun z => c_304 z.2.2)])
          · refine en_iconst h dL_act_307 ?_
            refine en_goto (tgt := 312) h dL_act_308 (by decide) ?_
            exact fin _ (by unfold asg; rw [if_pos ⟨c_291, by omega, c_304⟩])
    refine en_aload_n (i := 1) h dL_act_271 rfl rfl ?_
    refine en_iconst h dL_act_272 ?_
    refine en_iaload h dL_act_273 (hI _ (by omega) (by omega)) rfl (by omega) hN.2.2 ?_
    refine en_if_ne (tgt := 281) h dL_act_274 (by decide) (by omega) (fun c_274 => ?_) (fun c_274 => ?_)
    · refine en_iload (i := 5) h dL_act_281 rfl ?_
      refine en_aload_n (i := 1) h dL_act_283 rfl rfl ?_
      refine en_iconst h dL_act_284 ?_
      refine en_iaload h dL_act_285 (hI _ (by omega) (by omega)) rfl (by omega) hN.2.2 ?_
      refine en_iremP h dL_act_286 (by omega) (by omega) ?_
      exact mid _ (by unfold am; rw [if_neg c_274])
    · refine en_iconst h dL_act_277 ?_
      refine en_goto (tgt := 287) h dL_act_278 (by decide) ?_
      exact mid _ (by unfold am; rw [if_pos c_274])
  have g345 : ¬ x % 16 < 4 → ¬ x % 16 < 6 → ¬ x % 16 < 9 → ¬ x % 16 < 11 → ¬ x % 16 < 13 → x % 16 < 15 → ∀ p q r, en_G κ 345 (act_ls m t x p q r) [] m 0 0 := by
    intro hc hc2 hc3 hc4 hc5 hc6 p q r
    have e1 : ac_w m t x = w_uses m (am m x) (au x) := by unfold ac_w; rw [if_neg hc, if_neg hc2, if_neg hc3, if_neg hc4, if_neg hc5, if_pos hc6]
    have e2 : ac_t m t x = t_uses m (am m x) (au x) := by unfold ac_t; rw [if_neg hc, if_neg hc2, if_neg hc3, if_neg hc4, if_neg hc5, if_pos hc6]
    have iv := ac_inv hI9 t x
    rw [e2] at iv
    have fin : ∀ c, c = au x → en_G κ 377 (act_ls m t x p q r) [en_I c, en_I (am m x), en_R 49] m 0 0 := by
      intro c hc
      subst hc
      refine en_callSS h hx9 (K_uses hw hp.1 hl hI9 (by constructor <;> omega) (au_01 x)) my_L_uses gL_act_L_uses rfl rfl ⟨by decide, by decide⟩ ⟨by decide, by decide⟩ (Nat.le_of_ble_eq_true rfl) dL_act_377 (fun r m' hp => ?_)
      obtain ⟨rfl, rfl⟩ := hp
      exact en_iret h hf dL_act_380 ⟨by decide, by decide⟩ ⟨by rw [e1], by rw [e2]; exact cq_rf iv.2.2.2⟩
    have mid : ∀ z, z = am m x → en_G κ 362 (act_ls m t x p q r) [en_I z, en_R 49] m 0 0 := by
      intro z hz
      subst hz
      refine en_iload (i := 5) h dL_act_362 rfl ?_
      refine en_bipush h dL_act_364 (by decide) ?_
      refine en_idivP h dL_act_366 (by omega) (by omega) ?_
      refine en_iconst h dL_act_367 ?_
      refine en_iremP h dL_act_368 (by omega) (by omega) ?_
      refine en_if_le (tgt := 376) h dL_act_369 (by decide) (by omega) (fun c_369 => ?_) (fun c_369 => ?_)
      · refine en_iconst h dL_act_376 ?_
        exact fin _ (by unfold au; rw [if_neg (by omega)])
      · refine en_iconst h dL_act_372 ?_
        refine en_goto (tgt := 377) h dL_act_373 (by decide) ?_
        exact fin _ (by unfold au; rw [if_pos (by omega)])
    refine en_aload_n (i := 0) h dL_act_345 rfl rfl ?_
    refine en_aload_n (i := 1) h dL_act_346 rfl rfl ?_
    refine en_iconst h dL_act_347 ?_
    refine en_iaload h dL_act_348 (hI _ (by omega) (by omega)) rfl (by omega) hN.2.2 ?_
    refine en_if_ne (tgt := 356) h dL_act_349 (by decide) (by omega) (fun c_349 => ?_) (fun c_349 => ?_)
    · refine en_iload (i := 5) h dL_act_356 rfl ?_
      refine en_aload_n (i := 1) h dL_act_358 rfl rfl ?_
      refine en_iconst h dL_act_359 ?_
      refine en_iaload h dL_act_360 (hI _ (by omega) (by omega)) rfl (by omega) hN.2.2 ?_
      refine en_iremP h dL_act_361 (by omega) (by omega) ?_
      exact mid _ (by unfold am; rw [if_neg c_349])
    · refine en_iconst h dL_act_352 ?_
      refine en_goto (tgt := 362) h dL_act_353 (by decide) ?_
      exact mid _ (by unfold am; rw [if_pos c_349])
  have g381 : ¬ x % 16 < 15 → ∀ p q r, en_G κ 381 (act_ls m t x p q r) [] m 0 0 := by
    intro hc p q r
    have e1 : ac_w m t x = w_cleans m (a1 m x) (aq x) := by unfold ac_w; rw [if_neg (by omega), if_neg (by omega), if_neg (by omega), if_neg (by omega), if_neg (by omega), if_neg hc]
    have e2 : ac_t m t x = t_cleans m (a1 m x) (aq x) := by unfold ac_t; rw [if_neg (by omega), if_neg (by omega), if_neg (by omega), if_neg (by omega), if_neg (by omega), if_neg hc]
    have fin : ∀ c, c = aq x → en_G κ 403 (act_ls m t x p q r) [en_I c, en_I (a1 m x), en_R 49] m 0 0 := by
      intro c hc
      subst hc
      refine en_callSS h hx9 (K_cleans hw hp.1 hl hI9 (by constructor <;> omega) (by constructor <;> omega)) my_L_cleans gL_act_L_cleans rfl rfl ⟨by decide, by decide⟩ ⟨by decide, by decide⟩ (Nat.le_of_ble_eq_true rfl) dL_act_403 (fun r m' hp => ?_)
      obtain ⟨rfl, hq⟩ := hp
      exact en_iret h hf dL_act_406 ⟨by decide, by decide⟩ ⟨by rw [e1], by rw [e2]; exact hq⟩
    refine en_aload_n (i := 0) h dL_act_381 rfl rfl ?_
    refine en_iload (i := 6) h dL_act_382 rfl ?_
    refine en_iload (i := 5) h dL_act_384 rfl ?_
    refine en_iconst h dL_act_386 ?_
    refine en_idivP h dL_act_387 (by omega) (by omega) ?_
    refine en_iload (i := 5) h dL_act_388 rfl ?_
    refine en_iconst h dL_act_390 ?_
    refine en_iremP h dL_act_391 (by omega) (by omega) ?_
    refine en_if_ne (tgt := 399) h dL_act_392 (by decide) (by omega) (fun c_392 => ?_) (fun c_392 => ?_)
    · refine en_sipush h dL_act_399 (by decide) ?_
      refine en_iremP h dL_act_402 (by omega) (by omega) ?_
      exact fin _ (by unfold aq; rw [if_neg c_392])
    · refine en_iconst h dL_act_395 ?_
      refine en_goto (tgt := 402) h dL_act_396 (by decide) ?_
      refine en_iremP h dL_act_402 (by omega) (by omega) ?_
      exact fin _ (by unfold aq; rw [if_pos c_392])
  have g60 : ∀ z, z = ar x → ∀ p q r, en_G κ 60 [some (en_R 49), some (en_R 200), some (en_R 201), some (en_I x), some (en_I t), some (en_I (ay x)), some (en_I (a1 m x)), some (en_I (a2 m x)), some (en_I z), p, q, r] [] m 0 0 := by
    intro z hz p q r
    subst hz
    refine en_iload_n (i := 3) h dL_act_60 rfl rfl ?_
    refine en_bipush h dL_act_61 (by decide) ?_
    refine en_iremP h dL_act_63 (by omega) (by omega) ?_
    have hc : x % 16 = 0 ∨ x % 16 = 1 ∨ x % 16 = 2 ∨ x % 16 = 3 ∨ x % 16 = 4 ∨ x % 16 = 5 ∨ x % 16 = 6 ∨ x % 16 = 7 ∨ x % 16 = 8 ∨ x % 16 = 9 ∨ x % 16 = 10 ∨ x % 16 = 11 ∨ x % 16 = 12 ∨ x % 16 = 13 ∨ x % 16 = 14 ∨ x % 16 = 15 := by omega
    rcases hc with e | e | e | e | e | e | e | e | e | e | e | e | e | e | e | e <;> rw [e]
    · exact en_tin (off := 76) (tgt := 140) h dL_act_64 (by decide) (by decide) rfl (by decide) (g140 (by omega) p q r)
    · exact en_tin (off := 76) (tgt := 140) h dL_act_64 (by decide) (by decide) rfl (by decide) (g140 (by omega) p q r)
    · exact en_tin (off := 76) (tgt := 140) h dL_act_64 (by decide) (by decide) rfl (by decide) (g140 (by omega) p q r)
    · exact en_tin (off := 76) (tgt := 140) h dL_act_64 (by decide) (by decide) rfl (by decide) (g140 (by omega) p q r)
    · exact en_tin (off := 114) (tgt := 178) h dL_act_64 (by decide) (by decide) rfl (by decide) (g178 (by omega) (by omega) p q r)
    · exact en_tin (off := 114) (tgt := 178) h dL_act_64 (by decide) (by decide) rfl (by decide) (g178 (by omega) (by omega) p q r)
    · exact en_tin (off := 150) (tgt := 214) h dL_act_64 (by decide) (by decide) rfl (by decide) (g214 (by omega) (by omega) (by omega) p q r)
    · exact en_tin (off := 150) (tgt := 214) h dL_act_64 (by decide) (by decide) rfl (by decide) (g214 (by omega) (by omega) (by omega) p q r)
    · exact en_tin (off := 150) (tgt := 214) h dL_act_64 (by decide) (by decide) rfl (by decide) (g214 (by omega) (by omega) (by omega) p q r)
    · exact en_tin (off := 191) (tgt := 255) h dL_act_64 (by decide) (by decide) rfl (by decide) (g255 (by omega) (by omega) (by omega) (by omega) p q r)
    · exact en_tin (off := 191) (tgt := 255) h dL_act_64 (by decide) (by decide) rfl (by decide) (g255 (by omega) (by omega) (by omega) (by omega) p q r)
    · exact en_tin (off := 207) (tgt := 271) h dL_act_64 (by decide) (by decide) rfl (by decide) (g271 (by omega) (by omega) (by omega) (by omega) (by omega) p q r)
    · exact en_tin (off := 207) (tgt := 271) h dL_act_64 (by decide) (by decide) rfl (by decide) (g271 (by omega) (by omega) (by omega) (by omega) (by omega) p q r)
    · exact en_tin (off := 281) (tgt := 345) h dL_act_64 (by decide) (by decide) rfl (by decide) (g345 (by omega) (by omega) (by omega) (by omega) (by omega) (by omega) p q r)
    · exact en_tin (off := 281) (tgt := 345) h dL_act_64 (by decide) (by decide) rfl (by decide) (g345 (by omega) (by omega) (by omega) (by omega) (by omega) (by omega) p q r)
    · exact en_tout (tgt := 381) h dL_act_64 (by decide) (by decide) (by decide) (g381 (by omega) p q r)
  have y0 : ay x = x / 16 := rfl
  refine en_iload_n (i := 3) h dL_act_0 rfl rfl ?_
  refine en_bipush h dL_act_1 (by decide) ?_
  refine en_idivP h dL_act_3 (by omega) (by omega) ?_
  refine en_istore (i := 5) h dL_act_4 (by decide) ?_
  refine en_iload (i := 5) h dL_act_6 rfl ?_
  refine en_aload_n (i := 1) h dL_act_8 rfl rfl ?_
  refine en_iconst h dL_act_9 ?_
  refine en_iaload h dL_act_10 (hI _ (by omega) (by omega)) rfl (by omega) hN.1 ?_
  refine en_iremP h dL_act_11 (by omega) (by omega) ?_
  refine en_istore (i := 6) h dL_act_12 (by decide) ?_
  refine en_iload (i := 5) h dL_act_14 rfl ?_
  refine en_iconst h dL_act_16 ?_
  refine en_idivP h dL_act_17 (by omega) (by omega) ?_
  refine en_aload_n (i := 1) h dL_act_18 rfl rfl ?_
  refine en_iconst h dL_act_19 ?_
  refine en_iaload h dL_act_20 (hI _ (by omega) (by omega)) rfl (by omega) hN.1 ?_
  refine en_iremP h dL_act_21 (by omega) (by omega) ?_
  refine en_istore (i := 7) h dL_act_22 (by decide) ?_
  refine en_iload (i := 5) h dL_act_24 rfl ?_
  refine en_bipush h dL_act_26 (by decide) ?_
  refine en_idivP h dL_act_28 (by omega) (by omega) ?_
  refine en_iload (i := 5) h dL_act_29 rfl ?_
  refine en_iconst h dL_act_31 ?_
  refine en_iremP h dL_act_32 (by omega) (by omega) ?_
  refine en_if_ne (tgt := 41) h dL_act_33 (by decide) (by omega) (fun c_33 => ?_) (fun c_33 => ?_)
  · refine en_bipush h dL_act_41 (by decide) ?_
    refine en_iremP h dL_act_43 (by omega) (by omega) ?_
    refine en_iload (i := 5) h dL_act_44 rfl ?_
    refine en_iconst h dL_act_46 ?_
    refine en_iremP h dL_act_47 (by omega) (by omega) ?_
    refine en_if_ne (tgt := 55) h dL_act_48 (by decide) (by omega) (fun c_48 => ?_) (fun c_48 => ?_)
    · refine en_bipush h dL_act_55 (by decide) ?_
      refine en_isub h dL_act_57 ?_
      refine en_istore (i := 8) h dL_act_58 (by decide) ?_
      exact g60 _ (by unfold ar; rw [y0, if_neg c_48, if_neg c_48]) _ _ _
    · exact absurd c_48 c_33
  · refine en_bipush h dL_act_36 (by decide) ?_
    refine en_goto (tgt := 43) h dL_act_38 (by decide) ?_
    refine en_iremP h dL_act_43 (by omega) (by omega) ?_
    refine en_iload (i := 5) h dL_act_44 rfl ?_
    refine en_iconst h dL_act_46 ?_
    refine en_iremP h dL_act_47 (by omega) (by omega) ?_
    refine en_if_ne (tgt := 55) h dL_act_48 (by decide) (by omega) (fun c_48 => ?_) (fun c_48 => ?_)
    · exact absurd c_33 c_48
    · refine en_iconst h dL_act_51 ?_
      refine en_goto (tgt := 57) h dL_act_52 (by decide) ?_
      refine en_isub h dL_act_57 ?_
      refine en_istore (i := 8) h dL_act_58 (by decide) ?_
      exact g60 _ (by unfold ar; rw [y0, if_pos c_48, if_pos c_48]) _ _ _
