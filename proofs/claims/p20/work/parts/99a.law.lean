/-! LAW 13: the law's own numbers beside an act -/
section EN13
variable {κ : en_C} {own : String} {cc : ByteArray} {nL : Nat} {Ts : List Cond} {rm : Room} {pc : Nat} {ls : List (Option en_V)} {st : List en_V} {m : en_M}
theorem en_dP {y : MethodName} {C : String} {bytes : ByteArray} {maxL : Nat} {ret' : Option FieldType} {ws : List Cond} {np index : Nat} {rmc : Room} {As rest : List en_V} {post' : Option en_V → en_M → Prop} {q B c : Nat} (h : en_Ok κ own cc nL Ts rm) (hx9 : en_Xs κ) (hM : en_MetS (en_l κ) (en_w κ) y ws rmc As m post') (hy : en_MY y C bytes maxL ret' ws np) (g : GoodIn Ts (va_wsS own index y ws))
    (hst : st = As.reverse ++ rest) (hnp : As.length = np) (hR : rmc.frames + 1 ≤ rm.frames ∧ 8 + (maxL + 11) + rmc.locals ≤ rm.locals) (hq : rmc.cells = q ∧ rmc.slots = 6 * q) (hB : B ≤ rm.cells ∧ 6 * B ≤ rm.slots) (hc : c + q ≤ B) (hcat : (rest.map fun v => (en_tv (fun _ => 0) v).category).sum ≤ 8) (d : decode cc pc = .ok (.invokestatic index, 3))
    (kk : ∀ (r : Option en_V) (m' : en_M), post' r m' → en_G κ (pc + 3) ls (en_psh r rest) m' (c + q) (6 * (c + q))) : en_G κ pc ls st m c (6 * c) :=
  en_callSP h hx9 hM hy g hst hnp hR (by rw [hq.1, hq.2]; omega) hcat d (fun r m' hp => by
    have z := kk r m' hp
    rw [hq.1, hq.2, show 6 * c + 6 * q = 6 * (c + q) by omega]
    exact z)
end EN13
/-- an act changes lines and meters alone -/
theorem st_hi (q lim : Int) {k : Int} (hk : k ≠ 26) (m : en_M) : xe_st m q lim k = m k := by
  unfold xe_st
  by_cases c : xe_dr m q lim
  · rw [if_pos c]
    exact en_set_ne hk
  · rw [if_neg c]
theorem ta_hi {m : en_M} {k p z a j : Int} (hj : 27 ≤ j) : t_adds m k p z a j = m j := by
  unfold t_adds
  by_cases c : ((k = 0 ∨ k = 1) ∧ (-50 ≤ z ∧ z ≤ 50) ∧ (1 ≤ a ∧ a ≤ 2)) ∧ (0 ≤ p ∧ p < (if k = 0 then m 0 1 else m 0 0)) ∧ (m 21 1 < 10)
  · rw [if_pos c]
    exact xn_k (by omega)
  · rw [if_neg c]
theorem cl_hi (q lim : Int) {k : Int} (hk : k ≠ 26) : ∀ (n : Nat) (m : en_M), (xe_cl q lim n m).2 k = m k
  | 0, m => rfl
  | n + 1, m => by
    simp only [xe_cl]
    split
    · rw [cl_hi q lim hk n, st_hi q lim hk]
    · rfl
theorem ac_hi {m : en_M} (hI : INV m) (t x : Int) {k : Int} (hk : 27 ≤ k) : ac_t m t x k = m k := by
  have n := inv_n hI
  unfold ac_t
  split
  · exact tl_k (M := m) hI (by omega)
  · split
    · unfold t_breaks
      split
      · rw [fl_k (by rw [xw_k (by decide)]; exact n.2.1) (by omega) (by omega), xw_k (by omega)]
      · rfl
    · split
      · exact ta_hi hk
      · split
        · exact ta_hi hk
        · split
          · unfold t_reads
            split
            · exact en_set_ne (by omega)
            · rfl
          · split
            · unfold t_uses
              split
              · exact en_set_ne (by omega)
              · rfl
            · unfold t_cleans
              split
              · exact cl_hi _ _ (by omega) _ _
              · rfl
/-- what the law's arrays say of grid one -/
def AR (m : en_M) : Prop := NN m ∧ KK m ∧ PP m ∧ QQ m
theorem AR_same {M t : en_M} (h : AR t) (h0 : M 0 = t 0) (h1 : M 1 = t 1) (h2 : M 2 = t 2) (h3 : M 3 = t 3) (h4 : M 4 = t 4) (h21 : M 21 = t 21) (h22 : M 22 = t 22) (h23 : M 23 = t 23) (h25 : M 25 = t 25) (h200 : M 200 = t 200) (h201 : M 201 = t 201) (h202 : M 202 = t 202) (h203 : M 203 = t 203) : AR M := by
  unfold AR NN KK PP QQ
  rw [h0, h1, h2, h3, h4, h21, h22, h23, h25, h200, h201, h202, h203]
  exact h
/-- a line comes -/
theorem AR_line {M m : en_M} (h : AR m) (n1 : 0 ≤ m 0 1) {f s g : Int} (h0 : M 0 = upd1 (m 0) 1 (m 0 1 + 1)) (h1 : M 1 = upd1 (m 1) (m 0 1) f) (h2 : M 2 = upd1 (m 2) (m 0 1) s) (h3 : M 3 = upd1 (m 3) (m 0 1) g) (h4 : M 4 = upd1 (m 4) (m 0 1) 1) (h21 : M 21 = m 21) (h22 : M 22 = m 22) (h23 : M 23 = m 23) (h25 : M 25 = m 25) (h200 : M 200 = upd1 (m 200) 1 (m 0 1 + 1)) (h201 : M 201 = m 201) (h202 : M 202 = upd1 (upd1 (upd1 (upd1 (m 202) (4 * m 0 1) f) (4 * m 0 1 + 1) s) (4 * m 0 1 + 2) g) (4 * m 0 1 + 3) 1) (h203 : M 203 = m 203) : AR M := by
  obtain ⟨a1, a2, a3, a4⟩ := h
  unfold AR NN KK PP QQ
  rw [h0, h1, h2, h3, h4, h21, h22, h23, h25, h200, h201, h202, h203, upd1_at, upd1_at, upd1_ne (by decide), upd1_ne (by decide), upd1_ne (by decide)]
  refine ⟨⟨a1.1, rfl, a1.2.2⟩, a2, fun j j0 j1 => ?_, a4⟩
  by_cases e : j = m 0 1
  · subst e
    rw [upd1_ne (show 4 * m 0 1 ≠ 4 * m 0 1 + 3 by omega), upd1_ne (show 4 * m 0 1 ≠ 4 * m 0 1 + 2 by omega), upd1_ne (show 4 * m 0 1 ≠ 4 * m 0 1 + 1 by omega), upd1_at, upd1_ne (show 4 * m 0 1 + 1 ≠ 4 * m 0 1 + 3 by omega), upd1_ne (show 4 * m 0 1 + 1 ≠ 4 * m 0 1 + 2 by omega), upd1_at, upd1_ne (show 4 * m 0 1 + 2 ≠ 4 * m 0 1 + 3 by omega), upd1_at, upd1_at, upd1_at, upd1_at, upd1_at, upd1_at]
    exact ⟨rfl, rfl, rfl, rfl⟩
  · have z := a3 j j0 (by omega)
    have ne : ∀ (F : Int → Int) (c : Int), 0 ≤ c → c ≤ 3 → upd1 (upd1 (upd1 (upd1 F (4 * m 0 1) f) (4 * m 0 1 + 1) s) (4 * m 0 1 + 2) g) (4 * m 0 1 + 3) 1 (4 * j + c) = F (4 * j + c) := fun F c c0 c1 => by
      rw [upd1_ne (by omega), upd1_ne (by omega), upd1_ne (by omega), upd1_ne (by omega)]
    have ne0 := ne (m 202) 0 (by decide) (by decide)
    rw [Int.add_zero] at ne0
    rw [ne0, ne _ 1 (by decide) (by decide), ne _ 2 (by decide) (by decide), ne _ 3 (by decide) (by decide), upd1_ne e, upd1_ne e, upd1_ne e, upd1_ne e]
    exact z
/-- a breaker is switched -/
theorem AR_sw {M m : en_M} (h : AR m) {i c : Int} (h0 : M 0 = m 0) (h1 : M 1 = m 1) (h2 : M 2 = m 2) (h3 : M 3 = m 3) (h4 : M 4 = upd1 (m 4) i c) (h21 : M 21 = m 21) (h22 : M 22 = m 22) (h23 : M 23 = m 23) (h25 : M 25 = m 25) (h200 : M 200 = m 200) (h201 : M 201 = m 201) (h202 : M 202 = upd1 (m 202) (4 * i + 3) c) (h203 : M 203 = m 203) : AR M := by
  obtain ⟨a1, a2, a3, a4⟩ := h
  unfold AR NN KK PP QQ
  rw [h0, h1, h2, h3, h4, h21, h22, h23, h25, h200, h201, h202, h203]
  refine ⟨a1, a2, fun j j0 j1 => ?_, a4⟩
  have z := a3 j j0 j1
  rw [upd1_ne (show 4 * j ≠ 4 * i + 3 by omega), upd1_ne (show 4 * j + 1 ≠ 4 * i + 3 by omega), upd1_ne (show 4 * j + 2 ≠ 4 * i + 3 by omega)]
  refine ⟨z.1, z.2.1, z.2.2.1, ?_⟩
  by_cases e : j = i
  · rw [e, upd1_at, upd1_at]
  · rw [upd1_ne e, upd1_ne (show 4 * j + 3 ≠ 4 * i + 3 by omega)]
    exact z.2.2.2
/-- a meter comes -/
theorem AR_mt {M m : en_M} (h : AR m) (n2 : 0 ≤ m 21 1) {k p a : Int} (h0 : M 0 = m 0) (h1 : M 1 = m 1) (h2 : M 2 = m 2) (h3 : M 3 = m 3) (h4 : M 4 = m 4) (h21 : M 21 = upd1 (m 21) 1 (m 21 1 + 1)) (h22 : M 22 = upd1 (m 22) (m 21 1) k) (h23 : M 23 = upd1 (m 23) (m 21 1) p) (h25 : M 25 = upd1 (m 25) (m 21 1) a) (h200 : M 200 = upd1 (m 200) 2 (m 21 1 + 1)) (h201 : M 201 = upd1 (m 201) (m 21 1) k) (h202 : M 202 = m 202) (h203 : M 203 = upd1 (upd1 (upd1 (m 203) (4 * m 21 1) k) (4 * m 21 1 + 1) p) (4 * m 21 1 + 2) a) : AR M := by
  obtain ⟨a1, a2, a3, a4⟩ := h
  unfold AR NN KK PP QQ
  rw [h0, h1, h2, h3, h4, h21, h22, h23, h25, h200, h201, h202, h203, upd1_at, upd1_at, upd1_ne (by decide), upd1_ne (by decide)]
  refine ⟨⟨a1.1, a1.2.1, rfl⟩, fun i i0 i1 => ?_, a3, fun i i0 i1 => ?_⟩
  · by_cases e : i = m 21 1
    · rw [e, upd1_at, upd1_at]
    · rw [upd1_ne e, upd1_ne e]
      exact a2 i i0 (by omega)
  · by_cases e : i = m 21 1
    · subst e
      rw [upd1_ne (show 4 * m 21 1 ≠ 4 * m 21 1 + 2 by omega), upd1_ne (show 4 * m 21 1 ≠ 4 * m 21 1 + 1 by omega), upd1_at, upd1_ne (show 4 * m 21 1 + 1 ≠ 4 * m 21 1 + 2 by omega), upd1_at, upd1_at, upd1_at, upd1_at, upd1_at]
      exact ⟨rfl, rfl, rfl⟩
    · have z := a4 i i0 (by omega)
      have ne : ∀ (c : Int), 0 ≤ c → c ≤ 2 → upd1 (upd1 (upd1 (m 203) (4 * m 21 1) k) (4 * m 21 1 + 1) p) (4 * m 21 1 + 2) a (4 * i + c) = m 203 (4 * i + c) := fun c c0 c1 => by
        rw [upd1_ne (by omega), upd1_ne (by omega), upd1_ne (by omega)]
      have ne0 := ne 0 (by decide) (by decide)
      rw [Int.add_zero] at ne0
      rw [ne0, ne 1 (by decide) (by decide), ne 2 (by decide) (by decide), upd1_ne e, upd1_ne e, upd1_ne e]
      exact z
/-! what an answer that isn't negative tells -/
theorem acc_lines {m : en_M} {f s g : Int} (h : 0 ≤ w_lines m f s g) : ((pB m f ∧ pB m s) ∧ (f ≠ s ∧ (1 ≤ g ∧ g ≤ 2)) ∧ (m 0 1 < 8 ∧ gs_hb (m 1) (m 2) f s (m 0 1).toNat = false)) ∧ t_lines m f s g = xm_fl (xm_ap m f s g) := by
  unfold w_lines at h
  by_cases c1 : pB m f ∧ pB m s
  · rw [if_pos c1] at h
    by_cases c2 : f ≠ s ∧ (1 ≤ g ∧ g ≤ 2)
    · rw [if_pos c2] at h
      by_cases c3 : m 0 1 < 8 ∧ gs_hb (m 1) (m 2) f s (m 0 1).toNat = false
      · exact ⟨⟨c1, c2, c3⟩, if_pos ⟨c1, c2, c3⟩⟩
      · rw [if_neg c3] at h
        omega
    · rw [if_neg c2] at h
      omega
  · rw [if_neg c1] at h
    omega
theorem ref_lines {m : en_M} {f s g : Int} (hI : INV m) (h : w_lines m f s g < 0) : t_lines m f s g = m := by
  have n := inv_n hI
  unfold t_lines
  by_cases c : (pB m f ∧ pB m s) ∧ (f ≠ s ∧ (1 ≤ g ∧ g ≤ 2)) ∧ (m 0 1 < 8 ∧ gs_hb (m 1) (m 2) f s (m 0 1).toNat = false)
  · unfold w_lines at h
    rw [if_pos c.1, if_pos c.2.1, if_pos c.2.2] at h
    omega
  · exact if_neg c
theorem acc_breaks {m : en_M} {i c : Int} (h : 0 ≤ w_breaks m i c) : pL m i ∧ t_breaks m i c = xm_fl (xm_sw m i c) := by
  unfold w_breaks at h
  by_cases z : pL m i
  · exact ⟨z, if_pos z⟩
  · rw [if_neg z] at h
    omega
theorem ref_breaks {m : en_M} {i c : Int} (hI : INV m) (h : w_breaks m i c < 0) : t_breaks m i c = m := by
  unfold t_breaks
  by_cases z : pL m i
  · unfold w_breaks at h
    rw [if_pos z] at h
    have y := (inv_ln hI i z.1 z.2).2.2.1
    omega
  · exact if_neg z
theorem acc_adds {m : en_M} {k p z a : Int} (h : 0 ≤ w_adds m k p z a) : ((k = 0 ∨ k = 1) ∧ (-50 ≤ z ∧ z ≤ 50) ∧ (1 ≤ a ∧ a ≤ 2)) ∧ (0 ≤ p ∧ p < (if k = 0 then m 0 1 else m 0 0)) ∧ m 21 1 < 10 ∧ t_adds m k p z a = xm_am m k p z a := by
  unfold w_adds at h
  by_cases c1 : (k = 0 ∨ k = 1) ∧ (-50 ≤ z ∧ z ≤ 50) ∧ (1 ≤ a ∧ a ≤ 2)
  · rw [if_pos c1] at h
    by_cases c2 : 0 ≤ p ∧ p < (if k = 0 then m 0 1 else m 0 0)
    · rw [if_pos c2] at h
      by_cases c3 : m 21 1 < 10
      · exact ⟨c1, c2, c3, if_pos ⟨c1, c2, c3⟩⟩
      · rw [if_neg c3] at h
        omega
    · rw [if_neg c2] at h
      omega
  · rw [if_neg c1] at h
    omega
theorem ref_adds {m : en_M} {k p z a : Int} (hI : INV m) (h : w_adds m k p z a < 0) : t_adds m k p z a = m := by
  have n := inv_n hI
  unfold t_adds
  by_cases c : ((k = 0 ∨ k = 1) ∧ (-50 ≤ z ∧ z ≤ 50) ∧ (1 ≤ a ∧ a ≤ 2)) ∧ (0 ≤ p ∧ p < (if k = 0 then m 0 1 else m 0 0)) ∧ (m 21 1 < 10)
  · unfold w_adds at h
    rw [if_pos c.1, if_pos c.2.1, if_pos c.2.2] at h
    omega
  · exact if_neg c
/-- readings and uses are no matter of the arrays -/
theorem ac_low {m : en_M} (hI : INV m) (x : Int) (hx : ¬ x % 16 < 11) {k : Int} (hk : k ≠ 24 ∧ k ≠ 26) : ac_t m 0 x k = m k := by
  unfold ac_t
  rw [if_neg (by omega), if_neg (by omega), if_neg (by omega), if_neg hx]
  split
  · unfold t_reads
    split
    · exact en_set_ne hk.1
    · rfl
  · split
    · unfold t_uses
      split
      · exact en_set_ne hk.2
      · rfl
    · unfold t_cleans
      split
      · exact cl_hi _ _ hk.2 _ _
      · rfl
