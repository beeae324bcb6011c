/-! LAW 99g: cases -/
set_option maxRecDepth 100000 in
set_option maxHeartbeats 4000000 in
theorem lc_addLine {κ : en_C} {L : Nat} {xs : Nat → Int32} {m : en_M} {k n : Nat} {i : Int} (hW : en_Wok (en_w κ)) (hP : en_Has (en_w κ) 0 68) (h : en_Ok κ RL cL_law 8 wsL_law room_1) (hx9 : en_Xs κ) (hs : en_Sc κ L xs) (hI : INV m) (i0 : 1 ≤ i ∧ i + 5 ≤ (L : Int)) (hk : k + 64 ≤ 654842 ∧ n + 512 ≤ 7131545) (kk : ∀ M, INV M → en_G κ 1205 [some (en_R 99), some (en_R 49), some (en_R 51), some (en_R 50), some (en_I i), none, none, none] [] M (k + 64) (n + 512)) : en_G κ 132 [some (en_R 99), some (en_R 49), some (en_R 51), some (en_R 50), some (en_I i), none, none, none] [] m k n := by
  have hI9 : ∀ j, 0 ≤ j → j < 68 → en_in κ j := hP
  have hfl := en_Xs_l hx9
  refine en_aload_n (i := 1) h dL_law_132 rfl rfl ?_
  refine en_aload_n (i := 0) h dL_law_133 rfl rfl ?_
  refine en_iload (i := 4) h dL_law_134 rfl ?_
  refine en_iconst h dL_law_136 ?_
  refine en_iadd h dL_law_137 ?_
  refine en_sld h hs dL_law_138 (by omega) ?_
  refine en_aload_n (i := 0) h dL_law_139 rfl rfl ?_
  refine en_iload (i := 4) h dL_law_140 rfl ?_
  refine en_iconst h dL_law_142 ?_
  refine en_iadd h dL_law_143 ?_
  refine en_sld h hs dL_law_144 (by omega) ?_
  refine en_aload_n (i := 0) h dL_law_145 rfl rfl ?_
  refine en_iload (i := 4) h dL_law_146 rfl ?_
  refine en_iconst h dL_law_148 ?_
  refine en_iadd h dL_law_149 ?_
  refine en_sld h hs dL_law_150 (by omega) ?_
  refine en_aload_n (i := 3) h dL_law_151 rfl rfl ?_
  refine en_callSS h hx9 (k_L_addLine hW hP hfl (k_X4_addLine hW (fun j j0 j1 => hI9 j j0 (by omega)) hfl (inv_xc hI).1 (en_sx_r xs (i + 1)) (en_sx_r xs (i + 2)) (en_sx_r xs (i + 3))) (fun r m1 hq => ⟨_, hq.1, by have z := inv_n hI; constructor <;> omega⟩) (fun E m1 hq => hq.2.elim (fun z => Or.inl z.1) (fun z => z.elim (fun z => Or.inr (Or.inl z.1)) (fun z => Or.inr (Or.inr z.1))))) my_L_addLine gL_law_L_addLine rfl rfl ⟨by decide, by decide⟩ ⟨show k + 6 ≤ 654842 by omega, show n + 36 ≤ 7131545 by omega⟩ (Nat.le_of_ble_eq_true rfl) dL_law_152 (fun r M1 hp1 => ?_)
  obtain ⟨c, rfl, rc, hS⟩ := s_addLine hI hp1
  obtain ⟨xl1, xm1⟩ := xo_g (g_addLine hI hS) hI
  refine en_istore (i := 5) h dL_law_155 (by decide) ?_
  refine en_aload_n (i := 2) h dL_law_157 rfl rfl ?_
  refine en_aload_n (i := 0) h dL_law_158 rfl rfl ?_
  refine en_iload (i := 4) h dL_law_159 rfl ?_
  refine en_iconst h dL_law_161 ?_
  refine en_iadd h dL_law_162 ?_
  refine en_sld h hs dL_law_163 (by omega) ?_
  refine en_aload_n (i := 0) h dL_law_164 rfl rfl ?_
  refine en_iload (i := 4) h dL_law_165 rfl ?_
  refine en_iconst h dL_law_167 ?_
  refine en_iadd h dL_law_168 ?_
  refine en_sld h hs dL_law_169 (by omega) ?_
  refine en_aload_n (i := 0) h dL_law_170 rfl rfl ?_
  refine en_iload (i := 4) h dL_law_171 rfl ?_
  refine en_iconst h dL_law_173 ?_
  refine en_iadd h dL_law_174 ?_
  refine en_sld h hs dL_law_175 (by omega) ?_
  refine en_callV h (k_X5_addLine hW hP xl1 (en_sx_r xs (i + 1)) (en_sx_r xs (i + 2)) (en_sx_r xs (i + 3))) my_X5_addLine gL_law_X5_addLine (hI9 _ (by decide) (by decide)) rfl rfl rfl rfl ⟨by decide, by decide⟩ ⟨show k + 6 + 0 ≤ 654842 by omega, show n + 36 + 0 ≤ 7131545 by omega⟩ (Nat.le_of_ble_eq_true rfl) dL_law_176 (fun r2 M2 hp2 => ?_)
  obtain ⟨v, rfl, rv, f0, f50, hI2⟩ := t_addLine hI hS hp2
  refine en_istore (i := 6) h dL_law_179 (by decide) ?_
  refine en_aload_n (i := 2) h dL_law_181 rfl rfl ?_
  refine en_callV h (k_X5_thrown hW hP) my_X5_thrown gL_law_X5_thrown (hI9 _ (by decide) (by decide)) rfl rfl rfl rfl ⟨by decide, by decide⟩ ⟨show k + 6 + 0 + 0 ≤ 654842 by omega, show n + 36 + 0 + 0 ≤ 7131545 by omega⟩ (Nat.le_of_ble_eq_true rfl) dL_law_182 (fun r3 M3 hp3 => ?_)
  obtain ⟨rfl, e3⟩ := hp3
  subst e3
  rw [f0]
  refine en_iload (i := 5) h dL_law_185 rfl ?_
  refine en_icmp_eq (tgt := 192) h dL_law_187 (by decide) rc rc (fun _ => ?_) (fun z => absurd rfl z)
  refine en_iload (i := 5) h dL_law_192 rfl ?_
  refine en_if_ne (tgt := 209) h dL_law_194 (by decide) rc (fun c1 => ?_) (fun c1 => ?_)
  · refine en_goto (tgt := 1205) h dL_law_209 (by decide) ?_
    exact en_weak5 (en_wide (k' := k + 64) (n' := n + 512) (by show k + 6 + 0 + 0 ≤ k + 64; omega) (by show n + 36 + 0 + 0 ≤ n + 512; omega) (kk _ hI2))
  · refine en_aload_n (i := 3) h dL_law_197 rfl rfl ?_
    refine en_iconst h dL_law_198 ?_
    refine en_laload h dL_law_199 (hI9 _ (by decide) (by decide)) rfl (by decide) (f50 c1) ?_
    refine en_iload (i := 6) h dL_law_200 rfl ?_
    refine en_i2l h dL_law_202 rv ?_
    refine en_lcmp h dL_law_203 ?_
    refine en_if_eq (tgt := 209) h dL_law_204 (by decide) (en_cmp_r _ _) (fun _ => ?_) (fun z => absurd ((en_cmp_eq _ _).mpr rfl) z)
    refine en_goto (tgt := 1205) h dL_law_209 (by decide) ?_
    exact en_weak5 (en_wide (k' := k + 64) (n' := n + 512) (by show k + 6 + 0 + 0 ≤ k + 64; omega) (by show n + 36 + 0 + 0 ≤ n + 512; omega) (kk _ hI2))
set_option maxRecDepth 100000 in
set_option maxHeartbeats 4000000 in
theorem lc_setBreaker {κ : en_C} {L : Nat} {xs : Nat → Int32} {m : en_M} {k n : Nat} {i : Int} (hW : en_Wok (en_w κ)) (hP : en_Has (en_w κ) 0 68) (h : en_Ok κ RL cL_law 8 wsL_law room_1) (hx9 : en_Xs κ) (hs : en_Sc κ L xs) (hI : INV m) (i0 : 1 ≤ i ∧ i + 5 ≤ (L : Int)) (hk : k + 64 ≤ 654842 ∧ n + 512 ≤ 7131545) (kk : ∀ M, INV M → en_G κ 1205 [some (en_R 99), some (en_R 49), some (en_R 51), some (en_R 50), some (en_I i), none, none, none] [] M (k + 64) (n + 512)) : en_G κ 212 [some (en_R 99), some (en_R 49), some (en_R 51), some (en_R 50), some (en_I i), none, none, none] [] m k n := by
  have hI9 : ∀ j, 0 ≤ j → j < 68 → en_in κ j := hP
  have hfl := en_Xs_l hx9
  by_cases hz : en_sx xs (i + 2) = 0
  · have hc9 : (0 : Int) = 0 ∨ (0 : Int) = 1 := by decide
    refine en_aload_n (i := 1) h dL_law_212 rfl rfl ?_
    refine en_aload_n (i := 0) h dL_law_213 rfl rfl ?_
    refine en_iload (i := 4) h dL_law_214 rfl ?_
    refine en_iconst h dL_law_216 ?_
    refine en_iadd h dL_law_217 ?_
    refine en_sld h hs dL_law_218 (by omega) ?_
    refine en_aload_n (i := 0) h dL_law_219 rfl rfl ?_
    refine en_iload (i := 4) h dL_law_220 rfl ?_
    refine en_iconst h dL_law_222 ?_
    refine en_iadd h dL_law_223 ?_
    refine en_sld h hs dL_law_224 (by omega) ?_
    refine en_if_eq (tgt := 232) h dL_law_225 (by decide) (en_sx_r _ _) (fun _ => ?_) (fun q => absurd hz q)
    refine en_iconst h dL_law_232 ?_
    refine en_aload_n (i := 3) h dL_law_233 rfl rfl ?_
    refine en_callSS h hx9 (k_L_setBreaker hW hP hfl (k_X4_setBreaker hW (fun j j0 j1 => hI9 j j0 (by omega)) hfl (inv_xc hI).1 (en_sx_r xs (i + 1)) hc9) (fun r m1 hq => ⟨_, hq.1, (inv_ln hI _ hq.2.2.1 hq.2.2.2).2.2.1⟩) (fun E m1 hq => hq.1)) my_L_setBreaker gL_law_L_setBreaker rfl rfl ⟨by decide, by decide⟩ ⟨show k + 1 ≤ 654842 by omega, show n + 6 ≤ 7131545 by omega⟩ (Nat.le_of_ble_eq_true rfl) dL_law_234 (fun r M1 hp1 => ?_)
    obtain ⟨c, rfl, rc, hS⟩ := s_setBreaker hp1
    obtain ⟨xl1, xm1⟩ := xo_g (g_setBreaker hI hS) hI
    refine en_istore (i := 5) h dL_law_237 (by decide) ?_
    refine en_aload_n (i := 2) h dL_law_239 rfl rfl ?_
    refine en_aload_n (i := 0) h dL_law_240 rfl rfl ?_
    refine en_iload (i := 4) h dL_law_241 rfl ?_
    refine en_iconst h dL_law_243 ?_
    refine en_iadd h dL_law_244 ?_
    refine en_sld h hs dL_law_245 (by omega) ?_
    refine en_aload_n (i := 0) h dL_law_246 rfl rfl ?_
    refine en_iload (i := 4) h dL_law_247 rfl ?_
    refine en_iconst h dL_law_249 ?_
    refine en_iadd h dL_law_250 ?_
    refine en_sld h hs dL_law_251 (by omega) ?_
    refine en_if_eq (tgt := 259) h dL_law_252 (by decide) (en_sx_r _ _) (fun _ => ?_) (fun q => absurd hz q)
    refine en_iconst h dL_law_259 ?_
    refine en_callV h (k_X5_setBreaker hW hP xl1 (en_sx_r xs (i + 1)) hc9) my_X5_setBreaker gL_law_X5_setBreaker (hI9 _ (by decide) (by decide)) rfl rfl rfl rfl ⟨by decide, by decide⟩ ⟨show k + 1 + 0 ≤ 654842 by omega, show n + 6 + 0 ≤ 7131545 by omega⟩ (Nat.le_of_ble_eq_true rfl) dL_law_260 (fun r2 M2 hp2 => ?_)
    obtain ⟨v, rfl, rv, f0, f50, hI2⟩ := t_setBreaker hI hc9 hS hp2
    refine en_istore (i := 6) h dL_law_263 (by decide) ?_
    refine en_aload_n (i := 2) h dL_law_265 rfl rfl ?_
    refine en_callV h (k_X5_thrown hW hP) my_X5_thrown gL_law_X5_thrown (hI9 _ (by decide) (by decide)) rfl rfl rfl rfl ⟨by decide, by decide⟩ ⟨show k + 1 + 0 + 0 ≤ 654842 by omega, show n + 6 + 0 + 0 ≤ 7131545 by omega⟩ (Nat.le_of_ble_eq_true rfl) dL_law_266 (fun r3 M3 hp3 => ?_)
    obtain ⟨rfl, e3⟩ := hp3
    subst e3
    rw [f0]
    refine en_iload (i := 5) h dL_law_269 rfl ?_
    refine en_icmp_eq (tgt := 276) h dL_law_271 (by decide) rc rc (fun _ => ?_) (fun z => absurd rfl z)
    refine en_iload (i := 5) h dL_law_276 rfl ?_
    refine en_if_ne (tgt := 300) h dL_law_278 (by decide) rc (fun c1 => ?_) (fun c1 => ?_)
    · refine en_goto (tgt := 1205) h dL_law_300 (by decide) ?_
      exact en_weak5 (en_wide (k' := k + 64) (n' := n + 512) (by show k + 1 + 0 + 0 ≤ k + 64; omega) (by show n + 6 + 0 + 0 ≤ n + 512; omega) (kk _ hI2))
    · refine en_aload_n (i := 3) h dL_law_281 rfl rfl ?_
      refine en_iconst h dL_law_282 ?_
      refine en_laload h dL_law_283 (hI9 _ (by decide) (by decide)) rfl (by decide) (f50 c1) ?_
      refine en_iload (i := 6) h dL_law_284 rfl ?_
      rcases rv with rfl | rfl
      · refine en_if_eq (tgt := 293) h dL_law_286 (by decide) (by decide) (fun _ => ?_) (fun z => absurd rfl z)
        refine en_lconst (z := 0) h dL_law_293 rfl ?_
        refine en_lcmp h dL_law_294 ?_
        refine en_if_eq (tgt := 300) h dL_law_295 (by decide) (en_cmp_r _ _) (fun _ => ?_) (fun z => absurd ((en_cmp_eq _ _).mpr rfl) z)
        refine en_goto (tgt := 1205) h dL_law_300 (by decide) ?_
        exact en_weak5 (en_wide (k' := k + 64) (n' := n + 512) (by show k + 1 + 0 + 0 ≤ k + 64; omega) (by show n + 6 + 0 + 0 ≤ n + 512; omega) (kk _ hI2))
      · refine en_if_eq (tgt := 293) h dL_law_286 (by decide) (by decide) (fun z => absurd z (by decide)) (fun _ => ?_)
        refine en_lconst (z := 1) h dL_law_289 rfl ?_
        refine en_goto (tgt := 294) h dL_law_290 (by decide) ?_
        refine en_lcmp h dL_law_294 ?_
        refine en_if_eq (tgt := 300) h dL_law_295 (by decide) (en_cmp_r _ _) (fun _ => ?_) (fun z => absurd ((en_cmp_eq _ _).mpr rfl) z)
        refine en_goto (tgt := 1205) h dL_law_300 (by decide) ?_
        exact en_weak5 (en_wide (k' := k + 64) (n' := n + 512) (by show k + 1 + 0 + 0 ≤ k + 64; omega) (by show n + 6 + 0 + 0 ≤ n + 512; omega) (kk _ hI2))
  · have hc9 : (1 : Int) = 0 ∨ (1 : Int) = 1 := by decide
    refine en_aload_n (i := 1) h dL_law_212 rfl rfl ?_
    refine en_aload_n (i := 0) h dL_law_213 rfl rfl ?_
    refine en_iload (i := 4) h dL_law_214 rfl ?_
    refine en_iconst h dL_law_216 ?_
    refine en_iadd h dL_law_217 ?_
    refine en_sld h hs dL_law_218 (by omega) ?_
    refine en_aload_n (i := 0) h dL_law_219 rfl rfl ?_
    refine en_iload (i := 4) h dL_law_220 rfl ?_
    refine en_iconst h dL_law_222 ?_
    refine en_iadd h dL_law_223 ?_
    refine en_sld h hs dL_law_224 (by omega) ?_
    refine en_if_eq (tgt := 232) h dL_law_225 (by decide) (en_sx_r _ _) (fun q => absurd q hz) (fun _ => ?_)
    refine en_iconst h dL_law_228 ?_
    refine en_goto (tgt := 233) h dL_law_229 (by decide) ?_
    refine en_aload_n (i := 3) h dL_law_233 rfl rfl ?_
    refine en_callSS h hx9 (k_L_setBreaker hW hP hfl (k_X4_setBreaker hW (fun j j0 j1 => hI9 j j0 (by omega)) hfl (inv_xc hI).1 (en_sx_r xs (i + 1)) hc9) (fun r m1 hq => ⟨_, hq.1, (inv_ln hI _ hq.2.2.1 hq.2.2.2).2.2.1⟩) (fun E m1 hq => hq.1)) my_L_setBreaker gL_law_L_setBreaker rfl rfl ⟨by decide, by decide⟩ ⟨show k + 1 ≤ 654842 by omega, show n + 6 ≤ 7131545 by omega⟩ (Nat.le_of_ble_eq_true rfl) dL_law_234 (fun r M1 hp1 => ?_)
    obtain ⟨c, rfl, rc, hS⟩ := s_setBreaker hp1
    obtain ⟨xl1, xm1⟩ := xo_g (g_setBreaker hI hS) hI
    refine en_istore (i := 5) h dL_law_237 (by decide) ?_
    refine en_aload_n (i := 2) h dL_law_239 rfl rfl ?_
    refine en_aload_n (i := 0) h dL_law_240 rfl rfl ?_
    refine en_iload (i := 4) h dL_law_241 rfl ?_
    refine en_iconst h dL_law_243 ?_
    refine en_iadd h dL_law_244 ?_
    refine en_sld h hs dL_law_245 (by omega) ?_
    refine en_aload_n (i := 0) h dL_law_246 rfl rfl ?_
    refine en_iload (i := 4) h dL_law_247 rfl ?_
    refine en_iconst h dL_law_249 ?_
    refine en_iadd h dL_law_250 ?_
    refine en_sld h hs dL_law_251 (by omega) ?_
    refine en_if_eq (tgt := 259) h dL_law_252 (by decide) (en_sx_r _ _) (fun q => absurd q hz) (fun _ => ?_)
    refine en_iconst h dL_law_255 ?_
    refine en_goto (tgt := 260) h dL_law_256 (by decide) ?_
    refine en_callV h (k_X5_setBreaker hW hP xl1 (en_sx_r xs (i + 1)) hc9) my_X5_setBreaker gL_law_X5_setBreaker (hI9 _ (by decide) (by decide)) rfl rfl rfl rfl ⟨by decide, by decide⟩ ⟨show k + 1 + 0 ≤ 654842 by omega, show n + 6 + 0 ≤ 7131545 by omega⟩ (Nat.le_of_ble_eq_true rfl) dL_law_260 (fun r2 M2 hp2 => ?_)
    obtain ⟨v, rfl, rv, f0, f50, hI2⟩ := t_setBreaker hI hc9 hS hp2
    refine en_istore (i := 6) h dL_law_263 (by decide) ?_
    refine en_aload_n (i := 2) h dL_law_265 rfl rfl ?_
    refine en_callV h (k_X5_thrown hW hP) my_X5_thrown gL_law_X5_thrown (hI9 _ (by decide) (by decide)) rfl rfl rfl rfl ⟨by decide, by decide⟩ ⟨show k + 1 + 0 + 0 ≤ 654842 by omega, show n + 6 + 0 + 0 ≤ 7131545 by omega⟩ (Nat.le_of_ble_eq_true rfl) dL_law_266 (fun r3 M3 hp3 => ?_)
    obtain ⟨rfl, e3⟩ := hp3
    subst e3
    rw [f0]
    refine en_iload (i := 5) h dL_law_269 rfl ?_
    refine en_icmp_eq (tgt := 276) h dL_law_271 (by decide) rc rc (fun _ => ?_) (fun z => absurd rfl z)
    refine en_iload (i := 5) h dL_law_276 rfl ?_
    refine en_if_ne (tgt := 300) h dL_law_278 (by decide) rc (fun c1 => ?_) (fun c1 => ?_)
    · refine en_goto (tgt := 1205) h dL_law_300 (by decide) ?_
      exact en_weak5 (en_wide (k' := k + 64) (n' := n + 512) (by show k + 1 + 0 + 0 ≤ k + 64; omega) (by show n + 6 + 0 + 0 ≤ n + 512; omega) (kk _ hI2))
    · refine en_aload_n (i := 3) h dL_law_281 rfl rfl ?_
      refine en_iconst h dL_law_282 ?_
      refine en_laload h dL_law_283 (hI9 _ (by decide) (by decide)) rfl (by decide) (f50 c1) ?_
      refine en_iload (i := 6) h dL_law_284 rfl ?_
      rcases rv with rfl | rfl
      · refine en_if_eq (tgt := 293) h dL_law_286 (by decide) (by decide) (fun _ => ?_) (fun z => absurd rfl z)
        refine en_lconst (z := 0) h dL_law_293 rfl ?_
        refine en_lcmp h dL_law_294 ?_
        refine en_if_eq (tgt := 300) h dL_law_295 (by decide) (en_cmp_r _ _) (fun _ => ?_) (fun z => absurd ((en_cmp_eq _ _).mpr rfl) z)
        refine en_goto (tgt := 1205) h dL_law_300 (by decide) ?_
        exact en_weak5 (en_wide (k' := k + 64) (n' := n + 512) (by show k + 1 + 0 + 0 ≤ k + 64; omega) (by show n + 6 + 0 + 0 ≤ n + 512; omega) (kk _ hI2))
      · refine en_if_eq (tgt := 293) h dL_law_286 (by decide) (by decide) (fun z => absurd z (by decide)) (fun _ => ?_)
        refine en_lconst (z := 1) h dL_law_289 rfl ?_
        refine en_goto (tgt := 294) h dL_law_290 (by decide) ?_
        refine en_lcmp h dL_law_294 ?_
        refine en_if_eq (tgt := 300) h dL_law_295 (by decide) (en_cmp_r _ _) (fun _ => ?_) (fun z => absurd ((en_cmp_eq _ _).mpr rfl) z)
        refine en_goto (tgt := 1205) h dL_law_300 (by decide) ?_
        exact en_weak5 (en_wide (k' := k + 64) (n' := n + 512) (by show k + 1 + 0 + 0 ≤ k + 64; omega) (by show n + 6 + 0 + 0 ≤ n + 512; omega) (kk _ hI2))
set_option maxRecDepth 100000 in
set_option maxHeartbeats 4000000 in
theorem lc_islands {κ : en_C} {L : Nat} {xs : Nat → Int32} {m : en_M} {k n : Nat} {i : Int} (hW : en_Wok (en_w κ)) (hP : en_Has (en_w κ) 0 68) (h : en_Ok κ RL cL_law 8 wsL_law room_1) (hx9 : en_Xs κ) (hs : en_Sc κ L xs) (hI : INV m) (i0 : 1 ≤ i ∧ i + 5 ≤ (L : Int)) (hk : k + 64 ≤ 654842 ∧ n + 512 ≤ 7131545) (kk : ∀ M, INV M → en_G κ 1205 [some (en_R 99), some (en_R 49), some (en_R 51), some (en_R 50), some (en_I i), none, none, none] [] M (k + 64) (n + 512)) : en_G κ 303 [some (en_R 99), some (en_R 49), some (en_R 51), some (en_R 50), some (en_I i), none, none, none] [] m k n := by
  have hI9 : ∀ j, 0 ≤ j → j < 68 → en_in κ j := hP
  have hfl := en_Xs_l hx9
  refine en_aload_n (i := 1) h dL_law_303 rfl rfl ?_
  refine en_callV h (k_X4_islands hW (fun j j0 j1 => hI9 j j0 (by omega)) (inv_n hI).1 (inv_xc hI).2.2.1.2.2) my_X4_islands gL_law_X4_islands (hI9 _ (by decide) (by decide)) rfl rfl rfl rfl ⟨by decide, by decide⟩ ⟨show k + 0 ≤ 654842 by omega, show n + 0 ≤ 7131545 by omega⟩ (Nat.le_of_ble_eq_true rfl) dL_law_304 (fun r M1 hp1 => ?_)
  obtain ⟨rfl, e1⟩ := hp1
  subst e1
  refine en_aload_n (i := 2) h dL_law_307 rfl rfl ?_
  refine en_callV h (k_X5_islands hW hP hI.1.2.1) my_X5_islands gL_law_X5_islands (hI9 _ (by decide) (by decide)) rfl rfl rfl rfl ⟨by decide, by decide⟩ ⟨show k + 0 + 0 ≤ 654842 by omega, show n + 0 + 0 ≤ 7131545 by omega⟩ (Nat.le_of_ble_eq_true rfl) dL_law_308 (fun r2 M2 hp2 => ?_)
  obtain ⟨rfl, hI2⟩ := t_islands hI rfl hp2
  have rx : en_i32 (gs_is (M1 5) (M1 0 0).toNat) := by have z := gs_is_rng (M1 5) (M1 0 0).toNat; have z2 := inv_n hI; constructor <;> omega
  refine en_icmp_eq (tgt := 1205) h dL_law_311 (by decide) rx rx (fun _ => ?_) (fun z => absurd rfl z)
  exact en_weak5 (en_wide (k' := k + 64) (n' := n + 512) (by show k + 0 + 0 ≤ k + 64; omega) (by show n + 0 + 0 ≤ n + 512; omega) (kk _ hI2))
set_option maxRecDepth 100000 in
set_option maxHeartbeats 4000000 in
theorem lc_reference {κ : en_C} {L : Nat} {xs : Nat → Int32} {m : en_M} {k n : Nat} {i : Int} (hW : en_Wok (en_w κ)) (hP : en_Has (en_w κ) 0 68) (h : en_Ok κ RL cL_law 8 wsL_law room_1) (hx9 : en_Xs κ) (hs : en_Sc κ L xs) (hI : INV m) (i0 : 1 ≤ i ∧ i + 5 ≤ (L : Int)) (hk : k + 64 ≤ 654842 ∧ n + 512 ≤ 7131545) (kk : ∀ M, INV M → en_G κ 1205 [some (en_R 99), some (en_R 49), some (en_R 51), some (en_R 50), some (en_I i), none, none, none] [] M (k + 64) (n + 512)) : en_G κ 316 [some (en_R 99), some (en_R 49), some (en_R 51), some (en_R 50), some (en_I i), none, none, none] [] m k n := by
  have hI9 : ∀ j, 0 ≤ j → j < 68 → en_in κ j := hP
  have hfl := en_Xs_l hx9
  refine en_aload_n (i := 1) h dL_law_316 rfl rfl ?_
  refine en_aload_n (i := 0) h dL_law_317 rfl rfl ?_
  refine en_iload (i := 4) h dL_law_318 rfl ?_
  refine en_iconst h dL_law_320 ?_
  refine en_iadd h dL_law_321 ?_
  refine en_sld h hs dL_law_322 (by omega) ?_
  refine en_aload_n (i := 3) h dL_law_323 rfl rfl ?_
  refine en_callSS h hx9 (k_L_reference hW hP hfl (k_X4_reference hW (fun j j0 j1 => hI9 j j0 (by omega)) hfl (inv_n hI).1 (en_sx_r xs (i + 1))) (fun r m1 hq => ⟨_, hq.1, by have n9 := inv_n hI; have q2 := hq.2.2.2; have z := inv_rng hI _ hq.2.2.1 (by omega); constructor <;> omega⟩) (fun E m1 hq => hq.1)) my_L_reference gL_law_L_reference rfl rfl ⟨by decide, by decide⟩ ⟨show k + 1 ≤ 654842 by omega, show n + 6 ≤ 7131545 by omega⟩ (Nat.le_of_ble_eq_true rfl) dL_law_324 (fun r M1 hp1 => ?_)
  obtain ⟨c, rfl, rc, hS⟩ := s_reference hI hp1
  obtain ⟨xl1, xm1⟩ := xo_g (fun j hj => hS.1.1 j (Or.inr hj)) hI
  refine en_istore (i := 5) h dL_law_327 (by decide) ?_
  refine en_aload_n (i := 2) h dL_law_329 rfl rfl ?_
  refine en_aload_n (i := 0) h dL_law_330 rfl rfl ?_
  refine en_iload (i := 4) h dL_law_331 rfl ?_
  refine en_iconst h dL_law_333 ?_
  refine en_iadd h dL_law_334 ?_
  refine en_sld h hs dL_law_335 (by omega) ?_
  refine en_callV h (k_X5_reference hW hP xl1 (en_sx_r xs (i + 1))) my_X5_reference gL_law_X5_reference (hI9 _ (by decide) (by decide)) rfl rfl rfl rfl ⟨by decide, by decide⟩ ⟨show k + 1 + 0 ≤ 654842 by omega, show n + 6 + 0 ≤ 7131545 by omega⟩ (Nat.le_of_ble_eq_true rfl) dL_law_336 (fun r2 M2 hp2 => ?_)
  obtain ⟨v, rfl, rv, f0, f50, hI2⟩ := t_reference hI hS hp2
  refine en_istore (i := 6) h dL_law_339 (by decide) ?_
  refine en_aload_n (i := 2) h dL_law_341 rfl rfl ?_
  refine en_callV h (k_X5_thrown hW hP) my_X5_thrown gL_law_X5_thrown (hI9 _ (by decide) (by decide)) rfl rfl rfl rfl ⟨by decide, by decide⟩ ⟨show k + 1 + 0 + 0 ≤ 654842 by omega, show n + 6 + 0 + 0 ≤ 7131545 by omega⟩ (Nat.le_of_ble_eq_true rfl) dL_law_342 (fun r3 M3 hp3 => ?_)
  obtain ⟨rfl, e3⟩ := hp3
  subst e3
  rw [f0]
  refine en_iload (i := 5) h dL_law_345 rfl ?_
  refine en_icmp_eq (tgt := 352) h dL_law_347 (by decide) rc rc (fun _ => ?_) (fun z => absurd rfl z)
  refine en_iload (i := 5) h dL_law_352 rfl ?_
  refine en_if_ne (tgt := 369) h dL_law_354 (by decide) rc (fun c1 => ?_) (fun c1 => ?_)
  · refine en_goto (tgt := 1205) h dL_law_369 (by decide) ?_
    exact en_weak5 (en_wide (k' := k + 64) (n' := n + 512) (by show k + 1 + 0 + 0 ≤ k + 64; omega) (by show n + 6 + 0 + 0 ≤ n + 512; omega) (kk _ hI2))
  · refine en_aload_n (i := 3) h dL_law_357 rfl rfl ?_
    refine en_iconst h dL_law_358 ?_
    refine en_laload h dL_law_359 (hI9 _ (by decide) (by decide)) rfl (by decide) (f50 c1) ?_
    refine en_iload (i := 6) h dL_law_360 rfl ?_
    refine en_i2l h dL_law_362 rv ?_
    refine en_lcmp h dL_law_363 ?_
    refine en_if_eq (tgt := 369) h dL_law_364 (by decide) (en_cmp_r _ _) (fun _ => ?_) (fun z => absurd ((en_cmp_eq _ _).mpr rfl) z)
    refine en_goto (tgt := 1205) h dL_law_369 (by decide) ?_
    exact en_weak5 (en_wide (k' := k + 64) (n' := n + 512) (by show k + 1 + 0 + 0 ≤ k + 64; omega) (by show n + 6 + 0 + 0 ≤ n + 512; omega) (kk _ hI2))
set_option maxRecDepth 100000 in
set_option maxHeartbeats 4000000 in
theorem lc_addMeter {κ : en_C} {L : Nat} {xs : Nat → Int32} {m : en_M} {k n : Nat} {i : Int} (hW : en_Wok (en_w κ)) (hP : en_Has (en_w κ) 0 68) (h : en_Ok κ RL cL_law 8 wsL_law room_1) (hx9 : en_Xs κ) (hs : en_Sc κ L xs) (hI : INV m) (i0 : 1 ≤ i ∧ i + 5 ≤ (L : Int)) (hk : k + 64 ≤ 654842 ∧ n + 512 ≤ 7131545) (kk : ∀ M, INV M → en_G κ 1205 [some (en_R 99), some (en_R 49), some (en_R 51), some (en_R 50), some (en_I i), none, none, none] [] M (k + 64) (n + 512)) : en_G κ 372 [some (en_R 99), some (en_R 49), some (en_R 51), some (en_R 50), some (en_I i), none, none, none] [] m k n := by
  have hI9 : ∀ j, 0 ≤ j → j < 68 → en_in κ j := hP
  have hfl := en_Xs_l hx9
  refine en_aload_n (i := 1) h dL_law_372 rfl rfl ?_
  refine en_aload_n (i := 0) h dL_law_373 rfl rfl ?_
  refine en_iload (i := 4) h dL_law_374 rfl ?_
  refine en_iconst h dL_law_376 ?_
  refine en_iadd h dL_law_377 ?_
  refine en_sld h hs dL_law_378 (by omega) ?_
  refine en_aload_n (i := 0) h dL_law_379 rfl rfl ?_
  refine en_iload (i := 4) h dL_law_380 rfl ?_
  refine en_iconst h dL_law_382 ?_
  refine en_iadd h dL_law_383 ?_
  refine en_sld h hs dL_law_384 (by omega) ?_
  refine en_aload_n (i := 0) h dL_law_385 rfl rfl ?_
  refine en_iload (i := 4) h dL_law_386 rfl ?_
  refine en_iconst h dL_law_388 ?_
  refine en_iadd h dL_law_389 ?_
  refine en_sld h hs dL_law_390 (by omega) ?_
  refine en_aload_n (i := 0) h dL_law_391 rfl rfl ?_
  refine en_iload (i := 4) h dL_law_392 rfl ?_
  refine en_iconst h dL_law_394 ?_
  refine en_iadd h dL_law_395 ?_
  refine en_sld h hs dL_law_396 (by omega) ?_
  refine en_aload_n (i := 3) h dL_law_397 rfl rfl ?_
  refine en_callSS h hx9 (k_L_addMeter hW hP hfl (k_X4_addMeter hW (fun j j0 j1 => hI9 j j0 (by omega)) hfl (inv_n hI).1 (inv_n hI).2.1 (inv_n hI).2.2 (en_sx_r xs (i + 1)) (en_sx_r xs (i + 2)) (en_sx_r xs (i + 3)) (en_sx_r xs (i + 4))) (fun r m1 hq => ⟨_, hq.1, by have z := inv_n hI; constructor <;> omega⟩) (fun E m1 hq => hq.2.elim (fun z => Or.inl z.1) (fun z => z.elim (fun z => Or.inr (Or.inl z.1)) (fun z => Or.inr (Or.inr z.1))))) my_L_addMeter gL_law_L_addMeter rfl rfl ⟨by decide, by decide⟩ ⟨show k + 5 ≤ 654842 by omega, show n + 30 ≤ 7131545 by omega⟩ (Nat.le_of_ble_eq_true rfl) dL_law_398 (fun r M1 hp1 => ?_)
  obtain ⟨c, rfl, rc, hS⟩ := s_addMeter hI hp1
  obtain ⟨xl1, xm1⟩ := xo_g (g_addMeter hS) hI
  refine en_istore (i := 5) h dL_law_401 (by decide) ?_
  refine en_aload_n (i := 2) h dL_law_403 rfl rfl ?_
  refine en_aload_n (i := 0) h dL_law_404 rfl rfl ?_
  refine en_iload (i := 4) h dL_law_405 rfl ?_
  refine en_iconst h dL_law_407 ?_
  refine en_iadd h dL_law_408 ?_
  refine en_sld h hs dL_law_409 (by omega) ?_
  refine en_aload_n (i := 0) h dL_law_410 rfl rfl ?_
  refine en_iload (i := 4) h dL_law_411 rfl ?_
  refine en_iconst h dL_law_413 ?_
  refine en_iadd h dL_law_414 ?_
  refine en_sld h hs dL_law_415 (by omega) ?_
  refine en_aload_n (i := 0) h dL_law_416 rfl rfl ?_
  refine en_iload (i := 4) h dL_law_417 rfl ?_
  refine en_iconst h dL_law_419 ?_
  refine en_iadd h dL_law_420 ?_
  refine en_sld h hs dL_law_421 (by omega) ?_
  refine en_aload_n (i := 0) h dL_law_422 rfl rfl ?_
  refine en_iload (i := 4) h dL_law_423 rfl ?_
  refine en_iconst h dL_law_425 ?_
  refine en_iadd h dL_law_426 ?_
  refine en_sld h hs dL_law_427 (by omega) ?_
  refine en_callV h (k_X5_addMeter hW hP xl1 xm1.1 (en_sx_r xs (i + 1)) (en_sx_r xs (i + 2)) (en_sx_r xs (i + 3)) (en_sx_r xs (i + 4))) my_X5_addMeter gL_law_X5_addMeter (hI9 _ (by decide) (by decide)) rfl rfl rfl rfl ⟨by decide, by decide⟩ ⟨show k + 5 + 0 ≤ 654842 by omega, show n + 30 + 0 ≤ 7131545 by omega⟩ (Nat.le_of_ble_eq_true rfl) dL_law_428 (fun r2 M2 hp2 => ?_)
  obtain ⟨v, rfl, rv, f0, f50, hI2⟩ := t_addMeter hI hS hp2
  refine en_istore (i := 6) h dL_law_431 (by decide) ?_
  refine en_aload_n (i := 2) h dL_law_433 rfl rfl ?_
  refine en_callV h (k_X5_thrown hW hP) my_X5_thrown gL_law_X5_thrown (hI9 _ (by decide) (by decide)) rfl rfl rfl rfl ⟨by decide, by decide⟩ ⟨show k + 5 + 0 + 0 ≤ 654842 by omega, show n + 30 + 0 + 0 ≤ 7131545 by omega⟩ (Nat.le_of_ble_eq_true rfl) dL_law_434 (fun r3 M3 hp3 => ?_)
  obtain ⟨rfl, e3⟩ := hp3
  subst e3
  rw [f0]
  refine en_iload (i := 5) h dL_law_437 rfl ?_
  refine en_icmp_eq (tgt := 444) h dL_law_439 (by decide) rc rc (fun _ => ?_) (fun z => absurd rfl z)
  refine en_iload (i := 5) h dL_law_444 rfl ?_
  refine en_if_ne (tgt := 461) h dL_law_446 (by decide) rc (fun c1 => ?_) (fun c1 => ?_)
  · refine en_goto (tgt := 1205) h dL_law_461 (by decide) ?_
    exact en_weak5 (en_wide (k' := k + 64) (n' := n + 512) (by show k + 5 + 0 + 0 ≤ k + 64; omega) (by show n + 30 + 0 + 0 ≤ n + 512; omega) (kk _ hI2))
  · refine en_aload_n (i := 3) h dL_law_449 rfl rfl ?_
    refine en_iconst h dL_law_450 ?_
    refine en_laload h dL_law_451 (hI9 _ (by decide) (by decide)) rfl (by decide) (f50 c1) ?_
    refine en_iload (i := 6) h dL_law_452 rfl ?_
    refine en_i2l h dL_law_454 rv ?_
    refine en_lcmp h dL_law_455 ?_
    refine en_if_eq (tgt := 461) h dL_law_456 (by decide) (en_cmp_r _ _) (fun _ => ?_) (fun z => absurd ((en_cmp_eq _ _).mpr rfl) z)
    refine en_goto (tgt := 1205) h dL_law_461 (by decide) ?_
    exact en_weak5 (en_wide (k' := k + 64) (n' := n + 512) (by show k + 5 + 0 + 0 ≤ k + 64; omega) (by show n + 30 + 0 + 0 ≤ n + 512; omega) (kk _ hI2))
set_option maxRecDepth 100000 in
set_option maxHeartbeats 4000000 in
theorem lc_read {κ : en_C} {L : Nat} {xs : Nat → Int32} {m : en_M} {k n : Nat} {i : Int} (hW : en_Wok (en_w κ)) (hP : en_Has (en_w κ) 0 68) (h : en_Ok κ RL cL_law 8 wsL_law room_1) (hx9 : en_Xs κ) (hs : en_Sc κ L xs) (hI : INV m) (i0 : 1 ≤ i ∧ i + 5 ≤ (L : Int)) (hk : k + 64 ≤ 654842 ∧ n + 512 ≤ 7131545) (kk : ∀ M, INV M → en_G κ 1205 [some (en_R 99), some (en_R 49), some (en_R 51), some (en_R 50), some (en_I i), none, none, none] [] M (k + 64) (n + 512)) : en_G κ 464 [some (en_R 99), some (en_R 49), some (en_R 51), some (en_R 50), some (en_I i), none, none, none] [] m k n := by
  have hI9 : ∀ j, 0 ≤ j → j < 68 → en_in κ j := hP
  have hfl := en_Xs_l hx9
  refine en_aload_n (i := 1) h dL_law_464 rfl rfl ?_
  refine en_aload_n (i := 0) h dL_law_465 rfl rfl ?_
  refine en_iload (i := 4) h dL_law_466 rfl ?_
  refine en_iconst h dL_law_468 ?_
  refine en_iadd h dL_law_469 ?_
  refine en_sld h hs dL_law_470 (by omega) ?_
  refine en_aload_n (i := 0) h dL_law_471 rfl rfl ?_
  refine en_iload (i := 4) h dL_law_472 rfl ?_
  refine en_iconst h dL_law_474 ?_
  refine en_iadd h dL_law_475 ?_
  refine en_sld h hs dL_law_476 (by omega) ?_
  refine en_aload_n (i := 3) h dL_law_477 rfl rfl ?_
  refine en_callSS h hx9 (k_L_read hW hP hfl (k_X4_read hW (fun j j0 j1 => hI9 j j0 (by omega)) hfl (inv_n hI).2.2 (en_sx_r xs (i + 1)) (en_sx_r xs (i + 2))) (fun r m1 hq => ⟨_, hq.1, by have z := inv_mt hI _ hq.2.2.1.1 hq.2.2.1.2; constructor <;> omega⟩) (fun E m1 hq => hq.2.elim (fun z => Or.inl z.1) (fun z => Or.inr z.1))) my_L_read gL_law_L_read rfl rfl ⟨by decide, by decide⟩ ⟨show k + 2 ≤ 654842 by omega, show n + 12 ≤ 7131545 by omega⟩ (Nat.le_of_ble_eq_true rfl) dL_law_478 (fun r M1 hp1 => ?_)
  obtain ⟨c, rfl, rc, hS⟩ := s_read hp1
  obtain ⟨xl1, xm1⟩ := xo_g (g_read hS) hI
  refine en_istore (i := 5) h dL_law_481 (by decide) ?_
  refine en_aload_n (i := 2) h dL_law_483 rfl rfl ?_
  refine en_aload_n (i := 0) h dL_law_484 rfl rfl ?_
  refine en_iload (i := 4) h dL_law_485 rfl ?_
  refine en_iconst h dL_law_487 ?_
  refine en_iadd h dL_law_488 ?_
  refine en_sld h hs dL_law_489 (by omega) ?_
  refine en_aload_n (i := 0) h dL_law_490 rfl rfl ?_
  refine en_iload (i := 4) h dL_law_491 rfl ?_
  refine en_iconst h dL_law_493 ?_
  refine en_iadd h dL_law_494 ?_
  refine en_sld h hs dL_law_495 (by omega) ?_
  refine en_callV h (k_X5_read hW hP xm1.1 (en_sx_r xs (i + 1)) (en_sx_r xs (i + 2))) my_X5_read gL_law_X5_read (hI9 _ (by decide) (by decide)) rfl rfl rfl rfl ⟨by decide, by decide⟩ ⟨show k + 2 + 0 ≤ 654842 by omega, show n + 12 + 0 ≤ 7131545 by omega⟩ (Nat.le_of_ble_eq_true rfl) dL_law_496 (fun r2 M2 hp2 => ?_)
  obtain ⟨v, rfl, rv, f0, f50, hI2⟩ := t_read hI hS hp2
  refine en_istore (i := 6) h dL_law_499 (by decide) ?_
  refine en_aload_n (i := 2) h dL_law_501 rfl rfl ?_
  refine en_callV h (k_X5_thrown hW hP) my_X5_thrown gL_law_X5_thrown (hI9 _ (by decide) (by decide)) rfl rfl rfl rfl ⟨by decide, by decide⟩ ⟨show k + 2 + 0 + 0 ≤ 654842 by omega, show n + 12 + 0 + 0 ≤ 7131545 by omega⟩ (Nat.le_of_ble_eq_true rfl) dL_law_502 (fun r3 M3 hp3 => ?_)
  obtain ⟨rfl, e3⟩ := hp3
  subst e3
  rw [f0]
  refine en_iload (i := 5) h dL_law_505 rfl ?_
  refine en_icmp_eq (tgt := 512) h dL_law_507 (by decide) rc rc (fun _ => ?_) (fun z => absurd rfl z)
  refine en_iload (i := 5) h dL_law_512 rfl ?_
  refine en_if_ne (tgt := 529) h dL_law_514 (by decide) rc (fun c1 => ?_) (fun c1 => ?_)
  · refine en_goto (tgt := 1205) h dL_law_529 (by decide) ?_
    exact en_weak5 (en_wide (k' := k + 64) (n' := n + 512) (by show k + 2 + 0 + 0 ≤ k + 64; omega) (by show n + 12 + 0 + 0 ≤ n + 512; omega) (kk _ hI2))
  · refine en_aload_n (i := 3) h dL_law_517 rfl rfl ?_
    refine en_iconst h dL_law_518 ?_
    refine en_laload h dL_law_519 (hI9 _ (by decide) (by decide)) rfl (by decide) (f50 c1) ?_
    refine en_iload (i := 6) h dL_law_520 rfl ?_
    refine en_i2l h dL_law_522 rv ?_
    refine en_lcmp h dL_law_523 ?_
    refine en_if_eq (tgt := 529) h dL_law_524 (by decide) (en_cmp_r _ _) (fun _ => ?_) (fun z => absurd ((en_cmp_eq _ _).mpr rfl) z)
    refine en_goto (tgt := 1205) h dL_law_529 (by decide) ?_
    exact en_weak5 (en_wide (k' := k + 64) (n' := n + 512) (by show k + 2 + 0 + 0 ≤ k + 64; omega) (by show n + 12 + 0 + 0 ≤ n + 512; omega) (kk _ hI2))
