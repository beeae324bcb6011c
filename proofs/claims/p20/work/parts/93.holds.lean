/-! LAW 8: holds: what it asks of a bus -/
def PW (m : en_M) (own w : Int) : Prop := en_i32 w ∧ (obs m own → w = -1 ∨ (pM m w ∧ xm_io m w = own ∧ xe_rs m own w ≠ 0))
def RH (m : en_M) (b own sz my w : Int) : Prop := INV m ∧ NN m ∧ pB m b ∧ own = m 5 b ∧ sz = szc (m 5) own (m 0 0).toNat ∧ my = myc (xm_io m) own (m 21 1).toNat ∧ PW m own w
theorem obs_q {M m : en_M} (h : cq M m) (hI : INV m) (q : Int) : obs M q ↔ obs m q := xm_ob_ag (cq_ag h) (inv_xc hI).2.2.1
theorem RH_cq {M m : en_M} {b own sz my w : Int} (hR : RH m b own sz my w) (hc : cq M m) : RH M b own sz my w := by
  obtain ⟨h1, h2, h3, h4, h5, h6, h7, h8⟩ := hR
  have x := inv_xc h1
  refine ⟨inv_cq h1 hc, NN_cq h2 hc, ?_, ?_, ?_, ?_, h7, fun ho => ?_⟩
  · unfold pB
    rw [hc.1 0 (by decide)]
    exact h3
  · rw [hc.1 5 (by decide)]
    exact h4
  · rw [hc.1 5 (by decide), hc.1 0 (by decide)]
    exact h5
  · rw [cq_io hc, hc.1 21 (by decide)]
    exact h6
  · rcases h8 ((obs_q hc h1 own).mp ho) with z | ⟨z1, z2, z3⟩
    · exact Or.inl z
    · right
      refine ⟨?_, ?_, ?_⟩
      · unfold pM
        rw [hc.1 21 (by decide)]
        exact z1
      · rw [cq_io hc]
        exact z2
      · rw [xe_rs_ag (cq_ag hc) x.2.2.1 (x.2.2.1.2.1 _ z1.1 z1.2).1]
        exact z3
/-- what follows of it -/
theorem RH_f {m : en_M} {b own sz my w : Int} (hR : RH m b own sz my w) : (0 ≤ own ∧ own ≤ b) ∧ pB m own ∧ m 5 own = own ∧ sz = gs_cu (m 5) own 5 + 1 ∧ (0 ≤ sz ∧ sz ≤ 5) ∧ (0 ≤ my ∧ my ≤ 10) ∧ w_rank m b = xm_rk m (-1) own ∧ (0 ≤ xm_rk m (-1) own ∧ xm_rk m (-1) own < sz ∧ xm_rk m (-1) own ≤ my) ∧ (obs m own ↔ xm_rk m (-1) own = sz - 1) := by
  obtain ⟨h1, h2, h3, h4, h5, h6, h7⟩ := hR
  have n := inv_n h1
  have r := lk_rng h1.1 b h3.1 (by omega)
  have s := h_size h1.1 h3
  rw [← h4] at s r
  rw [← h5] at s
  have k := rk_le h1.1 r.1 (-1)
  have y := h_many h1.1 (-1) own
  rw [← h6] at y
  have sr := szc_r (m 5) own (m 0 0).toNat
  have mr := myc_r (xm_io m) own (m 21 1).toNat
  rw [← h5] at sr
  rw [← h6] at mr
  refine ⟨r, by omega, by rw [h4]; exact lk_ii h1.1 h3.1 (by omega), s, by omega, by omega, by rw [w_rank_r h3, ← h4], by omega, ?_⟩
  unfold obs
  omega
theorem hk_1 {κ : en_C} {m : en_M} {b own sz my w r3 : Int} {c : Nat} (hW : en_Wok (en_w κ)) (hP : HasL (en_w κ)) (h : en_Ok κ RL cL_holds 10 wsL_holds rm_L_holds) (hx9 : en_Xs κ) (hR : RH m b own sz my w) (hc : c + 30 ≤ 500) (K : ∀ M, cq M m → en_G κ 152 (hls r3 1 b own sz my w) [] M (c + 1) (6 * (c + 1))) : en_G κ 134 (hls r3 1 b own sz my w) [] m c (6 * c) := by
  obtain ⟨f1, f2, f3, f4, f5, f6, f7, f8, f9⟩ := RH_f hR
  obtain ⟨hI9, hN, hb, h4, -⟩ := hR
  have n := inv_n hI9
  refine en_iload (i := 6) h dL_holds_134 rfl ?_
  refine en_iload (i := 5) h dL_holds_136 rfl ?_
  refine en_icmp_gt (tgt := 288) h dL_holds_138 (by decide) (by omega) (by omega) (fun c_138 => ?_) (fun c_138 => ?_)
  · exact absurd c_138 (by omega)
  · refine en_aload_n (i := 0) h dL_holds_141 rfl rfl ?_
    refine en_iload (i := 6) h dL_holds_142 rfl ?_
    refine en_cS (q := 1) (B := 500) h hx9 (K_reference hW hP.1 (en_Xs_l hx9) hI9 (by constructor <;> omega)) my_L_reference gL_holds_L_reference rfl rfl ⟨by decide, by decide⟩ ⟨rfl, rfl⟩ ⟨rfl, rfl⟩ (by omega) (Nat.le_of_ble_eq_true rfl) dL_holds_144 (fun r m' hp => ?_)
    obtain ⟨rfl, e9⟩ := hp
    rw [e9, w_reference_r f2, f3]
    refine en_iload (i := 6) h dL_holds_147 rfl ?_
    refine en_icmp_ne (tgt := 288) h dL_holds_149 (by decide) (by omega) (by omega) (fun c_149 => ?_) (fun c_149 => ?_)
    · exact absurd rfl c_149
    · exact K m (cq_rf hI9.2.2.2)
theorem hk_2 {κ : en_C} {m : en_M} {b own sz my w r3 : Int} {c : Nat} (hW : en_Wok (en_w κ)) (hP : HasL (en_w κ)) (h : en_Ok κ RL cL_holds 10 wsL_holds rm_L_holds) (hx9 : en_Xs κ) (hR : RH m b own sz my w) (hc : c + 30 ≤ 500) (K : ∀ M, cq M m → en_G κ 161 (hls r3 1 b own sz my w) [] M (c + 1) (6 * (c + 1))) : en_G κ 152 (hls r3 1 b own sz my w) [] m c (6 * c) := by
  obtain ⟨f1, f2, f3, f4, f5, f6, f7, f8, f9⟩ := RH_f hR
  obtain ⟨hI9, hN, hb, h4, -⟩ := hR
  have n := inv_n hI9
  refine en_aload_n (i := 0) h dL_holds_152 rfl rfl ?_
  refine en_iload (i := 5) h dL_holds_153 rfl ?_
  refine en_cS (q := 1) (B := 500) h hx9 (K_rank hW hP.1 (en_Xs_l hx9) hI9 (by constructor <;> omega)) my_L_rank gL_holds_L_rank rfl rfl ⟨by decide, by decide⟩ ⟨rfl, rfl⟩ ⟨rfl, rfl⟩ (by omega) (Nat.le_of_ble_eq_true rfl) dL_holds_155 (fun r m' hp => ?_)
  obtain ⟨rfl, hq⟩ := hp
  rw [f7]
  refine en_if_lt (tgt := 288) h dL_holds_158 (by decide) (by omega) (fun c_158 => ?_) (fun c_158 => ?_)
  · exact absurd c_158 (by omega)
  · exact K m' hq
theorem hk_3 {κ : en_C} {m : en_M} {b own sz my w r3 : Int} {c : Nat} (hW : en_Wok (en_w κ)) (hP : HasL (en_w κ)) (h : en_Ok κ RL cL_holds 10 wsL_holds rm_L_holds) (hx9 : en_Xs κ) (hR : RH m b own sz my w) (hc : c + 30 ≤ 500) (K : ∀ M, cq M m → en_G κ 172 (hls r3 1 b own sz my w) [] M (c + 1) (6 * (c + 1))) : en_G κ 161 (hls r3 1 b own sz my w) [] m c (6 * c) := by
  obtain ⟨f1, f2, f3, f4, f5, f6, f7, f8, f9⟩ := RH_f hR
  obtain ⟨hI9, hN, hb, h4, -⟩ := hR
  have n := inv_n hI9
  refine en_aload_n (i := 0) h dL_holds_161 rfl rfl ?_
  refine en_iload (i := 5) h dL_holds_162 rfl ?_
  refine en_cS (q := 1) (B := 500) h hx9 (K_rank hW hP.1 (en_Xs_l hx9) hI9 (by constructor <;> omega)) my_L_rank gL_holds_L_rank rfl rfl ⟨by decide, by decide⟩ ⟨rfl, rfl⟩ ⟨rfl, rfl⟩ (by omega) (Nat.le_of_ble_eq_true rfl) dL_holds_164 (fun r m' hp => ?_)
  obtain ⟨rfl, hq⟩ := hp
  rw [f7]
  refine en_iload (i := 7) h dL_holds_167 rfl ?_
  refine en_icmp_ge (tgt := 288) h dL_holds_169 (by decide) (by omega) (by omega) (fun c_169 => ?_) (fun c_169 => ?_)
  · exact absurd c_169 (by omega)
  · exact K m' hq
theorem hk_4 {κ : en_C} {m : en_M} {b own sz my w r3 : Int} {c : Nat} (hW : en_Wok (en_w κ)) (hP : HasL (en_w κ)) (h : en_Ok κ RL cL_holds 10 wsL_holds rm_L_holds) (hx9 : en_Xs κ) (hR : RH m b own sz my w) (hc : c + 30 ≤ 500) (K : ∀ M, cq M m → en_G κ 183 (hls r3 1 b own sz my w) [] M (c + 1) (6 * (c + 1))) : en_G κ 172 (hls r3 1 b own sz my w) [] m c (6 * c) := by
  obtain ⟨f1, f2, f3, f4, f5, f6, f7, f8, f9⟩ := RH_f hR
  obtain ⟨hI9, hN, hb, h4, -⟩ := hR
  have n := inv_n hI9
  refine en_aload_n (i := 0) h dL_holds_172 rfl rfl ?_
  refine en_iload (i := 5) h dL_holds_173 rfl ?_
  refine en_cS (q := 1) (B := 500) h hx9 (K_rank hW hP.1 (en_Xs_l hx9) hI9 (by constructor <;> omega)) my_L_rank gL_holds_L_rank rfl rfl ⟨by decide, by decide⟩ ⟨rfl, rfl⟩ ⟨rfl, rfl⟩ (by omega) (Nat.le_of_ble_eq_true rfl) dL_holds_175 (fun r m' hp => ?_)
  obtain ⟨rfl, hq⟩ := hp
  rw [f7]
  refine en_iload (i := 8) h dL_holds_178 rfl ?_
  refine en_icmp_gt (tgt := 288) h dL_holds_180 (by decide) (by omega) (by omega) (fun c_180 => ?_) (fun c_180 => ?_)
  · exact absurd c_180 (by omega)
  · exact K m' hq
theorem hk_5 {κ : en_C} {m : en_M} {b own sz my w r3 : Int} {c : Nat} (hW : en_Wok (en_w κ)) (hP : HasL (en_w κ)) (h : en_Ok κ RL cL_holds 10 wsL_holds rm_L_holds) (hx9 : en_Xs κ) (hR : RH m b own sz my w) (hc : c + 30 ≤ 500) (K : ∀ M, cq M m → en_G κ 219 (hls r3 1 b own sz my w) [] M (c + 2) (6 * (c + 2))) : en_G κ 183 (hls r3 1 b own sz my w) [] m c (6 * c) := by
  obtain ⟨f1, f2, f3, f4, f5, f6, f7, f8, f9⟩ := RH_f hR
  have hR0 := hR
  obtain ⟨hI9, hN, hb, h4, -⟩ := hR
  have n := inv_n hI9
  have go : ∀ v, v = (if obs m own then 1 else 0) → ∀ M, cq M m → en_G κ 198 (hls r3 1 b own sz my w) [en_I v] M (c + 1) (6 * (c + 1)) := by
    intro v hv M hM
    have hR2 := RH_cq hR0 hM
    obtain ⟨g1, g2, g3, g4, g5, g6, g7, g8, g9⟩ := RH_f hR2
    have v01 : v = 0 ∨ v = 1 := by
      rw [hv]
      split
      · exact Or.inr rfl
      · exact Or.inl rfl
    have ov : obs M own ↔ v = 1 := by
      rw [obs_q hM hI9, hv]
      by_cases z : obs m own
      · rw [if_pos z]
        exact ⟨fun _ => rfl, fun _ => z⟩
      · rw [if_neg z]
        exact ⟨fun y => absurd y z, fun y => absurd y (by decide)⟩
    have rv : xm_rk M (-1) own = sz - 1 ↔ v = 1 := g9.symm.trans ov
    refine en_aload_n (i := 0) h dL_holds_198 rfl rfl ?_
    refine en_iload (i := 5) h dL_holds_199 rfl ?_
    refine en_cS (q := 1) (B := 500) h hx9 (K_rank hW hP.1 (en_Xs_l hx9) hR2.1 (by constructor <;> omega)) my_L_rank gL_holds_L_rank rfl rfl ⟨by decide, by decide⟩ ⟨rfl, rfl⟩ ⟨rfl, rfl⟩ (by omega) (Nat.le_of_ble_eq_true rfl) dL_holds_201 (fun r M2 hp => ?_)
    obtain ⟨rfl, hq⟩ := hp
    rw [g7]
    refine en_iload (i := 7) h dL_holds_204 rfl ?_
    refine en_iconst h dL_holds_206 ?_
    refine en_isub h dL_holds_207 ?_
    refine en_icmp_ne (tgt := 215) h dL_holds_208 (by decide) (by omega) (by omega) (fun c_208 => ?_) (fun c_208 => ?_)
    · have z : v = 0 := by
        rcases v01 with z | z
        · exact z
        · exact absurd (rv.mpr z) c_208
      subst z
      refine en_iconst h dL_holds_215 ?_
      refine en_icmp_ne (tgt := 288) h dL_holds_216 (by decide) (by omega) (by omega) (fun c_216 => ?_) (fun c_216 => ?_)
      · exact absurd rfl c_216
      · exact K M2 (cq_tr hq hM)
    · have z : v = 1 := rv.mp c_208
      subst z
      refine en_iconst h dL_holds_211 ?_
      refine en_goto (tgt := 216) h dL_holds_212 (by decide) ?_
      refine en_icmp_ne (tgt := 288) h dL_holds_216 (by decide) (by omega) (by omega) (fun c_216 => ?_) (fun c_216 => ?_)
      · exact absurd rfl c_216
      · exact K M2 (cq_tr hq hM)
  refine en_aload_n (i := 0) h dL_holds_183 rfl rfl ?_
  refine en_iload (i := 5) h dL_holds_184 rfl ?_
  refine en_cS (q := 1) (B := 500) h hx9 (K_observable hW hP.1 (en_Xs_l hx9) hI9 (by constructor <;> omega)) my_L_observable gL_holds_L_observable rfl rfl ⟨by decide, by decide⟩ ⟨rfl, rfl⟩ ⟨rfl, rfl⟩ (by omega) (Nat.le_of_ble_eq_true rfl) dL_holds_186 (fun r m' hp => ?_)
  obtain ⟨rfl, hq⟩ := hp
  rw [w_observable_r hb, ← h4]
  by_cases z : obs m own
  · rw [if_pos z]
    refine en_iconst h dL_holds_189 ?_
    refine en_icmp_ne (tgt := 197) h dL_holds_190 (by decide) (by omega) (by omega) (fun c_190 => ?_) (fun c_190 => ?_)
    · exact absurd rfl c_190
    · refine en_iconst h dL_holds_193 ?_
      refine en_goto (tgt := 198) h dL_holds_194 (by decide) ?_
      exact go 1 (by rw [if_pos z]) m' hq
  · rw [if_neg z]
    refine en_iconst h dL_holds_189 ?_
    refine en_icmp_ne (tgt := 197) h dL_holds_190 (by decide) (by omega) (by omega) (fun c_190 => ?_) (fun c_190 => ?_)
    · refine en_iconst h dL_holds_197 ?_
      exact go 0 (by rw [if_neg z]) m' hq
    · exact absurd c_190 (by decide)
/-- from 239 on: the reference's angle, the worst meter -/
theorem hk_7 {κ : en_C} {m : en_M} {b own sz my w r3 : Int} {c : Nat} (hW : en_Wok (en_w κ)) (hP : HasL (en_w κ)) (h : en_Ok κ RL cL_holds 10 wsL_holds rm_L_holds) (hx9 : en_Xs κ) (hR : RH m b own sz my w) (ho : obs m own) (hc : c + 30 ≤ 500) (K : ∀ M, cq M m → en_G κ 284 (hls r3 1 b own sz my w) [] M (c + 4) (6 * (c + 4))) : en_G κ 257 (hls r3 1 b own sz my w) [] m c (6 * c) := by
  have hR0 := hR
  have f1 := (RH_f hR0).1
  obtain ⟨hI9, hN, hb, h4, h5, h6, h7, h8⟩ := hR
  have n := inv_n hI9
  have x := inv_xc hI9
  rcases h8 ho with z | ⟨z1, z2, z3⟩
  · refine en_iload (i := 9) h dL_holds_257 rfl ?_
    refine en_if_lt (tgt := 284) h dL_holds_259 (by decide) h7 (fun c_259 => ?_) (fun c_259 => ?_)
    · exact en_upk (by omega) (K m (cq_rf hI9.2.2.2))
    · exact absurd c_259 (by omega)
  · refine en_iload (i := 9) h dL_holds_257 rfl ?_
    refine en_if_lt (tgt := 284) h dL_holds_259 (by decide) h7 (fun c_259 => ?_) (fun c_259 => ?_)
    · exact absurd c_259 (by omega)
    · refine en_aload_n (i := 0) h dL_holds_262 rfl rfl ?_
      refine en_iload (i := 9) h dL_holds_263 rfl ?_
      refine en_cS (q := 1) (B := 500) h hx9 (K_counts hW hP.1 (en_Xs_l hx9) hI9 h7) my_L_counts gL_holds_L_counts rfl rfl ⟨by decide, by decide⟩ ⟨rfl, rfl⟩ ⟨rfl, rfl⟩ (by omega) (Nat.le_of_ble_eq_true rfl) dL_holds_265 (fun r m' hp => ?_)
      obtain ⟨rfl, e9⟩ := hp
      have ri := lk_io hI9.1 z1.1 z1.2
      rw [e9, w_counts_r z1, z2]
      refine en_iload (i := 6) h dL_holds_268 rfl ?_
      refine en_icmp_ne (tgt := 288) h dL_holds_270 (by decide) (by constructor <;> omega) (by constructor <;> omega) (fun c_270 => ?_) (fun c_270 => ?_)
      · exact absurd rfl c_270
      · refine en_aload_n (i := 0) h dL_holds_273 rfl rfl ?_
        refine en_iload (i := 9) h dL_holds_274 rfl ?_
        refine en_cS (q := 3) (B := 500) h hx9 (K_over hW hP.1 (en_Xs_l hx9) hI9 h7) my_L_over gL_holds_L_over rfl rfl ⟨by decide, by decide⟩ ⟨rfl, rfl⟩ ⟨rfl, rfl⟩ (by omega) (Nat.le_of_ble_eq_true rfl) dL_holds_276 (fun r m' hp => ?_)
        obtain ⟨rfl, hq⟩ := hp
        have iu : xm_iu m w = own := by rw [(ri.2.2 (by omega)).2.2, z2]
        have o : w_over m w ≠ 0 := by
          rw [w_over_r z1 (by omega) (by rw [iu]; exact ho), iu]
          exact xg_n (lk_pos hI9.1 x.2.2.2 (by omega) ho) z3
        have rg := (rg_over hI9 w).1
        refine en_lconst (z := 0) h dL_holds_279 rfl ?_
        refine en_lcmpR h dL_holds_280 rg (by decide) ?_
        refine en_if_eq (tgt := 288) h dL_holds_281 (by decide) (en_cmp_r _ _) (fun c_281 => ?_) (fun c_281 => ?_)
        · exact absurd ((en_cmp_eq _ _).mp c_281) o
        · exact K m' hq
theorem hk_6 {κ : en_C} {m : en_M} {b own sz my w r3 : Int} {c : Nat} (hW : en_Wok (en_w κ)) (hP : HasL (en_w κ)) (h : en_Ok κ RL cL_holds 10 wsL_holds rm_L_holds) (hx9 : en_Xs κ) (hR : RH m b own sz my w) (hc : c + 40 ≤ 500) (K : ∀ M, cq M m → en_G κ 284 (hls r3 1 b own sz my w) [] M (c + 9) (6 * (c + 9))) : en_G κ 219 (hls r3 1 b own sz my w) [] m c (6 * c) := by
  obtain ⟨f1, f2, f3, f4, f5, f6, f7, f8, f9⟩ := RH_f hR
  have hR0 := hR
  obtain ⟨hI9, hN, hb, h4, -⟩ := hR
  have n := inv_n hI9
  refine en_aload_n (i := 0) h dL_holds_219 rfl rfl ?_
  refine en_iload (i := 5) h dL_holds_220 rfl ?_
  refine en_cS (q := 1) (B := 500) h hx9 (K_observable hW hP.1 (en_Xs_l hx9) hI9 (by constructor <;> omega)) my_L_observable gL_holds_L_observable rfl rfl ⟨by decide, by decide⟩ ⟨rfl, rfl⟩ ⟨rfl, rfl⟩ (by omega) (Nat.le_of_ble_eq_true rfl) dL_holds_222 (fun r M hp => ?_)
  obtain ⟨rfl, hq⟩ := hp
  rw [w_observable_r hb, ← h4]
  by_cases ho : obs m own
  · rw [if_pos ho]
    have hR1 := RH_cq hR0 hq
    have ho1 : obs M own := (obs_q hq hI9 own).mpr ho
    have n1 := inv_n hR1.1
    refine en_if_eq (tgt := 284) h dL_holds_225 (by decide) (by omega) (fun c_225 => ?_) (fun c_225 => ?_)
    · exact absurd c_225 (by decide)
    · have hb1 := hR1.2.2.1
      have h41 := hR1.2.2.2.1
      refine en_aload_n (i := 0) h dL_holds_228 rfl rfl ?_
      refine en_iload (i := 5) h dL_holds_229 rfl ?_
      refine en_cS (q := 2) (B := 500) h hx9 (K_bottom hW hP.1 (en_Xs_l hx9) hR1.1 (by constructor <;> omega)) my_L_bottom gL_holds_L_bottom rfl rfl ⟨by decide, by decide⟩ ⟨rfl, rfl⟩ ⟨rfl, rfl⟩ (by omega) (Nat.le_of_ble_eq_true rfl) dL_holds_231 (fun r M2 hp => ?_)
      obtain ⟨rfl, hq2⟩ := hp
      have x1 := inv_xc hR1.1
      have bt : 1 ≤ w_bottom M b := by
        rw [w_bottom_r hb1 (by rw [← h41]; exact ho1), ← h41]
        exact xg_1 (lk_pos hR1.1.1 x1.2.2.2 f1.1 ho1)
      have rg := rg_bottom hR1.1 b
      have hR2 := RH_cq hR1 hq2
      have ho2 : obs M2 own := (obs_q hq2 hR1.1 own).mpr ho1
      have h42 := hR2.2.2.2.1
      have hb2 := hR2.2.2.1
      have n2 := inv_n hR2.1
      refine en_lconst (z := 1) h dL_holds_234 rfl ?_
      refine en_lcmpR h dL_holds_235 rg (by decide) ?_
      refine en_if_lt (tgt := 288) h dL_holds_236 (by decide) (en_cmp_r _ _) (fun c_236 => ?_) (fun c_236 => ?_)
      · have z := (en_cmp_lt _ _).mp c_236
        omega
      · refine en_iload (i := 6) h dL_holds_239 rfl ?_
        refine en_iload (i := 5) h dL_holds_241 rfl ?_
        refine en_icmp_ne (tgt := 257) h dL_holds_243 (by decide) (by omega) (by omega) (fun c_243 => ?_) (fun c_243 => ?_)
        · exact hk_7 hW hP h hx9 hR2 ho2 (by omega) (fun M3 h3 => en_upk (by omega) (K M3 (cq_tr h3 (cq_tr hq2 hq))))
        · refine en_aload_n (i := 0) h dL_holds_246 rfl rfl ?_
          refine en_iload (i := 5) h dL_holds_247 rfl ?_
          refine en_cS (q := 2) (B := 500) h hx9 (K_top hW hP.1 (en_Xs_l hx9) hR2.1 (by constructor <;> omega)) my_L_top gL_holds_L_top rfl rfl ⟨by decide, by decide⟩ ⟨rfl, rfl⟩ ⟨rfl, rfl⟩ (by omega) (Nat.le_of_ble_eq_true rfl) dL_holds_249 (fun r M3 hp => ?_)
          obtain ⟨rfl, hq3⟩ := hp
          have tp : w_top M2 b = 0 := by
            rw [w_top_r hb2 (by rw [← h42]; exact ho2), ← h42, lk_T0 hR2.1.1 hb2.1 (by omega) (fun z => z.2 (by omega))]
            exact Int.zero_tdiv _
          rw [tp]
          refine en_lconst (z := 0) h dL_holds_252 rfl ?_
          refine en_lcmpR h dL_holds_253 (by decide) (by decide) ?_
          refine en_if_ne (tgt := 288) h dL_holds_254 (by decide) (by decide) (fun c_254 => ?_) (fun c_254 => ?_)
          · exact absurd (show en_cmp _ _ = 0 by decide) c_254
          · exact hk_7 hW hP h hx9 (RH_cq hR2 hq3) ((obs_q hq3 hR2.1 own).mpr ho2) (by omega) (fun M4 h4 => en_upk (by omega) (K M4 (cq_tr h4 (cq_tr hq3 (cq_tr hq2 hq)))))
  · rw [if_neg ho]
    refine en_if_eq (tgt := 284) h dL_holds_225 (by decide) (by omega) (fun c_225 => ?_) (fun c_225 => ?_)
    · exact en_upk (by omega) (K M hq)
    · exact absurd rfl c_225
/-- from 111 to 291 -/
theorem hk_all {κ : en_C} {m : en_M} {b r3 x9 : Int} {c : Nat} (hW : en_Wok (en_w κ)) (hP : HasL (en_w κ)) (h : en_Ok κ RL cL_holds 10 wsL_holds rm_L_holds) (hx9 : en_Xs κ) (hI9 : INV m) (hN : NN m) (hb : pB m b) (hc : c + 60 ≤ 500) (K : ∀ M, cq M m → en_G κ 291 (hls (r3 + (if m 5 b = b then 1 else 0)) 1 b (m 5 b) (szc (m 5) (m 5 b) (m 0 0).toNat) (myc (xm_io m) (m 5 b) (m 21 1).toNat) (w_worst m b)) [] M (c + 17) (6 * (c + 17))) : en_G κ 111 (hls r3 1 b (m 5 b) (szc (m 5) (m 5 b) (m 0 0).toNat) (myc (xm_io m) (m 5 b) (m 21 1).toNat) x9) [] m c (6 * c) := by
  have n := inv_n hI9
  have r := lk_rng hI9.1 b hb.1 (by omega)
  have go : ∀ v, v = r3 + (if m 5 b = b then 1 else 0) → en_G κ 126 (hls v 1 b (m 5 b) (szc (m 5) (m 5 b) (m 0 0).toNat) (myc (xm_io m) (m 5 b) (m 21 1).toNat) x9) [] m c (6 * c) := by
    intro v hv
    refine en_aload_n (i := 0) h dL_holds_126 rfl rfl ?_
    refine en_iload (i := 5) h dL_holds_127 rfl ?_
    refine en_cS (q := 2) (B := 500) h hx9 (K_worst hW hP.1 (en_Xs_l hx9) hI9 (by constructor <;> omega)) my_L_worst gL_holds_L_worst rfl rfl ⟨by decide, by decide⟩ ⟨rfl, rfl⟩ ⟨rfl, rfl⟩ (by omega) (Nat.le_of_ble_eq_true rfl) dL_holds_129 (fun r M hp => ?_)
    obtain ⟨rfl, hq⟩ := hp
    have hR : RH m b (m 5 b) (szc (m 5) (m 5 b) (m 0 0).toNat) (myc (xm_io m) (m 5 b) (m 21 1).toNat) (w_worst m b) := by
      refine ⟨hI9, hN, hb, rfl, rfl, rfl, rg_worst hI9 b, fun ho => ?_⟩
      rw [w_worst_r hb ho]
      exact h_worst hI9
    refine en_istore (i := 9) h dL_holds_132 (by decide) ?_
    refine hk_1 hW hP h hx9 (RH_cq hR hq) (by omega) (fun M1 h1 => ?_)
    have h1 := cq_tr h1 hq
    refine hk_2 hW hP h hx9 (RH_cq hR h1) (by omega) (fun M2 h2 => ?_)
    have h2 := cq_tr h2 h1
    refine hk_3 hW hP h hx9 (RH_cq hR h2) (by omega) (fun M3 h3 => ?_)
    have h3 := cq_tr h3 h2
    refine hk_4 hW hP h hx9 (RH_cq hR h3) (by omega) (fun M4 h4 => ?_)
    have h4 := cq_tr h4 h3
    refine hk_5 hW hP h hx9 (RH_cq hR h4) (by omega) (fun M5 h5 => ?_)
    have h5 := cq_tr h5 h4
    refine hk_6 hW hP h hx9 (RH_cq hR h5) (by omega) (fun M6 h6 => ?_)
    have h6 := cq_tr h6 h5
    refine en_iconst h dL_holds_284 ?_
    refine en_goto (tgt := 289) h dL_holds_285 (by decide) ?_
    refine en_istore (i := 4) h dL_holds_289 (by decide) ?_
    rw [hv]
    exact K M6 h6
  refine en_iload_n (i := 3) h dL_holds_111 rfl rfl ?_
  refine en_iload (i := 6) h dL_holds_112 rfl ?_
  refine en_iload (i := 5) h dL_holds_114 rfl ?_
  refine en_icmp_ne (tgt := 123) h dL_holds_116 (by decide) (by omega) (by omega) (fun c_116 => ?_) (fun c_116 => ?_)
  · refine en_iconst h dL_holds_123 ?_
    refine en_iadd h dL_holds_124 ?_
    refine en_istore_n (i := 3) h dL_holds_125 rfl (by decide) ?_
    exact go _ (by rw [if_neg c_116])
  · refine en_iconst h dL_holds_119 ?_
    refine en_goto (tgt := 124) h dL_holds_120 (by decide) ?_
    refine en_iadd h dL_holds_124 ?_
    refine en_istore_n (i := 3) h dL_holds_125 rfl (by decide) ?_
    exact go _ (by rw [if_pos c_116])
