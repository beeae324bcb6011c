/-! LAW 10: vanishes -/
abbrev rm_L_vanishes : Room := { frames := 10, cells := 600, slots := 3600, locals := 201 }
theorem my_L_vanishes : en_MY yL_vanishes RL cL_vanishes 18 (some .boolean) wsL_vanishes 5 := ⟨⟨_, rfl⟩, rfl, by decide, by decide, by decide +kernel, by decide +kernel⟩
abbrev PP (m : en_M) : Prop := ∀ j, 0 ≤ j → j < m 0 1 → m 202 (4 * j) = m 1 j ∧ m 202 (4 * j + 1) = m 2 j ∧ m 202 (4 * j + 2) = m 3 j ∧ m 202 (4 * j + 3) = m 4 j
abbrev QQ (m : en_M) : Prop := ∀ i, 0 ≤ i → i < m 21 1 → m 203 (4 * i) = m 22 i ∧ m 203 (4 * i + 1) = m 23 i ∧ m 203 (4 * i + 2) = m 25 i
theorem PP_cq {M m : en_M} (h : PP m) (hc : cq M m) : PP M := by
  unfold PP
  rw [hc.1 202 (by decide), hc.1 0 (by decide), hc.1 1 (by decide), hc.1 2 (by decide), hc.1 3 (by decide), hc.1 4 (by decide)]
  exact h
theorem QQ_cq {M m : en_M} (h : QQ m) (hc : cq M m) : QQ M := by
  unfold QQ
  rw [hc.1 203 (by decide), hc.1 21 (by decide), hc.1 22 (by decide), hc.1 23 (by decide), hc.1 25 (by decide)]
  exact h
abbrev vls (P g b s w k : Int) (a c d e f i : Option en_V) : List (Option en_V) := [some (en_R 49), some (en_R 200), some (en_R 202), some (en_R 203), some (en_L P), none, some (en_I g), some (en_I b), some (en_L s), none, some (en_I w), some (en_I k), a, c, d, e, f, i]
/-- the lines, for one meter and bus -/
theorem hv_line {κ : en_C} {m : en_M} {P b s w i : Int} {c : Nat} (hP : HasL (en_w κ)) (h : en_Ok κ RL cL_vanishes 18 wsL_vanishes rm_L_vanishes) (hI9 : INV m) (hN : NN m) (hPP : PP m) (hQQ : QQ m) (hb : pB m b) (hi : pM m i) (K : ∀ d e f g j, en_G κ 249 (vls P 1 b s w i (some (en_I (xm_gr m i b))) d e f g j) [] m c (6 * c)) : ∀ (f k : Nat), f + k = (m 0 1).toNat → ∀ d e g j, en_G κ 76 (vls P 1 b s w i (some (en_I (vm m i b k))) (some (en_I k)) d e g j) [] m c (6 * c) := by
  have hI : ∀ k, 200 ≤ k → k < 204 → en_in κ k := hP.2.2.1
  have n := inv_n hI9
  have mi := inv_mt hI9 i hi.1 hi.2
  have qi := hQQ i hi.1 hi.2
  intro f
  induction f with
  | zero =>
    intro k hk d e g j
    refine en_iload (i := 13) h dL_vanishes_76 rfl ?_
    refine en_aload_n (i := 1) h dL_vanishes_78 rfl rfl ?_
    refine en_iconst h dL_vanishes_79 ?_
    refine en_iaload h dL_vanishes_80 (hI _ (by omega) (by omega)) rfl (by omega) hN.2.1 ?_
    refine en_icmp_ge (tgt := 249) h dL_vanishes_81 (by decide) (by omega) (by omega) (fun c_81 => ?_) (fun c_81 => ?_)
    · rw [show k = (m 0 1).toNat by omega, vm_gr hI9.1 hi hb.1 (by omega)]
      exact K _ _ _ _ _
    · exact absurd c_81 (by omega)
  | succ f ih =>
    intro k hk d e g j
    have lk := inv_ln hI9 (k : Int) (by omega) (by omega)
    have pk := hPP (k : Int) (by omega) (by omega)
    have fb := vf_b hI9.1 (l := (k : Int)) (by omega) (by omega) b
    -- the flow stands at 155; the rest
    have go : ∀ v, v = vf m k b → en_G κ 155 (vls P 1 b s w i (some (en_I (vm m i b k))) (some (en_I k)) (some (en_I (m 1 k))) (some (en_I (m 2 k))) g j) [en_I v] m c (6 * c) := by
      intro v hv
      have fin : ∀ y z, z = vg m i b k → en_G κ 240 (vls P 1 b s w i (some (en_I (vm m i b k))) (some (en_I k)) (some (en_I (m 1 k))) (some (en_I (m 2 k))) (some (en_I v)) y) [en_I z, en_I (vm m i b k)] m c (6 * c) := by
        intro y z hz
        refine en_iadd h dL_vanishes_240 ?_
        refine en_istore (i := 12) h dL_vanishes_241 (by decide) ?_
        refine en_iinc h dL_vanishes_243 rfl (by decide) ?_
        refine en_goto (tgt := 76) h dL_vanishes_246 (by decide) ?_
        rw [hz]
        exact ih (k + 1) (by omega) _ _ _ _
      have mid : ∀ y, (y = 1 ∨ y = 0) → (y = 1 ↔ m 22 i = 0) → en_G κ 171 (vls P 1 b s w i (some (en_I (vm m i b k))) (some (en_I k)) (some (en_I (m 1 k))) (some (en_I (m 2 k))) (some (en_I v)) j) [en_I y] m c (6 * c) := by
        intro y y01 hy
        refine en_istore (i := 17) h dL_vanishes_171 (by decide) ?_
        refine en_iload (i := 12) h dL_vanishes_173 rfl ?_
        refine en_iload (i := 17) h dL_vanishes_175 rfl ?_
        refine en_if_eq (tgt := 202) h dL_vanishes_177 (by decide) (by omega) (fun c_177 => ?_) (fun c_177 => ?_)
        · have k0 : ¬ m 22 i = 0 := fun z => by have := hy.mpr z; omega
          refine en_iload (i := 14) h dL_vanishes_202 rfl ?_
          refine en_aload_n (i := 3) h dL_vanishes_204 rfl rfl ?_
          refine en_iconst h dL_vanishes_205 ?_
          refine en_iload (i := 11) h dL_vanishes_206 rfl ?_
          refine en_imul h dL_vanishes_208 ?_
          refine en_iconst h dL_vanishes_209 ?_
          refine en_iadd h dL_vanishes_210 ?_
          refine en_iaload h dL_vanishes_211 (hI _ (by omega) (by omega)) rfl (by omega) qi.2.1 ?_
          refine en_icmp_ne (tgt := 220) h dL_vanishes_212 (by decide) (by omega) (by omega) (fun c_212 => ?_) (fun c_212 => ?_)
          · refine en_iload (i := 15) h dL_vanishes_220 rfl ?_
            refine en_aload_n (i := 3) h dL_vanishes_222 rfl rfl ?_
            refine en_iconst h dL_vanishes_223 ?_
            refine en_iload (i := 11) h dL_vanishes_224 rfl ?_
            refine en_imul h dL_vanishes_226 ?_
            refine en_iconst h dL_vanishes_227 ?_
            refine en_iadd h dL_vanishes_228 ?_
            refine en_iaload h dL_vanishes_229 (hI _ (by omega) (by omega)) rfl (by omega) qi.2.1 ?_
            refine en_icmp_ne (tgt := 239) h dL_vanishes_230 (by decide) (by omega) (by omega) (fun c_230 => ?_) (fun c_230 => ?_)
            · refine en_iconst h dL_vanishes_239 ?_
              exact fin _ _ (by unfold vg; rw [if_neg k0, if_neg c_212, if_neg c_230])
            · refine en_iload (i := 16) h dL_vanishes_233 rfl ?_
              refine en_ineg h dL_vanishes_235 ?_
              refine en_goto (tgt := 240) h dL_vanishes_236 (by decide) ?_
              exact fin _ _ (by unfold vg; rw [if_neg k0, if_neg c_212, if_pos c_230, hv])
          · refine en_iload (i := 16) h dL_vanishes_215 rfl ?_
            refine en_goto (tgt := 240) h dL_vanishes_217 (by decide) ?_
            exact fin _ _ (by unfold vg; rw [if_neg k0, if_pos c_212, hv])
        · have k0 : m 22 i = 0 := hy.mp (by omega)
          refine en_aload_n (i := 3) h dL_vanishes_180 rfl rfl ?_
          refine en_iconst h dL_vanishes_181 ?_
          refine en_iload (i := 11) h dL_vanishes_182 rfl ?_
          refine en_imul h dL_vanishes_184 ?_
          refine en_iconst h dL_vanishes_185 ?_
          refine en_iadd h dL_vanishes_186 ?_
          refine en_iaload h dL_vanishes_187 (hI _ (by omega) (by omega)) rfl (by omega) qi.2.1 ?_
          refine en_iload (i := 13) h dL_vanishes_188 rfl ?_
          refine en_icmp_ne (tgt := 198) h dL_vanishes_190 (by decide) (by omega) (by omega) (fun c_190 => ?_) (fun c_190 => ?_)
          · refine en_iconst h dL_vanishes_198 ?_
            refine en_goto (tgt := 240) h dL_vanishes_199 (by decide) ?_
            exact fin _ _ (by unfold vg; rw [if_pos k0, if_neg c_190])
          · refine en_iload (i := 16) h dL_vanishes_193 rfl ?_
            refine en_goto (tgt := 240) h dL_vanishes_195 (by decide) ?_
            exact fin _ _ (by unfold vg; rw [if_pos k0, if_pos c_190, hv])
      refine en_istore (i := 16) h dL_vanishes_155 (by decide) ?_
      refine en_aload_n (i := 3) h dL_vanishes_157 rfl rfl ?_
      refine en_iconst h dL_vanishes_158 ?_
      refine en_iload (i := 11) h dL_vanishes_159 rfl ?_
      refine en_imul h dL_vanishes_161 ?_
      refine en_iaload h dL_vanishes_162 (hI _ (by omega) (by omega)) rfl (by omega) qi.1 ?_
      refine en_if_ne (tgt := 170) h dL_vanishes_163 (by decide) (by omega) (fun c_163 => ?_) (fun c_163 => ?_)
      · refine en_iconst h dL_vanishes_170 ?_
        exact mid 0 (Or.inr rfl) ⟨fun z => absurd z (by decide), fun z => absurd z c_163⟩
      · refine en_iconst h dL_vanishes_166 ?_
        refine en_goto (tgt := 171) h dL_vanishes_167 (by decide) ?_
        exact mid 1 (Or.inl rfl) ⟨fun _ => c_163, fun _ => rfl⟩
    refine en_iload (i := 13) h dL_vanishes_76 rfl ?_
    refine en_aload_n (i := 1) h dL_vanishes_78 rfl rfl ?_
    refine en_iconst h dL_vanishes_79 ?_
    refine en_iaload h dL_vanishes_80 (hI _ (by omega) (by omega)) rfl (by omega) hN.2.1 ?_
    refine en_icmp_ge (tgt := 249) h dL_vanishes_81 (by decide) (by omega) (by omega) (fun c_81 => ?_) (fun c_81 => ?_)
    · exact absurd c_81 (by omega)
    · refine en_aload_n (i := 2) h dL_vanishes_84 rfl rfl ?_
      refine en_iconst h dL_vanishes_85 ?_
      refine en_iload (i := 13) h dL_vanishes_86 rfl ?_
      refine en_imul h dL_vanishes_88 ?_
      refine en_iaload h dL_vanishes_89 (hI _ (by omega) (by omega)) rfl (by omega) pk.1 ?_
      refine en_istore (i := 14) h dL_vanishes_90 (by decide) ?_
      refine en_aload_n (i := 2) h dL_vanishes_92 rfl rfl ?_
      refine en_iconst h dL_vanishes_93 ?_
      refine en_iload (i := 13) h dL_vanishes_94 rfl ?_
      refine en_imul h dL_vanishes_96 ?_
      refine en_iconst h dL_vanishes_97 ?_
      refine en_iadd h dL_vanishes_98 ?_
      refine en_iaload h dL_vanishes_99 (hI _ (by omega) (by omega)) rfl (by omega) pk.2.1 ?_
      refine en_istore (i := 15) h dL_vanishes_100 (by decide) ?_
      refine en_aload_n (i := 2) h dL_vanishes_102 rfl rfl ?_
      refine en_iconst h dL_vanishes_103 ?_
      refine en_iload (i := 13) h dL_vanishes_104 rfl ?_
      refine en_imul h dL_vanishes_106 ?_
      refine en_iconst h dL_vanishes_107 ?_
      refine en_iadd h dL_vanishes_108 ?_
      refine en_iaload h dL_vanishes_109 (hI _ (by omega) (by omega)) rfl (by omega) pk.2.2.2 ?_
      refine en_if_ne (tgt := 117) h dL_vanishes_110 (by decide) (by omega) (fun c_110 => ?_) (fun c_110 => ?_)
      · refine en_iload (i := 14) h dL_vanishes_117 rfl ?_
        refine en_iload (i := 7) h dL_vanishes_119 rfl ?_
        refine en_icmp_ne (tgt := 135) h dL_vanishes_121 (by decide) (by omega) (by omega) (fun c_121 => ?_) (fun c_121 => ?_)
        · refine en_iload (i := 15) h dL_vanishes_135 rfl ?_
          refine en_iload (i := 7) h dL_vanishes_137 rfl ?_
          refine en_icmp_ne (tgt := 154) h dL_vanishes_139 (by decide) (by omega) (by omega) (fun c_139 => ?_) (fun c_139 => ?_)
          · refine en_iconst h dL_vanishes_154 ?_
            exact go _ (by unfold vf; rw [if_neg c_110, if_neg c_121, if_neg c_139])
          · refine en_aload_n (i := 2) h dL_vanishes_142 rfl rfl ?_
            refine en_iconst h dL_vanishes_143 ?_
            refine en_iload (i := 13) h dL_vanishes_144 rfl ?_
            refine en_imul h dL_vanishes_146 ?_
            refine en_iconst h dL_vanishes_147 ?_
            refine en_iadd h dL_vanishes_148 ?_
            refine en_iaload h dL_vanishes_149 (hI _ (by omega) (by omega)) rfl (by omega) pk.2.2.1 ?_
            refine en_ineg h dL_vanishes_150 ?_
            refine en_goto (tgt := 155) h dL_vanishes_151 (by decide) ?_
            exact go _ (by unfold vf; rw [if_neg c_110, if_neg c_121, if_pos c_139])
        · refine en_aload_n (i := 2) h dL_vanishes_124 rfl rfl ?_
          refine en_iconst h dL_vanishes_125 ?_
          refine en_iload (i := 13) h dL_vanishes_126 rfl ?_
          refine en_imul h dL_vanishes_128 ?_
          refine en_iconst h dL_vanishes_129 ?_
          refine en_iadd h dL_vanishes_130 ?_
          refine en_iaload h dL_vanishes_131 (hI _ (by omega) (by omega)) rfl (by omega) pk.2.2.1 ?_
          refine en_goto (tgt := 155) h dL_vanishes_132 (by decide) ?_
          exact go _ (by unfold vf; rw [if_neg c_110, if_pos c_121])
      · refine en_iconst h dL_vanishes_113 ?_
        refine en_goto (tgt := 155) h dL_vanishes_114 (by decide) ?_
        exact go _ (by unfold vf; rw [if_pos c_110])
