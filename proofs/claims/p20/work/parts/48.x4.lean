/-! CLASS 2: the common divisor; what an estimate leaves -/
def xg (x y : Int) : Int := max 1 ((Nat.gcd y.natAbs x.natAbs : Nat) : Int)
theorem xg_rem (a b : Nat) : (a : Int) - (a : Int).tdiv (b : Int) * (b : Int) = ((a % b : Nat) : Int) := by
  rw [Int.tdiv_eq_ediv_of_nonneg (Int.natCast_nonneg a)]
  have h := Int.emod_add_mul_ediv (a : Int) (b : Int)
  rw [Int.natCast_emod, Int.mul_comm]
  omega
theorem xg_abs {x : Int} (h : -9223372036854775808 < x ∧ x < 9223372036854775808) : (if 0 < en_w64 x then x else -x) = ((x.natAbs : Nat) : Int) := by
  rw [en_w64_id ⟨by omega, h.2⟩]
  split <;> omega
def xg_P (f a b : Nat) : Prop := (b ≤ a ∧ a * b < 2 ^ f) ∨ ∃ f', f = f' + 1 ∧ a * b < 2 ^ f'
theorem xg_P0 {a b : Nat} (h : xg_P 0 a b) : b = 0 := by
  rcases h with ⟨h1, h2⟩ | ⟨f', h, -⟩
  · rcases Nat.eq_zero_or_pos b with e | e
    · exact e
    · have q : 1 ≤ a * b := Nat.mul_pos (by omega) e
      simp at h2
      omega
  · omega
theorem xg_Ps {f a b : Nat} (hb : b ≠ 0) (h : xg_P f a b) : ∃ f', f = f' + 1 ∧ xg_P f' b (a % b) := by
  have key : ∀ f, b ≤ a → a * b < 2 ^ f → ∃ f', f = f' + 1 ∧ xg_P f' b (a % b) := by
    intro f h1 h2
    have q : 1 ≤ a * b := Nat.mul_pos (by omega) (by omega)
    match f, h2 with
    | 0, h2 => simp at h2; omega
    | f' + 1, h2 =>
      refine ⟨f', rfl, Or.inl ⟨Nat.le_of_lt (Nat.mod_lt _ (by omega)), ?_⟩⟩
      have r1 : a % b < b := Nat.mod_lt _ (by omega)
      have r2 : a % b + b * (a / b) = a := Nat.mod_add_div a b
      have r3 : 1 ≤ a / b := (Nat.one_le_div_iff (by omega)).mpr h1
      have r4 : b * 1 ≤ b * (a / b) := Nat.mul_le_mul_left b r3
      have r5 : 2 * (a % b) ≤ a := by omega
      have r6 : b * (2 * (a % b)) ≤ b * a := Nat.mul_le_mul_left b r5
      have r7 : b * (2 * (a % b)) = 2 * (b * (a % b)) := by rw [← Nat.mul_assoc, ← Nat.mul_assoc, Nat.mul_comm b 2]
      have r8 : b * a = a * b := Nat.mul_comm b a
      rw [Nat.pow_succ] at h2
      omega
  rcases h with ⟨h1, h2⟩ | ⟨f', rfl, h2⟩
  · exact key f h1 h2
  · by_cases e : b ≤ a
    · obtain ⟨f'', rfl, q⟩ := key f' e h2
      refine ⟨f'' + 1, rfl, ?_⟩
      rcases q with ⟨q1, q2⟩ | ⟨f3, rfl, q2⟩
      · exact Or.inr ⟨f'', rfl, q2⟩
      · exact Or.inr ⟨f3 + 1, rfl, by rw [Nat.pow_succ]; omega⟩
    · refine ⟨f', rfl, Or.inl ⟨?_, ?_⟩⟩
      · rw [Nat.mod_eq_of_lt (by omega)]; omega
      · rw [Nat.mod_eq_of_lt (by omega), Nat.mul_comm]; exact h2
abbrev rm_X4_commonDivisor : Room := { frames := 1, cells := 0, slots := 0, locals := 23 }
theorem my_X4_commonDivisor : en_MY yX4_commonDivisor RX4 cX4_commonDivisor 11 (some .long) wsX4_commonDivisor 2 := ⟨⟨_, rfl⟩, rfl, by decide, by decide, by decide +kernel, by decide +kernel⟩
theorem jj_X4_cd_abs : en_J wsX4_commonDivisor RX4 200 Lib.MathLoose.abs_long.x Lib.MathLoose.abs_long.code 2 (some .long) := ⟨by decide +kernel, by decide +kernel, by decide +kernel, by decide +kernel⟩
theorem jj_X4_cd_max : en_J wsX4_commonDivisor RX4 204 Lib.MathLoose.max_long.x Lib.MathLoose.max_long.code 4 (some .long) := ⟨by decide +kernel, by decide +kernel, by decide +kernel, by decide +kernel⟩
set_option maxRecDepth 100000 in
set_option maxHeartbeats 4000000 in
theorem lp_X4_commonDivisor {κ : en_C} {m : en_M} {x y : Int} {g : Nat} (h : en_Ok κ RX4 cX4_commonDivisor 11 wsX4_commonDivisor rm_X4_commonDivisor) (hf : en_fin κ rm_X4_commonDivisor (some .long) (fun r m' => r = some (en_L (max 1 (g : Int))) ∧ m' = m)) : ∀ (f d a b : Nat) (o : Option en_V), f + d ≤ 1000 → xg_P f a b → a < 9223372036854775808 → b < 9223372036854775808 → Nat.gcd a b = g → en_G κ 15 [some (en_L x), none, some (en_L y), none, some (en_L (a : Int)), none, some (en_L (b : Int)), none, some (en_I (d : Int)), o, none] [] m 0 0 := by
  have out : ∀ (d a b : Nat) (o : Option en_V), b = 0 → a < 9223372036854775808 → Nat.gcd a b = g → en_G κ 51 [some (en_L x), none, some (en_L y), none, some (en_L (a : Int)), none, some (en_L (b : Int)), none, some (en_I (d : Int)), o, none] [] m 0 0 := by
    intro d a b o hb ha hg
    subst hb
    rw [Nat.gcd_zero_right] at hg
    subst hg
    refine en_lconst (z := 1) h dX4_commonDivisor_51 rfl ?_
    refine en_lload (i := 4) h dX4_commonDivisor_52 rfl ?_
    refine en_mmaxL h jj_X4_cd_max ⟨by decide, by decide⟩ (by decide) (Nat.le_of_ble_eq_true rfl) dX4_commonDivisor_54 (by decide) (by omega) ?_
    exact en_lret h hf dX4_commonDivisor_57 ⟨by decide, by decide⟩ ⟨rfl, rfl⟩
  intro f
  induction f with
  | zero =>
    intro d a b o hd hP ha hb hg
    have b0 := xg_P0 hP
    refine en_iload (i := 8) h dX4_commonDivisor_15 rfl ?_
    refine en_sipush h dX4_commonDivisor_17 (by decide) ?_
    refine en_icmp_ge (tgt := 51) h dX4_commonDivisor_20 (by decide) (by omega) (by omega) (fun c_20 => ?_) (fun c_20 => ?_)
    · exact out d a b o b0 ha hg
    · refine en_lload (i := 6) h dX4_commonDivisor_23 rfl ?_
      refine en_lconst (z := 0) h dX4_commonDivisor_25 rfl ?_
      refine en_lcmp h dX4_commonDivisor_26 ?_
      refine en_if_eq (tgt := 51) h dX4_commonDivisor_27 (by decide) (en_cmp_r _ _) (fun c_27 => ?_) (fun c_27 => ?_)
      · exact out d a b o b0 ha hg
      · rw [en_w64_id (by omega), en_w64_id (by decide), Ne, en_cmp_eq] at c_27
        exact absurd (by omega) c_27
  | succ f ih =>
    intro d a b o hd hP ha hb hg
    refine en_iload (i := 8) h dX4_commonDivisor_15 rfl ?_
    refine en_sipush h dX4_commonDivisor_17 (by decide) ?_
    refine en_icmp_ge (tgt := 51) h dX4_commonDivisor_20 (by decide) (by omega) (by omega) (fun c_20 => ?_) (fun c_20 => ?_)
    · exact absurd c_20 (by omega)
    · refine en_lload (i := 6) h dX4_commonDivisor_23 rfl ?_
      refine en_lconst (z := 0) h dX4_commonDivisor_25 rfl ?_
      refine en_lcmp h dX4_commonDivisor_26 ?_
      refine en_if_eq (tgt := 51) h dX4_commonDivisor_27 (by decide) (en_cmp_r _ _) (fun c_27 => ?_) (fun c_27 => ?_)
      · rw [en_w64_id (by omega), en_w64_id (by decide), en_cmp_eq] at c_27
        exact out d a b o (by omega) ha hg
      · rw [en_w64_id (by omega), en_w64_id (by decide), Ne, en_cmp_eq] at c_27
        obtain ⟨f', e1, hP'⟩ := xg_Ps (by omega) hP
        obtain rfl : f' = f := by omega
        refine en_lload (i := 4) h dX4_commonDivisor_30 rfl ?_
        refine en_lload (i := 6) h dX4_commonDivisor_32 rfl ?_
        refine en_lrem h dX4_commonDivisor_34 (by omega) (by omega) ?_
        refine en_lstore (i := 9) h dX4_commonDivisor_35 (by decide) ?_
        refine en_lload (i := 6) h dX4_commonDivisor_37 rfl ?_
        refine en_lstore (i := 4) h dX4_commonDivisor_39 (by decide) ?_
        refine en_lload (i := 9) h dX4_commonDivisor_41 rfl ?_
        refine en_lstore (i := 6) h dX4_commonDivisor_43 (by decide) ?_
        refine en_iinc h dX4_commonDivisor_45 rfl (by decide) ?_
        refine en_goto (tgt := 15) h dX4_commonDivisor_48 (by decide) ?_
        rw [xg_rem]
        exact ih (d + 1) b (a % b) _ (by omega) hP' hb (by have := Nat.mod_lt a (show 0 < b by omega); omega) (by rw [← hg, Nat.gcd_comm b, ← Nat.gcd_rec, Nat.gcd_comm])
set_option maxRecDepth 100000 in
set_option maxHeartbeats 4000000 in
theorem k_X4_commonDivisor {l : Launch} {w : en_W} {m : en_M} (hw : en_Wok w) (hp : en_Has w 0 50) {x y : Int} (hx9 : -9223372036854775808 < x ∧ x < 9223372036854775808) (hy9 : -9223372036854775808 < y ∧ y < 9223372036854775808) : en_Met l w yX4_commonDivisor wsX4_commonDivisor rm_X4_commonDivisor [en_L x, en_L y] m (fun r m' => r = some (en_L (xg x y)) ∧ m' = m) := by
  refine en_met my_X4_commonDivisor hw (Nat.le_of_ble_eq_true rfl) ?_
  intro κ hl9 hw9 h hf
  subst hw9
  subst hl9
  have hI : ∀ k, 0 ≤ k → k < 50 → en_in κ k := hp
  refine en_lload_n (i := 2) h dX4_commonDivisor_0 rfl rfl ?_
  refine en_mabs h jj_X4_cd_abs ⟨by decide, by decide⟩ (by decide) (Nat.le_of_ble_eq_true rfl) dX4_commonDivisor_1 ?_
  rw [xg_abs hy9]
  refine en_lstore (i := 4) h dX4_commonDivisor_4 (by decide) ?_
  refine en_lload_n (i := 0) h dX4_commonDivisor_6 rfl rfl ?_
  refine en_mabs h jj_X4_cd_abs ⟨by decide, by decide⟩ (by decide) (Nat.le_of_ble_eq_true rfl) dX4_commonDivisor_7 ?_
  rw [xg_abs hx9]
  refine en_lstore (i := 6) h dX4_commonDivisor_10 (by decide) ?_
  refine en_iconst h dX4_commonDivisor_12 ?_
  refine en_istore (i := 8) h dX4_commonDivisor_13 (by decide) ?_
  exact lp_X4_commonDivisor (g := Nat.gcd y.natAbs x.natAbs) h hf 127 0 y.natAbs x.natAbs none (by decide) (Or.inr ⟨126, rfl, by
    have q : y.natAbs * x.natAbs ≤ 9223372036854775807 * 9223372036854775807 := Nat.mul_le_mul (by omega) (by omega)
    exact Nat.lt_of_le_of_lt q (by decide)⟩) (by omega) (by omega) rfl
/-! what an estimate leaves, told by the state before it -/
theorem gl_LR_ag {M m : en_M} (h : en_ag M m) (hv : xv_all m) (q : Int) : ∀ n : Nat, (n : Int) ≤ m 21 1 → gl_L M q n = gl_L m q n ∧ gl_R M q n = gl_R m q n
  | 0, _ => ⟨by simp only [gl_L, h 5 (by decide)], rfl⟩
  | n + 1, hn => by
    obtain ⟨i1, i2⟩ := gl_LR_ag h hv q n (by omega)
    have e : xm_gr M (n : Int) = xm_gr m (n : Int) := funext fun b => xm_gr_ag h (hv.2.1 n (by omega) (by omega)).1 b
    simp only [gl_L, gl_R, i1, i2, e, xm_io_ag h, h 5 (by decide), h 25 (by decide), h 24 (by decide), and_self]
theorem gl_D_ag {M m : en_M} (h : en_ag M m) (hv : xv_all m) (q c : Int) : gl_D M q c = gl_D m q c := by
  have n9 := hv.1
  have e : gl_E M q c = gl_E m q c := by
    unfold gl_E
    rw [h 21 (by decide), (gl_LR_ag h hv q (m 21 1).toNat (by omega)).1, (gl_LR_ag h hv q (m 21 1).toNat (by omega)).2]
  unfold gl_D
  rw [e]
def xe_rs (m : en_M) (q i : Int) : Int := gm_rs (m 24 i) (gl_D m q (-1)) (xm_gr m i) (gl_D m q) 5
def xe_ws (m : en_M) (q i : Int) : Int := m 25 i * gm_ab (xe_rs m q i)
def xe_wm (m : en_M) (q : Int) : Int := (gm_wm (xm_io m) (xe_ws m q) q (m 21 1).toNat).1
/-- M is m but for the scratch, with the estimate of island q in it -/
def xm_es (M m : en_M) (q : Int) : Prop := en_sc M m ∧ xr_ok M ∧ M 39 6 = gl_D m q (-1) ∧ ∀ c, 0 ≤ c → c < 5 → M 43 c = gl_D m q c
theorem gm_rs_cong {rd D : Int} {g a a' : Int → Int} : ∀ n : Nat, (∀ c, 0 ≤ c → c < (n : Int) → a c = a' c) → gm_rs rd D g a n = gm_rs rd D g a' n
  | 0, _ => rfl
  | n + 1, h => by
    simp only [gm_rs]
    rw [gm_rs_cong n (fun c c0 c1 => h c c0 (by omega)), h n (by omega) (by omega)]
theorem gm_wm_cong {io ws ws' : Int → Int} {q : Int} : ∀ n : Nat, (∀ i, 0 ≤ i → i < (n : Int) → ws i = ws' i) → gm_wm io ws q n = gm_wm io ws' q n
  | 0, _ => rfl
  | n + 1, h => by
    simp only [gm_wm]
    rw [gm_wm_cong n (fun c c0 c1 => h c c0 (by omega)), h n (by omega) (by omega)]
theorem xm_rs_es {M m : en_M} {q i : Int} (h : xm_es M m q) (hv : xv_m m i) : xm_rs M i = xe_rs m q i := by
  obtain ⟨h1, -, h3, h4⟩ := h
  have e : xm_gr M i = xm_gr m i := funext fun b => xm_gr_ag (en_sc_ag h1) hv b
  unfold xm_rs xe_rs
  rw [h3, e, h1 24 (by decide)]
  exact gm_rs_cong 5 (fun c c0 c1 => h4 c c0 (by omega))
theorem xm_ws_es {M m : en_M} {q i : Int} (h : xm_es M m q) (hv : xv_m m i) : xm_ws M i = xe_ws m q i := by
  unfold xm_ws xe_ws
  rw [xm_rs_es h hv, h.1 25 (by decide)]
theorem xm_wm_es {M m : en_M} {q : Int} (h : xm_es M m q) (hv : xv_all m) : xm_wm M q = xe_wm m q := by
  have n9 := hv.1
  have e : xm_io M = xm_io m := funext fun i => xm_io_ag (en_sc_ag h.1) i
  unfold xm_wm xe_wm
  rw [e, h.1 21 (by decide), gm_wm_cong (m 21 1).toNat (fun i i0 i1 => xm_ws_es h (hv.2.1 i i0 (by omega)).1)]
theorem xe_rs_ag {M m : en_M} (h : en_ag M m) (hv : xv_all m) {q i : Int} (hi : xv_m m i) : xe_rs M q i = xe_rs m q i := by
  have e : xm_gr M i = xm_gr m i := funext fun b => xm_gr_ag h hi b
  have e2 : gl_D M q = gl_D m q := funext fun c => gl_D_ag h hv q c
  unfold xe_rs
  rw [e, e2, h 24 (by decide)]
theorem xe_wm_rng {m : en_M} (hv : xv_all m) (q : Int) : -1 ≤ xe_wm m q ∧ xe_wm m q < m 21 1 := by
  have n9 := hv.1
  have z := gm_wm_rng (xm_io m) (xe_ws m q) q (m 21 1).toNat
  unfold xe_wm
  omega
