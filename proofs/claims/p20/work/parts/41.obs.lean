/-! OBSERVATION: the rows of the meters, by elimination, over the places 0 to 38 -/
def xr_ok (m : en_M) : Prop := (∀ i, 0 ≤ i → i < 10 → 29 ≤ m 28 i ∧ m 28 i < 39) ∧ ∀ i j, 0 ≤ i → i < 10 → 0 ≤ j → j < 10 → m 28 i = m 28 j → i = j
/-- the same but for the rows -/
def en_of (M m : en_M) : Prop := ∀ k, (k < 28 ∨ 39 ≤ k) → M k = m k
theorem en_of_ag {M m : en_M} (h : en_of M m) : en_ag M m := fun k hk => h k (Or.inl (by omega))
theorem en_ag_tr {M m m0 : en_M} (h : en_ag M m) (h2 : en_ag m m0) : en_ag M m0 := fun k hk => (h k hk).trans (h2 k hk)
theorem en_of_tr {M m m0 : en_M} (h : en_of M m) (h2 : en_of m m0) : en_of M m0 := fun k hk => (h k hk).trans (h2 k hk)
def xr_E (m : en_M) : Int → Int → Int := fun i c => m (m 28 i) c
theorem en_w64_0 {x : Int} (h : -9223372036854775808 ≤ x ∧ x ≤ 9223372036854775808) : en_w64 x = 0 ↔ x = 0 := by
  by_cases e : x = 9223372036854775808
  · subst e
    have q : en_w64 9223372036854775808 = -9223372036854775808 := by decide +kernel
    rw [q]
    omega
  · rw [en_w64_id ⟨h.1, by omega⟩]
theorem en_cz {x : Int} (h : -9223372036854775808 ≤ x ∧ x ≤ 9223372036854775808) : en_cmp (en_w64 x) (en_w64 0) = 0 ↔ x = 0 := by
  rw [en_cmp_eq, show en_w64 0 = 0 from en_w64_id ⟨by decide, by decide⟩]
  exact en_w64_0 h
/-- row i of the meters that take part in island q, but for one -/
def xm_row (m : en_M) (lo q : Int) : Int → Int → Int := fun i b => if (i < m 21 1 ∧ i ≠ lo ∧ xm_io m i = q) ∧ b ≠ q then xm_gr m i b else 0
abbrev rm_X3_fillRows : Room := { frames := 3, cells := 0, slots := 0, locals := 43 }
theorem my_X3_fillRows : en_MY yX3_fillRows RX3 cX3_fillRows 6 none wsX3_fillRows 2 := ⟨⟨_, rfl⟩, rfl, by decide, by decide, by decide +kernel, by decide +kernel⟩
set_option maxRecDepth 20000 in
theorem fl_X3_fillRows_11 : en_FL wsX3_fillRows RX3 11 3 2 := ⟨_, _, _, rfl, by decide, by decide +kernel, Or.inl (by decide +kernel)⟩
set_option maxRecDepth 20000 in
theorem fl_X3_fillRows_20 : en_FL wsX3_fillRows RX3 20 3 1 := ⟨_, _, _, rfl, by decide, by decide +kernel, Or.inl (by decide +kernel)⟩
set_option maxRecDepth 20000 in
theorem fl_X3_fillRows_50 : en_FL wsX3_fillRows RX3 50 2 1 := ⟨_, _, _, rfl, by decide, by decide +kernel, Or.inr (by decide +kernel)⟩
set_option maxRecDepth 100000 in
set_option maxHeartbeats 4000000 in
theorem lp_X3_fillRows_B {κ : en_C} {m : en_M} {lo q i t p : Int} {F : Int → Int} (hW : en_Wok (en_w κ)) (hP : en_Has (en_w κ) 0 39) (h : en_Ok κ RX3 cX3_fillRows 6 wsX3_fillRows rm_X3_fillRows) (hi : 0 ≤ i ∧ i < 10) (hq : en_i32 q) (ht : t = 0 ∨ t = 1) (hp : m 28 i = p ∧ 29 ≤ p ∧ p < 39) (hv : t = 1 → xv_m m i ∧ ∀ b, 0 ≤ b → b < 5 → en_i32 (xm_gr m i b)) (hF : ∀ b, F b = if t = 1 ∧ b ≠ q then xm_gr m i b else 0) (K : ∀ o, en_G κ 93 [some (en_R 27), some (en_I lo), some (en_I q), some (en_I i), some (en_I t), o] [] (en_ar m p 5 F) 0 0) : ∀ (f c : Nat), f + c = 5 → en_G κ 46 [some (en_R 27), some (en_I lo), some (en_I q), some (en_I i), some (en_I t), some (en_I (c : Int))] [] (en_ar m p c F) 0 0 := by
  have hI : ∀ k, 0 ≤ k → k < 39 → en_in κ k := hP
  intro f
  induction f with
  | zero =>
    intro c hc
    refine en_iload (i := 5) h dX3_fillRows_46 rfl ?_
    refine en_iconst h dX3_fillRows_48 ?_
    refine en_icmp_ge (tgt := 93) h dX3_fillRows_49 (by decide) (by omega) (by omega) (fun c_49 => ?_) (fun c_49 => ?_)
    · rw [show (c : Int) = 5 by omega]
      exact K _
    · exact absurd c_49 (by omega)
  | succ f ih =>
    intro c hc
    have e28 : en_ar m p c F 28 i = p := by rw [en_ar_ne (by omega)]; exact hp.1
    have ag : en_ag (en_ar m p c F) m := fun k hk => en_ar_ne (by omega)
    have step : ∀ x, x = F c → en_set (en_ar m p c F) p c x = en_ar m p ((c + 1 : Nat) : Int) F := fun x hx => by rw [hx]; exact en_ar_push (by omega) rfl
    refine en_iload (i := 5) h dX3_fillRows_46 rfl ?_
    refine en_iconst h dX3_fillRows_48 ?_
    refine en_icmp_ge (tgt := 93) h dX3_fillRows_49 (by decide) (by omega) (by omega) (fun c_49 => ?_) (fun c_49 => ?_)
    · exact absurd c_49 (by omega)
    · refine en_aload_n (i := 0) h dX3_fillRows_52 rfl rfl ?_
      refine en_getR h dX3_fillRows_53 fl_X3_fillRows_11 (hI _ (by omega) (by omega)) rfl rfl ?_
      refine en_iload_n (i := 3) h dX3_fillRows_56 rfl rfl ?_
      refine en_aaloadD4 h dX3_fillRows_57 (hI _ (by omega) (by omega)) rfl (by omega) e28 ?_
      refine en_iload (i := 5) h dX3_fillRows_58 rfl ?_
      refine en_iload (i := 4) h dX3_fillRows_60 rfl ?_
      refine en_if_eq (tgt := 85) h dX3_fillRows_62 (by decide) (by omega) (fun c_62 => ?_) (fun c_62 => ?_)
      · refine en_lconst (z := 0) h dX3_fillRows_85 rfl ?_
        refine en_lastore h dX3_fillRows_86 (hI _ (by omega) (by omega)) (ly_rows (by omega) (by omega)) (by omega) ?_
        refine en_iinc h dX3_fillRows_87 rfl (by decide) ?_
        refine en_goto (tgt := 46) h dX3_fillRows_90 (by decide) ?_
        rw [step 0 (by rw [hF, if_neg (by omega)])]
        exact ih (c + 1) (by omega)
      · refine en_iload (i := 5) h dX3_fillRows_65 rfl ?_
        refine en_iload_n (i := 2) h dX3_fillRows_67 rfl rfl ?_
        refine en_icmp_eq (tgt := 85) h dX3_fillRows_68 (by decide) (by omega) (by omega) (fun c_68 => ?_) (fun c_68 => ?_)
        · refine en_lconst (z := 0) h dX3_fillRows_85 rfl ?_
          refine en_lastore h dX3_fillRows_86 (hI _ (by omega) (by omega)) (ly_rows (by omega) (by omega)) (by omega) ?_
          refine en_iinc h dX3_fillRows_87 rfl (by decide) ?_
          refine en_goto (tgt := 46) h dX3_fillRows_90 (by decide) ?_
          rw [step 0 (by rw [hF, if_neg (by omega)])]
          exact ih (c + 1) (by omega)
        · have v := hv (by omega)
          refine en_aload_n (i := 0) h dX3_fillRows_71 rfl rfl ?_
          refine en_getR h dX3_fillRows_72 fl_X3_fillRows_20 (hI _ (by omega) (by omega)) rfl rfl ?_
          refine en_iload_n (i := 3) h dX3_fillRows_75 rfl rfl ?_
          refine en_iload (i := 5) h dX3_fillRows_76 rfl ?_
          refine en_callV h (k_X2_growth hW (fun k k0 k1 => hP k k0 (by omega)) hi ⟨by omega, by omega⟩ (xv_m_ag ag v.1)) my_X2_growth gX3_fillRows_X2_growth (hI _ (by omega) (by omega)) rfl rfl rfl rfl ⟨by decide, by decide⟩ ⟨by decide, by decide⟩ (Nat.le_of_ble_eq_true rfl) dX3_fillRows_78 (fun r m' hp => ?_)
          obtain ⟨rfl, rfl⟩ := hp
          rw [xm_gr_ag ag v.1]
          refine en_i2l h dX3_fillRows_81 (v.2 c (by omega) (by omega)) ?_
          refine en_goto (tgt := 86) h dX3_fillRows_82 (by decide) ?_
          refine en_lastore h dX3_fillRows_86 (hI _ (by omega) (by omega)) (ly_rows (by omega) (by omega)) (by omega) ?_
          refine en_iinc h dX3_fillRows_87 rfl (by decide) ?_
          refine en_goto (tgt := 46) h dX3_fillRows_90 (by decide) ?_
          rw [step _ (by rw [hF, if_pos ⟨by omega, c_68⟩])]
          exact ih (c + 1) (by omega)
set_option maxRecDepth 100000 in
set_option maxHeartbeats 4000000 in
theorem lp_X3_fillRows_A {κ : en_C} {m : en_M} {lo q : Int} (hW : en_Wok (en_w κ)) (hP : en_Has (en_w κ) 0 39) (h : en_Ok κ RX3 cX3_fillRows 6 wsX3_fillRows rm_X3_fillRows) (hf : en_fin κ rm_X3_fillRows none (fun r m' => r = none ∧ en_of m' m ∧ m' 28 = m 28 ∧ ∀ i b, 0 ≤ i → i < 10 → 0 ≤ b → b < 5 → m' (m 28 i) b = xm_row m lo q i b)) (ho : xr_ok m) (hlo : en_i32 lo) (hq : en_i32 q) (hn : 0 ≤ m 21 1 ∧ m 21 1 ≤ 10) (hv : ∀ i, 0 ≤ i → i < m 21 1 → xv_m m i ∧ (m 26 i = 0 ∨ m 26 i = 1) ∧ en_i32 (xm_io m i) ∧ ∀ b, 0 ≤ b → b < 5 → en_i32 (xm_gr m i b)) : ∀ (f i : Nat), f + i = 10 → ∀ (M : en_M) (o o' : Option en_V), en_of M m → M 28 = m 28 → (∀ j b, 0 ≤ j → j < (i : Int) → 0 ≤ b → b < 5 → M (m 28 j) b = xm_row m lo q j b) → en_G κ 2 [some (en_R 27), some (en_I lo), some (en_I q), some (en_I (i : Int)), o, o'] [] M 0 0 := by
  have hI : ∀ k, 0 ≤ k → k < 39 → en_in κ k := hP
  intro f
  induction f with
  | zero =>
    intro i hi M o o' h1 h2 h3
    refine en_iload_n (i := 3) h dX3_fillRows_2 rfl rfl ?_
    refine en_bipush h dX3_fillRows_3 (by decide) ?_
    refine en_icmp_ge (tgt := 99) h dX3_fillRows_5 (by decide) (by omega) (by omega) (fun c_5 => ?_) (fun c_5 => ?_)
    · exact en_vret h hf dX3_fillRows_99 ⟨by decide, by decide⟩ ⟨rfl, h1, h2, fun j b j0 j1 b0 b1 => h3 j b j0 (by omega) b0 b1⟩
    · exact absurd c_5 (by omega)
  | succ f ih =>
    intro i hi M o o' h1 h2 h3
    have e21 : M 21 1 = m 21 1 := by rw [h1 21 (by decide)]
    have hr := ho.1 i (by omega) (by omega)
    have go : ∀ t : Int, (t = 0 ∨ t = 1) → (t = 1 ↔ ((i : Int) < m 21 1 ∧ (i : Int) ≠ lo ∧ xm_io m i = q)) → ∀ o' : Option en_V, en_G κ 46 [some (en_R 27), some (en_I lo), some (en_I q), some (en_I (i : Int)), some (en_I t), some (en_I 0)] [] M 0 0 := by
      intro t ht1 ht2 o'
      have e0 : M = en_ar M (m 28 i) ((0 : Nat) : Int) (xm_row m lo q i) := en_ar_0.symm
      rw [e0]
      refine lp_X3_fillRows_B hW hP h ⟨by omega, by omega⟩ hq ht1 ⟨by rw [h2], hr⟩ (fun e => ?_) (fun b => ?_) (fun o'' => ?_) 5 0 rfl
      · have q9 := hv i (by omega) (ht2.mp e).1
        exact ⟨xv_m_ag (en_of_ag h1) q9.1, fun b b0 b1 => by rw [xm_gr_ag (en_of_ag h1) q9.1]; exact q9.2.2.2 b b0 b1⟩
      · unfold xm_row
        by_cases e : t = 1 ∧ b ≠ q
        · have q9 := hv i (by omega) (ht2.mp e.1).1
          rw [if_pos e, if_pos ⟨ht2.mp e.1, e.2⟩, xm_gr_ag (en_of_ag h1) q9.1]
        · rw [if_neg e, if_neg (fun z => e ⟨ht2.mpr z.1, z.2⟩)]
      · refine en_iinc h dX3_fillRows_93 rfl (by decide) ?_
        refine en_goto (tgt := 2) h dX3_fillRows_96 (by decide) ?_
        refine ih (i + 1) (by omega) _ _ _ (fun k hk => by rw [en_ar_ne (by omega)]; exact h1 k hk) (by rw [en_ar_ne (by omega)]; exact h2) (fun j b j0 j1 b0 b1 => ?_)
        by_cases e : j = (i : Int)
        · rw [e, en_ar_at b0 b1]
        · rw [en_ar_ne (fun z => e (ho.2 j i j0 (by omega) (by omega) (by omega) z))]
          exact h3 j b j0 (by omega) b0 b1
    refine en_iload_n (i := 3) h dX3_fillRows_2 rfl rfl ?_
    refine en_bipush h dX3_fillRows_3 (by decide) ?_
    refine en_icmp_ge (tgt := 99) h dX3_fillRows_5 (by decide) (by omega) (by omega) (fun c_5 => ?_) (fun c_5 => ?_)
    · exact absurd c_5 (by omega)
    · refine en_iload_n (i := 3) h dX3_fillRows_8 rfl rfl ?_
      refine en_aload_n (i := 0) h dX3_fillRows_9 rfl rfl ?_
      refine en_getR h dX3_fillRows_10 fl_X3_fillRows_20 (hI _ (by omega) (by omega)) rfl rfl ?_
      refine en_getI (i := 1) h dX3_fillRows_13 fl_X3_fillRows_50 (hI _ (by omega) (by omega)) rfl rfl rfl e21 ?_
      refine en_icmp_ge (tgt := 40) h dX3_fillRows_16 (by decide) (by omega) (by omega) (fun c_16 => ?_) (fun c_16 => ?_)
      · refine en_iconst h dX3_fillRows_40 ?_
        refine en_istore (i := 4) h dX3_fillRows_41 (by decide) ?_
        refine en_iconst h dX3_fillRows_43 ?_
        refine en_istore (i := 5) h dX3_fillRows_44 (by decide) ?_
        exact go 0 (by omega) ⟨fun z => absurd z (by decide), fun z => absurd z.1 (by omega)⟩ o'
      · have q9 := hv i (by omega) c_16
        refine en_iload_n (i := 3) h dX3_fillRows_19 rfl rfl ?_
        refine en_iload_n (i := 1) h dX3_fillRows_20 rfl rfl ?_
        refine en_icmp_eq (tgt := 40) h dX3_fillRows_21 (by decide) (by omega) (by omega) (fun c_21 => ?_) (fun c_21 => ?_)
        · refine en_iconst h dX3_fillRows_40 ?_
          refine en_istore (i := 4) h dX3_fillRows_41 (by decide) ?_
          refine en_iconst h dX3_fillRows_43 ?_
          refine en_istore (i := 5) h dX3_fillRows_44 (by decide) ?_
          exact go 0 (by omega) ⟨fun z => absurd z (by decide), fun z => absurd z.2.1 (by omega)⟩ o'
        · refine en_aload_n (i := 0) h dX3_fillRows_24 rfl rfl ?_
          refine en_getR h dX3_fillRows_25 fl_X3_fillRows_20 (hI _ (by omega) (by omega)) rfl rfl ?_
          refine en_iload_n (i := 3) h dX3_fillRows_28 rfl rfl ?_
          refine en_callV h (k_X2_islandOf hW (fun k k0 k1 => hP k k0 (by omega)) ⟨by omega, by omega⟩ (xv_m_ag (en_of_ag h1) q9.1) (by rw [h1 26 (by decide)]; exact q9.2.1)) my_X2_islandOf gX3_fillRows_X2_islandOf (hI _ (by omega) (by omega)) rfl rfl rfl rfl ⟨by decide, by decide⟩ ⟨by decide, by decide⟩ (Nat.le_of_ble_eq_true rfl) dX3_fillRows_29 (fun r m' hp => ?_)
          obtain ⟨rfl, rfl⟩ := hp
          rw [xm_io_ag (en_of_ag h1)]
          refine en_iload_n (i := 2) h dX3_fillRows_32 rfl rfl ?_
          refine en_icmp_ne (tgt := 40) h dX3_fillRows_33 (by decide) q9.2.2.1 hq (fun c_33 => ?_) (fun c_33 => ?_)
          · refine en_iconst h dX3_fillRows_40 ?_
            refine en_istore (i := 4) h dX3_fillRows_41 (by decide) ?_
            refine en_iconst h dX3_fillRows_43 ?_
            refine en_istore (i := 5) h dX3_fillRows_44 (by decide) ?_
            exact go 0 (by omega) ⟨fun z => absurd z (by decide), fun z => absurd z.2.2 c_33⟩ o'
          · refine en_iconst h dX3_fillRows_36 ?_
            refine en_goto (tgt := 41) h dX3_fillRows_37 (by decide) ?_
            refine en_istore (i := 4) h dX3_fillRows_41 (by decide) ?_
            refine en_iconst h dX3_fillRows_43 ?_
            refine en_istore (i := 5) h dX3_fillRows_44 (by decide) ?_
            exact go 1 (by omega) ⟨fun _ => ⟨c_16, c_21, c_33⟩, fun _ => rfl⟩ o'
set_option maxRecDepth 100000 in
set_option maxHeartbeats 4000000 in
theorem k_X3_fillRows {l : Launch} {w : en_W} {m : en_M} {lo q : Int} (hw : en_Wok w) (hp : en_Has w 0 39) (ho : xr_ok m) (hlo : en_i32 lo) (hq : en_i32 q) (hn : 0 ≤ m 21 1 ∧ m 21 1 ≤ 10) (hv : ∀ i, 0 ≤ i → i < m 21 1 → xv_m m i ∧ (m 26 i = 0 ∨ m 26 i = 1) ∧ en_i32 (xm_io m i) ∧ ∀ b, 0 ≤ b → b < 5 → en_i32 (xm_gr m i b)) : en_Met l w yX3_fillRows wsX3_fillRows rm_X3_fillRows [en_R 27, en_I lo, en_I q] m (fun r m' => r = none ∧ en_of m' m ∧ m' 28 = m 28 ∧ ∀ i b, 0 ≤ i → i < 10 → 0 ≤ b → b < 5 → m' (m 28 i) b = xm_row m lo q i b) := by
  refine en_met my_X3_fillRows hw (Nat.le_of_ble_eq_true rfl) ?_
  intro κ hl9 hw9 h hf
  subst hw9
  subst hl9
  have hI : ∀ k, 0 ≤ k → k < 39 → en_in κ k := hp
  refine en_iconst h dX3_fillRows_0 ?_
  refine en_istore_n (i := 3) h dX3_fillRows_1 rfl (by decide) ?_
  exact lp_X3_fillRows_A hw hp h hf ho hlo hq hn hv 10 0 rfl m none none (fun k _ => rfl) rfl (fun j b j0 j1 => absurd j1 (by omega))
abbrev rm_X3_raisePivot : Room := { frames := 1, cells := 0, slots := 0, locals := 0 }
theorem my_X3_raisePivot : en_MY yX3_raisePivot RX3 cX3_raisePivot 5 (some .boolean) wsX3_raisePivot 2 := ⟨⟨_, rfl⟩, rfl, by decide, by decide, by decide +kernel, by decide +kernel⟩
set_option maxRecDepth 20000 in
theorem fl_X3_raisePivot_11 : en_FL wsX3_raisePivot RX3 11 3 2 := ⟨_, _, _, rfl, by decide, by decide +kernel, Or.inl (by decide +kernel)⟩
def xm_rp (m : en_M) (p t : Int) : en_M := en_set (en_set m 28 p (m 28 t)) 28 t (m 28 p)
set_option maxRecDepth 100000 in
set_option maxHeartbeats 4000000 in
theorem lp_X3_raisePivot {κ : en_C} {m : en_M} {t b : Int} (hP : en_Has (en_w κ) 0 39) (h : en_Ok κ RX3 cX3_raisePivot 5 wsX3_raisePivot rm_X3_raisePivot) (hf : en_fin κ rm_X3_raisePivot (some .boolean) (fun r m' => r = some (en_I (if la_fd (xr_E m) b (10 - t).toNat t < 10 then 1 else 0)) ∧ m' = if la_fd (xr_E m) b (10 - t).toNat t < 10 then xm_rp m (la_fd (xr_E m) b (10 - t).toNat t) t else m)) (ho : xr_ok m) (ht : 0 ≤ t) (hb : 0 ≤ b ∧ b < 5) (hr : ∀ r, t ≤ r → r < 10 → -9223372036854775808 ≤ m (m 28 r) b ∧ m (m 28 r) b ≤ 9223372036854775808) : ∀ (f : Nat) (i : Int), i + f = 10 → t ≤ i → la_fd (xr_E m) b (10 - t).toNat t = la_fd (xr_E m) b f i → en_G κ 2 [some (en_R 27), some (en_I t), some (en_I b), some (en_I i), none] [] m 0 0 := by
  have hI : ∀ k, 0 ≤ k → k < 39 → en_in κ k := hP
  intro f
  induction f with
  | zero =>
    intro i hi hti he
    have e9 : la_fd (xr_E m) b (10 - t).toNat t = i := he
    refine en_iload_n (i := 3) h dX3_raisePivot_2 rfl rfl ?_
    refine en_bipush h dX3_raisePivot_3 (by decide) ?_
    refine en_icmp_ge (tgt := 57) h dX3_raisePivot_5 (by decide) (by omega) (by omega) (fun c_5 => ?_) (fun c_5 => ?_)
    · refine en_iconst h dX3_raisePivot_57 ?_
      exact en_zret h hf dX3_raisePivot_58 ⟨by decide, by decide⟩ (by omega) ⟨by rw [e9, if_neg (show ¬ i < 10 by omega)], by rw [e9, if_neg (show ¬ i < 10 by omega)]⟩
    · exact absurd c_5 (by omega)
  | succ f ih =>
    intro i hi hti he
    have hr9 := ho.1 i (by omega) (by omega)
    have ht9 := ho.1 t (by omega) (by omega)
    refine en_iload_n (i := 3) h dX3_raisePivot_2 rfl rfl ?_
    refine en_bipush h dX3_raisePivot_3 (by decide) ?_
    refine en_icmp_ge (tgt := 57) h dX3_raisePivot_5 (by decide) (by omega) (by omega) (fun c_5 => ?_) (fun c_5 => ?_)
    · exact absurd c_5 (by omega)
    · refine en_aload_n (i := 0) h dX3_raisePivot_8 rfl rfl ?_
      refine en_getR h dX3_raisePivot_9 fl_X3_raisePivot_11 (hI _ (by omega) (by omega)) rfl rfl ?_
      refine en_iload_n (i := 3) h dX3_raisePivot_12 rfl rfl ?_
      refine en_aaloadD4 h dX3_raisePivot_13 (hI _ (by omega) (by omega)) rfl (by omega) rfl ?_
      refine en_iload_n (i := 2) h dX3_raisePivot_14 rfl rfl ?_
      refine en_laload h dX3_raisePivot_15 (hI _ (by omega) (by omega)) (ly_rows (by omega) (by omega)) (by omega) rfl ?_
      refine en_lconst (z := 0) h dX3_raisePivot_16 rfl ?_
      refine en_lcmp h dX3_raisePivot_17 ?_
      refine en_if_eq (tgt := 51) h dX3_raisePivot_18 (by decide) (en_cmp_r _ _) (fun c_18 => ?_) (fun c_18 => ?_)
      · refine en_iinc h dX3_raisePivot_51 rfl (by decide) ?_
        refine en_goto (tgt := 2) h dX3_raisePivot_54 (by decide) ?_
        have z := (en_cz (hr i hti (by omega))).mp c_18
        refine ih (i + 1) (by omega) (by omega) ?_
        rw [he]
        simp only [la_fd]
        rw [if_neg (fun q => q z)]
      · have z : m (m 28 i) b ≠ 0 := fun q => c_18 ((en_cz (hr i hti (by omega))).mpr q)
        have e9 : la_fd (xr_E m) b (10 - t).toNat t = i := by
          rw [he]
          simp only [la_fd]
          exact if_pos z
        refine en_aload_n (i := 0) h dX3_raisePivot_21 rfl rfl ?_
        refine en_getR h dX3_raisePivot_22 fl_X3_raisePivot_11 (hI _ (by omega) (by omega)) rfl rfl ?_
        refine en_iload_n (i := 3) h dX3_raisePivot_25 rfl rfl ?_
        refine en_aaloadD4 h dX3_raisePivot_26 (hI _ (by omega) (by omega)) rfl (by omega) rfl ?_
        refine en_astore (i := 4) h dX3_raisePivot_27 (by decide) ?_
        refine en_aload_n (i := 0) h dX3_raisePivot_29 rfl rfl ?_
        refine en_getR h dX3_raisePivot_30 fl_X3_raisePivot_11 (hI _ (by omega) (by omega)) rfl rfl ?_
        refine en_iload_n (i := 3) h dX3_raisePivot_33 rfl rfl ?_
        refine en_aload_n (i := 0) h dX3_raisePivot_34 rfl rfl ?_
        refine en_getR h dX3_raisePivot_35 fl_X3_raisePivot_11 (hI _ (by omega) (by omega)) rfl rfl ?_
        refine en_iload_n (i := 1) h dX3_raisePivot_38 rfl rfl ?_
        refine en_aaloadD4 h dX3_raisePivot_39 (hI _ (by omega) (by omega)) rfl (by omega) rfl ?_
        refine en_aastoreD4 h dX3_raisePivot_40 (hI _ (by omega) (by omega)) rfl (hI _ (by omega) (by omega)) (ly_rows (by omega) (by omega)) ⟨by omega, by omega⟩ ?_
        refine en_aload_n (i := 0) h dX3_raisePivot_41 rfl rfl ?_
        refine en_getR h dX3_raisePivot_42 fl_X3_raisePivot_11 (hI _ (by omega) (by omega)) rfl rfl ?_
        refine en_iload_n (i := 1) h dX3_raisePivot_45 rfl rfl ?_
        refine en_aload (i := 4) h dX3_raisePivot_46 rfl ?_
        refine en_aastoreD4 h dX3_raisePivot_48 (hI _ (by omega) (by omega)) rfl (hI _ (by omega) (by omega)) (ly_rows (by omega) (by omega)) ⟨by omega, by omega⟩ ?_
        refine en_iconst h dX3_raisePivot_49 ?_
        exact en_zret h hf dX3_raisePivot_50 ⟨by decide, by decide⟩ (by omega) ⟨by rw [e9, if_pos (show i < 10 by omega)], by rw [e9, if_pos (show i < 10 by omega)]; rfl⟩
set_option maxRecDepth 100000 in
set_option maxHeartbeats 4000000 in
theorem k_X3_raisePivot {l : Launch} {w : en_W} {m : en_M} {t b : Int} (hw : en_Wok w) (hp : en_Has w 0 39) (ho : xr_ok m) (ht : 0 ≤ t ∧ t ≤ 10) (hb : 0 ≤ b ∧ b < 5) (hr : ∀ r, t ≤ r → r < 10 → -9223372036854775808 ≤ m (m 28 r) b ∧ m (m 28 r) b ≤ 9223372036854775808) : en_Met l w yX3_raisePivot wsX3_raisePivot rm_X3_raisePivot [en_R 27, en_I t, en_I b] m (fun r m' => r = some (en_I (if la_fd (xr_E m) b (10 - t).toNat t < 10 then 1 else 0)) ∧ m' = if la_fd (xr_E m) b (10 - t).toNat t < 10 then xm_rp m (la_fd (xr_E m) b (10 - t).toNat t) t else m) := by
  refine en_met my_X3_raisePivot hw (Nat.le_of_ble_eq_true rfl) ?_
  intro κ hl9 hw9 h hf
  subst hw9
  subst hl9
  have hI : ∀ k, 0 ≤ k → k < 39 → en_in κ k := hp
  refine en_iload_n (i := 1) h dX3_raisePivot_0 rfl rfl ?_
  refine en_istore_n (i := 3) h dX3_raisePivot_1 rfl (by decide) ?_
  exact lp_X3_raisePivot hp h hf ho ht.1 hb hr (10 - t).toNat t (by omega) (Int.le_refl _) rfl
abbrev rm_X3_clearBelow : Room := { frames := 1, cells := 0, slots := 0, locals := 0 }
theorem my_X3_clearBelow : en_MY yX3_clearBelow RX3 cX3_clearBelow 9 none wsX3_clearBelow 2 := ⟨⟨_, rfl⟩, rfl, by decide, by decide, by decide +kernel, by decide +kernel⟩
set_option maxRecDepth 20000 in
theorem fl_X3_clearBelow_11 : en_FL wsX3_clearBelow RX3 11 3 2 := ⟨_, _, _, rfl, by decide, by decide +kernel, Or.inl (by decide +kernel)⟩
set_option maxRecDepth 100000 in
set_option maxHeartbeats 4000000 in
theorem lp_X3_clearBelow_B {κ : en_C} {m : en_M} {t b i pv fc p pt : Int} {F : Int → Int} (hP : en_Has (en_w κ) 0 39) (h : en_Ok κ RX3 cX3_clearBelow 9 wsX3_clearBelow rm_X3_clearBelow) (hi : 0 ≤ i ∧ i < 10) (ht : 0 ≤ t ∧ t < 10) (hp : m 28 i = p ∧ 29 ≤ p ∧ p < 39) (hpt : m 28 t = pt ∧ 29 ≤ pt ∧ pt < 39 ∧ pt ≠ p) (hF : ∀ c, F c = pv * m p c - fc * m pt c) (K : ∀ o, en_G κ 82 [some (en_R 27), some (en_I t), some (en_I b), some (en_L pv), none, some (en_I i), some (en_L fc), none, o] [] (en_ar m p 5 F) 0 0) : ∀ (f c : Nat), f + c = 5 → en_G κ 35 [some (en_R 27), some (en_I t), some (en_I b), some (en_L pv), none, some (en_I i), some (en_L fc), none, some (en_I (c : Int))] [] (en_ar m p c F) 0 0 := by
  have hI : ∀ k, 0 ≤ k → k < 39 → en_in κ k := hP
  intro f
  induction f with
  | zero =>
    intro c hc
    refine en_iload (i := 8) h dX3_clearBelow_35 rfl ?_
    refine en_iconst h dX3_clearBelow_37 ?_
    refine en_icmp_ge (tgt := 82) h dX3_clearBelow_38 (by decide) (by omega) (by omega) (fun c_38 => ?_) (fun c_38 => ?_)
    · rw [show (c : Int) = 5 by omega]
      exact K _
    · exact absurd c_38 (by omega)
  | succ f ih =>
    intro c hc
    have e28 : en_ar m p c F 28 i = p := by rw [en_ar_ne (by omega)]; exact hp.1
    have e29 : en_ar m p c F 28 t = pt := by rw [en_ar_ne (by omega)]; exact hpt.1
    have e1 : en_ar m p c F p c = m p c := by unfold en_ar; rw [if_neg (by omega)]
    have e2 : en_ar m p c F pt c = m pt c := by rw [en_ar_ne (by omega)]
    refine en_iload (i := 8) h dX3_clearBelow_35 rfl ?_
    refine en_iconst h dX3_clearBelow_37 ?_
    refine en_icmp_ge (tgt := 82) h dX3_clearBelow_38 (by decide) (by omega) (by omega) (fun c_38 => ?_) (fun c_38 => ?_)
    · exact absurd c_38 (by omega)
    · refine en_aload_n (i := 0) h dX3_clearBelow_41 rfl rfl ?_
      refine en_getR h dX3_clearBelow_42 fl_X3_clearBelow_11 (hI _ (by omega) (by omega)) rfl rfl ?_
      refine en_iload (i := 5) h dX3_clearBelow_45 rfl ?_
      refine en_aaloadD4 h dX3_clearBelow_47 (hI _ (by omega) (by omega)) rfl (by omega) e28 ?_
      refine en_iload (i := 8) h dX3_clearBelow_48 rfl ?_
      refine en_lload_n (i := 3) h dX3_clearBelow_50 rfl rfl ?_
      refine en_aload_n (i := 0) h dX3_clearBelow_51 rfl rfl ?_
      refine en_getR h dX3_clearBelow_52 fl_X3_clearBelow_11 (hI _ (by omega) (by omega)) rfl rfl ?_
      refine en_iload (i := 5) h dX3_clearBelow_55 rfl ?_
      refine en_aaloadD4 h dX3_clearBelow_57 (hI _ (by omega) (by omega)) rfl (by omega) e28 ?_
      refine en_iload (i := 8) h dX3_clearBelow_58 rfl ?_
      refine en_laload h dX3_clearBelow_60 (hI _ (by omega) (by omega)) (ly_rows (by omega) (by omega)) (by omega) e1 ?_
      refine en_lmul h dX3_clearBelow_61 ?_
      refine en_lload (i := 6) h dX3_clearBelow_62 rfl ?_
      refine en_aload_n (i := 0) h dX3_clearBelow_64 rfl rfl ?_
      refine en_getR h dX3_clearBelow_65 fl_X3_clearBelow_11 (hI _ (by omega) (by omega)) rfl rfl ?_
      refine en_iload_n (i := 1) h dX3_clearBelow_68 rfl rfl ?_
      refine en_aaloadD4 h dX3_clearBelow_69 (hI _ (by omega) (by omega)) rfl (by omega) e29 ?_
      refine en_iload (i := 8) h dX3_clearBelow_70 rfl ?_
      refine en_laload h dX3_clearBelow_72 (hI _ (by omega) (by omega)) (ly_rows (by omega) (by omega)) (by omega) e2 ?_
      refine en_lmul h dX3_clearBelow_73 ?_
      refine en_lsub h dX3_clearBelow_74 ?_
      refine en_lastore h dX3_clearBelow_75 (hI _ (by omega) (by omega)) (ly_rows (by omega) (by omega)) (by omega) ?_
      refine en_iinc h dX3_clearBelow_76 rfl (by decide) ?_
      refine en_goto (tgt := 35) h dX3_clearBelow_79 (by decide) ?_
      rw [en_ar_push (by omega) (hF c)]
      exact ih (c + 1) (by omega)
set_option maxRecDepth 100000 in
set_option maxHeartbeats 4000000 in
theorem lp_X3_clearBelow_A {κ : en_C} {m : en_M} {t b : Int} (hP : en_Has (en_w κ) 0 39) (h : en_Ok κ RX3 cX3_clearBelow 9 wsX3_clearBelow rm_X3_clearBelow) (hf : en_fin κ rm_X3_clearBelow none (fun r m' => r = none ∧ en_of m' m ∧ m' 28 = m 28 ∧ ∀ i c, 0 ≤ i → i < 10 → 0 ≤ c → c < 5 → m' (m 28 i) c = la_cb (xr_E m) t b i c)) (ho : xr_ok m) (ht : 0 ≤ t ∧ t < 10) (hb : 0 ≤ b ∧ b < 5) : ∀ (f : Nat) (i : Int), i + f = 10 → t < i → ∀ (M : en_M) (o o' : Option en_V), en_of M m → M 28 = m 28 → (∀ j c, 0 ≤ j → j < 10 → 0 ≤ c → c < 5 → M (m 28 j) c = if j < i then la_cb (xr_E m) t b j c else m (m 28 j) c) → en_G κ 14 [some (en_R 27), some (en_I t), some (en_I b), some (en_L (m (m 28 t) b)), none, some (en_I i), o, none, o'] [] M 0 0 := by
  have hI : ∀ k, 0 ≤ k → k < 39 → en_in κ k := hP
  intro f
  induction f with
  | zero =>
    intro i hi hti M o o' h1 h2 h3
    refine en_iload (i := 5) h dX3_clearBelow_14 rfl ?_
    refine en_bipush h dX3_clearBelow_16 (by decide) ?_
    refine en_icmp_ge (tgt := 88) h dX3_clearBelow_18 (by decide) (by omega) (by omega) (fun c_18 => ?_) (fun c_18 => ?_)
    · exact en_vret h hf dX3_clearBelow_88 ⟨by decide, by decide⟩ ⟨rfl, h1, h2, fun j c j0 j1 c0 c1 => by rw [h3 j c j0 j1 c0 c1, if_pos (by omega)]⟩
    · exact absurd c_18 (by omega)
  | succ f ih =>
    intro i hi hti M o o' h1 h2 h3
    have hr := ho.1 i (by omega) (by omega)
    have hrt := ho.1 t (by omega) (by omega)
    have hne : m 28 t ≠ m 28 i := fun z => absurd (ho.2 t i (by omega) (by omega) (by omega) (by omega) z) (by omega)
    have ei : ∀ c, 0 ≤ c → c < 5 → M (m 28 i) c = m (m 28 i) c := fun c c0 c1 => by rw [h3 i c (by omega) (by omega) c0 c1, if_neg (by omega)]
    have et : ∀ c, 0 ≤ c → c < 5 → M (m 28 t) c = m (m 28 t) c := fun c c0 c1 => by
      rw [h3 t c (by omega) (by omega) c0 c1, if_pos (by omega)]
      unfold la_cb
      rw [if_neg (by omega)]
      rfl
    refine en_iload (i := 5) h dX3_clearBelow_14 rfl ?_
    refine en_bipush h dX3_clearBelow_16 (by decide) ?_
    refine en_icmp_ge (tgt := 88) h dX3_clearBelow_18 (by decide) (by omega) (by omega) (fun c_18 => ?_) (fun c_18 => ?_)
    · exact absurd c_18 (by omega)
    · refine en_aload_n (i := 0) h dX3_clearBelow_21 rfl rfl ?_
      refine en_getR h dX3_clearBelow_22 fl_X3_clearBelow_11 (hI _ (by omega) (by omega)) rfl rfl ?_
      refine en_iload (i := 5) h dX3_clearBelow_25 rfl ?_
      refine en_aaloadD4 h dX3_clearBelow_27 (hI _ (by omega) (by omega)) rfl (by omega) (show M 28 i = m 28 i by rw [h2]) ?_
      refine en_iload_n (i := 2) h dX3_clearBelow_28 rfl rfl ?_
      refine en_laload h dX3_clearBelow_29 (hI _ (by omega) (by omega)) (ly_rows (by omega) (by omega)) (by omega) (ei b hb.1 hb.2) ?_
      refine en_lstore (i := 6) h dX3_clearBelow_30 (by decide) ?_
      refine en_iconst h dX3_clearBelow_32 ?_
      refine en_istore (i := 8) h dX3_clearBelow_33 (by decide) ?_
      have e0 : M = en_ar M (m 28 i) ((0 : Nat) : Int) (fun c => m (m 28 t) b * M (m 28 i) c - m (m 28 i) b * M (m 28 t) c) := en_ar_0.symm
      rw [e0]
      refine lp_X3_clearBelow_B hP h ⟨by omega, by omega⟩ ht ⟨by rw [h2], hr⟩ ⟨by rw [h2], hrt.1, hrt.2, hne⟩ (fun c => rfl) (fun o'' => ?_) 5 0 rfl
      refine en_iinc h dX3_clearBelow_82 rfl (by decide) ?_
      refine en_goto (tgt := 14) h dX3_clearBelow_85 (by decide) ?_
      refine ih (i + 1) (by omega) (by omega) _ _ _ (fun k hk => by rw [en_ar_ne (by omega)]; exact h1 k hk) (by rw [en_ar_ne (by omega)]; exact h2) (fun j c j0 j1 c0 c1 => ?_)
      by_cases e : j = i
      · rw [e, en_ar_at c0 c1, if_pos (by omega), ei c c0 c1, et c c0 c1]
        unfold la_cb xr_E
        rw [if_pos hti]
      · rw [en_ar_ne (fun z => e (ho.2 j i j0 (by omega) (by omega) (by omega) z)), h3 j c j0 j1 c0 c1]
        by_cases e2 : j < i
        · rw [if_pos e2, if_pos (by omega)]
        · rw [if_neg e2, if_neg (by omega)]
set_option maxRecDepth 100000 in
set_option maxHeartbeats 4000000 in
theorem k_X3_clearBelow {l : Launch} {w : en_W} {m : en_M} {t b : Int} (hw : en_Wok w) (hp : en_Has w 0 39) (ho : xr_ok m) (ht : 0 ≤ t ∧ t < 10) (hb : 0 ≤ b ∧ b < 5) : en_Met l w yX3_clearBelow wsX3_clearBelow rm_X3_clearBelow [en_R 27, en_I t, en_I b] m (fun r m' => r = none ∧ en_of m' m ∧ m' 28 = m 28 ∧ ∀ i c, 0 ≤ i → i < 10 → 0 ≤ c → c < 5 → m' (m 28 i) c = la_cb (xr_E m) t b i c) := by
  refine en_met my_X3_clearBelow hw (Nat.le_of_ble_eq_true rfl) ?_
  intro κ hl9 hw9 h hf
  subst hw9
  subst hl9
  have hI : ∀ k, 0 ≤ k → k < 39 → en_in κ k := hp
  have hrt := ho.1 t (by omega) (by omega)
  refine en_aload_n (i := 0) h dX3_clearBelow_0 rfl rfl ?_
  refine en_getR h dX3_clearBelow_1 fl_X3_clearBelow_11 (hI _ (by omega) (by omega)) rfl rfl ?_
  refine en_iload_n (i := 1) h dX3_clearBelow_4 rfl rfl ?_
  refine en_aaloadD4 h dX3_clearBelow_5 (hI _ (by omega) (by omega)) rfl (by omega) rfl ?_
  refine en_iload_n (i := 2) h dX3_clearBelow_6 rfl rfl ?_
  refine en_laload h dX3_clearBelow_7 (hI _ (by omega) (by omega)) (ly_rows (by omega) (by omega)) (by omega) rfl ?_
  refine en_lstore_n (i := 3) h dX3_clearBelow_8 rfl (by decide) ?_
  refine en_iload_n (i := 1) h dX3_clearBelow_9 rfl rfl ?_
  refine en_iconst h dX3_clearBelow_10 ?_
  refine en_iadd h dX3_clearBelow_11 ?_
  refine en_istore (i := 5) h dX3_clearBelow_12 (by decide) ?_
  refine lp_X3_clearBelow_A hp h hf ho ht hb (10 - (t + 1)).toNat (t + 1) (by omega) (by omega) m none none (fun k _ => rfl) rfl (fun j c j0 j1 c0 c1 => ?_)
  by_cases e : j < t + 1
  · rw [if_pos e]
    unfold la_cb
    rw [if_neg (by omega)]
    rfl
  · rw [if_neg e]
