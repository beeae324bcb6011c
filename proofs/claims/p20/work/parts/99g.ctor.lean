/-! CONSTRUCTORS 4: the estimator -/
theorem ek_sa : ∀ {a a' b b' : va_W}, ek_sim a a' → ek_sim b b' → ek_sim (a ++ b) (a' ++ b')
  | [], [], _, _, _, h => h
  | x :: t, y :: u, _, _, h1, h2 => ⟨h1.1, h1.2.1, ek_sa h1.2.2 h2⟩
  | [], _ :: _, _, _, h, _ => h.elim
  | _ :: _, [], _, _, h, _ => h.elim
/-- the places that a cell refers to -/
def en_rl (k : Int) : List Int := match en_ly k with
  | .inl (t, N, b) => if t < 3 then [] else (List.range N).map (fun j : Nat => b + (j : Int))
  | .inr (_, fl) => (fl.filter (fun f => decide (2 ≤ f.1))).map (fun f => f.2)
def en_bn (k : Int) : Bool := match en_ly k with
  | .inl (_, _, b) => decide (0 ≤ b)
  | .inr _ => true
theorem en_fl_e {ad ad' : Int → Nat} {m m' : en_M} {k : Int} (hm : m' k = m k) : ∀ (fl : List (Nat × Int)) (i : Nat), (∀ f, f ∈ fl → 2 ≤ f.1 → ad' f.2 = ad f.2) → en_fl ad m k i fl = en_fl ad' m' k i fl
  | [], _, _ => rfl
  | f :: t, i, h => by
    simp only [en_fl]
    rw [en_fl_e hm t (i + 1) (fun g hg => h g (List.mem_cons_of_mem _ hg))]
    congr 1
    unfold en_fv
    rw [hm]
    by_cases c0 : f.1 = 0
    · rw [if_pos c0, if_pos c0]
    · rw [if_neg c0, if_neg c0]
      by_cases c1 : f.1 = 1
      · rw [if_pos c1, if_pos c1]
      · rw [if_neg c1, if_neg c1, h f List.mem_cons_self (by omega)]
theorem en_ct_e {cy : Nat → ClassId} {ad ad' : Int → Nat} {m m' : en_M} {k : Int} (hm : m' k = m k) (hb : en_bn k = true) (hr : ∀ i, i ∈ en_rl k → ad' i = ad i) : ek_e (en_ct cy ad m k) (en_ct cy ad' m' k) := by
  unfold en_bn at hb
  unfold en_rl at hr
  unfold en_ct
  cases hy : en_ly k with
  | inl y =>
    obtain ⟨t, N, b⟩ := y
    rw [hy] at hb hr
    dsimp only at hb hr ⊢
    rw [decide_eq_true_iff] at hb
    unfold en_ac
    by_cases c0 : t = 0 ∨ t = 2
    · rw [if_pos c0, if_pos c0, hm]
      exact ek_er _
    · rw [if_neg c0, if_neg c0]
      by_cases c1 : t = 1
      · rw [if_pos c1, if_pos c1, hm]
        exact ek_er _
      · rw [if_neg c1, if_neg c1]
        rw [if_neg (by omega)] at hr
        refine ek_eq (fun j hj => ?_)
        rw [if_neg (by omega), if_neg (by omega)]
        exact congrArg some (hr (b + (j : Int)) (List.mem_map.mpr ⟨j, List.mem_range.mpr hj, rfl⟩)).symm
  | inr y =>
    obtain ⟨ci, fl⟩ := y
    rw [hy] at hr
    dsimp only at hr ⊢
    rw [en_fl_e hm fl 0 (fun f hf h2 => hr f.2 (List.mem_map.mpr ⟨f, List.mem_filter.mpr ⟨hf, decide_eq_true h2⟩, rfl⟩))]
    exact ek_er _
theorem en_ws_sim {cy : Nat → ClassId} {ad ad' : Int → Nat} {m m' : en_M} : ∀ PL : List Int, (∀ k, k ∈ PL → ad' k = ad k ∧ ek_e (en_ct cy ad m k) (en_ct cy ad' m' k)) → ek_sim (en_ws cy ad PL m) (en_ws cy ad' PL m')
  | [], _ => trivial
  | k :: t, h => ek_sc (h k List.mem_cons_self).1.symm (h k List.mem_cons_self).2 (en_ws_sim t (fun i hi => h i (List.mem_cons_of_mem _ hi)))
def en_okg (lo hi x y : Int) (PL : List Int) : Bool := PL.all (fun k => decide (lo ≤ k) && decide (k < hi) && (decide (k = 28) || (en_bn k && (en_rl k).all (fun i => (decide (lo ≤ i) && decide (i < hi)) || decide (i = x) || decide (i = y)))))
theorem en_ws_grp {cy : Nat → ClassId} {ad ad' : Int → Nat} {m m' : en_M} (lo hi x y : Int) (PL : List Int) (hPL : en_okg lo hi x y PL = true) (had : ∀ i, lo ≤ i → i < hi → ad' i = ad i) (hx : ad' x = ad x) (hy : ad' y = ad y) (hm : ∀ k, lo ≤ k → k < hi → m' k = m k) (h28 : 28 ∈ PL → ek_e (en_ct cy ad m 28) (en_ct cy ad' m' 28)) : ek_sim (en_ws cy ad PL m) (en_ws cy ad' PL m') := by
  refine en_ws_sim PL (fun k hk => ?_)
  have z := List.all_eq_true.mp hPL k hk
  simp only [Bool.and_eq_true, Bool.or_eq_true, decide_eq_true_eq, List.all_eq_true] at z
  obtain ⟨⟨z1, z2⟩, z3⟩ := z
  refine ⟨had k z1 z2, ?_⟩
  by_cases c : k = 28
  · subst c
    exact h28 hk
  · obtain ⟨z4, z5⟩ := z3.resolve_left c
    refine en_ct_e (hm k z1 z2) z4 (fun i hi => ?_)
    rcases z5 i hi with (⟨z6, z7⟩ | z6) | z6
    · exact had i z6 z7
    · rw [z6]; exact hx
    · rw [z6]; exact hy
abbrev P49 : List Int := 49 :: (((P1 ++ P2) ++ P3) ++ P4)
def mk_nb (z : Int) : Int := max 2 (min z 5)
def mk_49 (z : Int) : en_M := fun k => if k < 21 then mk_1 (mk_nb z) k else if k < 27 then mk_0 k else if k < 39 then mk_3 k else mk_4 k
set_option maxRecDepth 20000 in
theorem fk_X4_23 : en_FK wsX4_init RX4 23 4 0 := ⟨_, _, _, rfl, by decide, by decide +kernel, by decide +kernel⟩
theorem fpk_4_0 : en_FPK RX4 4 0 (.object "GridEstimator$Grid") := ⟨_, _, _, rfl, ⟨tyX4, tyX4_ok⟩, nmX4, Or.inr ⟨by decide +kernel, by decide +kernel⟩, by decide +kernel⟩
set_option maxRecDepth 20000 in
theorem fk_X4_32 : en_FK wsX4_init RX4 32 4 1 := ⟨_, _, _, rfl, by decide, by decide +kernel, by decide +kernel⟩
theorem fpk_4_1 : en_FPK RX4 4 1 (.object "GridEstimator$Meters") := ⟨_, _, _, rfl, ⟨tyX4, tyX4_ok⟩, nmX4, Or.inr ⟨by decide +kernel, by decide +kernel⟩, by decide +kernel⟩
set_option maxRecDepth 20000 in
theorem fk_X4_41 : en_FK wsX4_init RX4 41 4 2 := ⟨_, _, _, rfl, by decide, by decide +kernel, by decide +kernel⟩
theorem fpk_4_2 : en_FPK RX4 4 2 (.object "GridEstimator$Observation") := ⟨_, _, _, rfl, ⟨tyX4, tyX4_ok⟩, nmX4, Or.inr ⟨by decide +kernel, by decide +kernel⟩, by decide +kernel⟩
set_option maxRecDepth 20000 in
theorem fk_X4_48 : en_FK wsX4_init RX4 48 4 3 := ⟨_, _, _, rfl, by decide, by decide +kernel, by decide +kernel⟩
theorem fpk_4_3 : en_FPK RX4 4 3 (.object "GridEstimator$Estimate") := ⟨_, _, _, rfl, ⟨tyX4, tyX4_ok⟩, nmX4, Or.inr ⟨by decide +kernel, by decide +kernel⟩, by decide +kernel⟩
theorem my_X4_init : en_MY yX4_init RX4 cX4_init 2 none wsX4_init 1 := ⟨⟨_, rfl⟩, rfl, by decide, by decide, by decide +kernel, by decide +kernel⟩
abbrev rm_X4_init : Room := { frames := 5, cells := 49, slots := 323, locals := 109 }
theorem jj_X4_init_min : en_J wsX4_init RX4 11 Lib.Math.min.name Lib.Math.min.code 2 (some .int) := ⟨by decide +kernel, by decide +kernel, by decide +kernel, by decide +kernel⟩
theorem jj_X4_init_max : en_J wsX4_init RX4 17 Lib.Math.max.name Lib.Math.max.code 2 (some .int) := ⟨by decide +kernel, by decide +kernel, by decide +kernel, by decide +kernel⟩
theorem en_d0 : Value.int 0 = .int (Int32.ofInt 0) := by rw [show Int32.ofInt 0 = 0 from by decide]
theorem en_d0L : Value.long 0 = .long (Int64.ofInt 0) := by rw [show Int64.ofInt 0 = 0 from by decide]
theorem fs_X0 : ∀ j, j < 7 → defaultValue (tyX0 j) = vp_V [.null, .null, .null, .null, .null, .null, .long (Int64.ofInt 0)] j := by
  intro j hj
  rcases (show j = 0 ∨ j = 1 ∨ j = 2 ∨ j = 3 ∨ j = 4 ∨ j = 5 ∨ j = 6 by omega) with rfl | rfl | rfl | rfl | rfl | rfl | rfl <;> first | rfl | exact en_d0 | exact en_d0L
theorem fs_X1 : ∀ j, j < 9 → defaultValue (tyX1 j) = vp_V [.int (Int32.ofInt 0), .int (Int32.ofInt 0), .null, .null, .null, .null, .null, .null, .null] j := by
  intro j hj
  rcases (show j = 0 ∨ j = 1 ∨ j = 2 ∨ j = 3 ∨ j = 4 ∨ j = 5 ∨ j = 6 ∨ j = 7 ∨ j = 8 by omega) with rfl | rfl | rfl | rfl | rfl | rfl | rfl | rfl | rfl <;> first | rfl | exact en_d0 | exact en_d0L
theorem fs_X2 : ∀ j, j < 7 → defaultValue (tyX2 j) = vp_V [.null, .int (Int32.ofInt 0), .null, .null, .null, .null, .null] j := by
  intro j hj
  rcases (show j = 0 ∨ j = 1 ∨ j = 2 ∨ j = 3 ∨ j = 4 ∨ j = 5 ∨ j = 6 by omega) with rfl | rfl | rfl | rfl | rfl | rfl | rfl <;> first | rfl | exact en_d0 | exact en_d0L
theorem fs_X3 : ∀ j, j < 3 → defaultValue (tyX3 j) = vp_V [.null, .null, .null] j := by
  intro j hj
  rcases (show j = 0 ∨ j = 1 ∨ j = 2 by omega) with rfl | rfl | rfl <;> first | rfl | exact en_d0 | exact en_d0L
set_option maxRecDepth 100000 in
set_option maxHeartbeats 4000000 in
theorem k_X4_init {l : Launch} {D : va_G} {cy : Nat → ClassId} {a0 : Nat} {z : Int} (rz : en_i32 z) : ek_Met l D cy yX4_init wsX4_init rm_X4_init a0 4 [.null, .null, .null, .null] [.int (Int32.ofInt z)] (fun W => ∃ ad : Int → Nat, ad 49 = a0 ∧ ek_sim W (en_ws cy ad P49 (mk_49 z))) := by
  refine ek_met my_X4_init rfl (Nat.le_of_ble_eq_true rfl) ?_
  intro κ hl9 hD9 hcy h hf hi9
  subst hcy
  subst hD9
  subst hl9
  refine ek_aload (i := 0) (j := 0) h dX4_init_0 rfl rfl ?_
  refine ek_obj h dX4_init_1 (by decide +kernel) (by decide +kernel) (by decide +kernel) ⟨by decide, by decide⟩ ?_
  refine ek_aload (i := 0) (j := 0) h dX4_init_4 rfl rfl ?_
  refine ek_new (ci := 1) (fs := [.int (Int32.ofInt 0), .int (Int32.ofInt 0), .null, .null, .null, .null, .null, .null, .null]) h dX4_init_5 rfl (by decide +kernel) tyX1_ok (by decide +kernel) (by decide +kernel) (by decide +kernel) fs_X1 ⟨by decide, by decide⟩ (fun g => ?_)
  refine ek_ws (ws' := (((a0, .inr (4, [.null, .null, .null, .null])) :: []) ++ [(g, .inr (1, [.int (Int32.ofInt 0), .int (Int32.ofInt 0), .null, .null, .null, .null, .null, .null, .null]))])) rfl ?_
  refine ek_dup h dX4_init_8 ?_
  refine ek_iconst h dX4_init_9 ?_
  refine ek_iload (i := 1) (j := 1) h dX4_init_10 rfl rfl ?_
  refine ek_iconst h dX4_init_11 ?_
  refine ek_mmin h jj_X4_init_min ⟨by decide, by decide⟩ (by decide) (Nat.le_of_ble_eq_true rfl) dX4_init_12 rz (by decide) ?_
  refine ek_mmax h jj_X4_init_max ⟨by decide, by decide⟩ (by decide) (Nat.le_of_ble_eq_true rfl) dX4_init_15 (by decide) (by constructor <;> omega) ?_
  refine ek_call h (k_X1_init (nb := mk_nb z)) my_X1_init gX4_init_X1_init rfl (by decide +kernel) (by decide +kernel) (by decide +kernel) rfl rfl ⟨by decide, by decide⟩ ⟨by decide, by decide⟩ (Nat.le_of_ble_eq_true rfl) dX4_init_18 (fun W1 hW1 => ?_)
  obtain ⟨ad1, e1, s1⟩ := hW1
  refine ek_conv (ws' := ((a0, .inr (4, [.null, .null, .null, .null])) :: en_ws (ek_cy κ) ad1 P1 (mk_1 (mk_nb z)))) (ek_sc rfl (ek_er _) s1) ?_
  refine ek_put (fs' := [.ref g, .null, .null, .null]) h hi9 dX4_init_21 fk_X4_23 fpk_4_0 rfl rfl (Nat.le_of_ble_eq_true rfl) rfl ?_
  refine ek_aload (i := 0) (j := 0) h dX4_init_24 rfl rfl ?_
  refine ek_new (ci := 2) (fs := [.null, .int (Int32.ofInt 0), .null, .null, .null, .null, .null]) h dX4_init_25 rfl (by decide +kernel) tyX2_ok (by decide +kernel) (by decide +kernel) (by decide +kernel) fs_X2 ⟨by decide, by decide⟩ (fun mt => ?_)
  refine ek_dup h dX4_init_28 ?_
  refine ek_aload (i := 0) (j := 0) h dX4_init_29 rfl rfl ?_
  refine ek_get h dX4_init_30 fk_X4_23 rfl ?_
  refine ek_ws (ws' := (((a0, .inr (4, [.ref g, .null, .null, .null])) :: en_ws (ek_cy κ) ad1 P1 (mk_1 (mk_nb z))) ++ [(mt, .inr (2, [.null, .int (Int32.ofInt 0), .null, .null, .null, .null, .null]))])) rfl ?_
  refine ek_call h (k_X2_init (g := g)) my_X2_init gX4_init_X2_init rfl (by decide +kernel) (by decide +kernel) (by decide +kernel) rfl rfl ⟨by decide, by decide⟩ ⟨by decide, by decide⟩ (Nat.le_of_ble_eq_true rfl) dX4_init_33 (fun W2 hW2 => ?_)
  obtain ⟨ad2, ⟨e2, f2⟩, s2⟩ := hW2
  refine ek_conv (ws' := ((a0, .inr (4, [.ref g, .null, .null, .null])) :: (en_ws (ek_cy κ) ad1 P1 (mk_1 (mk_nb z)) ++ en_ws (ek_cy κ) ad2 P2 mk_0))) (ek_sc rfl (ek_er _) (ek_sa (ek_sim_rf _) s2)) ?_
  refine ek_put (fs' := [.ref g, .ref mt, .null, .null]) h hi9 dX4_init_36 fk_X4_32 fpk_4_1 rfl rfl (Nat.le_of_ble_eq_true rfl) rfl ?_
  refine ek_aload (i := 0) (j := 0) h dX4_init_39 rfl rfl ?_
  refine ek_new (ci := 3) (fs := [.null, .null, .null]) h dX4_init_40 rfl (by decide +kernel) tyX3_ok (by decide +kernel) (by decide +kernel) (by decide +kernel) fs_X3 ⟨by decide, by decide⟩ (fun ob => ?_)
  refine ek_dup h dX4_init_43 ?_
  refine ek_aload (i := 0) (j := 0) h dX4_init_44 rfl rfl ?_
  refine ek_get h dX4_init_45 fk_X4_23 rfl ?_
  refine ek_aload (i := 0) (j := 0) h dX4_init_48 rfl rfl ?_
  refine ek_get h dX4_init_49 fk_X4_32 rfl ?_
  refine ek_ws (ws' := (((a0, .inr (4, [.ref g, .ref mt, .null, .null])) :: (en_ws (ek_cy κ) ad1 P1 (mk_1 (mk_nb z)) ++ en_ws (ek_cy κ) ad2 P2 mk_0)) ++ [(ob, .inr (3, [.null, .null, .null]))])) rfl ?_
  refine ek_call h (k_X3_init (g := g) (mt := mt)) my_X3_init gX4_init_X3_init rfl (by decide +kernel) (by decide +kernel) (by decide +kernel) rfl rfl ⟨by decide, by decide⟩ ⟨by decide, by decide⟩ (Nat.le_of_ble_eq_true rfl) dX4_init_52 (fun W3 hW3 => ?_)
  obtain ⟨ad3, ⟨e3, f3, g3⟩, s3⟩ := hW3
  refine ek_conv (ws' := ((a0, .inr (4, [.ref g, .ref mt, .null, .null])) :: ((en_ws (ek_cy κ) ad1 P1 (mk_1 (mk_nb z)) ++ en_ws (ek_cy κ) ad2 P2 mk_0) ++ en_ws (ek_cy κ) ad3 P3 mk_3))) (ek_sc rfl (ek_er _) (ek_sa (ek_sim_rf _) s3)) ?_
  refine ek_put (fs' := [.ref g, .ref mt, .ref ob, .null]) h hi9 dX4_init_55 fk_X4_41 fpk_4_2 rfl rfl (Nat.le_of_ble_eq_true rfl) rfl ?_
  refine ek_aload (i := 0) (j := 0) h dX4_init_58 rfl rfl ?_
  refine ek_new (ci := 0) (fs := [.null, .null, .null, .null, .null, .null, .long (Int64.ofInt 0)]) h dX4_init_59 rfl (by decide +kernel) tyX0_ok (by decide +kernel) (by decide +kernel) (by decide +kernel) fs_X0 ⟨by decide, by decide⟩ (fun es => ?_)
  refine ek_dup h dX4_init_62 ?_
  refine ek_aload (i := 0) (j := 0) h dX4_init_63 rfl rfl ?_
  refine ek_get h dX4_init_64 fk_X4_23 rfl ?_
  refine ek_aload (i := 0) (j := 0) h dX4_init_67 rfl rfl ?_
  refine ek_get h dX4_init_68 fk_X4_32 rfl ?_
  refine ek_ws (ws' := (((a0, .inr (4, [.ref g, .ref mt, .ref ob, .null])) :: ((en_ws (ek_cy κ) ad1 P1 (mk_1 (mk_nb z)) ++ en_ws (ek_cy κ) ad2 P2 mk_0) ++ en_ws (ek_cy κ) ad3 P3 mk_3)) ++ [(es, .inr (0, [.null, .null, .null, .null, .null, .null, .long (Int64.ofInt 0)]))])) rfl ?_
  refine ek_call h (k_X0_init (g := g) (mt := mt)) my_X0_init gX4_init_X0_init rfl (by decide +kernel) (by decide +kernel) (by decide +kernel) rfl rfl ⟨by decide, by decide⟩ ⟨by decide, by decide⟩ (Nat.le_of_ble_eq_true rfl) dX4_init_71 (fun W4 hW4 => ?_)
  obtain ⟨ad4, ⟨e4, f4, g4⟩, s4⟩ := hW4
  refine ek_conv (ws' := ((a0, .inr (4, [.ref g, .ref mt, .ref ob, .null])) :: (((en_ws (ek_cy κ) ad1 P1 (mk_1 (mk_nb z)) ++ en_ws (ek_cy κ) ad2 P2 mk_0) ++ en_ws (ek_cy κ) ad3 P3 mk_3) ++ en_ws (ek_cy κ) ad4 P4 mk_4))) (ek_sc rfl (ek_er _) (ek_sa (ek_sim_rf _) s4)) ?_
  refine ek_put (fs' := [.ref g, .ref mt, .ref ob, .ref es]) h hi9 dX4_init_74 fk_X4_48 fpk_4_3 rfl rfl (Nat.le_of_ble_eq_true rfl) rfl ?_
  have rm9 : ∀ (ad : Int → Nat), (∀ i, 0 ≤ i → i < 21 → ad i = ad1 i) → (∀ i, 21 ≤ i → i < 27 → ad i = ad2 i) → (∀ i, 27 ≤ i → i < 39 → ad i = ad3 i) → (∀ i, 39 ≤ i → i < 49 → ad i = ad4 i) → ad 49 = a0 → ek_sim ((a0, .inr (4, [.ref g, .ref mt, .ref ob, .ref es])) :: (((en_ws (ek_cy κ) ad1 P1 (mk_1 (mk_nb z)) ++ en_ws (ek_cy κ) ad2 P2 mk_0) ++ en_ws (ek_cy κ) ad3 P3 mk_3) ++ en_ws (ek_cy κ) ad4 P4 mk_4)) (en_ws (ek_cy κ) ad P49 (mk_49 z)) := by
    intro ad h1 h2 h3 h4 h9
    have a0g : ad 0 = g := (h1 0 (by decide) (by decide)).trans e1
    have a21 : ad 21 = mt := (h2 21 (by decide) (by decide)).trans e2
    have a27 : ad 27 = ob := (h3 27 (by decide) (by decide)).trans e3
    have a39 : ad 39 = es := (h4 39 (by decide) (by decide)).trans e4
    have m1 : ∀ k : Int, 0 ≤ k → k < 21 → mk_49 z k = mk_1 (mk_nb z) k := fun k _ k1 => by unfold mk_49; rw [if_pos k1]
    have m2 : ∀ k : Int, 21 ≤ k → k < 27 → mk_49 z k = mk_0 k := fun k k0 k1 => by unfold mk_49; rw [if_neg (by omega), if_pos k1]
    have m3 : ∀ k : Int, 27 ≤ k → k < 39 → mk_49 z k = mk_3 k := fun k k0 k1 => by unfold mk_49; rw [if_neg (by omega), if_neg (by omega), if_pos k1]
    have m4 : ∀ k : Int, 39 ≤ k → k < 49 → mk_49 z k = mk_4 k := fun k k0 k1 => by unfold mk_49; rw [if_neg (by omega), if_neg (by omega), if_neg (by omega)]
    have sp : en_ws (ek_cy κ) ad P49 (mk_49 z) = (ad 49, en_ct (ek_cy κ) ad (mk_49 z) 49) :: (((en_ws (ek_cy κ) ad P1 (mk_49 z) ++ en_ws (ek_cy κ) ad P2 (mk_49 z)) ++ en_ws (ek_cy κ) ad P3 (mk_49 z)) ++ en_ws (ek_cy κ) ad P4 (mk_49 z)) := by
      unfold en_ws P49
      rw [List.map_cons, List.map_append, List.map_append, List.map_append]
    rw [sp]
    refine ek_sc h9.symm ?_ (ek_sa (ek_sa (ek_sa ?_ ?_) ?_) ?_)
    · have e : en_ct (ek_cy κ) ad (mk_49 z) 49 = .inr (4, [.ref g, .ref mt, .ref ob, .ref es]) := by
        show (.inr (4, [.ref (ad 0), .ref (ad 21), .ref (ad 27), .ref (ad 39)]) : va_E) = _
        rw [a0g, a21, a27, a39]
      rw [e]
      exact ek_er _
    · exact en_ws_grp 0 21 0 0 P1 (by decide +kernel) h1 (h1 0 (by decide) (by decide)) (h1 0 (by decide) (by decide)) m1 (fun q => absurd q (by decide))
    · exact en_ws_grp 21 27 0 0 P2 (by decide +kernel) h2 (by rw [a0g, f2]) (by rw [a0g, f2]) m2 (fun q => absurd q (by decide))
    · refine en_ws_grp 27 39 0 21 P3 (by decide +kernel) h3 (by rw [a0g, f3]) (by rw [a21, g3]) m3 (fun _ => ?_)
      refine ek_eq (N := 10) (fun j hj => ?_)
      show some (ad3 (mk_3 28 (j : Int))) = some (ad (mk_49 z 28 (j : Int)))
      rw [m3 28 (by decide) (by decide)]
      show some (ad3 (29 + (j : Int))) = some (ad (29 + (j : Int)))
      rw [h3 _ (by omega) (by omega)]
    · exact en_ws_grp 39 49 0 21 P4 (by decide +kernel) h4 (by rw [a0g, f4]) (by rw [a21, g4]) m4 (fun q => absurd q (by decide))
  refine ek_ret h hf dX4_init_77 ⟨by decide, by decide⟩ ⟨fun k => if k < 21 then ad1 k else if k < 27 then ad2 k else if k < 39 then ad3 k else if k < 49 then ad4 k else a0, rfl, ?_⟩
  exact rm9 _ (fun i i0 i1 => if_pos i1) (fun i i0 i1 => by rw [if_neg (by omega), if_pos i1]) (fun i i0 i1 => by rw [if_neg (by omega), if_neg (by omega), if_pos i1]) (fun i i0 i1 => by rw [if_neg (by omega), if_neg (by omega), if_neg (by omega), if_pos i1]) rfl
