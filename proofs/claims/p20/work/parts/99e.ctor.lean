/-! CONSTRUCTORS 1: meters, observation, estimate -/
theorem ek_ws {κ : ek_C} {pc : Nat} {st : List Value} {ws ws' : va_W} {k n : Nat} (h : ws = ws') (kk : ek_G κ pc st ws' k n) : ek_G κ pc st ws k n := by rw [h]; exact kk
theorem ek_sc {x y : Nat × va_E} {t u : va_W} (h1 : x.1 = y.1) (h2 : ek_e x.2 y.2) (h3 : ek_sim t u) : ek_sim (x :: t) (y :: u) := ⟨h1, h2, h3⟩
def mk_0 : en_M := fun _ _ => 0
abbrev P1 : List Int := [0, 1, 2, 3, 4, 5, 6, 8, 9, 10, 11, 12, 13, 14, 15, 7, 16, 17, 18, 19, 20]
abbrev P2 : List Int := [21, 22, 23, 24, 25, 26]
abbrev P3 : List Int := [27, 28, 29, 30, 31, 32, 33, 34, 35, 36, 37, 38]
abbrev P4 : List Int := [39, 40, 44, 45, 46, 47, 48, 41, 42, 43]
abbrev P5 : List Int := [51, 52, 53, 54, 55, 56, 57, 58, 59, 60, 61, 62, 63, 64, 65, 66, 67]
def mk_3 : en_M := fun k j => if k = 28 then 29 + j else 0
def mk_4 : en_M := fun k j => if k = 39 ∧ j = 6 then 1 else 0
set_option maxRecDepth 20000 in
theorem fk_X2_9 : en_FK wsX2_init RX2 9 2 1 := ⟨_, _, _, rfl, by decide, by decide +kernel, by decide +kernel⟩
theorem fpk_2_1 : en_FPK RX2 2 1 .int := ⟨_, _, _, rfl, ⟨tyX2, tyX2_ok⟩, nmX2, Or.inl (by decide +kernel), by decide +kernel⟩
set_option maxRecDepth 20000 in
theorem fk_X2_15 : en_FK wsX2_init RX2 15 2 2 := ⟨_, _, _, rfl, by decide, by decide +kernel, by decide +kernel⟩
theorem fpk_2_2 : en_FPK RX2 2 2 (.array .int) := ⟨_, _, _, rfl, ⟨tyX2, tyX2_ok⟩, nmX2, Or.inr ⟨by decide +kernel, by decide +kernel⟩, by decide +kernel⟩
set_option maxRecDepth 20000 in
theorem fk_X2_19 : en_FK wsX2_init RX2 19 2 3 := ⟨_, _, _, rfl, by decide, by decide +kernel, by decide +kernel⟩
theorem fpk_2_3 : en_FPK RX2 2 3 (.array .int) := ⟨_, _, _, rfl, ⟨tyX2, tyX2_ok⟩, nmX2, Or.inr ⟨by decide +kernel, by decide +kernel⟩, by decide +kernel⟩
set_option maxRecDepth 20000 in
theorem fk_X2_22 : en_FK wsX2_init RX2 22 2 4 := ⟨_, _, _, rfl, by decide, by decide +kernel, by decide +kernel⟩
theorem fpk_2_4 : en_FPK RX2 2 4 (.array .int) := ⟨_, _, _, rfl, ⟨tyX2, tyX2_ok⟩, nmX2, Or.inr ⟨by decide +kernel, by decide +kernel⟩, by decide +kernel⟩
set_option maxRecDepth 20000 in
theorem fk_X2_25 : en_FK wsX2_init RX2 25 2 5 := ⟨_, _, _, rfl, by decide, by decide +kernel, by decide +kernel⟩
theorem fpk_2_5 : en_FPK RX2 2 5 (.array .int) := ⟨_, _, _, rfl, ⟨tyX2, tyX2_ok⟩, nmX2, Or.inr ⟨by decide +kernel, by decide +kernel⟩, by decide +kernel⟩
set_option maxRecDepth 20000 in
theorem fk_X2_28 : en_FK wsX2_init RX2 28 2 6 := ⟨_, _, _, rfl, by decide, by decide +kernel, by decide +kernel⟩
theorem fpk_2_6 : en_FPK RX2 2 6 (.array .boolean) := ⟨_, _, _, rfl, ⟨tyX2, tyX2_ok⟩, nmX2, Or.inr ⟨by decide +kernel, by decide +kernel⟩, by decide +kernel⟩
set_option maxRecDepth 20000 in
theorem fk_X2_32 : en_FK wsX2_init RX2 32 2 0 := ⟨_, _, _, rfl, by decide, by decide +kernel, by decide +kernel⟩
theorem fpk_2_0 : en_FPK RX2 2 0 (.object "GridEstimator$Grid") := ⟨_, _, _, rfl, ⟨tyX2, tyX2_ok⟩, nmX2, Or.inr ⟨by decide +kernel, by decide +kernel⟩, by decide +kernel⟩
theorem my_X2_init : en_MY yX2_init RX2 cX2_init 2 none wsX2_init 1 := ⟨⟨_, rfl⟩, rfl, by decide, by decide, by decide +kernel, by decide +kernel⟩
abbrev rm_X2_init : Room := { frames := 1, cells := 5, slots := 50, locals := 14 }
set_option maxRecDepth 100000 in
set_option maxHeartbeats 4000000 in
theorem k_X2_init {l : Launch} {D : va_G} {cy : Nat → ClassId} {a0 : Nat} {g : Nat} : ek_Met l D cy yX2_init wsX2_init rm_X2_init a0 2 [.null, .int (Int32.ofInt 0), .null, .null, .null, .null, .null] [.ref g] (fun W => ∃ ad : Int → Nat, (ad 21 = a0 ∧ ad 0 = g) ∧ ek_sim W (en_ws cy ad P2 mk_0)) := by
  refine ek_met my_X2_init rfl (Nat.le_of_ble_eq_true rfl) ?_
  intro κ hl9 hD9 hcy h hf hi9
  subst hcy
  refine ek_aload (i := 0) (j := 0) h dX2_init_0 rfl rfl ?_
  refine ek_obj h dX2_init_1 (by decide +kernel) (by decide +kernel) (by decide +kernel) ⟨by decide, by decide⟩ ?_
  refine ek_aload (i := 0) (j := 0) h dX2_init_4 rfl rfl ?_
  refine ek_iconst h dX2_init_5 ?_
  refine ek_put (fs' := [.null, .int (Int32.ofInt 0), .null, .null, .null, .null, .null]) h hi9 dX2_init_6 fk_X2_9 fpk_2_1 rfl rfl (Nat.le_of_ble_eq_true rfl) rfl ?_
  refine ek_aload (i := 0) (j := 0) h dX2_init_9 rfl rfl ?_
  refine ek_bipush h dX2_init_10 (by decide) ?_
  refine ek_newI (N := 10) h dX2_init_12 (by decide +kernel) ⟨rfl, by decide⟩ ⟨by decide, by decide⟩ (fun q1 => ?_)
  refine ek_ws (ws' := [(a0, .inr (2, [.null, .int (Int32.ofInt 0), .null, .null, .null, .null, .null])), (q1, .inl (ek_cy κ 0, 10, .inl (fun _ => Int32.ofInt 0)))]) rfl ?_
  refine ek_put (fs' := [.null, .int (Int32.ofInt 0), .ref q1, .null, .null, .null, .null]) h hi9 dX2_init_14 fk_X2_15 fpk_2_2 rfl rfl (Nat.le_of_ble_eq_true rfl) rfl ?_
  refine ek_aload (i := 0) (j := 0) h dX2_init_17 rfl rfl ?_
  refine ek_bipush h dX2_init_18 (by decide) ?_
  refine ek_newI (N := 10) h dX2_init_20 (by decide +kernel) ⟨rfl, by decide⟩ ⟨by decide, by decide⟩ (fun q2 => ?_)
  refine ek_ws (ws' := [(a0, .inr (2, [.null, .int (Int32.ofInt 0), .ref q1, .null, .null, .null, .null])), (q1, .inl (ek_cy κ 0, 10, .inl (fun _ => Int32.ofInt 0))), (q2, .inl (ek_cy κ 0, 10, .inl (fun _ => Int32.ofInt 0)))]) rfl ?_
  refine ek_put (fs' := [.null, .int (Int32.ofInt 0), .ref q1, .ref q2, .null, .null, .null]) h hi9 dX2_init_22 fk_X2_19 fpk_2_3 rfl rfl (Nat.le_of_ble_eq_true rfl) rfl ?_
  refine ek_aload (i := 0) (j := 0) h dX2_init_25 rfl rfl ?_
  refine ek_bipush h dX2_init_26 (by decide) ?_
  refine ek_newI (N := 10) h dX2_init_28 (by decide +kernel) ⟨rfl, by decide⟩ ⟨by decide, by decide⟩ (fun q3 => ?_)
  refine ek_ws (ws' := [(a0, .inr (2, [.null, .int (Int32.ofInt 0), .ref q1, .ref q2, .null, .null, .null])), (q1, .inl (ek_cy κ 0, 10, .inl (fun _ => Int32.ofInt 0))), (q2, .inl (ek_cy κ 0, 10, .inl (fun _ => Int32.ofInt 0))), (q3, .inl (ek_cy κ 0, 10, .inl (fun _ => Int32.ofInt 0)))]) rfl ?_
  refine ek_put (fs' := [.null, .int (Int32.ofInt 0), .ref q1, .ref q2, .ref q3, .null, .null]) h hi9 dX2_init_30 fk_X2_22 fpk_2_4 rfl rfl (Nat.le_of_ble_eq_true rfl) rfl ?_
  refine ek_aload (i := 0) (j := 0) h dX2_init_33 rfl rfl ?_
  refine ek_bipush h dX2_init_34 (by decide) ?_
  refine ek_newI (N := 10) h dX2_init_36 (by decide +kernel) ⟨rfl, by decide⟩ ⟨by decide, by decide⟩ (fun q4 => ?_)
  refine ek_ws (ws' := [(a0, .inr (2, [.null, .int (Int32.ofInt 0), .ref q1, .ref q2, .ref q3, .null, .null])), (q1, .inl (ek_cy κ 0, 10, .inl (fun _ => Int32.ofInt 0))), (q2, .inl (ek_cy κ 0, 10, .inl (fun _ => Int32.ofInt 0))), (q3, .inl (ek_cy κ 0, 10, .inl (fun _ => Int32.ofInt 0))), (q4, .inl (ek_cy κ 0, 10, .inl (fun _ => Int32.ofInt 0)))]) rfl ?_
  refine ek_put (fs' := [.null, .int (Int32.ofInt 0), .ref q1, .ref q2, .ref q3, .ref q4, .null]) h hi9 dX2_init_38 fk_X2_25 fpk_2_5 rfl rfl (Nat.le_of_ble_eq_true rfl) rfl ?_
  refine ek_aload (i := 0) (j := 0) h dX2_init_41 rfl rfl ?_
  refine ek_bipush h dX2_init_42 (by decide) ?_
  refine ek_newZ (N := 10) h dX2_init_44 (by decide +kernel) ⟨rfl, by decide⟩ ⟨by decide, by decide⟩ (fun q5 => ?_)
  refine ek_ws (ws' := [(a0, .inr (2, [.null, .int (Int32.ofInt 0), .ref q1, .ref q2, .ref q3, .ref q4, .null])), (q1, .inl (ek_cy κ 0, 10, .inl (fun _ => Int32.ofInt 0))), (q2, .inl (ek_cy κ 0, 10, .inl (fun _ => Int32.ofInt 0))), (q3, .inl (ek_cy κ 0, 10, .inl (fun _ => Int32.ofInt 0))), (q4, .inl (ek_cy κ 0, 10, .inl (fun _ => Int32.ofInt 0))), (q5, .inl (ek_cy κ 2, 10, .inl (fun _ => Int32.ofInt 0)))]) rfl ?_
  refine ek_put (fs' := [.null, .int (Int32.ofInt 0), .ref q1, .ref q2, .ref q3, .ref q4, .ref q5]) h hi9 dX2_init_46 fk_X2_28 fpk_2_6 rfl rfl (Nat.le_of_ble_eq_true rfl) rfl ?_
  refine ek_aload (i := 0) (j := 0) h dX2_init_49 rfl rfl ?_
  refine ek_aload (i := 1) (j := 1) h dX2_init_50 rfl rfl ?_
  refine ek_put (fs' := [.ref g, .int (Int32.ofInt 0), .ref q1, .ref q2, .ref q3, .ref q4, .ref q5]) h hi9 dX2_init_51 fk_X2_32 fpk_2_0 rfl rfl (Nat.le_of_ble_eq_true rfl) rfl ?_
  exact ek_ret h hf dX2_init_54 ⟨by decide, by decide⟩ ⟨fun k => if k = 21 then a0 else if k = 0 then g else if k = 22 then q1 else if k = 23 then q2 else if k = 24 then q3 else if k = 25 then q4 else if k = 26 then q5 else 0, ⟨rfl, rfl⟩, (ek_sc rfl (ek_er _) (ek_sc rfl (ek_er _) (ek_sc rfl (ek_er _) (ek_sc rfl (ek_er _) (ek_sc rfl (ek_er _) (ek_sc rfl (ek_er _) trivial))))))⟩
set_option maxRecDepth 20000 in
theorem fk_X3_11 : en_FK wsX3_init RX3 11 3 2 := ⟨_, _, _, rfl, by decide, by decide +kernel, by decide +kernel⟩
theorem fpk_3_2 : en_FPK RX3 3 2 (.array (.array .long)) := ⟨_, _, _, rfl, ⟨tyX3, tyX3_ok⟩, nmX3, Or.inr ⟨by decide +kernel, by decide +kernel⟩, by decide +kernel⟩
set_option maxRecDepth 20000 in
theorem fk_X3_16 : en_FK wsX3_init RX3 16 3 0 := ⟨_, _, _, rfl, by decide, by decide +kernel, by decide +kernel⟩
theorem fpk_3_0 : en_FPK RX3 3 0 (.object "GridEstimator$Grid") := ⟨_, _, _, rfl, ⟨tyX3, tyX3_ok⟩, nmX3, Or.inr ⟨by decide +kernel, by decide +kernel⟩, by decide +kernel⟩
set_option maxRecDepth 20000 in
theorem fk_X3_20 : en_FK wsX3_init RX3 20 3 1 := ⟨_, _, _, rfl, by decide, by decide +kernel, by decide +kernel⟩
theorem fpk_3_1 : en_FPK RX3 3 1 (.object "GridEstimator$Meters") := ⟨_, _, _, rfl, ⟨tyX3, tyX3_ok⟩, nmX3, Or.inr ⟨by decide +kernel, by decide +kernel⟩, by decide +kernel⟩
theorem my_X3_init : en_MY yX3_init RX3 cX3_init 3 none wsX3_init 2 := ⟨⟨_, rfl⟩, rfl, by decide, by decide, by decide +kernel, by decide +kernel⟩
abbrev rm_X3_init : Room := { frames := 1, cells := 11, slots := 60, locals := 14 }
set_option maxRecDepth 100000 in
set_option maxHeartbeats 4000000 in
theorem k_X3_init {l : Launch} {D : va_G} {cy : Nat → ClassId} {a0 : Nat} {g : Nat} {mt : Nat} : ek_Met l D cy yX3_init wsX3_init rm_X3_init a0 3 [.null, .null, .null] [.ref g, .ref mt] (fun W => ∃ ad : Int → Nat, (ad 27 = a0 ∧ ad 0 = g ∧ ad 21 = mt) ∧ ek_sim W (en_ws cy ad P3 mk_3)) := by
  refine ek_met my_X3_init rfl (Nat.le_of_ble_eq_true rfl) ?_
  intro κ hl9 hD9 hcy h hf hi9
  subst hcy
  refine ek_aload (i := 0) (j := 0) h dX3_init_0 rfl rfl ?_
  refine ek_obj h dX3_init_1 (by decide +kernel) (by decide +kernel) (by decide +kernel) ⟨by decide, by decide⟩ ?_
  refine ek_aload (i := 0) (j := 0) h dX3_init_4 rfl rfl ?_
  refine ek_bipush h dX3_init_5 (by decide) ?_
  refine ek_iconst h dX3_init_7 ?_
  refine ek_mnaJ (N := 10) (K := 5) h dX3_init_8 (by decide +kernel) (by decide +kernel) ⟨rfl, by decide⟩ ⟨rfl, by decide⟩ ⟨by decide, by decide⟩ (fun q1 r1 => ?_)
  refine ek_ws (ws' := [(a0, .inr (3, [.null, .null, .null])), (q1, .inl (ek_cy κ 4, 10, .inr (.inr (.inr (.inr (fun i => if i < 10 then some (r1 i) else none)))))), (r1 0, .inl (ek_cy κ 1, 5, .inr (.inl (fun _ => Int64.ofInt 0)))), (r1 1, .inl (ek_cy κ 1, 5, .inr (.inl (fun _ => Int64.ofInt 0)))), (r1 2, .inl (ek_cy κ 1, 5, .inr (.inl (fun _ => Int64.ofInt 0)))), (r1 3, .inl (ek_cy κ 1, 5, .inr (.inl (fun _ => Int64.ofInt 0)))), (r1 4, .inl (ek_cy κ 1, 5, .inr (.inl (fun _ => Int64.ofInt 0)))), (r1 5, .inl (ek_cy κ 1, 5, .inr (.inl (fun _ => Int64.ofInt 0)))), (r1 6, .inl (ek_cy κ 1, 5, .inr (.inl (fun _ => Int64.ofInt 0)))), (r1 7, .inl (ek_cy κ 1, 5, .inr (.inl (fun _ => Int64.ofInt 0)))), (r1 8, .inl (ek_cy κ 1, 5, .inr (.inl (fun _ => Int64.ofInt 0)))), (r1 9, .inl (ek_cy κ 1, 5, .inr (.inl (fun _ => Int64.ofInt 0))))]) rfl ?_
  refine ek_put (fs' := [.null, .null, .ref q1]) h hi9 dX3_init_12 fk_X3_11 fpk_3_2 rfl rfl (Nat.le_of_ble_eq_true rfl) rfl ?_
  refine ek_aload (i := 0) (j := 0) h dX3_init_15 rfl rfl ?_
  refine ek_aload (i := 1) (j := 1) h dX3_init_16 rfl rfl ?_
  refine ek_put (fs' := [.ref g, .null, .ref q1]) h hi9 dX3_init_17 fk_X3_16 fpk_3_0 rfl rfl (Nat.le_of_ble_eq_true rfl) rfl ?_
  refine ek_aload (i := 0) (j := 0) h dX3_init_20 rfl rfl ?_
  refine ek_aload (i := 2) (j := 2) h dX3_init_21 rfl rfl ?_
  refine ek_put (fs' := [.ref g, .ref mt, .ref q1]) h hi9 dX3_init_22 fk_X3_20 fpk_3_1 rfl rfl (Nat.le_of_ble_eq_true rfl) rfl ?_
  exact ek_ret h hf dX3_init_25 ⟨by decide, by decide⟩ ⟨fun k => if k = 27 then a0 else if k = 0 then g else if k = 21 then mt else if k = 28 then q1 else if 29 ≤ k ∧ k < 39 then r1 (k - 29).toNat else 0, ⟨rfl, rfl, rfl⟩, (ek_sc rfl (ek_er _) (ek_sc rfl (ek_eq (fun i hi => by
    rcases (show i = 0 ∨ i = 1 ∨ i = 2 ∨ i = 3 ∨ i = 4 ∨ i = 5 ∨ i = 6 ∨ i = 7 ∨ i = 8 ∨ i = 9 by omega) with rfl | rfl | rfl | rfl | rfl | rfl | rfl | rfl | rfl | rfl <;> rfl)) (ek_sc rfl (ek_er _) (ek_sc rfl (ek_er _) (ek_sc rfl (ek_er _) (ek_sc rfl (ek_er _) (ek_sc rfl (ek_er _) (ek_sc rfl (ek_er _) (ek_sc rfl (ek_er _) (ek_sc rfl (ek_er _) (ek_sc rfl (ek_er _) (ek_sc rfl (ek_er _) trivial))))))))))))⟩
set_option maxRecDepth 20000 in
theorem fk_X0_11 : en_FK wsX0_init RX0 11 0 2 := ⟨_, _, _, rfl, by decide, by decide +kernel, by decide +kernel⟩
theorem fpk_0_2 : en_FPK RX0 0 2 (.array (.array .long)) := ⟨_, _, _, rfl, ⟨tyX0, tyX0_ok⟩, nmX0, Or.inr ⟨by decide +kernel, by decide +kernel⟩, by decide +kernel⟩
set_option maxRecDepth 20000 in
theorem fk_X0_16 : en_FK wsX0_init RX0 16 0 3 := ⟨_, _, _, rfl, by decide, by decide +kernel, by decide +kernel⟩
theorem fpk_0_3 : en_FPK RX0 0 3 (.array .long) := ⟨_, _, _, rfl, ⟨tyX0, tyX0_ok⟩, nmX0, Or.inr ⟨by decide +kernel, by decide +kernel⟩, by decide +kernel⟩
set_option maxRecDepth 20000 in
theorem fk_X0_20 : en_FK wsX0_init RX0 20 0 4 := ⟨_, _, _, rfl, by decide, by decide +kernel, by decide +kernel⟩
theorem fpk_0_4 : en_FPK RX0 0 4 (.array .long) := ⟨_, _, _, rfl, ⟨tyX0, tyX0_ok⟩, nmX0, Or.inr ⟨by decide +kernel, by decide +kernel⟩, by decide +kernel⟩
set_option maxRecDepth 20000 in
theorem fk_X0_23 : en_FK wsX0_init RX0 23 0 5 := ⟨_, _, _, rfl, by decide, by decide +kernel, by decide +kernel⟩
theorem fpk_0_5 : en_FPK RX0 0 5 (.array .long) := ⟨_, _, _, rfl, ⟨tyX0, tyX0_ok⟩, nmX0, Or.inr ⟨by decide +kernel, by decide +kernel⟩, by decide +kernel⟩
set_option maxRecDepth 20000 in
theorem fk_X0_26 : en_FK wsX0_init RX0 26 0 6 := ⟨_, _, _, rfl, by decide, by decide +kernel, by decide +kernel⟩
theorem fpk_0_6 : en_FPK RX0 0 6 .long := ⟨_, _, _, rfl, ⟨tyX0, tyX0_ok⟩, nmX0, Or.inl (by decide +kernel), by decide +kernel⟩
set_option maxRecDepth 20000 in
theorem fk_X0_30 : en_FK wsX0_init RX0 30 0 0 := ⟨_, _, _, rfl, by decide, by decide +kernel, by decide +kernel⟩
theorem fpk_0_0 : en_FPK RX0 0 0 (.object "GridEstimator$Grid") := ⟨_, _, _, rfl, ⟨tyX0, tyX0_ok⟩, nmX0, Or.inr ⟨by decide +kernel, by decide +kernel⟩, by decide +kernel⟩
set_option maxRecDepth 20000 in
theorem fk_X0_34 : en_FK wsX0_init RX0 34 0 1 := ⟨_, _, _, rfl, by decide, by decide +kernel, by decide +kernel⟩
theorem fpk_0_1 : en_FPK RX0 0 1 (.object "GridEstimator$Meters") := ⟨_, _, _, rfl, ⟨tyX0, tyX0_ok⟩, nmX0, Or.inr ⟨by decide +kernel, by decide +kernel⟩, by decide +kernel⟩
theorem my_X0_init : en_MY yX0_init RX0 cX0_init 3 none wsX0_init 2 := ⟨⟨_, rfl⟩, rfl, by decide, by decide, by decide +kernel, by decide +kernel⟩
abbrev rm_X0_init : Room := { frames := 1, cells := 9, slots := 72, locals := 14 }
set_option maxRecDepth 100000 in
set_option maxHeartbeats 4000000 in
theorem k_X0_init {l : Launch} {D : va_G} {cy : Nat → ClassId} {a0 : Nat} {g : Nat} {mt : Nat} : ek_Met l D cy yX0_init wsX0_init rm_X0_init a0 0 [.null, .null, .null, .null, .null, .null, .long (Int64.ofInt 0)] [.ref g, .ref mt] (fun W => ∃ ad : Int → Nat, (ad 39 = a0 ∧ ad 0 = g ∧ ad 21 = mt) ∧ ek_sim W (en_ws cy ad P4 mk_4)) := by
  refine ek_met my_X0_init rfl (Nat.le_of_ble_eq_true rfl) ?_
  intro κ hl9 hD9 hcy h hf hi9
  subst hcy
  refine ek_aload (i := 0) (j := 0) h dX0_init_0 rfl rfl ?_
  refine ek_obj h dX0_init_1 (by decide +kernel) (by decide +kernel) (by decide +kernel) ⟨by decide, by decide⟩ ?_
  refine ek_aload (i := 0) (j := 0) h dX0_init_4 rfl rfl ?_
  refine ek_iconst h dX0_init_5 ?_
  refine ek_iconst h dX0_init_6 ?_
  refine ek_mnaJ (N := 5) (K := 5) h dX0_init_7 (by decide +kernel) (by decide +kernel) ⟨rfl, by decide⟩ ⟨rfl, by decide⟩ ⟨by decide, by decide⟩ (fun q1 r1 => ?_)
  refine ek_ws (ws' := [(a0, .inr (0, [.null, .null, .null, .null, .null, .null, .long (Int64.ofInt 0)])), (q1, .inl (ek_cy κ 4, 5, .inr (.inr (.inr (.inr (fun i => if i < 5 then some (r1 i) else none)))))), (r1 0, .inl (ek_cy κ 1, 5, .inr (.inl (fun _ => Int64.ofInt 0)))), (r1 1, .inl (ek_cy κ 1, 5, .inr (.inl (fun _ => Int64.ofInt 0)))), (r1 2, .inl (ek_cy κ 1, 5, .inr (.inl (fun _ => Int64.ofInt 0)))), (r1 3, .inl (ek_cy κ 1, 5, .inr (.inl (fun _ => Int64.ofInt 0)))), (r1 4, .inl (ek_cy κ 1, 5, .inr (.inl (fun _ => Int64.ofInt 0))))]) rfl ?_
  refine ek_put (fs' := [.null, .null, .ref q1, .null, .null, .null, .long (Int64.ofInt 0)]) h hi9 dX0_init_11 fk_X0_11 fpk_0_2 rfl rfl (Nat.le_of_ble_eq_true rfl) rfl ?_
  refine ek_aload (i := 0) (j := 0) h dX0_init_14 rfl rfl ?_
  refine ek_iconst h dX0_init_15 ?_
  refine ek_newJ (N := 5) h dX0_init_16 (by decide +kernel) ⟨rfl, by decide⟩ ⟨by decide, by decide⟩ (fun q2 => ?_)
  refine ek_ws (ws' := [(a0, .inr (0, [.null, .null, .ref q1, .null, .null, .null, .long (Int64.ofInt 0)])), (q1, .inl (ek_cy κ 4, 5, .inr (.inr (.inr (.inr (fun i => if i < 5 then some (r1 i) else none)))))), (r1 0, .inl (ek_cy κ 1, 5, .inr (.inl (fun _ => Int64.ofInt 0)))), (r1 1, .inl (ek_cy κ 1, 5, .inr (.inl (fun _ => Int64.ofInt 0)))), (r1 2, .inl (ek_cy κ 1, 5, .inr (.inl (fun _ => Int64.ofInt 0)))), (r1 3, .inl (ek_cy κ 1, 5, .inr (.inl (fun _ => Int64.ofInt 0)))), (r1 4, .inl (ek_cy κ 1, 5, .inr (.inl (fun _ => Int64.ofInt 0)))), (q2, .inl (ek_cy κ 1, 5, .inr (.inl (fun _ => Int64.ofInt 0))))]) rfl ?_
  refine ek_put (fs' := [.null, .null, .ref q1, .ref q2, .null, .null, .long (Int64.ofInt 0)]) h hi9 dX0_init_18 fk_X0_16 fpk_0_3 rfl rfl (Nat.le_of_ble_eq_true rfl) rfl ?_
  refine ek_aload (i := 0) (j := 0) h dX0_init_21 rfl rfl ?_
  refine ek_bipush h dX0_init_22 (by decide) ?_
  refine ek_newJ (N := 32) h dX0_init_24 (by decide +kernel) ⟨rfl, by decide⟩ ⟨by decide, by decide⟩ (fun q3 => ?_)
  refine ek_ws (ws' := [(a0, .inr (0, [.null, .null, .ref q1, .ref q2, .null, .null, .long (Int64.ofInt 0)])), (q1, .inl (ek_cy κ 4, 5, .inr (.inr (.inr (.inr (fun i => if i < 5 then some (r1 i) else none)))))), (r1 0, .inl (ek_cy κ 1, 5, .inr (.inl (fun _ => Int64.ofInt 0)))), (r1 1, .inl (ek_cy κ 1, 5, .inr (.inl (fun _ => Int64.ofInt 0)))), (r1 2, .inl (ek_cy κ 1, 5, .inr (.inl (fun _ => Int64.ofInt 0)))), (r1 3, .inl (ek_cy κ 1, 5, .inr (.inl (fun _ => Int64.ofInt 0)))), (r1 4, .inl (ek_cy κ 1, 5, .inr (.inl (fun _ => Int64.ofInt 0)))), (q2, .inl (ek_cy κ 1, 5, .inr (.inl (fun _ => Int64.ofInt 0)))), (q3, .inl (ek_cy κ 1, 32, .inr (.inl (fun _ => Int64.ofInt 0))))]) rfl ?_
  refine ek_put (fs' := [.null, .null, .ref q1, .ref q2, .ref q3, .null, .long (Int64.ofInt 0)]) h hi9 dX0_init_26 fk_X0_20 fpk_0_4 rfl rfl (Nat.le_of_ble_eq_true rfl) rfl ?_
  refine ek_aload (i := 0) (j := 0) h dX0_init_29 rfl rfl ?_
  refine ek_iconst h dX0_init_30 ?_
  refine ek_newJ (N := 5) h dX0_init_31 (by decide +kernel) ⟨rfl, by decide⟩ ⟨by decide, by decide⟩ (fun q4 => ?_)
  refine ek_ws (ws' := [(a0, .inr (0, [.null, .null, .ref q1, .ref q2, .ref q3, .null, .long (Int64.ofInt 0)])), (q1, .inl (ek_cy κ 4, 5, .inr (.inr (.inr (.inr (fun i => if i < 5 then some (r1 i) else none)))))), (r1 0, .inl (ek_cy κ 1, 5, .inr (.inl (fun _ => Int64.ofInt 0)))), (r1 1, .inl (ek_cy κ 1, 5, .inr (.inl (fun _ => Int64.ofInt 0)))), (r1 2, .inl (ek_cy κ 1, 5, .inr (.inl (fun _ => Int64.ofInt 0)))), (r1 3, .inl (ek_cy κ 1, 5, .inr (.inl (fun _ => Int64.ofInt 0)))), (r1 4, .inl (ek_cy κ 1, 5, .inr (.inl (fun _ => Int64.ofInt 0)))), (q2, .inl (ek_cy κ 1, 5, .inr (.inl (fun _ => Int64.ofInt 0)))), (q3, .inl (ek_cy κ 1, 32, .inr (.inl (fun _ => Int64.ofInt 0)))), (q4, .inl (ek_cy κ 1, 5, .inr (.inl (fun _ => Int64.ofInt 0))))]) rfl ?_
  refine ek_put (fs' := [.null, .null, .ref q1, .ref q2, .ref q3, .ref q4, .long (Int64.ofInt 0)]) h hi9 dX0_init_33 fk_X0_23 fpk_0_5 rfl rfl (Nat.le_of_ble_eq_true rfl) rfl ?_
  refine ek_aload (i := 0) (j := 0) h dX0_init_36 rfl rfl ?_
  refine ek_lconst (z := 1) h dX0_init_37 rfl ?_
  refine ek_put (fs' := [.null, .null, .ref q1, .ref q2, .ref q3, .ref q4, .long (Int64.ofInt 1)]) h hi9 dX0_init_38 fk_X0_26 fpk_0_6 rfl rfl (Nat.le_of_ble_eq_true rfl) rfl ?_
  refine ek_aload (i := 0) (j := 0) h dX0_init_41 rfl rfl ?_
  refine ek_aload (i := 1) (j := 1) h dX0_init_42 rfl rfl ?_
  refine ek_put (fs' := [.ref g, .null, .ref q1, .ref q2, .ref q3, .ref q4, .long (Int64.ofInt 1)]) h hi9 dX0_init_43 fk_X0_30 fpk_0_0 rfl rfl (Nat.le_of_ble_eq_true rfl) rfl ?_
  refine ek_aload (i := 0) (j := 0) h dX0_init_46 rfl rfl ?_
  refine ek_aload (i := 2) (j := 2) h dX0_init_47 rfl rfl ?_
  refine ek_put (fs' := [.ref g, .ref mt, .ref q1, .ref q2, .ref q3, .ref q4, .long (Int64.ofInt 1)]) h hi9 dX0_init_48 fk_X0_34 fpk_0_1 rfl rfl (Nat.le_of_ble_eq_true rfl) rfl ?_
  exact ek_ret h hf dX0_init_51 ⟨by decide, by decide⟩ ⟨fun k => if k = 39 then a0 else if k = 0 then g else if k = 21 then mt else if k = 40 then q1 else if 44 ≤ k ∧ k < 49 then r1 (k - 44).toNat else if k = 41 then q2 else if k = 42 then q3 else if k = 43 then q4 else 0, ⟨rfl, rfl, rfl⟩, (ek_sc rfl (ek_er _) (ek_sc rfl (ek_eq (fun i hi => by
    rcases (show i = 0 ∨ i = 1 ∨ i = 2 ∨ i = 3 ∨ i = 4 by omega) with rfl | rfl | rfl | rfl | rfl <;> rfl)) (ek_sc rfl (ek_er _) (ek_sc rfl (ek_er _) (ek_sc rfl (ek_er _) (ek_sc rfl (ek_er _) (ek_sc rfl (ek_er _) (ek_sc rfl (ek_er _) (ek_sc rfl (ek_er _) (ek_sc rfl (ek_er _) trivial))))))))))⟩
