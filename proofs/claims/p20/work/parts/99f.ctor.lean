/-! CONSTRUCTORS 3: the grid -/
set_option maxRecDepth 20000 in
theorem fk_X1_9 : en_FK wsX1_init RX1 9 1 1 := ⟨_, _, _, rfl, by decide, by decide +kernel, by decide +kernel⟩
theorem fpk_1_1 : en_FPK RX1 1 1 .int := ⟨_, _, _, rfl, ⟨tyX1, tyX1_ok⟩, nmX1, Or.inl (by decide +kernel), by decide +kernel⟩
set_option maxRecDepth 20000 in
theorem fk_X1_15 : en_FK wsX1_init RX1 15 1 2 := ⟨_, _, _, rfl, by decide, by decide +kernel, by decide +kernel⟩
theorem fpk_1_2 : en_FPK RX1 1 2 (.array .int) := ⟨_, _, _, rfl, ⟨tyX1, tyX1_ok⟩, nmX1, Or.inr ⟨by decide +kernel, by decide +kernel⟩, by decide +kernel⟩
set_option maxRecDepth 20000 in
theorem fk_X1_19 : en_FK wsX1_init RX1 19 1 3 := ⟨_, _, _, rfl, by decide, by decide +kernel, by decide +kernel⟩
theorem fpk_1_3 : en_FPK RX1 1 3 (.array .int) := ⟨_, _, _, rfl, ⟨tyX1, tyX1_ok⟩, nmX1, Or.inr ⟨by decide +kernel, by decide +kernel⟩, by decide +kernel⟩
set_option maxRecDepth 20000 in
theorem fk_X1_22 : en_FK wsX1_init RX1 22 1 4 := ⟨_, _, _, rfl, by decide, by decide +kernel, by decide +kernel⟩
theorem fpk_1_4 : en_FPK RX1 1 4 (.array .int) := ⟨_, _, _, rfl, ⟨tyX1, tyX1_ok⟩, nmX1, Or.inr ⟨by decide +kernel, by decide +kernel⟩, by decide +kernel⟩
set_option maxRecDepth 20000 in
theorem fk_X1_25 : en_FK wsX1_init RX1 25 1 5 := ⟨_, _, _, rfl, by decide, by decide +kernel, by decide +kernel⟩
theorem fpk_1_5 : en_FPK RX1 1 5 (.array .boolean) := ⟨_, _, _, rfl, ⟨tyX1, tyX1_ok⟩, nmX1, Or.inr ⟨by decide +kernel, by decide +kernel⟩, by decide +kernel⟩
set_option maxRecDepth 20000 in
theorem fk_X1_29 : en_FK wsX1_init RX1 29 1 6 := ⟨_, _, _, rfl, by decide, by decide +kernel, by decide +kernel⟩
theorem fpk_1_6 : en_FPK RX1 1 6 (.array .int) := ⟨_, _, _, rfl, ⟨tyX1, tyX1_ok⟩, nmX1, Or.inr ⟨by decide +kernel, by decide +kernel⟩, by decide +kernel⟩
set_option maxRecDepth 20000 in
theorem fk_X1_34 : en_FK wsX1_init RX1 34 1 7 := ⟨_, _, _, rfl, by decide, by decide +kernel, by decide +kernel⟩
theorem fpk_1_7 : en_FPK RX1 1 7 (.array (.array .int)) := ⟨_, _, _, rfl, ⟨tyX1, tyX1_ok⟩, nmX1, Or.inr ⟨by decide +kernel, by decide +kernel⟩, by decide +kernel⟩
set_option maxRecDepth 20000 in
theorem fk_X1_37 : en_FK wsX1_init RX1 37 1 8 := ⟨_, _, _, rfl, by decide, by decide +kernel, by decide +kernel⟩
theorem fpk_1_8 : en_FPK RX1 1 8 (.array (.array .int)) := ⟨_, _, _, rfl, ⟨tyX1, tyX1_ok⟩, nmX1, Or.inr ⟨by decide +kernel, by decide +kernel⟩, by decide +kernel⟩
set_option maxRecDepth 20000 in
theorem fk_X1_40 : en_FK wsX1_init RX1 40 1 0 := ⟨_, _, _, rfl, by decide, by decide +kernel, by decide +kernel⟩
theorem fpk_1_0 : en_FPK RX1 1 0 .int := ⟨_, _, _, rfl, ⟨tyX1, tyX1_ok⟩, nmX1, Or.inr ⟨by decide +kernel, by decide +kernel⟩, by decide +kernel⟩
theorem my_X1_init : en_MY yX1_init RX1 cX1_init 2 none wsX1_init 1 := ⟨⟨_, rfl⟩, rfl, by decide, by decide, by decide +kernel, by decide +kernel⟩
abbrev rm_X1_init : Room := { frames := 4, cells := 20, slots := 115, locals := 88 }
def mk_10 (nb : Int) : en_M := fun k j => if k = 0 ∧ j = 0 then nb else 0
def mk_1 (nb : Int) : en_M := xm_fl (mk_10 nb)
theorem en_ws_inj {cy : Nat → ClassId} {ad : Int → Nat} {PL : List Int} {m : en_M} {A : Nat → Prop} (hD : va_D A (en_ws cy ad PL m)) : (∀ i j, i ∈ PL → j ∈ PL → ad i = ad j → i = j) ∧ ∀ i, i ∈ PL → A (ad i) := by
  refine ⟨fun i j hi hj e => ?_, fun i hi => ?_⟩
  · obtain ⟨q1, a1, b1⟩ := en_ws_get (cy := cy) (ad := ad) (m := m) hi
    obtain ⟨q2, a2, b2⟩ := en_ws_get (cy := cy) (ad := ad) (m := m) hj
    have e2 := hD.1 q1 q2 _ _ b1 b2 e
    subst e2
    exact Option.some.inj (a1.symm.trans a2)
  · obtain ⟨q1, a1, b1⟩ := en_ws_get (cy := cy) (ad := ad) (m := m) hi
    exact hD.2 q1 _ b1
set_option maxRecDepth 100000 in
set_option maxHeartbeats 4000000 in
theorem k_X1_init {l : Launch} {D : va_G} {cy : Nat → ClassId} {a0 : Nat} {nb : Int} : ek_Met l D cy yX1_init wsX1_init rm_X1_init a0 1 [.int (Int32.ofInt 0), .int (Int32.ofInt 0), .null, .null, .null, .null, .null, .null, .null] [.int (Int32.ofInt nb)] (fun W => ∃ ad : Int → Nat, ad 0 = a0 ∧ ek_sim W (en_ws cy ad P1 (mk_1 nb))) := by
  refine ek_met my_X1_init rfl (Nat.le_of_ble_eq_true rfl) ?_
  intro κ hl9 hD9 hcy h hf hi9
  subst hcy
  subst hD9
  subst hl9
  refine ek_aload (i := 0) (j := 0) h dX1_init_0 rfl rfl ?_
  refine ek_obj h dX1_init_1 (by decide +kernel) (by decide +kernel) (by decide +kernel) ⟨by decide, by decide⟩ ?_
  refine ek_aload (i := 0) (j := 0) h dX1_init_4 rfl rfl ?_
  refine ek_iconst h dX1_init_5 ?_
  refine ek_put (fs' := [.int (Int32.ofInt 0), .int (Int32.ofInt 0), .null, .null, .null, .null, .null, .null, .null]) h hi9 dX1_init_6 fk_X1_9 fpk_1_1 rfl rfl (Nat.le_of_ble_eq_true rfl) rfl ?_
  refine ek_aload (i := 0) (j := 0) h dX1_init_9 rfl rfl ?_
  refine ek_bipush h dX1_init_10 (by decide) ?_
  refine ek_newI (N := 8) h dX1_init_12 (by decide +kernel) ⟨rfl, by decide⟩ ⟨by decide, by decide⟩ (fun q1 => ?_)
  refine ek_ws (ws' := [(a0, .inr (1, [.int (Int32.ofInt 0), .int (Int32.ofInt 0), .null, .null, .null, .null, .null, .null, .null])), (q1, .inl (ek_cy κ 0, 8, .inl (fun _ => Int32.ofInt 0)))]) rfl ?_
  refine ek_put (fs' := [.int (Int32.ofInt 0), .int (Int32.ofInt 0), .ref q1, .null, .null, .null, .null, .null, .null]) h hi9 dX1_init_14 fk_X1_15 fpk_1_2 rfl rfl (Nat.le_of_ble_eq_true rfl) rfl ?_
  refine ek_aload (i := 0) (j := 0) h dX1_init_17 rfl rfl ?_
  refine ek_bipush h dX1_init_18 (by decide) ?_
  refine ek_newI (N := 8) h dX1_init_20 (by decide +kernel) ⟨rfl, by decide⟩ ⟨by decide, by decide⟩ (fun q2 => ?_)
  refine ek_ws (ws' := [(a0, .inr (1, [.int (Int32.ofInt 0), .int (Int32.ofInt 0), .ref q1, .null, .null, .null, .null, .null, .null])), (q1, .inl (ek_cy κ 0, 8, .inl (fun _ => Int32.ofInt 0))), (q2, .inl (ek_cy κ 0, 8, .inl (fun _ => Int32.ofInt 0)))]) rfl ?_
  refine ek_put (fs' := [.int (Int32.ofInt 0), .int (Int32.ofInt 0), .ref q1, .ref q2, .null, .null, .null, .null, .null]) h hi9 dX1_init_22 fk_X1_19 fpk_1_3 rfl rfl (Nat.le_of_ble_eq_true rfl) rfl ?_
  refine ek_aload (i := 0) (j := 0) h dX1_init_25 rfl rfl ?_
  refine ek_bipush h dX1_init_26 (by decide) ?_
  refine ek_newI (N := 8) h dX1_init_28 (by decide +kernel) ⟨rfl, by decide⟩ ⟨by decide, by decide⟩ (fun q3 => ?_)
  refine ek_ws (ws' := [(a0, .inr (1, [.int (Int32.ofInt 0), .int (Int32.ofInt 0), .ref q1, .ref q2, .null, .null, .null, .null, .null])), (q1, .inl (ek_cy κ 0, 8, .inl (fun _ => Int32.ofInt 0))), (q2, .inl (ek_cy κ 0, 8, .inl (fun _ => Int32.ofInt 0))), (q3, .inl (ek_cy κ 0, 8, .inl (fun _ => Int32.ofInt 0)))]) rfl ?_
  refine ek_put (fs' := [.int (Int32.ofInt 0), .int (Int32.ofInt 0), .ref q1, .ref q2, .ref q3, .null, .null, .null, .null]) h hi9 dX1_init_30 fk_X1_22 fpk_1_4 rfl rfl (Nat.le_of_ble_eq_true rfl) rfl ?_
  refine ek_aload (i := 0) (j := 0) h dX1_init_33 rfl rfl ?_
  refine ek_bipush h dX1_init_34 (by decide) ?_
  refine ek_newZ (N := 8) h dX1_init_36 (by decide +kernel) ⟨rfl, by decide⟩ ⟨by decide, by decide⟩ (fun q4 => ?_)
  refine ek_ws (ws' := [(a0, .inr (1, [.int (Int32.ofInt 0), .int (Int32.ofInt 0), .ref q1, .ref q2, .ref q3, .null, .null, .null, .null])), (q1, .inl (ek_cy κ 0, 8, .inl (fun _ => Int32.ofInt 0))), (q2, .inl (ek_cy κ 0, 8, .inl (fun _ => Int32.ofInt 0))), (q3, .inl (ek_cy κ 0, 8, .inl (fun _ => Int32.ofInt 0))), (q4, .inl (ek_cy κ 2, 8, .inl (fun _ => Int32.ofInt 0)))]) rfl ?_
  refine ek_put (fs' := [.int (Int32.ofInt 0), .int (Int32.ofInt 0), .ref q1, .ref q2, .ref q3, .ref q4, .null, .null, .null]) h hi9 dX1_init_38 fk_X1_25 fpk_1_5 rfl rfl (Nat.le_of_ble_eq_true rfl) rfl ?_
  refine ek_aload (i := 0) (j := 0) h dX1_init_41 rfl rfl ?_
  refine ek_iconst h dX1_init_42 ?_
  refine ek_newI (N := 5) h dX1_init_43 (by decide +kernel) ⟨rfl, by decide⟩ ⟨by decide, by decide⟩ (fun q5 => ?_)
  refine ek_ws (ws' := [(a0, .inr (1, [.int (Int32.ofInt 0), .int (Int32.ofInt 0), .ref q1, .ref q2, .ref q3, .ref q4, .null, .null, .null])), (q1, .inl (ek_cy κ 0, 8, .inl (fun _ => Int32.ofInt 0))), (q2, .inl (ek_cy κ 0, 8, .inl (fun _ => Int32.ofInt 0))), (q3, .inl (ek_cy κ 0, 8, .inl (fun _ => Int32.ofInt 0))), (q4, .inl (ek_cy κ 2, 8, .inl (fun _ => Int32.ofInt 0))), (q5, .inl (ek_cy κ 0, 5, .inl (fun _ => Int32.ofInt 0)))]) rfl ?_
  refine ek_put (fs' := [.int (Int32.ofInt 0), .int (Int32.ofInt 0), .ref q1, .ref q2, .ref q3, .ref q4, .ref q5, .null, .null]) h hi9 dX1_init_45 fk_X1_29 fpk_1_6 rfl rfl (Nat.le_of_ble_eq_true rfl) rfl ?_
  refine ek_aload (i := 0) (j := 0) h dX1_init_48 rfl rfl ?_
  refine ek_bipush h dX1_init_49 (by decide) ?_
  refine ek_iconst h dX1_init_51 ?_
  refine ek_mnaI (N := 8) (K := 5) h dX1_init_52 (by decide +kernel) (by decide +kernel) ⟨rfl, by decide⟩ ⟨rfl, by decide⟩ ⟨by decide, by decide⟩ (fun q6 r6 => ?_)
  refine ek_ws (ws' := [(a0, .inr (1, [.int (Int32.ofInt 0), .int (Int32.ofInt 0), .ref q1, .ref q2, .ref q3, .ref q4, .ref q5, .null, .null])), (q1, .inl (ek_cy κ 0, 8, .inl (fun _ => Int32.ofInt 0))), (q2, .inl (ek_cy κ 0, 8, .inl (fun _ => Int32.ofInt 0))), (q3, .inl (ek_cy κ 0, 8, .inl (fun _ => Int32.ofInt 0))), (q4, .inl (ek_cy κ 2, 8, .inl (fun _ => Int32.ofInt 0))), (q5, .inl (ek_cy κ 0, 5, .inl (fun _ => Int32.ofInt 0))), (q6, .inl (ek_cy κ 3, 8, .inr (.inr (.inr (.inr (fun i => if i < 8 then some (r6 i) else none)))))), (r6 0, .inl (ek_cy κ 0, 5, .inl (fun _ => Int32.ofInt 0))), (r6 1, .inl (ek_cy κ 0, 5, .inl (fun _ => Int32.ofInt 0))), (r6 2, .inl (ek_cy κ 0, 5, .inl (fun _ => Int32.ofInt 0))), (r6 3, .inl (ek_cy κ 0, 5, .inl (fun _ => Int32.ofInt 0))), (r6 4, .inl (ek_cy κ 0, 5, .inl (fun _ => Int32.ofInt 0))), (r6 5, .inl (ek_cy κ 0, 5, .inl (fun _ => Int32.ofInt 0))), (r6 6, .inl (ek_cy κ 0, 5, .inl (fun _ => Int32.ofInt 0))), (r6 7, .inl (ek_cy κ 0, 5, .inl (fun _ => Int32.ofInt 0)))]) rfl ?_
  refine ek_put (fs' := [.int (Int32.ofInt 0), .int (Int32.ofInt 0), .ref q1, .ref q2, .ref q3, .ref q4, .ref q5, .ref q6, .null]) h hi9 dX1_init_56 fk_X1_34 fpk_1_7 rfl rfl (Nat.le_of_ble_eq_true rfl) rfl ?_
  refine ek_aload (i := 0) (j := 0) h dX1_init_59 rfl rfl ?_
  refine ek_iconst h dX1_init_60 ?_
  refine ek_iconst h dX1_init_61 ?_
  refine ek_mnaI (N := 5) (K := 5) h dX1_init_62 (by decide +kernel) (by decide +kernel) ⟨rfl, by decide⟩ ⟨rfl, by decide⟩ ⟨by decide, by decide⟩ (fun q7 r7 => ?_)
  refine ek_ws (ws' := [(a0, .inr (1, [.int (Int32.ofInt 0), .int (Int32.ofInt 0), .ref q1, .ref q2, .ref q3, .ref q4, .ref q5, .ref q6, .null])), (q1, .inl (ek_cy κ 0, 8, .inl (fun _ => Int32.ofInt 0))), (q2, .inl (ek_cy κ 0, 8, .inl (fun _ => Int32.ofInt 0))), (q3, .inl (ek_cy κ 0, 8, .inl (fun _ => Int32.ofInt 0))), (q4, .inl (ek_cy κ 2, 8, .inl (fun _ => Int32.ofInt 0))), (q5, .inl (ek_cy κ 0, 5, .inl (fun _ => Int32.ofInt 0))), (q6, .inl (ek_cy κ 3, 8, .inr (.inr (.inr (.inr (fun i => if i < 8 then some (r6 i) else none)))))), (r6 0, .inl (ek_cy κ 0, 5, .inl (fun _ => Int32.ofInt 0))), (r6 1, .inl (ek_cy κ 0, 5, .inl (fun _ => Int32.ofInt 0))), (r6 2, .inl (ek_cy κ 0, 5, .inl (fun _ => Int32.ofInt 0))), (r6 3, .inl (ek_cy κ 0, 5, .inl (fun _ => Int32.ofInt 0))), (r6 4, .inl (ek_cy κ 0, 5, .inl (fun _ => Int32.ofInt 0))), (r6 5, .inl (ek_cy κ 0, 5, .inl (fun _ => Int32.ofInt 0))), (r6 6, .inl (ek_cy κ 0, 5, .inl (fun _ => Int32.ofInt 0))), (r6 7, .inl (ek_cy κ 0, 5, .inl (fun _ => Int32.ofInt 0))), (q7, .inl (ek_cy κ 3, 5, .inr (.inr (.inr (.inr (fun i => if i < 5 then some (r7 i) else none)))))), (r7 0, .inl (ek_cy κ 0, 5, .inl (fun _ => Int32.ofInt 0))), (r7 1, .inl (ek_cy κ 0, 5, .inl (fun _ => Int32.ofInt 0))), (r7 2, .inl (ek_cy κ 0, 5, .inl (fun _ => Int32.ofInt 0))), (r7 3, .inl (ek_cy κ 0, 5, .inl (fun _ => Int32.ofInt 0))), (r7 4, .inl (ek_cy κ 0, 5, .inl (fun _ => Int32.ofInt 0)))]) rfl ?_
  refine ek_put (fs' := [.int (Int32.ofInt 0), .int (Int32.ofInt 0), .ref q1, .ref q2, .ref q3, .ref q4, .ref q5, .ref q6, .ref q7]) h hi9 dX1_init_66 fk_X1_37 fpk_1_8 rfl rfl (Nat.le_of_ble_eq_true rfl) rfl ?_
  refine ek_aload (i := 0) (j := 0) h dX1_init_69 rfl rfl ?_
  refine ek_iload (i := 1) (j := 1) h dX1_init_70 rfl rfl ?_
  refine ek_put (fs' := [.int (Int32.ofInt nb), .int (Int32.ofInt 0), .ref q1, .ref q2, .ref q3, .ref q4, .ref q5, .ref q6, .ref q7]) h hi9 dX1_init_71 fk_X1_40 fpk_1_0 rfl rfl (Nat.le_of_ble_eq_true rfl) rfl ?_
  refine ek_aload (i := 0) (j := 0) h dX1_init_74 rfl rfl ?_
  refine ek_conv (ws' := en_ws (ek_cy κ) (fun k => if k = 0 then a0 else if k = 1 then q1 else if k = 2 then q2 else if k = 3 then q3 else if k = 4 then q4 else if k = 5 then q5 else if k = 6 then q6 else if k = 7 then q7 else if 8 ≤ k ∧ k < 16 then r6 (k - 8).toNat else if 16 ≤ k ∧ k < 21 then r7 (k - 16).toNat else 0) P1 (mk_10 nb)) (ek_sc rfl (ek_er _) (ek_sc rfl (ek_er _) (ek_sc rfl (ek_er _) (ek_sc rfl (ek_er _) (ek_sc rfl (ek_er _) (ek_sc rfl (ek_er _) (ek_sc rfl (ek_eq (fun i hi => by
    rcases (show i = 0 ∨ i = 1 ∨ i = 2 ∨ i = 3 ∨ i = 4 ∨ i = 5 ∨ i = 6 ∨ i = 7 by omega) with rfl | rfl | rfl | rfl | rfl | rfl | rfl | rfl <;> rfl)) (ek_sc rfl (ek_er _) (ek_sc rfl (ek_er _) (ek_sc rfl (ek_er _) (ek_sc rfl (ek_er _) (ek_sc rfl (ek_er _) (ek_sc rfl (ek_er _) (ek_sc rfl (ek_er _) (ek_sc rfl (ek_er _) (ek_sc rfl (ek_eq (fun i hi => by
    rcases (show i = 0 ∨ i = 1 ∨ i = 2 ∨ i = 3 ∨ i = 4 by omega) with rfl | rfl | rfl | rfl | rfl <;> rfl)) (ek_sc rfl (ek_er _) (ek_sc rfl (ek_er _) (ek_sc rfl (ek_er _) (ek_sc rfl (ek_er _) (ek_sc rfl (ek_er _) trivial))))))))))))))))))))) ?_
  obtain ⟨ad, had, e0⟩ : ∃ ad : Int → Nat, ad = (fun k => if k = 0 then a0 else if k = 1 then q1 else if k = 2 then q2 else if k = 3 then q3 else if k = 4 then q4 else if k = 5 then q5 else if k = 6 then q6 else if k = 7 then q7 else if 8 ≤ k ∧ k < 16 then r6 (k - 8).toNat else if 16 ≤ k ∧ k < 21 then r7 (k - 16).toNat else 0) ∧ ad 0 = a0 := ⟨_, rfl, rfl⟩
  rw [← had]
  obtain ⟨p, l, e, R, s, mid, args, below, meth, c, Q, D, cy, A, a⟩ := κ
  obtain ⟨hx, hb, hml, hown, hts, hR, hlk, hK, hA, hl, hE⟩ := h
  obtain ⟨hQ, hAe, hr⟩ := hf
  intro H locs hP hD hS
  obtain ⟨hi, hA1⟩ := en_ws_inj hD
  have hn : P1.Nodup := by decide
  have z1 : mk_10 nb 0 1 = 0 := rfl
  have hI : ∀ k, 0 ≤ k → k < 21 → k ∈ P1 := by
    intro k k0 k1
    have hc : k = 0 ∨ k = 1 ∨ k = 2 ∨ k = 3 ∨ k = 4 ∨ k = 5 ∨ k = 6 ∨ k = 7 ∨ k = 8 ∨ k = 9 ∨ k = 10 ∨ k = 11 ∨ k = 12 ∨ k = 13 ∨ k = 14 ∨ k = 15 ∨ k = 16 ∨ k = 17 ∨ k = 18 ∨ k = 19 ∨ k = 20 := by omega
    rcases hc with rfl | rfl | rfl | rfl | rfl | rfl | rfl | rfl | rfl | rfl | rfl | rfl | rfl | rfl | rfl | rfl | rfl | rfl | rfl | rfl | rfl <;> decide
  have h9 : en_Ok (p, l, e, R, s, mid, args, below, meth, c, Q, D, cy, ad, P1, A) RX1 cX1_init 2 wsX1_init rm_X1_init := ⟨hx, hb, hml, hown, hts, hR, hlk, hK, hn, hi, hA1, hA, hE.1⟩
  have G : en_G (p, l, e, R, s, mid, args, below, meth, c, Q, D, cy, ad, P1, A) 75 [some (en_R 0), none] [en_R 0] (mk_10 nb) 20 115 := by
    refine en_callV h9 (k_X1_followLines (m := mk_10 nb) ⟨hn, hi⟩ hI ⟨by rw [z1]; decide, by rw [z1]; decide⟩ (fun j j0 j1 => absurd j1 (by rw [z1]; omega)) (fun j b j0 j1 => absurd j1 (by rw [z1]; omega))) my_X1_followLines gX1_init_X1_followLines (hI 0 (by decide) (by decide)) rfl rfl rfl rfl ⟨by decide, by decide⟩ ⟨by decide, by decide⟩ (Nat.le_of_ble_eq_true rfl) dX1_init_75 (fun r m' hp => ?_)
    obtain ⟨rfl, rfl⟩ := hp
    intro H1 locs1 a1 hl1 hP1 hS1
    rw [hQ]
    refine W.widen (k := rm_X1_init.cells) (n := rm_X1_init.slots) (by decide) (by decide) ?_
    exact W.vret hx hb hr (fun t ht hW => ⟨⟨en_ws cy ad P1 (mk_1 nb), rfl, ⟨ad, e0, ek_sim_rf _⟩, by rw [ht]; exact hP1, by rw [← hAe]; exact en_ws_D _ hn hi hA1, va_K.moved hW.alike hK⟩, by rw [← hAe]; exact hS1.F ht⟩) (by rw [← hAe]; exact hS1.2.2) dX1_init_78 hlk
  have lm : en_lm ad c.maxLocals [some (en_R 0), none] a := by
    refine ⟨hl.1.trans hml.symm, hl.2.1, fun i v hv => ?_⟩
    have hc : i = 0 ∨ i = 1 ∨ 2 ≤ i := by omega
    rcases hc with rfl | rfl | hc
    · simp at hv
      subst hv
      have z := hl.2.2 (0, .ref a0) (List.mem_of_getElem? (i := 0) rfl)
      show a[0]? = some (.val (.ref (ad 0)))
      rw [e0]
      exact z
    · simp at hv
    · rw [List.getElem?_eq_none (by simp; omega)] at hv
      cases hv
  have z := G H locs a lm hP hS
  have e1 : ([en_R 0] : List en_V).map (en_tv ad) = [.ref a0] := by show [Value.ref (ad 0)] = _; rw [e0]
  rw [e1] at z
  exact z
