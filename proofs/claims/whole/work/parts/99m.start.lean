/-! LAW: from the entry to the loop -/
theorem fs_X4 : ∀ j, j < 4 → defaultValue (tyX4 j) = vp_V [.null, .null, .null, .null] j := by
  intro j hj
  rcases (show j = 0 ∨ j = 1 ∨ j = 2 ∨ j = 3 by omega) with rfl | rfl | rfl | rfl <;> first | rfl | exact en_d0 | exact en_d0L
theorem fs_X5 : ∀ j, j < 24 → defaultValue (tyX5 j) = vp_V [.int (Int32.ofInt 0), .int (Int32.ofInt 0), .int (Int32.ofInt 0), .null, .null, .null, .null, .int (Int32.ofInt 0), .null, .null, .null, .null, .null, .null, .null, .int (Int32.ofInt 0), .null, .null, .null, .null, .null, .long (Int64.ofInt 0), .long (Int64.ofInt 0), .long (Int64.ofInt 0)] j := by
  intro j hj
  rcases (show j = 0 ∨ j = 1 ∨ j = 2 ∨ j = 3 ∨ j = 4 ∨ j = 5 ∨ j = 6 ∨ j = 7 ∨ j = 8 ∨ j = 9 ∨ j = 10 ∨ j = 11 ∨ j = 12 ∨ j = 13 ∨ j = 14 ∨ j = 15 ∨ j = 16 ∨ j = 17 ∨ j = 18 ∨ j = 19 ∨ j = 20 ∨ j = 21 ∨ j = 22 ∨ j = 23 by omega) with rfl | rfl | rfl | rfl | rfl | rfl | rfl | rfl | rfl | rfl | rfl | rfl | rfl | rfl | rfl | rfl | rfl | rfl | rfl | rfl | rfl | rfl | rfl | rfl <;> first | rfl | exact en_d0 | exact en_d0L
section EKL
variable {p : Program} {l : Launch} {e : Env} {R : Room} {s : State} {mid : MethodId} {args : Array Value} {below : List Frame} {meth : Method} {c : Code} {Q : State → Prop} {D : va_G} {cy : Nat → ClassId} {A : Nat → Prop} {a : Array Slot} {own : String} {cc : ByteArray} {nL : Nat} {Ts : List Cond} {rm : Room} {pc : Nat} {as as' : List (Nat × Value)} {st : List Value} {ws : va_W} {k n : Nat}
theorem ek_astore {k9 : Fin 4} {i q : Nat} (h : ek_Ok (p, l, e, R, s, mid, args, below, meth, c, Q, D, cy, A, a) own cc nL Ts rm as) (d : decode cc pc = .ok (.astore_n k9, 1)) (hi9 : (k9 : Nat) = i) (hn : i < nL) (hl9 : (i, Value.ref q) :: as.filter (fun q => !(q.1 == i) && !(q.1 + 1 == i && q.2.category == 2)) = as') (kk : ∀ a1, ek_Ok (p, l, e, R, s, mid, args, below, meth, c, Q, D, cy, A, a1) own cc nL Ts rm as' → ek_G (p, l, e, R, s, mid, args, below, meth, c, Q, D, cy, A, a1) (pc + 1) st ws k n) : ek_G (p, l, e, R, s, mid, args, below, meth, c, Q, D, cy, A, a) pc (.ref q :: st) ws k n := by
  obtain ⟨hx, hb, hml, hown, hts, hR, hlk, hK, hA, hl, hE⟩ := h
  intro H locs hP hD hS
  exact lv_astore_n hx hb d hi9 hl hn hl9 (fun a1 h1 => kk a1 ⟨hx, hb, hml, hown, hts, hR, hlk, hK, hA, h1, hE⟩ H locs hP hD hS)
theorem ek_istore {i : Nat} {x : Int32} (h : ek_Ok (p, l, e, R, s, mid, args, below, meth, c, Q, D, cy, A, a) own cc nL Ts rm as) (d : decode cc pc = .ok (.istore i, 2)) (hn : i < nL) (hl9 : (i, Value.int x) :: as.filter (fun q => !(q.1 == i) && !(q.1 + 1 == i && q.2.category == 2)) = as') (kk : ∀ a1, ek_Ok (p, l, e, R, s, mid, args, below, meth, c, Q, D, cy, A, a1) own cc nL Ts rm as' → ek_G (p, l, e, R, s, mid, args, below, meth, c, Q, D, cy, A, a1) (pc + 2) st ws k n) : ek_G (p, l, e, R, s, mid, args, below, meth, c, Q, D, cy, A, a) pc (.int x :: st) ws k n := by
  obtain ⟨hx, hb, hml, hown, hts, hR, hlk, hK, hA, hl, hE⟩ := h
  intro H locs hP hD hS
  exact lv_istore hx hb d hl hn hl9 (fun a1 h1 => kk a1 ⟨hx, hb, hml, hown, hts, hR, hlk, hK, hA, h1, hE⟩ H locs hP hD hS)
theorem ek_cell {b L : Nat} {xs : Nat → Int32} (hL : L ≤ 2561) (h : ek_Ok (p, l, e, R, s, mid, args, below, meth, c, Q, D, cy, A, a) RL cL_law 8 wsL_law room_1 as) (hX : va_X b L xs s s.heap) (hbl : b < s.heap.size) (hbA : ¬ A b) (d : decode cL_law pc = .ok (.invokestatic 70, 3)) (hcat : (st.map fun v => v.category).sum ≤ 8) (hc : k ≤ 654842 ∧ n ≤ 7131545) (kk : ek_G (p, l, e, R, s, mid, args, below, meth, c, Q, D, cy, A, a) (pc + 3) (.int (Int32.ofInt (cell_v L xs).toInt) :: st) ws k n) : ek_G (p, l, e, R, s, mid, args, below, meth, c, Q, D, cy, A, a) pc (.int (Int32.ofInt 0) :: .ref b :: st) ws k n := by
  obtain ⟨hx, hb, hml, hown, hts, hR, hlk, hK, hA, hl, hE⟩ := h
  subst hR
  intro H locs hP hD hS
  have hXH : va_X b L xs s H := hX.kept (hS.2.1 b hbl hbA)
  have hbH : b < H.size := Nat.lt_of_lt_of_le hbl hS.1
  refine va_calli (va_runS (As := [.ref b, .int (Int32.ofInt 0)]) (rest := st) ⟨hx, hb, hml, hown, hts⟩ (k_L_cell l b L xs hL H.size) (va_cwS 2 hts gL_law_L_cell rfl rfl rfl ⟨by decide +kernel, by decide +kernel, by decide +kernel⟩ ⟨by decide, by decide⟩) ⟨fun x U g mk y => ?_, fun U hU hW => ⟨rfl, by rw [hU], ?_, hbH⟩⟩ rfl rfl hl.1 rfl (lv_room hcat) d ⟨hc.1, hc.2⟩) hS (fun q h1 h2 => absurd h1 (Nat.not_lt.mpr h2)) (fun q h1 => hA q (Nat.le_trans hS.1 h1)) (fun r u t H1 locs1 ht hvm hw hB hz1 hk1 hS1 => ?_)
  · obtain ⟨y0, y1, y2, y3⟩ := y
    exact ⟨y0, y1, va_X.moved (u := U) (U := U.calling g mk x) (Vm.Alike.refl U.vm) y2, y3⟩
  · rw [hU]
    exact va_X.moved hW.alike hXH
  · subst hw
    rw [Int32.ofInt_toInt] at kk
    exact kk H1 locs1 (hP.kept (fun k x hx9 => hk1 x.1 ((hP k x hx9).lt) (Nat.not_le.mpr ((hP k x hx9).lt)))) hD hS1
end EKL
/-- the memory at the loop's head -/
def mk_00 (z : Int) : en_M := fun k => if k < 50 then mk_49 z k else if k = 50 then fun _ => 0 else mk_5 z k
theorem mk_nb_r (z : Int) : 2 ≤ mk_nb z ∧ mk_nb z ≤ 5 := by
  unfold mk_nb
  omega
theorem mk_00_lo (z : Int) {k : Int} (h : k < 21) : mk_00 z k = xm_fl (mk_10 (mk_nb z)) k := by
  unfold mk_00 mk_49
  rw [if_pos (by omega), if_pos h]
  rfl
theorem mk_00_0 (z : Int) {k : Int} (h1 : 21 ≤ k) (h2 : k < 28) : mk_00 z k = fun _ => 0 := by
  unfold mk_00 mk_49
  rw [if_pos (by omega), if_neg (by omega)]
  by_cases c : k < 27
  · rw [if_pos c]
    rfl
  · rw [if_neg c, if_pos (by omega)]
    funext j
    unfold mk_3
    rw [if_neg (by omega)]
theorem mk_00_28 (z : Int) (j : Int) : mk_00 z 28 j = 29 + j := rfl
theorem mk_00_51 (z : Int) (j : Int) : mk_00 z 51 j = if j = 1 then mk_nb z else 0 := by
  show mk_5 z 51 j = _
  unfold mk_5
  by_cases c : j = 1
  · rw [if_pos ⟨rfl, c⟩, if_pos c]
  · rw [if_neg (fun q => c q.2), if_neg c]
theorem mk_00_hi (z : Int) {k : Int} (h : 51 < k) : mk_00 z k = fun _ => 0 := by
  funext j
  unfold mk_00
  rw [if_neg (by omega), if_neg (by omega)]
  unfold mk_5
  rw [if_neg (by omega)]
theorem inv_0 (z : Int) : INV (mk_00 z) := by
  have nb := mk_nb_r z
  have z01 : mk_10 (mk_nb z) 0 1 = 0 := rfl
  have z00 : mk_10 (mk_nb z) 0 0 = mk_nb z := rfl
  have h1 : 0 ≤ mk_10 (mk_nb z) 0 1 ∧ mk_10 (mk_nb z) 0 1 ≤ 8 := by rw [z01]; decide
  have zk : ∀ k : Int, k ≠ 0 → mk_10 (mk_nb z) k = fun _ => 0 := fun k hk => by
    funext j
    unfold mk_10
    rw [if_neg (fun q => hk q.1)]
  have lo : ∀ k : Int, k < 5 → mk_00 z k = mk_10 (mk_nb z) k := fun k hk => by rw [mk_00_lo z (by omega), fl_k h1 (by omega) (by omega)]
  refine inv_of h1 (fun k hk => mk_00_lo z hk) ?_ ?_ ?_ ?_ ?_ ?_ ?_
  · intro j b j0 j1 b0 b1
    rw [z01] at j0
    rw [zk _ (by omega)]
  · unfold xl_k
    rw [mk_00_51, mk_00_51, mk_00_51, lo 0 (by decide), lo 1 (by decide), lo 2 (by decide), lo 3 (by decide), lo 4 (by decide), zk 1 (by decide), zk 2 (by decide), zk 3 (by decide), zk 4 (by decide), mk_00_0 z (k := 21) (by decide) (by decide), mk_00_0 z (k := 22) (by decide) (by decide), mk_00_0 z (k := 23) (by decide) (by decide), mk_00_0 z (k := 24) (by decide) (by decide), mk_00_0 z (k := 25) (by decide) (by decide), mk_00_0 z (k := 26) (by decide) (by decide), mk_00_hi z (k := 52) (by decide), mk_00_hi z (k := 53) (by decide), mk_00_hi z (k := 54) (by decide), mk_00_hi z (k := 55) (by decide), mk_00_hi z (k := 56) (by decide), mk_00_hi z (k := 57) (by decide), mk_00_hi z (k := 58) (by decide), mk_00_hi z (k := 59) (by decide), mk_00_hi z (k := 60) (by decide)]
    exact ⟨rfl, rfl, rfl, rfl, rfl, rfl, rfl, rfl, rfl, rfl, rfl, rfl⟩
  · unfold xo_ln
    rw [mk_00_51, mk_00_51, if_pos rfl, if_neg (by decide)]
    exact ⟨nb, by decide, fun j j0 j1 => absurd j1 (by omega)⟩
  · unfold xo_mt
    rw [mk_00_51, if_neg (by decide)]
    exact ⟨by decide, fun j j0 j1 => absurd j1 (by omega)⟩
  · intro j j0 j1
    rw [z01] at j1
    omega
  · intro k hk
    rw [z01] at hk
    omega
  · unfold xr_ok
    refine ⟨fun i i0 i1 => ?_, fun i j i0 i1 j0 j1 e => ?_⟩
    · rw [mk_00_28]
      omega
    · rw [mk_00_28, mk_00_28] at e
      omega
abbrev PLL : List Int := (P49 ++ P5) ++ [50]
theorem PLL_nd : PLL.Nodup := by decide +kernel
theorem PLL_b : ((List.range 68).all fun k => decide (((k : Nat) : Int) ∈ PLL)) = true := by decide +kernel
theorem PLL_all : ∀ k : Int, 0 ≤ k → k < 68 → k ∈ PLL := by
  intro k k0 k1
  have z := List.all_eq_true.mp PLL_b k.toNat (List.mem_range.mpr (by omega))
  have z2 := of_decide_eq_true z
  rw [show ((k.toNat : Nat) : Int) = k by omega] at z2
  exact z2
theorem PLL_99 : ∀ k : Int, k ∈ PLL → k ≠ 99 := by
  have z : (PLL.all fun k => decide (k ≠ 99)) = true := by decide +kernel
  exact fun k hk => of_decide_eq_true (List.all_eq_true.mp z k hk)
set_option maxRecDepth 100000 in
set_option maxHeartbeats 4000000 in
theorem law_start {p : Program} {l : Launch} {e : Env} {s : State} {mid : MethodId} {args : Array Value} {below : List Frame} {meth : Method} {c : Code} {Q : State → Prop} {D : va_G} {cy : Nat → ClassId} {A : Nat → Prop} {a : Array Slot} {b L : Nat} {xs : Nat → Int32} (hL : L ≤ 2561) (h : ek_Ok (p, l, e, room_1, s, mid, args, below, meth, c, Q, D, cy, A, a) RL cL_law 8 wsL_law room_1 [(0, .ref b)]) (hX : va_X b L xs s s.heap) (hbl : b < s.heap.size) (hbA : ¬ A b) (hX9 : en_X A s s.heap) (hfl : l.stackTraces = false)
    (K : ∀ (ad : Int → Nat) (M : en_M) (i : Int) (k n : Nat), k ≤ 654842 → n ≤ 7131545 → en_G (p, l, e, room_1, s, mid, args, below, meth, c, Q, D, cy, ad, PLL, A) 1211 [some (en_R 99), some (en_R 49), some (en_R 51), some (en_R 50), some (en_I i), none, none, none] [] M k n) : ek_G (p, l, e, room_1, s, mid, args, below, meth, c, Q, D, cy, A, a) 0 [] [] 0 0 := by
  have rz : en_i32 (cell_v L xs).toInt := by
    have h1 := Int32.le_toInt (cell_v L xs)
    have h2 := Int32.toInt_lt (cell_v L xs)
    constructor <;> omega
  refine ek_new (ci := 4) (fs := [.null, .null, .null, .null]) h dL_law_0 rfl inlX4 tyX4_ok (List.mem_of_getElem? (i := 0) (by decide +kernel)) (List.mem_of_getElem? (i := 1) (by decide +kernel)) (List.mem_of_getElem? (i := 2) (by decide +kernel)) fs_X4 ⟨by decide, by decide⟩ (fun x0 => ?_)
  refine ek_dup h dL_law_3 ?_
  refine ek_aload (i := 0) (j := 0) h dL_law_4 rfl rfl ?_
  refine ek_iconst h dL_law_5 ?_
  refine ek_cell hL h hX hbl hbA dL_law_6 (Nat.le_of_ble_eq_true rfl) ⟨by decide, by decide⟩ ?_
  refine ek_call h (k_X4_init rz) my_X4_init gL_law_X4_init rfl (List.mem_of_getElem? (i := 2) (by decide +kernel)) (List.mem_of_getElem? (i := 11) (by decide +kernel)) (List.mem_of_getElem? (i := 12) (by decide +kernel)) rfl rfl ⟨by decide, by decide⟩ ⟨by decide, by decide⟩ (Nat.le_of_ble_eq_true rfl) dL_law_9 (fun W1 hW1 => ?_)
  obtain ⟨ad1, e1, s1⟩ := hW1
  refine ek_conv (ws' := en_ws cy ad1 P49 (mk_49 (cell_v L xs).toInt)) s1 ?_
  refine ek_astore (i := 1) (as' := [(1, .ref x0), (0, .ref b)]) h dL_law_12 rfl (by decide) rfl (fun a1 h1 => ?_)
  refine ek_new (ci := 5) (fs := [.int (Int32.ofInt 0), .int (Int32.ofInt 0), .int (Int32.ofInt 0), .null, .null, .null, .null, .int (Int32.ofInt 0), .null, .null, .null, .null, .null, .null, .null, .int (Int32.ofInt 0), .null, .null, .null, .null, .null, .long (Int64.ofInt 0), .long (Int64.ofInt 0), .long (Int64.ofInt 0)]) h1 dL_law_13 rfl inlX5 tyX5_ok (List.mem_of_getElem? (i := 3) (by decide +kernel)) (List.mem_of_getElem? (i := 4) (by decide +kernel)) (List.mem_of_getElem? (i := 5) (by decide +kernel)) fs_X5 ⟨by decide, by decide⟩ (fun x1 => ?_)
  refine ek_dup h1 dL_law_16 ?_
  refine ek_aload (i := 0) (j := 1) h1 dL_law_17 rfl rfl ?_
  refine ek_iconst h1 dL_law_18 ?_
  refine ek_cell hL h1 hX hbl hbA dL_law_19 (Nat.le_of_ble_eq_true rfl) ⟨by decide, by decide⟩ ?_
  refine ek_call h1 (k_X5_init rz) my_X5_init gL_law_X5_init rfl (List.mem_of_getElem? (i := 5) (by decide +kernel)) (List.mem_of_getElem? (i := 108) (by decide +kernel)) (List.mem_of_getElem? (i := 109) (by decide +kernel)) rfl rfl ⟨by decide, by decide⟩ ⟨by decide, by decide⟩ (Nat.le_of_ble_eq_true rfl) dL_law_22 (fun W2 hW2 => ?_)
  obtain ⟨ad2, e2, s2⟩ := hW2
  refine ek_conv (ws' := en_ws cy ad1 P49 (mk_49 (cell_v L xs).toInt) ++ en_ws cy ad2 P5 (mk_5 (cell_v L xs).toInt)) (ek_sa (ek_sim_rf _) s2) ?_
  refine ek_astore (i := 2) (as' := [(2, .ref x1), (1, .ref x0), (0, .ref b)]) h1 dL_law_25 rfl (by decide) rfl (fun a2 h2 => ?_)
  refine ek_iconst h2 dL_law_26 ?_
  refine ek_newJ (N := 1) h2 dL_law_27 (List.mem_of_getElem? (i := 6) (by decide +kernel)) ⟨rfl, by decide⟩ ⟨by decide, by decide⟩ (fun x2 => ?_)
  refine ek_astore (i := 3) (as' := [(3, .ref x2), (2, .ref x1), (1, .ref x0), (0, .ref b)]) h2 dL_law_29 rfl (by decide) rfl (fun a3 h3 => ?_)
  refine ek_iconst h3 dL_law_30 ?_
  refine ek_istore (i := 4) (as' := [(4, .int (Int32.ofInt 1)), (3, .ref x2), (2, .ref x1), (1, .ref x0), (0, .ref b)]) h3 dL_law_31 (by decide) rfl (fun a4 h4 => ?_)
  generalize hz : (cell_v L xs).toInt = z at rz ⊢
  obtain ⟨ad, g1, g2, g3, g4⟩ : ∃ ad : Int → Nat, (∀ i, i < 50 → ad i = ad1 i) ∧ ad 50 = x2 ∧ ad 99 = b ∧ (∀ i, 51 ≤ i → i < 68 → ad i = ad2 i) := ⟨fun k => if k < 50 then ad1 k else if k = 50 then x2 else if k = 99 then b else ad2 k, fun i hi => if_pos hi, rfl, rfl, fun i i0 i1 => by dsimp only; rw [if_neg (by omega), if_neg (by omega), if_neg (by omega)]⟩
  have m1 : ∀ k : Int, 0 ≤ k → k < 50 → mk_00 z k = mk_49 z k := fun k _ k1 => by unfold mk_00; rw [if_pos k1]
  have m2 : ∀ k : Int, 51 ≤ k → k < 68 → mk_00 z k = mk_5 z k := fun k k0 k1 => by unfold mk_00; rw [if_neg (by omega), if_neg (by omega)]
  have sp : en_ws cy ad PLL (mk_00 z) = (en_ws cy ad P49 (mk_00 z) ++ en_ws cy ad P5 (mk_00 z)) ++ en_ws cy ad [50] (mk_00 z) := by
    unfold en_ws PLL
    rw [List.map_append, List.map_append]
  refine ek_conv (ws' := en_ws cy ad PLL (mk_00 z)) ?_ ?_
  · rw [sp]
    refine ek_sa (ek_sa ?_ ?_) ?_
    · refine en_ws_grp 0 50 0 0 P49 (by decide +kernel) (fun i _ i1 => g1 i i1) (g1 0 (by decide)) (g1 0 (by decide)) m1 (fun _ => ?_)
      refine ek_eq (N := 10) (fun j hj => ?_)
      show some (ad1 (mk_49 z 28 (j : Int))) = some (ad (mk_00 z 28 (j : Int)))
      rw [m1 28 (by decide) (by decide)]
      show some (ad1 (29 + (j : Int))) = some (ad (29 + (j : Int)))
      rw [g1 _ (by omega)]
    · exact en_ws_grp 51 68 51 51 P5 (by decide +kernel) g4 (g4 51 (by decide) (by decide)) (g4 51 (by decide) (by decide)) m2 (fun q => absurd q (by decide))
    · exact ek_sc g2.symm (ek_er _) trivial
  · have k0 := h4
    obtain ⟨hx, hb, hml, hown, hts, hR, hlk, hK, hA, hl, hE⟩ := h4
    intro H locs hP hD hS
    obtain ⟨hi, hA1⟩ := en_ws_inj hD
    have h9 : en_Ok (p, l, e, room_1, s, mid, args, below, meth, c, Q, D, cy, ad, PLL, A) RL cL_law 8 wsL_law room_1 := ⟨hx, hb, hml, hown, hts, rfl, hlk, hK, PLL_nd, hi, hA1, hA, hE.1⟩
    have hs : en_Sc (p, l, e, room_1, s, mid, args, below, meth, c, Q, D, cy, ad, PLL, A) L xs := ⟨by rw [g3]; exact hX, by rw [g3]; exact hbl, by rw [g3]; exact hbA, hL⟩
    have lm : en_lm ad c.maxLocals [some (en_R 99), some (en_R 49), some (en_R 51), some (en_R 50), some (en_I 1), none, none, none] a4 := by
      refine ⟨hl.1.trans hml.symm, hl.2.1, fun i v hv => ?_⟩
      have hc : i = 0 ∨ i = 1 ∨ i = 2 ∨ i = 3 ∨ i = 4 ∨ i = 5 ∨ i = 6 ∨ i = 7 ∨ 8 ≤ i := by omega
      rcases hc with rfl | rfl | rfl | rfl | rfl | rfl | rfl | rfl | hc
      · simp at hv
        subst hv
        show a4[0]? = some (.val (.ref (ad 99)))
        rw [g3]
        exact hl.2.2 (0, .ref b) (List.mem_of_getElem? (i := 4) rfl)
      · simp at hv
        subst hv
        show a4[1]? = some (.val (.ref (ad 49)))
        rw [g1 49 (by decide), e1]
        exact hl.2.2 (1, .ref x0) (List.mem_of_getElem? (i := 3) rfl)
      · simp at hv
        subst hv
        show a4[2]? = some (.val (.ref (ad 51)))
        rw [g4 51 (by decide) (by decide), e2]
        exact hl.2.2 (2, .ref x1) (List.mem_of_getElem? (i := 2) rfl)
      · simp at hv
        subst hv
        show a4[3]? = some (.val (.ref (ad 50)))
        rw [g2]
        exact hl.2.2 (3, .ref x2) (List.mem_of_getElem? (i := 1) rfl)
      · simp at hv
        subst hv
        exact hl.2.2 (4, .int (Int32.ofInt 1)) (List.mem_of_getElem? (i := 0) rfl)
      · simp at hv
      · simp at hv
      · simp at hv
      · rw [List.getElem?_eq_none (by simpa using hc)] at hv
        cases hv
    exact law_loop (κ := (p, l, e, room_1, s, mid, args, below, meth, c, Q, D, cy, ad, PLL, A)) ⟨PLL_nd, hi⟩ PLL_all h9 ⟨hX9, hfl⟩ hs (K ad) 513 1 (mk_00 z) 68 488 (inv_0 z) (by decide) (by omega) (by decide) (by decide) (by decide) H locs a4 lm hP hS
