/-! LAW: from the entry to the loop -/
set_option maxRecDepth 100000 in
set_option maxHeartbeats 4000000 in
theorem law_start {p : Program} {l : Launch} {e : Env} {s : State} {mid : MethodId} {args : Array Value} {below : List Frame} {meth : Method} {c : Code} {Q : State → Prop} {D : va_G} {cy : Nat → ClassId} {A : Nat → Prop} {a : Array Slot} {b L : Nat} {xs : Nat → Int32} (hL : L ≤ 260) (h : ek_Ok (p, l, e, room_1, s, mid, args, below, meth, c, Q, D, cy, A, a) RL cL_law 14 wsL_law room_1 [(0, .ref b)]) (hX : va_X b L xs s s.heap) (hbl : b < s.heap.size) (hbA : ¬ A b) (hX9 : en_X A s s.heap) (hfl : l.stackTraces = false)
    (K : ∀ (ad : Int → Nat) (M : en_M) (ls : List (Option en_V)) (c9 : Nat), c9 ≤ 100000 → en_G (p, l, e, room_1, s, mid, args, below, meth, c, Q, D, cy, ad, PLL, A) 551 ls [en_I 1] M c9 (6 * c9)) : ek_G (p, l, e, room_1, s, mid, args, below, meth, c, Q, D, cy, A, a) 0 [] [] 0 0 := by
  have hE2 : va_AOA .int s := h.2.2.2.2.2.2.2.2.2.2.2
  refine ek_en_sim (ad := fun _ => b) (PL := []) (ls := [some (en_R 99), none, none, none, none, none, none, none, none, none, none, none, none, none]) (st9 := []) (M := fun _ _ => 0) h List.nodup_nil trivial (ls_0 ⟨List.mem_of_getElem? (i := 0) rfl, trivial⟩) rfl (fun h => ?_)
  refine en_aload_n (i := 0) h dL_law_0 rfl rfl ?_
  refine en_iconst h dL_law_1 ?_
  refine en_callSD h (⟨hX, hbl, hbA, hL⟩ : en_Sc (p, l, e, room_1, s, mid, args, below, meth, c, Q, D, cy, (fun _ => b), [], A) L xs) (k_L_drawn (m := fun _ _ => 0) (L := L) (xs := xs) (k := 0) ⟨List.nodup_nil, fun i j hi => nomatch hi⟩ (by decide)) my_L_drawn gL_law_L_drawn rfl rfl ⟨by decide, by decide⟩ ⟨by decide, by decide⟩ (Nat.le_of_ble_eq_true rfl) dL_law_2 (fun r9 M1 hp => ?_)
  obtain ⟨rfl, rfl⟩ := hp
  have rz0 := dw_rng L xs 0
  generalize dw L xs 0 = z0 at rz0 ⊢
  refine en_istore_n (i := 1) h dL_law_5 rfl (by decide) ?_
  refine en_ek (as := [(1, .int (Int32.ofInt z0)), (0, .ref b)]) h hE2 (List.forall_mem_cons.mpr ⟨⟨en_I z0, rfl, rfl⟩, List.forall_mem_cons.mpr ⟨⟨en_R 99, rfl, rfl⟩, fun _ q => nomatch q⟩⟩) rfl (fun a1 h1 => ?_)
  refine ek_ws (ws' := []) rfl ?_
  refine ek_iconst h1 dL_law_6 ?_
  refine ek_newI (N := 3) h1 dL_law_7 (List.mem_of_getElem? (i := 0) rfl) ⟨rfl, by decide⟩ ⟨by decide, by decide⟩ (fun q0 => ?_)
  refine ek_astore_n (i := 2) (as' := [(2, .ref q0), (1, .int (Int32.ofInt z0)), (0, .ref b)]) h1 dL_law_9 rfl (by decide) rfl (fun a2 h2 => ?_)
  refine ek_bipush h2 dL_law_10 (by decide) ?_
  refine ek_newI (N := 10) h2 dL_law_12 (List.mem_of_getElem? (i := 0) rfl) ⟨rfl, by decide⟩ ⟨by decide, by decide⟩ (fun q1 => ?_)
  refine ek_astore_n (i := 3) (as' := [(3, .ref q1), (2, .ref q0), (1, .int (Int32.ofInt z0)), (0, .ref b)]) h2 dL_law_14 rfl (by decide) rfl (fun a3 h3 => ?_)
  refine ek_bipush h3 dL_law_15 (by decide) ?_
  refine ek_newI (N := 32) h3 dL_law_17 (List.mem_of_getElem? (i := 0) rfl) ⟨rfl, by decide⟩ ⟨by decide, by decide⟩ (fun q2 => ?_)
  refine ek_astore (i := 4) (as' := [(4, .ref q2), (3, .ref q1), (2, .ref q0), (1, .int (Int32.ofInt z0)), (0, .ref b)]) h3 dL_law_19 (by decide) rfl (fun a4 h4 => ?_)
  refine ek_bipush h4 dL_law_21 (by decide) ?_
  refine ek_newI (N := 40) h4 dL_law_23 (List.mem_of_getElem? (i := 0) rfl) ⟨rfl, by decide⟩ ⟨by decide, by decide⟩ (fun q3 => ?_)
  refine ek_astore (i := 5) (as' := [(5, .ref q3), (4, .ref q2), (3, .ref q1), (2, .ref q0), (1, .int (Int32.ofInt z0)), (0, .ref b)]) h4 dL_law_25 (by decide) rfl (fun a5 h5 => ?_)
  obtain ⟨ad0, f99, f200, f201, f202, f203⟩ : ∃ ad0 : Int → Nat, ad0 99 = b ∧ ad0 200 = q0 ∧ ad0 201 = q1 ∧ ad0 202 = q2 ∧ ad0 203 = q3 := ⟨fun k => if k = 200 then q0 else if k = 201 then q1 else if k = 202 then q2 else if k = 203 then q3 else b, rfl, rfl, rfl, rfl, rfl⟩
  refine ek_en_sim (ad := ad0) (PL := P200) (ls := [some (en_R 99), some (en_I z0), some (en_R 200), some (en_R 201), some (en_R 202), some (en_R 203), none, none, none, none, none, none, none, none]) (st9 := []) (M := fun _ _ => 0) h5 (by decide) (ek_sc f200.symm (ek_er _) (ek_sc f201.symm (ek_er _) (ek_sc f202.symm (ek_er _) (ek_sc f203.symm (ek_er _) trivial)))) (ls_0 ⟨by rw [en_tvR, f99]; exact List.mem_of_getElem? (i := 5) rfl, List.mem_of_getElem? (i := 4) rfl, by rw [en_tvR, f200]; exact List.mem_of_getElem? (i := 3) rfl, by rw [en_tvR, f201]; exact List.mem_of_getElem? (i := 2) rfl, by rw [en_tvR, f202]; exact List.mem_of_getElem? (i := 1) rfl, by rw [en_tvR, f203]; exact List.mem_of_getElem? (i := 0) rfl, trivial⟩) rfl (fun h => ?_)
  have hI : ∀ k, 200 ≤ k → k < 204 → en_in (p, l, e, room_1, s, mid, args, below, meth, c, Q, D, cy, ad0, P200, A) k := fun k k0 k1 => by
    show k ∈ P200
    rcases (show k = 200 ∨ k = 201 ∨ k = 202 ∨ k = 203 by omega) with rfl | rfl | rfl | rfl <;> decide
  refine en_aload_n (i := 2) h dL_law_27 rfl rfl ?_
  refine en_iconst h dL_law_28 ?_
  refine en_iconst h dL_law_29 ?_
  refine en_iload_n (i := 1) h dL_law_30 rfl rfl ?_
  refine en_iconst h dL_law_31 ?_
  refine en_iremP h dL_law_32 (by omega) (by omega) ?_
  refine en_iadd h dL_law_33 ?_
  refine en_iastore h dL_law_34 (hI _ (by omega) (by omega)) rfl (by omega) ?_
  obtain ⟨z, hz⟩ : ∃ z, z = 2 + z0 % 4 := ⟨_, rfl⟩
  rw [← hz]
  have rz : 2 ≤ z ∧ z ≤ 5 := by omega
  have ez : mk_nb z = z := by unfold mk_nb; omega
  refine en_ek (as := [(5, .ref q3), (4, .ref q2), (3, .ref q1), (2, .ref q0), (1, .int (Int32.ofInt z0)), (0, .ref b)]) h hE2 (List.forall_mem_cons.mpr ⟨⟨en_R 203, rfl, by rw [en_tvR, f203]⟩, List.forall_mem_cons.mpr ⟨⟨en_R 202, rfl, by rw [en_tvR, f202]⟩, List.forall_mem_cons.mpr ⟨⟨en_R 201, rfl, by rw [en_tvR, f201]⟩, List.forall_mem_cons.mpr ⟨⟨en_R 200, rfl, by rw [en_tvR, f200]⟩, List.forall_mem_cons.mpr ⟨⟨en_I z0, rfl, rfl⟩, List.forall_mem_cons.mpr ⟨⟨en_R 99, rfl, by rw [en_tvR, f99]⟩, fun _ q => nomatch q⟩⟩⟩⟩⟩⟩) rfl (fun a6 h6 => ?_)
  refine ek_new (ci := 4) (fs := [.null, .null, .null, .null]) h6 dL_law_35 rfl inlX4 tyX4_ok (List.mem_of_getElem? (i := 1) rfl) (List.mem_of_getElem? (i := 2) rfl) (List.mem_of_getElem? (i := 3) rfl) fs_X4 ⟨by decide, by decide⟩ (fun x0 => ?_)
  refine ek_dup h6 dL_law_38 ?_
  refine ek_aload (i := 2) (j := 3) h6 dL_law_39 rfl rfl ?_
  refine ek_iconst h6 dL_law_40 ?_
  refine ek_iald (q0 := 0) (N := 3) (i := 0) (x := Int32.ofInt z) (f := fun j : Nat => Int32.ofInt (en_set (fun _ _ => 0) 200 0 z 200 (j : Int))) h6 dL_law_41 (by rw [← f200]; rfl) (by decide) (by decide) rfl ?_
  refine ek_call h6 (k_X4_init (z := z) (by constructor <;> omega)) my_X4_init gL_law_X4_init rfl (List.mem_of_getElem? (i := 3) rfl) (List.mem_of_getElem? (i := 12) rfl) (List.mem_of_getElem? (i := 13) rfl) rfl rfl ⟨by decide, by decide⟩ ⟨by decide, by decide⟩ (Nat.le_of_ble_eq_true rfl) dL_law_42 (fun W1 hW1 => ?_)
  obtain ⟨ad1, e1, s1⟩ := hW1
  refine ek_conv (ws' := en_ws cy ad0 P200 (en_set (fun _ _ => 0) 200 0 z) ++ en_ws cy ad1 P49 (mk_49 z)) (ek_sa (ek_sim_rf _) s1) ?_
  refine ek_astore (i := 6) (as' := [(6, .ref x0), (5, .ref q3), (4, .ref q2), (3, .ref q1), (2, .ref q0), (1, .int (Int32.ofInt z0)), (0, .ref b)]) h6 dL_law_45 (by decide) rfl (fun a7 h7 => ?_)
  refine ek_new (ci := 4) (fs := [.null, .null, .null, .null]) h7 dL_law_47 rfl inlX4 tyX4_ok (List.mem_of_getElem? (i := 1) rfl) (List.mem_of_getElem? (i := 2) rfl) (List.mem_of_getElem? (i := 3) rfl) fs_X4 ⟨by decide, by decide⟩ (fun x1 => ?_)
  refine ek_dup h7 dL_law_50 ?_
  have fin : ∀ (z2 : Int) (k n : Nat), en_i32 z2 → mk_nb z2 = z → k ≤ 1500 → n ≤ 10000 → ek_G (p, l, e, room_1, s, mid, args, below, meth, c, Q, D, cy, A, a7) 78 [.int (Int32.ofInt z2), .ref x1, .ref x1] ((en_ws cy ad0 P200 (en_set (fun _ _ => 0) 200 0 z) ++ en_ws cy ad1 P49 (mk_49 z)) ++ [(x1, .inr (4, [.null, .null, .null, .null]))]) k n := by
    intro z2 k n rz2 hz2 hk hn
    refine ek_call h7 (k_X4_init (z := z2) rz2) my_X4_init gL_law_X4_init rfl (List.mem_of_getElem? (i := 3) rfl) (List.mem_of_getElem? (i := 12) rfl) (List.mem_of_getElem? (i := 13) rfl) rfl rfl ⟨by decide, by decide⟩ ⟨Nat.le_trans (show k + 49 ≤ 2000 by omega) (Nat.le_of_ble_eq_true rfl), Nat.le_trans (show n + 323 ≤ 12000 by omega) (Nat.le_of_ble_eq_true rfl)⟩ (Nat.le_of_ble_eq_true rfl) dL_law_78 (fun W2 hW2 => ?_)
    obtain ⟨ad2, e2, s2⟩ := hW2
    have e49 : mk_49 z2 = mk_49 z := by
      unfold mk_49
      rw [hz2, ez]
    rw [e49] at s2
    refine ek_conv (ws' := (en_ws cy ad0 P200 (en_set (fun _ _ => 0) 200 0 z) ++ en_ws cy ad1 P49 (mk_49 z)) ++ en_ws cy ad2 P49 (mk_49 z)) (ek_sa (ek_sim_rf _) s2) ?_
    refine ek_astore (i := 7) (as' := [(7, .ref x1), (6, .ref x0), (5, .ref q3), (4, .ref q2), (3, .ref q1), (2, .ref q0), (1, .int (Int32.ofInt z0)), (0, .ref b)]) h7 dL_law_81 (by decide) rfl (fun a8 h8 => ?_)
    obtain ⟨ad, g1, g2, g3, g4⟩ : ∃ ad : Int → Nat, (∀ i, i < 50 → ad i = ad1 i) ∧ (∀ i, 100 ≤ i → i < 150 → ad i = ad2 (i - 100)) ∧ ad 99 = b ∧ (∀ i, 150 ≤ i → ad i = ad0 i) := ⟨fun k => if k < 50 then ad1 k else if k < 100 then b else if k < 150 then ad2 (k - 100) else ad0 k, fun i hi => if_pos hi, fun i i0 i1 => by dsimp only; rw [if_neg (by omega), if_neg (by omega), if_pos (by omega)], rfl, fun i i0 => by dsimp only; rw [if_neg (by omega), if_neg (by omega), if_neg (by omega)]⟩
    have g5 : ∀ i, 0 ≤ i → i < 50 → ad (rn i) = ad2 i := fun i i0 i1 => by rw [rn_lo ⟨i0, i1⟩, g2 _ (by omega) (by omega), show i + 100 - 100 = i by omega]
    have sp : en_ws cy ad PLL (mk_00 z) = (en_ws cy ad P200 (mk_00 z) ++ en_ws cy ad P49 (mk_00 z)) ++ en_ws cy ad (P49.map rn) (mk_00 z) := by
      unfold en_ws PLL
      rw [List.map_append, List.map_append]
    refine ek_conv (ws' := (en_ws cy ad P200 (mk_00 z) ++ en_ws cy ad P49 (mk_00 z)) ++ en_ws cy (fun j => ad (rn j)) P49 (rnM (mk_00 z))) (ek_sa (ek_sa ?_ ?_) ?_) ?_
    · exact en_ws_grp 200 204 200 200 P200 (by decide +kernel) (fun i i0 _ => g4 i (by omega)) (g4 200 (by decide)) (g4 200 (by decide)) (fun k k0 _ => mk_00_hi z (by omega)) (fun q => absurd q (by decide))
    · refine en_ws_grp 0 50 0 0 P49 (by decide +kernel) (fun i _ i1 => g1 i i1) (g1 0 (by decide)) (g1 0 (by decide)) (fun k _ k1 => mk_00_49 z k1) (fun _ => ?_)
      refine ek_eq (N := 10) (fun j hj => ?_)
      show some (ad1 (mk_49 z 28 (j : Int))) = some (ad (mk_00 z 28 (j : Int)))
      rw [mk_00_49 z (by decide)]
      show some (ad1 (29 + (j : Int))) = some (ad (29 + (j : Int)))
      rw [g1 _ (by omega)]
    · refine en_ws_grp 0 50 0 0 P49 (by decide +kernel) g5 (g5 0 (by decide) (by decide)) (g5 0 (by decide) (by decide)) (fun k k0 k1 => mk_rn z k0 k1) (fun _ => ?_)
      refine ek_eq (N := 10) (fun j hj => ?_)
      show some (ad2 (mk_49 z 28 (j : Int))) = some (ad (rn (rnM (mk_00 z) 28 (j : Int))))
      rw [mk_rn z (by decide) (by decide)]
      show some (ad2 (29 + (j : Int))) = some (ad (rn (29 + (j : Int))))
      rw [g5 _ (by omega) (by omega)]
    refine ek_en_sim (ad := ad) (PL := PLL) (ls := [some (en_R 99), some (en_I z0), some (en_R 200), some (en_R 201), some (en_R 202), some (en_R 203), some (en_R 49), some (en_R 149), none, none, none, none, none, none]) (st9 := []) (M := mk_00 z) h8 PLL_nd (by rw [sp]; exact ek_sa (ek_sim_rf _) (rn_sim P49 (by decide +kernel))) (ls_0 ⟨by rw [en_tvR, g3]; exact List.mem_of_getElem? (i := 7) rfl, List.mem_of_getElem? (i := 6) rfl, by rw [en_tvR, g4 200 (by decide), f200]; exact List.mem_of_getElem? (i := 5) rfl, by rw [en_tvR, g4 201 (by decide), f201]; exact List.mem_of_getElem? (i := 4) rfl, by rw [en_tvR, g4 202 (by decide), f202]; exact List.mem_of_getElem? (i := 3) rfl, by rw [en_tvR, g4 203 (by decide), f203]; exact List.mem_of_getElem? (i := 2) rfl, by rw [en_tvR, g1 49 (by decide), e1]; exact List.mem_of_getElem? (i := 1) rfl, by rw [en_tvR, g2 149 (by decide) (by decide), show (149 : Int) - 100 = 49 by decide, e2]; exact List.mem_of_getElem? (i := 0) rfl, trivial⟩) rfl (fun h => ?_)
    have hW : en_Wok (en_w (p, l, e, room_1, s, mid, args, below, meth, c, Q, D, cy, ad, PLL, A)) := ⟨PLL_nd, h.2.2.2.2.2.2.2.2.2.1⟩
    refine en_wide (k' := 2000) (n' := 12000) (show k + 49 ≤ 2000 by omega) (show n + 323 ≤ 12000 by omega) ?_
    refine en_bipush h dL_law_83 (by decide) ?_
    refine en_iload_n (i := 1) h dL_law_85 rfl rfl ?_
    refine en_iconst h dL_law_86 ?_
    refine en_idivP h dL_law_87 (by omega) (by omega) ?_
    refine en_bipush h dL_law_88 (by decide) ?_
    refine en_iremP h dL_law_90 (by omega) (by omega) ?_
    refine en_iadd h dL_law_91 ?_
    refine en_istore (i := 8) h dL_law_92 (by decide) ?_
    refine en_iconst h dL_law_94 ?_
    refine en_istore (i := 9) h dL_law_95 (by decide) ?_
    refine en_iconst h dL_law_97 ?_
    refine en_istore (i := 10) h dL_law_98 (by decide) ?_
    have z := law_loop (κ := (p, l, e, room_1, s, mid, args, below, meth, c, Q, D, cy, ad, PLL, A)) (L := L) (xs := xs) (s := z0) (th := 14 + z0 / 4 % 31) hW PLL_H h ⟨hX9, hfl⟩ ⟨by rw [g3]; exact hX, by rw [g3]; exact hbl, by rw [g3]; exact hbA, hL⟩ (by omega) (K ad) (14 + z0 / 4 % 31).toNat 0 rfl (mk_00 z) (li_0 rz) none none none
    exact z
  refine ek_aload (i := 2) (j := 4) h7 dL_law_51 rfl rfl ?_
  refine ek_iconst h7 dL_law_52 ?_
  refine ek_iald (q0 := 0) (N := 3) (i := 0) (x := Int32.ofInt z) (f := fun j : Nat => Int32.ofInt (en_set (fun _ _ => 0) 200 0 z 200 (j : Int))) h7 dL_law_53 (by rw [← f200]; rfl) (by decide) (by decide) rfl ?_
  refine ek_iconst h7 dL_law_54 ?_
  refine ek_icmp_ne (tgt := 63) h7 dL_law_55 (by decide) (by constructor <;> omega) (by decide) (fun c1 => ?_) (fun c1 => ?_)
  · refine ek_aload (i := 2) (j := 4) h7 dL_law_63 rfl rfl ?_
    refine ek_iconst h7 dL_law_64 ?_
    refine ek_iald (q0 := 0) (N := 3) (i := 0) (x := Int32.ofInt z) (f := fun j : Nat => Int32.ofInt (en_set (fun _ _ => 0) 200 0 z 200 (j : Int))) h7 dL_law_65 (by rw [← f200]; rfl) (by decide) (by decide) rfl ?_
    refine ek_iconst h7 dL_law_66 ?_
    refine ek_icmp_ne (tgt := 75) h7 dL_law_67 (by decide) (by constructor <;> omega) (by decide) (fun c2 => ?_) (fun c2 => ?_)
    · refine ek_aload (i := 2) (j := 4) h7 dL_law_75 rfl rfl ?_
      refine ek_iconst h7 dL_law_76 ?_
      refine ek_iald (q0 := 0) (N := 3) (i := 0) (x := Int32.ofInt z) (f := fun j : Nat => Int32.ofInt (en_set (fun _ _ => 0) 200 0 z 200 (j : Int))) h7 dL_law_77 (by rw [← f200]; rfl) (by decide) (by decide) rfl ?_
      exact fin z _ _ (by constructor <;> omega) ez (Nat.le_of_ble_eq_true rfl) (Nat.le_of_ble_eq_true rfl)
    · refine ek_bipush h7 dL_law_70 (by decide) ?_
      refine ek_goto (tgt := 78) h7 dL_law_72 (by decide) ?_
      exact fin 77 _ _ (by decide) (by subst c2; decide) (Nat.le_of_ble_eq_true rfl) (Nat.le_of_ble_eq_true rfl)
  · refine ek_bipush h7 dL_law_58 (by decide) ?_
    refine ek_goto (tgt := 78) h7 dL_law_60 (by decide) ?_
    exact fin (-5) _ _ (by decide) (by subst c1; decide) (Nat.le_of_ble_eq_true rfl) (Nat.le_of_ble_eq_true rfl)
