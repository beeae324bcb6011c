/-! CLASS 8: cleaning -/
/-- whether the worst meter of island q goes -/
abbrev xe_dr (m : en_M) (q lim : Int) : Prop := xe_wm m q ≠ -1 ∧ en_w64 (lim * gl_D m q (-1)) < en_w64 (xe_ws m q (xe_wm m q)) ∧ ¬ xm_nd m (xe_wm m q)
def xe_st (m : en_M) (q lim : Int) : en_M := if xe_dr m q lim then en_set m 26 (xe_wm m q) 0 else m
abbrev rm_X4_dropWorst : Room := { frames := 6, cells := 0, slots := 0, locals := 115 }
theorem my_X4_dropWorst : en_MY yX4_dropWorst RX4 cX4_dropWorst 4 (some .boolean) wsX4_dropWorst 2 := ⟨⟨_, rfl⟩, rfl, by decide, by decide, by decide +kernel, by decide +kernel⟩
set_option maxRecDepth 20000 in
theorem fl_X4_dropWorst_32 : en_FL wsX4_dropWorst RX4 32 4 1 := ⟨_, _, _, rfl, by decide, by decide +kernel, Or.inl (by decide +kernel)⟩
set_option maxRecDepth 20000 in
theorem fl_X4_dropWorst_41 : en_FL wsX4_dropWorst RX4 41 4 2 := ⟨_, _, _, rfl, by decide, by decide +kernel, Or.inl (by decide +kernel)⟩
set_option maxRecDepth 20000 in
theorem fl_X4_dropWorst_48 : en_FL wsX4_dropWorst RX4 48 4 3 := ⟨_, _, _, rfl, by decide, by decide +kernel, Or.inl (by decide +kernel)⟩
set_option maxRecDepth 20000 in
theorem fl_X4_dropWorst_128 : en_FL wsX4_dropWorst RX4 128 2 6 := ⟨_, _, _, rfl, by decide, by decide +kernel, Or.inr (by decide +kernel)⟩
set_option maxRecDepth 100000 in
set_option maxHeartbeats 4000000 in
theorem k_X4_dropWorst {l : Launch} {w : en_W} {M m : en_M} (hw : en_Wok w) (hp : en_Has w 0 50) {q lim : Int} (hs : en_sc M m) (ho : xr_ok M) (hv : xv_all m) (hd : xv_rd m) (hq : en_i32 q) (hlim : en_i32 lim) : en_Met l w yX4_dropWorst wsX4_dropWorst rm_X4_dropWorst [en_R 49, en_I q, en_I lim] M (fun r m' => r = some (en_I (if xe_dr m q lim then 1 else 0)) ∧ en_sc m' (xe_st m q lim) ∧ xr_ok m') := by
  refine en_met my_X4_dropWorst hw (Nat.le_of_ble_eq_true rfl) ?_
  intro κ hl9 hw9 h hf
  subst hw9
  subst hl9
  have hI : ∀ k, 0 ≤ k → k < 50 → en_in κ k := hp
  have n9 := hv.1
  have wr := xe_wm_rng hv q
  refine en_aload_n (i := 0) h dX4_dropWorst_0 rfl rfl ?_
  refine en_getR h dX4_dropWorst_1 fl_X4_dropWorst_48 (hI _ (by omega) (by omega)) rfl rfl ?_
  refine en_iload_n (i := 1) h dX4_dropWorst_4 rfl rfl ?_
  refine en_callV h (k_X0_solve hw (fun k k0 k1 => hI k k0 (by omega)) hq (xv_all_ag (en_sc_ag hs) hv) (xv_rd_sc hs hd)) my_X0_solve gX4_dropWorst_X0_solve (hI _ (by omega) (by omega)) rfl rfl rfl rfl ⟨by decide, by decide⟩ ⟨by decide, by decide⟩ (Nat.le_of_ble_eq_true rfl) dX4_dropWorst_5 (fun r M1 hp => ?_)
  obtain ⟨rfl, k1, k2, k3⟩ := hp
  have es : xm_es M1 m q := xm_es_mv ⟨en_sc_oe k1, xr_ok_oe k1 ho, k2, k3⟩ hs hv
  have ag := en_sc_ag es.1
  refine en_aload_n (i := 0) h dX4_dropWorst_8 rfl rfl ?_
  refine en_getR h dX4_dropWorst_9 fl_X4_dropWorst_48 (hI _ (by omega) (by omega)) rfl rfl ?_
  refine en_iload_n (i := 1) h dX4_dropWorst_12 rfl rfl ?_
  refine en_callV h (k_X0_worstMeter hw (fun k k0 k1 => hI k k0 (by omega)) hq (xv_all_ag ag hv) (xv_rd_sc es.1 hd)) my_X0_worstMeter gX4_dropWorst_X0_worstMeter (hI _ (by omega) (by omega)) rfl rfl rfl rfl ⟨by decide, by decide⟩ ⟨by decide, by decide⟩ (Nat.le_of_ble_eq_true rfl) dX4_dropWorst_13 (fun r M2 hp => ?_)
  obtain ⟨rfl, e2⟩ := hp
  subst e2
  rw [xm_wm_es es hv]
  have no : ¬ xe_dr m q lim → ∀ M : en_M, en_sc M m → xr_ok M → en_G κ 45 [some (en_R 49), some (en_I q), some (en_I lim), some (en_I (xe_wm m q))] [] M 0 0 := by
    intro hn M h1 h2
    refine en_iconst h dX4_dropWorst_45 ?_
    exact en_zret h hf dX4_dropWorst_46 ⟨by decide, by decide⟩ (by omega) ⟨by rw [if_neg hn], by unfold xe_st; rw [if_neg hn]; exact h1, h2⟩
  refine en_istore_n (i := 3) h dX4_dropWorst_16 rfl (by decide) ?_
  refine en_iload_n (i := 3) h dX4_dropWorst_17 rfl rfl ?_
  refine en_iconst h dX4_dropWorst_18 ?_
  refine en_icmp_eq (tgt := 45) h dX4_dropWorst_19 (by decide) (by omega) (by omega) (fun c_19 => ?_) (fun c_19 => ?_)
  · exact no (fun z => z.1 c_19) M2 es.1 es.2.1
  · have v := hv.2.1 (xe_wm m q) (by omega) (by omega)
    have d := hd (xe_wm m q) (by omega) (by omega)
    refine en_aload_n (i := 0) h dX4_dropWorst_22 rfl rfl ?_
    refine en_getR h dX4_dropWorst_23 fl_X4_dropWorst_48 (hI _ (by omega) (by omega)) rfl rfl ?_
    refine en_iload_n (i := 3) h dX4_dropWorst_26 rfl rfl ?_
    refine en_iload_n (i := 2) h dX4_dropWorst_27 rfl rfl ?_
    refine en_callV h (k_X0_isAbove hw (fun k k0 k1 => hI k k0 (by omega)) (i := xe_wm m q) (lim := lim) ⟨by omega, by omega⟩ (xv_m_ag ag v.1) (fun b k0 k1 => by rw [xm_gr_ag ag v.1]; have z := v.2.2.2 b k0 k1; omega) (by rw [es.1 24 (by decide)]; omega) (by rw [es.1 25 (by decide)]; omega) hlim) my_X0_isAbove gX4_dropWorst_X0_isAbove (hI _ (by omega) (by omega)) rfl rfl rfl rfl ⟨by decide, by decide⟩ ⟨by decide, by decide⟩ (Nat.le_of_ble_eq_true rfl) dX4_dropWorst_28 (fun r M3 hp => ?_)
    obtain ⟨rfl, e3⟩ := hp
    subst e3
    rw [xm_ws_es es v.1, es.2.2.1]
    refine en_if_eq (tgt := 45) h dX4_dropWorst_31 (by decide) (by split <;> omega) (fun c_31 => ?_) (fun c_31 => ?_)
    · exact no (fun z => by rw [if_pos z.2.1] at c_31; omega) M3 es.1 es.2.1
    · have c9 : en_w64 (lim * gl_D m q (-1)) < en_w64 (xe_ws m q (xe_wm m q)) := by apply Decidable.byContradiction; intro z; rw [if_neg z] at c_31; omega
      refine en_aload_n (i := 0) h dX4_dropWorst_34 rfl rfl ?_
      refine en_getR h dX4_dropWorst_35 fl_X4_dropWorst_41 (hI _ (by omega) (by omega)) rfl rfl ?_
      refine en_iload_n (i := 3) h dX4_dropWorst_38 rfl rfl ?_
      refine en_callV h (k_X3_needs hw (fun k k0 k1 => hI k k0 (by omega)) es.2.1 (xv_all_ag ag hv) (i := xe_wm m q) ⟨by omega, by rw [es.1 21 (by decide)]; omega⟩) my_X3_needs gX4_dropWorst_X3_needs (hI _ (by omega) (by omega)) rfl rfl rfl rfl ⟨by decide, by decide⟩ ⟨by decide, by decide⟩ (Nat.le_of_ble_eq_true rfl) dX4_dropWorst_39 (fun r M4 hp => ?_)
      obtain ⟨rfl, g1, g2⟩ := hp
      have sc4 : en_sc M4 m := en_sc_tr (en_sc_of g1) es.1
      have nd := xm_nd_ag ag hv (xe_wm m q)
      refine en_if_eq (tgt := 47) h dX4_dropWorst_42 (by decide) (by split <;> omega) (fun c_42 => ?_) (fun c_42 => ?_)
      · have c8 : ¬ xm_nd M3 (xe_wm m q) := fun z => by rw [if_pos z] at c_42; omega
        have dr : xe_dr m q lim := ⟨c_19, c9, fun z => c8 (nd.mpr z)⟩
        refine en_aload_n (i := 0) h dX4_dropWorst_47 rfl rfl ?_
        refine en_getR h dX4_dropWorst_48 fl_X4_dropWorst_32 (hI _ (by omega) (by omega)) rfl rfl ?_
        refine en_getR h dX4_dropWorst_51 fl_X4_dropWorst_128 (hI _ (by omega) (by omega)) rfl rfl ?_
        refine en_iload_n (i := 3) h dX4_dropWorst_54 rfl rfl ?_
        refine en_iconst h dX4_dropWorst_55 ?_
        refine en_zastore h dX4_dropWorst_56 (hI _ (by omega) (by omega)) rfl (by omega) (by omega) ?_
        refine en_iconst h dX4_dropWorst_57 ?_
        exact en_zret h hf dX4_dropWorst_58 ⟨by decide, by decide⟩ (by omega) ⟨by rw [if_pos dr], by unfold xe_st; rw [if_pos dr]; intro k hk; funext j; unfold en_set; rw [sc4 k hk], by unfold xr_ok; rw [en_set_ne (by decide)]; exact g2⟩
      · have c8 : xm_nd M3 (xe_wm m q) := by apply Decidable.byContradiction; intro z; rw [if_neg z] at c_42; omega
        exact no (fun z => z.2.2 (nd.mp c8)) M4 sc4 g2
theorem xv_all_off {m : en_M} (h : xv_all m) (i : Int) : xv_all (en_set m 26 i 0) := by
  have e : ∀ k, k ≠ 26 → en_set m 26 i 0 k = m k := fun k hk => en_set_ne hk
  have ev : ∀ j, xv_m (en_set m 26 i 0) j ↔ xv_m m j := fun j => by
    unfold xv_m
    rw [e 22 (by decide), e 23 (by decide), e 1 (by decide), e 4 (by decide)]
  have eiu : ∀ j, xm_iu (en_set m 26 i 0) j = xm_iu m j := fun j => by
    unfold xm_iu
    rw [e 22 (by decide), e 23 (by decide), e 1 (by decide), e 4 (by decide), e 5 (by decide)]
  refine ⟨by rw [e 21 (by decide)]; exact h.1, fun j j0 j1 => ?_, fun b b0 b1 => by rw [e 5 (by decide)]; exact h.2.2 b b0 b1⟩
  rw [e 21 (by decide)] at j1
  obtain ⟨v1, v2, v3, v4⟩ := h.2.1 j j0 j1
  refine ⟨(ev j).mpr v1, ?_, by rw [eiu]; exact v3, fun b b0 b1 => ?_⟩
  · unfold en_set
    by_cases c : j = i
    · rw [if_pos ⟨rfl, c⟩]; exact Or.inl rfl
    · rw [if_neg (fun z => c z.2)]; exact v2
  · have q := v4 b b0 b1
    have eg : xm_gr (en_set m 26 i 0) j b = xm_gr m j b := by
      unfold xm_gr
      rw [e 22 (by decide), e 23 (by decide)]
      rcases v1 with ⟨h1, h2, h3⟩ | ⟨h1, h2, h3, -⟩
      · rw [if_pos h1, if_pos h1, e _ (by omega)]
      · rw [if_neg (by omega), if_neg (by omega), e _ (by omega)]
    rw [eg]
    exact q
theorem xv_rd_off {m : en_M} (h : xv_rd m) (i : Int) : xv_rd (en_set m 26 i 0) := by
  unfold xv_rd
  rw [en_set_ne (by decide), en_set_ne (by decide), en_set_ne (by decide)]
  exact h
theorem xe_st_ok {m : en_M} (hv : xv_all m) (hd : xv_rd m) (q lim : Int) : xv_all (xe_st m q lim) ∧ xv_rd (xe_st m q lim) := by
  unfold xe_st
  split
  · exact ⟨xv_all_off hv _, xv_rd_off hd _⟩
  · exact ⟨hv, hd⟩
/-- how many meters go, and what is left -/
def xe_cl (q lim : Int) : Nat → en_M → Int × en_M
  | 0, m => (0, m)
  | n + 1, m => if xe_dr m q lim then ((xe_cl q lim n (xe_st m q lim)).1 + 1, (xe_cl q lim n (xe_st m q lim)).2) else (0, m)
abbrev rm_X4_clean : Room := { frames := 7, cells := 3, slots := 18, locals := 138 }
theorem my_X4_clean : en_MY yX4_clean RX4 cX4_clean 5 (some .int) wsX4_clean 2 := ⟨⟨_, rfl⟩, rfl, by decide, by decide, by decide +kernel, by decide +kernel⟩
set_option maxRecDepth 20000 in
theorem fl_X4_clean_23 : en_FL wsX4_clean RX4 23 4 0 := ⟨_, _, _, rfl, by decide, by decide +kernel, Or.inl (by decide +kernel)⟩
set_option maxRecDepth 20000 in
theorem fl_X4_clean_100 : en_FL wsX4_clean RX4 100 1 6 := ⟨_, _, _, rfl, by decide, by decide +kernel, Or.inr (by decide +kernel)⟩
set_option maxRecDepth 20000 in
theorem th_X4_clean_55 : en_TH wsX4_clean "GridEstimator" 55 59 "java/lang/IllegalArgumentException" := ⟨by decide +kernel, by decide +kernel, by decide +kernel, by decide +kernel, by decide +kernel, by decide +kernel⟩
set_option maxRecDepth 100000 in
set_option maxHeartbeats 4000000 in
theorem lp_X4_clean {κ : en_C} {A : Int} {B : en_M} {b q lim : Int} {P : en_M → Prop} (hW : en_Wok (en_w κ)) (hP : en_Has (en_w κ) 0 50) (h : en_Ok κ RX4 cX4_clean 5 wsX4_clean rm_X4_clean) (hf : en_fin κ rm_X4_clean (some .int) (fun r m' => r = some (en_I A) ∧ en_sc m' B ∧ xr_ok m' ∧ P m')) (hPP : ∀ M, P M) (hq : en_i32 q) (hlim : en_i32 lim) : ∀ (f d : Nat) (M m : en_M), f + d = 10 → en_sc M m → xr_ok M → xv_all m → xv_rd m → A = d + (xe_cl q lim f m).1 → B = (xe_cl q lim f m).2 → en_G κ 44 [some (en_R 49), some (en_I b), some (en_I lim), some (en_I q), some (en_I (d : Int))] [] M (0 + rm_X4_requireBus.cells + rm_X4_requireObservable.cells) (0 + rm_X4_requireBus.slots + rm_X4_requireObservable.slots) := by
  have hI : ∀ k, 0 ≤ k → k < 50 → en_in κ k := hP
  intro f
  induction f with
  | zero =>
    intro d M m hd hs ho hv hr e1 e2
    simp only [xe_cl] at e1 e2
    refine en_iload (i := 4) h dX4_clean_44 rfl ?_
    refine en_bipush h dX4_clean_46 (by decide) ?_
    refine en_icmp_ge (tgt := 66) h dX4_clean_48 (by decide) (by omega) (by omega) (fun c_48 => ?_) (fun c_48 => ?_)
    · refine en_iload (i := 4) h dX4_clean_66 rfl ?_
      exact en_iret h hf dX4_clean_68 ⟨by decide, by decide⟩ ⟨by rw [e1, Int.add_zero], by rw [e2]; exact hs, ho, hPP _⟩
    · exact absurd c_48 (by omega)
  | succ f ih =>
    intro d M m hd hs ho hv hr e1 e2
    simp only [xe_cl] at e1 e2
    refine en_iload (i := 4) h dX4_clean_44 rfl ?_
    refine en_bipush h dX4_clean_46 (by decide) ?_
    refine en_icmp_ge (tgt := 66) h dX4_clean_48 (by decide) (by omega) (by omega) (fun c_48 => ?_) (fun c_48 => ?_)
    · exact absurd c_48 (by omega)
    · refine en_aload_n (i := 0) h dX4_clean_51 rfl rfl ?_
      refine en_iload_n (i := 3) h dX4_clean_52 rfl rfl ?_
      refine en_iload_n (i := 2) h dX4_clean_53 rfl rfl ?_
      refine en_callV h (k_X4_dropWorst hW hI hs ho hv hr hq hlim) my_X4_dropWorst gX4_clean_X4_dropWorst (hI _ (by omega) (by omega)) rfl rfl rfl rfl ⟨by decide, by decide⟩ ⟨by decide, by decide⟩ (Nat.le_of_ble_eq_true rfl) dX4_clean_54 (fun r M1 hp => ?_)
      obtain ⟨rfl, g1, g2⟩ := hp
      refine en_if_eq (tgt := 66) h dX4_clean_57 (by decide) (by split <;> omega) (fun c_57 => ?_) (fun c_57 => ?_)
      · have c9 : ¬ xe_dr m q lim := fun z => by rw [if_pos z] at c_57; omega
        have es : xe_st m q lim = m := by unfold xe_st; rw [if_neg c9]
        rw [if_neg c9] at e1 e2
        refine en_iload (i := 4) h dX4_clean_66 rfl ?_
        exact en_iret h hf dX4_clean_68 ⟨by decide, by decide⟩ ⟨by rw [e1, Int.add_zero], by rw [e2, ← es]; exact g1, g2, hPP _⟩
      · have c9 : xe_dr m q lim := by apply Decidable.byContradiction; intro z; rw [if_neg z] at c_57; omega
        rw [if_pos c9] at e1 e2
        obtain ⟨s1, s2⟩ := xe_st_ok hv hr q lim
        refine en_iinc h dX4_clean_60 rfl (by decide) ?_
        refine en_goto (tgt := 44) h dX4_clean_63 (by decide) ?_
        exact ih (d + 1) M1 (xe_st m q lim) (by omega) g1 g2 s1 s2 (by rw [e1]; show (d : Int) + (_ + 1) = ((d + 1 : Nat) : Int) + _; omega) e2
set_option maxRecDepth 100000 in
set_option maxHeartbeats 4000000 in
theorem k_X4_clean {l : Launch} {w : en_W} {m : en_M} (hw : en_Wok w) (hp : en_Has w 0 50) (hl : l.stackTraces = false) {b lim : Int} (hc : xc m) (r0 : en_i32 b) (hlim : en_i32 lim) : en_MetX l w yX4_clean wsX4_clean rm_X4_clean [en_R 49, en_I b, en_I lim] m (fun r m' => r = some (en_I (xe_cl (m 5 b) lim 10 m).1) ∧ en_sc m' (xe_cl (m 5 b) lim 10 m).2 ∧ xr_ok m' ∧ (0 ≤ b ∧ b < m 0 0) ∧ (0 ≤ lim ∧ lim ≤ 200) ∧ xm_ob m (m 5 b)) (fun E m' => en_sc m' m ∧ xr_ok m' ∧ ((E = eIO ∧ ¬ (0 ≤ b ∧ b < m 0 0)) ∨ (E = eIA ∧ (0 ≤ b ∧ b < m 0 0) ∧ ¬ (0 ≤ lim ∧ lim ≤ 200)) ∨ (E = eIS ∧ (0 ≤ b ∧ b < m 0 0) ∧ (0 ≤ lim ∧ lim ≤ 200) ∧ ¬ xm_ob m (m 5 b)))) := by
  refine en_metX my_X4_clean hw hl (Nat.le_of_ble_eq_true rfl) ?_
  intro κ hl9 hw9 h hfx hx9
  have hf := hfx.fin
  subst hw9
  subst hl9
  have hI : ∀ k, 0 ≤ k → k < 50 → en_in κ k := hp
  obtain ⟨⟨n0, n1, -⟩, ho, hv, hd⟩ := hc
  refine en_aload_n (i := 0) h dX4_clean_0 rfl rfl ?_
  refine en_iload_n (i := 1) h dX4_clean_1 rfl rfl ?_
  refine en_callVX h hfx hx9 (k_X4_requireBus hw hI hl r0 (by omega)) my_X4_requireBus gX4_clean_X4_requireBus (hI _ (by omega) (by omega)) rfl rfl rfl rfl ⟨by decide, by decide⟩ ⟨by decide, by decide⟩ (Nat.le_of_ble_eq_true rfl) dX4_clean_2 (fun E M hx => ⟨by rw [hx.2.1]; exact en_sc_rf m, by rw [hx.2.1]; exact ho, Or.inl ⟨hx.1, hx.2.2⟩⟩) (fun r M1 hp => ?_)
  obtain ⟨rfl, e1, b0, b1⟩ := hp
  subst e1
  have hb : en_i32 (M1 5 b) := hv.2.2 b b0 (by omega)
  refine en_iload_n (i := 2) h dX4_clean_5 rfl rfl ?_
  refine en_if_lt (tgt := 16) h dX4_clean_6 (by decide) (by omega) (fun c_6 => ?_) (fun c_6 => ?_)
  · exact en_throw (cls := "java/lang/IllegalArgumentException") (text := "the limit is out of range") (ik := 55) (is := 170) (ic := 59) h hfx hx9 th_X4_clean_55 (by decide) (by decide) dX4_clean_16 dX4_clean_19 dX4_clean_20 dX4_clean_22 dX4_clean_25 ⟨by decide, by decide⟩ ⟨by decide, by decide⟩ ⟨en_sc_rf _, ho, Or.inr (Or.inl ⟨rfl, ⟨b0, b1⟩, fun z => by omega⟩)⟩
  · refine en_iload_n (i := 2) h dX4_clean_9 rfl rfl ?_
    refine en_sipush h dX4_clean_10 (by decide) ?_
    refine en_icmp_le (tgt := 26) h dX4_clean_13 (by decide) (by omega) (by omega) (fun c_13 => ?_) (fun c_13 => ?_)
    · refine en_aload_n (i := 0) h dX4_clean_26 rfl rfl ?_
      refine en_getR h dX4_clean_27 fl_X4_clean_23 (hI _ (by omega) (by omega)) rfl rfl ?_
      refine en_getR h dX4_clean_30 fl_X4_clean_100 (hI _ (by omega) (by omega)) rfl rfl ?_
      refine en_iload_n (i := 1) h dX4_clean_33 rfl rfl ?_
      refine en_iaload h dX4_clean_34 (hI _ (by omega) (by omega)) rfl (by omega) rfl ?_
      refine en_istore_n (i := 3) h dX4_clean_35 rfl (by decide) ?_
      refine en_aload_n (i := 0) h dX4_clean_36 rfl rfl ?_
      refine en_iload_n (i := 3) h dX4_clean_37 rfl rfl ?_
      refine en_callVX h hfx hx9 (k_X4_requireObservable hw hI hl ho hb hv) my_X4_requireObservable gX4_clean_X4_requireObservable (hI _ (by omega) (by omega)) rfl rfl rfl rfl ⟨by decide, by decide⟩ ⟨by decide, by decide⟩ (Nat.le_of_ble_eq_true rfl) dX4_clean_38 (fun E M hx => ⟨hx.2.1, hx.2.2.1, Or.inr (Or.inr ⟨hx.1, ⟨b0, b1⟩, ⟨by omega, by omega⟩, hx.2.2.2⟩)⟩) (fun r M2 hp => ?_)
      obtain ⟨rfl, g1, g2, g3⟩ := hp
      refine en_iconst h dX4_clean_41 ?_
      refine en_istore (i := 4) h dX4_clean_42 (by decide) ?_
      exact lp_X4_clean (P := fun _ => (0 ≤ b ∧ b < M1 0 0) ∧ (0 ≤ lim ∧ lim ≤ 200) ∧ xm_ob M1 (M1 5 b)) hw hI h hf (fun _ => ⟨⟨b0, b1⟩, ⟨by omega, by omega⟩, g3⟩) hb hlim 10 0 M2 M1 rfl g1 g2 hv hd (by omega) rfl
    · exact en_throw (cls := "java/lang/IllegalArgumentException") (text := "the limit is out of range") (ik := 55) (is := 170) (ic := 59) h hfx hx9 th_X4_clean_55 (by decide) (by decide) dX4_clean_16 dX4_clean_19 dX4_clean_20 dX4_clean_22 dX4_clean_25 ⟨by decide, by decide⟩ ⟨by decide, by decide⟩ ⟨en_sc_rf _, ho, Or.inr (Or.inl ⟨rfl, ⟨b0, b1⟩, fun z => by omega⟩)⟩
