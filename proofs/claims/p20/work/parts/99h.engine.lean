/-! ENGINE 12: from places to a list of cells and back; rows that the law's entry needs -/
section EK3
variable {κ : ek_C} {own : String} {cc : ByteArray} {nL : Nat} {Ts : List Cond} {rm : Room} {pc : Nat} {as : List (Nat × Value)} {st : List Value} {ws : va_W} {k n : Nat}
theorem ek_iald {q0 q N : Nat} {f : Nat → Int32} {i : Int} {x : Int32} (h : ek_Ok κ own cc nL Ts rm as) (d : decode cc pc = .ok (.iaload, 1)) (hg : ws[q0]? = some (q, .inl (ek_cy κ 0, N, .inl f))) (hi9 : 0 ≤ i ∧ i < (N : Int)) (hN : N ≤ 100) (hv : f i.toNat = x) (kk : ek_G κ (pc + 1) (.int x :: st) ws k n) : ek_G κ pc (.int (Int32.ofInt i) :: .ref q :: st) ws k n := by
  subst hv
  obtain ⟨p, l, e, R, s, mid, args, below, meth, c, Q, D, cy, A, a⟩ := κ
  obtain ⟨hx, hb, hml, hown, hts, hR, hlk, hK, hA, hl, hE⟩ := h
  intro H locs hP hD hS
  obtain ⟨v1, v2⟩ := en_vpin hi9 hN
  refine va_iald hx hb hK hP q0 0 hg rfl v1 d ?_
  rw [v2]
  exact kk H locs hP hD hS
theorem ek_icmp_ne {x y : Int} {off : Int} {tgt : Nat} (h : ek_Ok κ own cc nL Ts rm as) (d : decode cc pc = .ok (.if_icmp .ne off, 3)) (ht : (pc : Int) + off = (tgt : Int)) (hrx : en_i32 x) (hry : en_i32 y) (kt : x ≠ y → ek_G κ tgt st ws k n) (kf : x = y → ek_G κ (pc + 3) st ws k n) : ek_G κ pc (.int (Int32.ofInt y) :: .int (Int32.ofInt x) :: st) ws k n := by
  obtain ⟨p, l, e, R, s, mid, args, below, meth, c, Q, D, cy, A, a⟩ := κ
  obtain ⟨hx, hb, hml, hown, hts, hR, hlk, hK, hA, hl, hE⟩ := h
  intro H locs hP hD hS
  refine lv_icmp_ne hx hb d ht (fun q => ?_) (fun q => ?_)
  · exact kt (fun z => q ((en_eq32 hrx hry).mpr z)) H locs hP hD hS
  · exact kf ((en_eq32 hrx hry).mp q) H locs hP hD hS
end EK3
section EK4
variable {p : Program} {l : Launch} {e : Env} {R : Room} {s : State} {mid : MethodId} {args : Array Value} {below : List Frame} {meth : Method} {c : Code} {Q : State → Prop} {D : va_G} {cy : Nat → ClassId} {A : Nat → Prop} {a : Array Slot} {own : String} {cc : ByteArray} {nL : Nat} {Ts : List Cond} {rm : Room} {pc : Nat} {as as' : List (Nat × Value)} {st : List Value} {ws : va_W} {k n : Nat}
theorem ek_astore_n {k9 : Fin 4} {i q : Nat} (h : ek_Ok (p, l, e, R, s, mid, args, below, meth, c, Q, D, cy, A, a) own cc nL Ts rm as) (d : decode cc pc = .ok (.astore_n k9, 1)) (hi9 : (k9 : Nat) = i) (hn : i < nL) (hl9 : (i, Value.ref q) :: as.filter (fun q => !(q.1 == i) && !(q.1 + 1 == i && q.2.category == 2)) = as') (kk : ∀ a1, ek_Ok (p, l, e, R, s, mid, args, below, meth, c, Q, D, cy, A, a1) own cc nL Ts rm as' → ek_G (p, l, e, R, s, mid, args, below, meth, c, Q, D, cy, A, a1) (pc + 1) st ws k n) : ek_G (p, l, e, R, s, mid, args, below, meth, c, Q, D, cy, A, a) pc (.ref q :: st) ws k n := by
  obtain ⟨hx, hb, hml, hown, hts, hR, hlk, hK, hA, hl, hE⟩ := h
  intro H locs hP hD hS
  exact lv_astore_n hx hb d hi9 hl hn hl9 (fun a1 h1 => kk a1 ⟨hx, hb, hml, hown, hts, hR, hlk, hK, hA, h1, hE⟩ H locs hP hD hS)
theorem ek_astore {i q : Nat} (h : ek_Ok (p, l, e, R, s, mid, args, below, meth, c, Q, D, cy, A, a) own cc nL Ts rm as) (d : decode cc pc = .ok (.astore i, 2)) (hn : i < nL) (hl9 : (i, Value.ref q) :: as.filter (fun q => !(q.1 == i) && !(q.1 + 1 == i && q.2.category == 2)) = as') (kk : ∀ a1, ek_Ok (p, l, e, R, s, mid, args, below, meth, c, Q, D, cy, A, a1) own cc nL Ts rm as' → ek_G (p, l, e, R, s, mid, args, below, meth, c, Q, D, cy, A, a1) (pc + 2) st ws k n) : ek_G (p, l, e, R, s, mid, args, below, meth, c, Q, D, cy, A, a) pc (.ref q :: st) ws k n := by
  obtain ⟨hx, hb, hml, hown, hts, hR, hlk, hK, hA, hl, hE⟩ := h
  intro H locs hP hD hS
  exact lv_astore hx hb d hl hn hl9 (fun a1 h1 => kk a1 ⟨hx, hb, hml, hown, hts, hR, hlk, hK, hA, h1, hE⟩ H locs hP hD hS)
/-- from places to a list -/
theorem en_ek {ad : Int → Nat} {PL : List Int} {ls : List (Option en_V)} {st9 : List en_V} {m : en_M} (h : en_Ok (p, l, e, R, s, mid, args, below, meth, c, Q, D, cy, ad, PL, A) own cc nL Ts rm) (hE2 : va_AOA .int s) (has : ∀ q ∈ as, ∃ w, ls[q.1]? = some (some w) ∧ q.2 = en_tv ad w) (hst : st9.map (en_tv ad) = st) (kk : ∀ a, ek_Ok (p, l, e, R, s, mid, args, below, meth, c, Q, D, cy, A, a) own cc nL Ts rm as → ek_G (p, l, e, R, s, mid, args, below, meth, c, Q, D, cy, A, a) pc st (en_ws cy ad PL m) k n) : en_G (p, l, e, R, s, mid, args, below, meth, c, Q, D, cy, ad, PL, A) pc ls st9 m k n := by
  subst hst
  obtain ⟨hx, hb, hml, hown, hts, hR, hlk, hK, hn, hi, hA, hA2, hE⟩ := h
  intro H locs a hl hP hS
  refine kk a ⟨hx, hb, hml, hown, hts, hR, hlk, hK, hA2, ⟨hl.1.trans hml, hl.2.1, fun q hq => ?_⟩, ⟨hE, hE2⟩⟩ H locs hP (en_ws_D m hn hi hA) hS
  obtain ⟨w, h1, h2⟩ := has q hq
  rw [h2]
  exact hl.2.2 q.1 w h1
/-- from a list to places -/
theorem ek_en {ad : Int → Nat} {PL : List Int} {ls : List (Option en_V)} {st9 : List en_V} {M : en_M} (h : ek_Ok (p, l, e, R, s, mid, args, below, meth, c, Q, D, cy, A, a) own cc nL Ts rm as) (hn : PL.Nodup) (hw : ∀ H, va_P D vwCl ws H → va_P D vwCl (en_ws cy ad PL M) H) (hd : va_D A ws → va_D A (en_ws cy ad PL M)) (hls : ∀ (i : Nat) (v : en_V), ls[i]? = some (some v) → (i, en_tv ad v) ∈ as) (hst : st9.map (en_tv ad) = st) (kk : en_Ok (p, l, e, R, s, mid, args, below, meth, c, Q, D, cy, ad, PL, A) own cc nL Ts rm → en_G (p, l, e, R, s, mid, args, below, meth, c, Q, D, cy, ad, PL, A) pc ls st9 M k n) : ek_G (p, l, e, R, s, mid, args, below, meth, c, Q, D, cy, A, a) pc st ws k n := by
  subst hst
  obtain ⟨hx, hb, hml, hown, hts, hR, hlk, hK, hA, hl, hE⟩ := h
  intro H locs hP hD hS
  obtain ⟨hi, hA1⟩ := en_ws_inj (hd hD)
  exact kk ⟨hx, hb, hml, hown, hts, hR, hlk, hK, hn, hi, hA1, hA, hE.1⟩ H locs a ⟨hl.1.trans hml.symm, hl.2.1, fun i v hv => hl.2.2 _ (hls i v hv)⟩ (hw H hP) hS
theorem ek_en_sim {ad : Int → Nat} {PL : List Int} {ls : List (Option en_V)} {st9 : List en_V} {M : en_M} (h : ek_Ok (p, l, e, R, s, mid, args, below, meth, c, Q, D, cy, A, a) own cc nL Ts rm as) (hn : PL.Nodup) (hw : ek_sim ws (en_ws cy ad PL M)) (hls : ∀ (i : Nat) (v : en_V), ls[i]? = some (some v) → (i, en_tv ad v) ∈ as) (hst : st9.map (en_tv ad) = st) (kk : en_Ok (p, l, e, R, s, mid, args, below, meth, c, Q, D, cy, ad, PL, A) own cc nL Ts rm → en_G (p, l, e, R, s, mid, args, below, meth, c, Q, D, cy, ad, PL, A) pc ls st9 M k n) : ek_G (p, l, e, R, s, mid, args, below, meth, c, Q, D, cy, A, a) pc st ws k n :=
  ek_en h hn (fun _ hP => ek_sim_P hw hP) (fun hD => ek_sim_D hw hD) hls hst kk
end EK4
/-- a renamed place tells of the same cell, wherever it stands -/
theorem rn_ce {cy : Nat → ClassId} {ad : Int → Nat} {m : en_M} {k : Int} (h : rnK k) : ek_e (en_ct cy (fun j => ad (rn j)) (rnM m) (rn k)) (en_ct cy ad m k) := by
  obtain ⟨e, s⟩ := rn_ly h
  have mk : k ≠ 28 ∧ k ≠ 128 → rnM m (rn k) = m k := by
    intro z
    have z2 : rn k ≠ 28 ∧ rn k ≠ 128 := by
      constructor
      · intro y
        exact z.2 (by rw [← rn_rn k, y]; decide)
      · intro y
        exact z.1 (by rw [← rn_rn k, y]; decide)
    rw [rnM_k z2, rn_rn]
  unfold rnS at s
  unfold en_ct
  rw [e]
  cases hy : en_ly k with
  | inl y =>
    obtain ⟨t, N, b⟩ := y
    rw [hy] at s
    simp only [rnY]
    intro D q H hq
    have key : vp_cell (cy t) (N, en_ac (fun j => ad (rn j)) (rnM m) (rn k) t (if (t = 3 ∨ t = 4) ∧ 0 ≤ b then rn b else b)) = vp_cell (cy t) (N, en_ac ad m k t b) := by
      simp only [Bool.or_eq_true, Bool.and_eq_true, decide_eq_true_eq] at s
      rcases s with ⟨⟨s1, s2⟩, s3⟩ | ⟨s1, s2⟩
      · unfold en_ac
        rw [mk ⟨s2, s3⟩]
        by_cases c : t = 0 ∨ t = 2
        · rw [if_pos c, if_pos c]
        · rw [if_neg c, if_neg c, if_pos (by omega), if_pos (by omega)]
      · have n0 : ¬ (t = 0 ∨ t = 2) := by omega
        have n1 : ¬ t = 1 := by omega
        unfold en_ac
        rw [if_neg n0, if_neg n0, if_neg n1, if_neg n1]
        unfold vp_cell
        dsimp only
        refine arrV_cong (fun j hj => ?_)
        congr 3
        rcases s2 with ⟨b0, c⟩ | ⟨⟨⟨b0, c1⟩, c2⟩, c3⟩
        · rw [if_neg (show ¬ ((t = 3 ∨ t = 4) ∧ 0 ≤ b) by omega), if_pos b0, if_pos b0]
          have z : rn k = 28 ∨ rn k = 128 := by
            rcases c with rfl | rfl
            · exact Or.inr (by decide)
            · exact Or.inl (by decide)
          unfold rnM
          rw [if_pos z, rn_rn, rn_rn]
        · rw [if_pos (show (t = 3 ∨ t = 4) ∧ 0 ≤ b from ⟨s1, b0⟩), if_neg (show ¬ b < 0 by omega)]
          have hr : rn b = b + 100 ∨ rn b = b - 100 ∧ 100 ≤ b := by
            rcases c3 with c3 | c3
            · exact Or.inl (rn_lo (by omega))
            · exact Or.inr ⟨rn_mid (by omega), c3.1⟩
          rw [if_neg (show ¬ rn b < 0 by omega)]
          rcases c3 with c3 | c3
          · rw [rn_lo (k := b) (by omega), rn_mid (by omega)]
            omega
          · rw [rn_mid (k := b) (by omega), rn_lo (by omega)]
            omega
    have hq2 : H[q]? = some (vp_cell (cy t) (N, en_ac (fun j => ad (rn j)) (rnM m) (rn k) t (if (t = 3 ∨ t = 4) ∧ 0 ≤ b then rn b else b))) := hq
    rw [key] at hq2
    exact hq2
  | inr y =>
    obtain ⟨c, fl⟩ := y
    rw [hy] at s
    simp only [Bool.and_eq_true, decide_eq_true_eq] at s
    simp only [rnY]
    rw [rn_fl ad m (mk ⟨s.1.1, s.1.2⟩) fl 0 s.2]
    exact ek_er _
theorem rn_sim {cy : Nat → ClassId} {ad : Int → Nat} {m : en_M} : ∀ PL : List Int, (∀ k ∈ PL, 0 ≤ k ∧ k < 50) → ek_sim (en_ws cy (fun j => ad (rn j)) PL (rnM m)) (en_ws cy ad (PL.map rn) m)
  | [], _ => trivial
  | k :: t, h => by
    have hk := h k List.mem_cons_self
    refine ek_sc rfl ?_ (rn_sim t (fun i hi => h i (List.mem_cons_of_mem _ hi)))
    have z := rn_ce (cy := cy) (ad := ad) (m := m) (k := rn k) (rn_K (Or.inl hk))
    rw [rn_rn] at z
    exact z
