/-! ENGINE 8: the law's script and its switch -/
theorem en_vpinB {i : Int} {N : Nat} (h : 0 ≤ i ∧ i < (N : Int)) (hN : N ≤ 2561) : vp_in (Int32.ofInt i) N ∧ (Int32.ofInt i).toNatClampNeg = i.toNat := by
  have h1 : (Int32.ofInt i).toInt = i := en_to32 ⟨by omega, by omega⟩
  have h2 : (Int32.ofInt i).toNatClampNeg = i.toNat := by
    rw [← Int32.toNat_toInt, h1]
  exact ⟨vp_in_iff.mpr ⟨by omega, by omega⟩, h2⟩
def en_sx (xs : Nat → Int32) (j : Int) : Int := (xs j.toNat).toInt
theorem en_sx_r (xs : Nat → Int32) (j : Int) : en_i32 (en_sx xs j) := by
  have h1 := Int32.le_toInt (xs j.toNat)
  have h2 := Int32.toInt_lt (xs j.toNat)
  unfold en_sx
  constructor <;> omega
/-- the script stands at place 99, outside of the world -/
def en_Sc (κ : en_C) (L : Nat) (xs : Nat → Int32) : Prop := match κ with
  | (_, _, _, _, s, _, _, _, _, _, _, _, _, ad, _, A) => va_X (ad 99) L xs s s.heap ∧ ad 99 < s.heap.size ∧ ¬ A (ad 99) ∧ L ≤ 2561
section ENL
variable {κ : en_C} {own : String} {cc : ByteArray} {nL : Nat} {Ts : List Cond} {rm : Room} {pc : Nat} {ls : List (Option en_V)} {st : List en_V} {m : en_M} {k n : Nat} {L : Nat} {xs : Nat → Int32}
theorem en_sld {i : Int} (h : en_Ok κ own cc nL Ts rm) (hs : en_Sc κ L xs) (d : decode cc pc = .ok (.iaload, 1)) (hi : 0 ≤ i ∧ i < (L : Int)) (kk : en_G κ (pc + 1) ls (en_I (en_sx xs i) :: st) m k n) : en_G κ pc ls (en_I i :: en_R 99 :: st) m k n := by
  obtain ⟨p, l, e, R, s, mid, args, below, meth, c, Q, D, cy, ad, PL, A⟩ := κ
  obtain ⟨hx, hb, hml, hown, hts, hR, hlk, hK, hn, hi9, hA, hA2, hE⟩ := h
  obtain ⟨s1, s2, s3, s4⟩ := hs
  intro H locs a hl hP hS
  obtain ⟨v1, v2⟩ := en_vpinB hi s4
  refine va_sld hx hb s1 s2 s3 hS v1 d ?_
  have q := kk H locs a hl hP hS
  simp only [List.map_cons, en_tv, en_sx, Int32.ofInt_toInt] at q
  rw [v2]
  exact q
theorem en_slen (h : en_Ok κ own cc nL Ts rm) (hs : en_Sc κ L xs) (d : decode cc pc = .ok (.arraylength, 1)) (kk : en_G κ (pc + 1) ls (en_I (L : Int) :: st) m k n) : en_G κ pc ls (en_R 99 :: st) m k n := by
  obtain ⟨p, l, e, R, s, mid, args, below, meth, c, Q, D, cy, ad, PL, A⟩ := κ
  obtain ⟨hx, hb, hml, hown, hts, hR, hlk, hK, hn, hi9, hA, hA2, hE⟩ := h
  obtain ⟨s1, s2, s3, s4⟩ := hs
  intro H locs a hl hP hS
  refine va_slen hx hb s1 s2 s3 hS d ?_
  have q := kk H locs a hl hP hS
  simp only [List.map_cons, en_tv] at q
  rw [show Int32.ofNat L = Int32.ofInt (L : Int) from Int32.ofInt_eq_ofNat.symm]
  exact q
theorem en_tin {x dflt lo hi off : Int} {offs : Array Int} {len tgt : Nat} (h : en_Ok κ own cc nL Ts rm) (d : decode cc pc = .ok (.tableswitch dflt lo hi offs, len)) (hr : en_i32 x) (h1 : lo ≤ x ∧ x ≤ hi) (ho : offs[(x - lo).toNat]? = some off) (ht : (pc : Int) + off = (tgt : Int)) (kk : en_G κ tgt ls st m k n) : en_G κ pc ls (en_I x :: st) m k n := by
  obtain ⟨p, l, e, R, s, mid, args, below, meth, c, Q, D, cy, ad, PL, A⟩ := κ
  obtain ⟨hx, hb, hml, hown, hts, hR, hlk, hK, hn, hi9, hA, hA2, hE⟩ := h
  intro H locs a hl hP hS
  have e1 : (Int32.ofInt x).toInt = x := en_to32 hr
  exact lv_tableIn hx hb d (by rw [e1]; omega) (by rw [e1]; omega) (by rw [e1]; exact ho) ht (kk H locs a hl hP hS)
theorem en_tout {x dflt lo hi : Int} {offs : Array Int} {len tgt : Nat} (h : en_Ok κ own cc nL Ts rm) (d : decode cc pc = .ok (.tableswitch dflt lo hi offs, len)) (hr : en_i32 x) (h1 : x < lo ∨ hi < x) (ht : (pc : Int) + dflt = (tgt : Int)) (kk : en_G κ tgt ls st m k n) : en_G κ pc ls (en_I x :: st) m k n := by
  obtain ⟨p, l, e, R, s, mid, args, below, meth, c, Q, D, cy, ad, PL, A⟩ := κ
  obtain ⟨hx, hb, hml, hown, hts, hR, hlk, hK, hn, hi9, hA, hA2, hE⟩ := h
  intro H locs a hl hP hS
  have e1 : (Int32.ofInt x).toInt = x := en_to32 hr
  exact lv_tableOut hx hb d (by rw [e1]; exact h1) ht (kk H locs a hl hP hS)
theorem en_wide {k' n' : Nat} (h1 : k ≤ k') (h2 : n ≤ n') (kk : en_G κ pc ls st m k' n') : en_G κ pc ls st m k n := by
  obtain ⟨p, l, e, R, s, mid, args, below, meth, c, Q, D, cy, ad, PL, A⟩ := κ
  intro H locs a hl hP hS
  exact W.widen h1 h2 (kk H locs a hl hP hS)
theorem en_weak {ls' : List (Option en_V)} (h : ∀ (i : Nat) (v : en_V), ls'[i]? = some (some v) → ls[i]? = some (some v)) (kk : en_G κ pc ls' st m k n) : en_G κ pc ls st m k n := by
  obtain ⟨p, l, e, R, s, mid, args, below, meth, c, Q, D, cy, ad, PL, A⟩ := κ
  intro H locs a hl hP hS
  exact kk H locs a ⟨hl.1, hl.2.1, fun i v hv => hl.2.2 i v (h i v hv)⟩ hP hS
theorem en_weak5 {a b c d e x y z : Option en_V} (kk : en_G κ pc [a, b, c, d, e, none, none, none] st m k n) : en_G κ pc [a, b, c, d, e, x, y, z] st m k n := by
  refine en_weak (fun i v hv => ?_) kk
  have hc : i = 0 ∨ i = 1 ∨ i = 2 ∨ i = 3 ∨ i = 4 ∨ i = 5 ∨ i = 6 ∨ i = 7 ∨ 8 ≤ i := by omega
  rcases hc with rfl | rfl | rfl | rfl | rfl | rfl | rfl | rfl | hc
  · exact hv
  · exact hv
  · exact hv
  · exact hv
  · exact hv
  · simp at hv
  · simp at hv
  · simp at hv
  · rw [List.getElem?_eq_none (by simpa using hc)] at hv
    cases hv
end ENL
theorem en_Xs_l {κ : en_C} (h : en_Xs κ) : (en_l κ).stackTraces = false := by
  obtain ⟨p, l, e, R, s, mid, args, below, meth, c, Q, D, cy, ad, PL, A⟩ := κ
  exact h.2
theorem xo_g {M m : en_M} (h : mg_ag M m) (hI : INV m) : xo_ln M ∧ xo_mt M := ⟨xo_ln_k (fun k hk => h k (by omega)) (by rw [h 51 (by decide)]) (by rw [h 51 (by decide)]) hI.1.2.1, xo_mt_k (fun k hk => h k (by omega)) (by rw [h 51 (by decide)]) (by rw [h 51 (by decide)]) (by rw [h 51 (by decide)]) hI.1.2.2.1⟩
theorem xo_i {m : en_M} (h : INV m) : xo_ln m ∧ xo_mt m := ⟨h.1.2.1, h.1.2.2.1⟩
/-- how large what the class answers is -/
theorem rg_rank {m : en_M} (hI : INV m) {b : Int} (b0 : 0 ≤ b ∧ b < m 0 0) : en_i32 (xm_rk m (-1) (m 5 b)) := by
  have n := inv_n hI
  have q0 := (inv_rng hI b b0.1 (by omega)).1
  have z1 := rk_le hI.1 q0 (-1)
  have z2 := gs_cu_rng (m 5) (m 5 b) 5
  have z3 := (la_el_cong (A := xm_row m (-1) (m 5 b)) (A' := xm_row m (-1) (m 5 b)) (fun _ _ _ _ _ _ => rfl) 5 (Nat.le_refl _)).2.1
  unfold xm_rk at z1 ⊢
  constructor <;> omega
