/-! LAW: the memory at the loop's head -/
theorem fs_X4 : ∀ j, j < 4 → defaultValue (tyX4 j) = vp_V [.null, .null, .null, .null] j := by
  intro j hj
  rcases (show j = 0 ∨ j = 1 ∨ j = 2 ∨ j = 3 by omega) with rfl | rfl | rfl | rfl <;> first | rfl | exact en_d0 | exact en_d0L
def mk_00 (z : Int) : en_M := fun k => if k < 50 then mk_49 z k else if k < 150 then rnM (mk_49 z) k else en_set (fun _ _ => 0) 200 0 z k
theorem mk_nb_r (z : Int) : 2 ≤ mk_nb z ∧ mk_nb z ≤ 5 := by
  unfold mk_nb
  omega
theorem mk_00_49 (z : Int) {k : Int} (h : k < 50) : mk_00 z k = mk_49 z k := by
  unfold mk_00
  rw [if_pos h]
theorem mk_00_lo (z : Int) {k : Int} (h : k < 21) : mk_00 z k = xm_fl (mk_10 (mk_nb z)) k := by
  unfold mk_00 mk_49
  rw [if_pos (by omega), if_pos h]
  rfl
theorem mk_00_0 (z : Int) {k : Int} (h1 : 21 ≤ k) (h2 : k < 27) : mk_00 z k = fun _ => 0 := by
  unfold mk_00 mk_49
  rw [if_pos (by omega), if_neg (by omega), if_pos h2]
  rfl
theorem mk_00_28 (z : Int) (j : Int) : mk_00 z 28 j = 29 + j := rfl
theorem mk_00_200 (z j : Int) : mk_00 z 200 j = if j = 0 then z else 0 := by
  unfold mk_00
  rw [if_neg (by decide), if_neg (by decide)]
  unfold en_set
  by_cases c : j = 0
  · rw [if_pos ⟨rfl, c⟩, if_pos c]
  · rw [if_neg (fun q => c q.2), if_neg c]
theorem mk_00_hi (z : Int) {k : Int} (h : 150 ≤ k) : mk_00 z k = en_set (fun _ _ => 0) 200 0 z k := by
  unfold mk_00
  rw [if_neg (by omega), if_neg (by omega)]
theorem inv_0 (z : Int) : INV (mk_00 z) ∧ (mk_00 z 0 0 = mk_nb z ∧ mk_00 z 0 1 = 0 ∧ mk_00 z 21 1 = 0) := by
  have nb := mk_nb_r z
  have z01 : mk_10 (mk_nb z) 0 1 = 0 := rfl
  have z00 : mk_10 (mk_nb z) 0 0 = mk_nb z := rfl
  have h1 : 0 ≤ mk_10 (mk_nb z) 0 1 ∧ mk_10 (mk_nb z) 0 1 ≤ 8 := by rw [z01]; decide
  have zk : ∀ k : Int, k ≠ 0 → mk_10 (mk_nb z) k = fun _ => 0 := fun k hk => by
    funext j
    unfold mk_10
    rw [if_neg (fun q => hk q.1)]
  have e0 : mk_00 z 0 = mk_10 (mk_nb z) 0 := by rw [mk_00_lo z (by decide), fl_k h1 (by decide) (by decide)]
  have e00 : mk_00 z 0 0 = mk_nb z := by rw [e0, z00]
  have e01 : mk_00 z 0 1 = 0 := by rw [e0, z01]
  have e21 : mk_00 z 21 1 = 0 := by rw [mk_00_0 z (by decide) (by decide)]
  refine ⟨inv_of h1 (fun k hk => mk_00_lo z hk) ?_ ?_ ?_ ?_ ?_, e00, e01, e21⟩
  · intro j b j0 j1 b0 b1
    rw [z01] at j0
    rw [zk _ (by omega)]
  · unfold xi_ln
    rw [e00, e01]
    exact ⟨nb, by decide, fun j j0 j1 => absurd j1 (by omega)⟩
  · unfold xi_mt
    rw [e21]
    exact ⟨by decide, fun j j0 j1 => absurd j1 (by omega)⟩
  · intro k hk
    rw [z01] at hk
    omega
  · unfold xr_ok
    refine ⟨fun i i0 i1 => ?_, fun i j i0 i1 j0 j1 e => ?_⟩
    · rw [mk_00_28]
      omega
    · rw [mk_00_28, mk_00_28] at e
      omega
theorem mk_rn (z : Int) {k : Int} (k0 : 0 ≤ k) (k1 : k < 50) : rnM (mk_00 z) k = mk_49 z k := by
  rw [rn_low (m := rnM (mk_49 z)) (fun j j0 j1 => by unfold mk_00; rw [if_neg (by omega), if_pos j1]) k0 k1, rnM_rnM]
theorem mk_rn0 (z : Int) {k : Int} (k0 : 0 ≤ k) (k1 : k < 50) : rnM (mk_00 z) k = mk_00 z k := (mk_rn z k0 k1).trans (mk_00_49 z k1).symm
theorem li_0 {z : Int} (hz : 2 ≤ z ∧ z ≤ 5) : LI (mk_00 z) := by
  obtain ⟨hI, e00, e01, e21⟩ := inv_0 z
  have ez : mk_nb z = z := by unfold mk_nb; omega
  refine ⟨hI, inv_lo hI (fun k k0 k1 => mk_rn0 z k0 (by omega)) (xr_ok_k (mk_rn0 z (by decide) (by decide)) hI.2.2.2), ?_, ?_, ?_, ?_, ?_⟩
  · unfold tw
    rw [mk_rn0 z (k := 0) (by decide) (by decide), mk_rn0 z (k := 21) (by decide) (by decide), e01, e21]
    exact ⟨⟨rfl, rfl, rfl⟩, fun j j0 j1 => absurd j1 (by omega), fun j j0 j1 => absurd j1 (by omega)⟩
  · unfold NN
    rw [e00, e01, e21, mk_00_200, mk_00_200, mk_00_200, ez]
    exact ⟨rfl, rfl, rfl⟩
  · intro i i0 i1
    rw [e21] at i1
    omega
  · intro i i0 i1
    rw [e01] at i1
    omega
  · intro i i0 i1
    rw [e21] at i1
    omega
abbrev P200 : List Int := [200, 201, 202, 203]
abbrev PLL : List Int := (P200 ++ P49) ++ P49.map rn
theorem PLL_nd : PLL.Nodup := by decide +kernel
theorem PLL_in {lo : Int} {N : Nat} (hc : ((List.range N).all fun k => decide (((k : Nat) : Int) + lo ∈ PLL)) = true) : ∀ k : Int, lo ≤ k → k < lo + N → k ∈ PLL := by
  intro k k0 k1
  have z := List.all_eq_true.mp hc (k - lo).toNat (List.mem_range.mpr (by omega))
  have z2 := of_decide_eq_true z
  rw [show (((k - lo).toNat : Nat) : Int) + lo = k by omega] at z2
  exact z2
theorem PLL_K : ∀ k ∈ PLL, rnK k := by
  have z : (PLL.all fun k => decide ((0 ≤ k ∧ k < 50) ∨ (100 ≤ k ∧ k < 150) ∨ (200 ≤ k ∧ k < 204))) = true := by decide +kernel
  exact fun k hk => (show (0 ≤ k ∧ k < 50) ∨ (100 ≤ k ∧ k < 150) ∨ (200 ≤ k ∧ k < 204) from of_decide_eq_true (List.all_eq_true.mp z k hk))
theorem PLL_H {D : va_G} {cy : Nat → ClassId} {ad : Int → Nat} : HasL (D, cy, ad, PLL) :=
  ⟨fun k k0 k1 => PLL_in (lo := 0) (N := 50) (by decide +kernel) k k0 (by omega), fun k k0 k1 => PLL_in (lo := 100) (N := 50) (by decide +kernel) k k0 (by omega), fun k k0 k1 => PLL_in (lo := 200) (N := 4) (by decide +kernel) k k0 (by omega), PLL_K⟩
/-- a list of locals against a list of values -/
def ls_c (ad : Int → Nat) (as : List (Nat × Value)) : Nat → List (Option en_V) → Prop
  | _, [] => True
  | i, none :: t => ls_c ad as (i + 1) t
  | i, some v :: t => (i, en_tv ad v) ∈ as ∧ ls_c ad as (i + 1) t
theorem ls_i {ad : Int → Nat} {as : List (Nat × Value)} : ∀ (ls : List (Option en_V)) (i0 : Nat), ls_c ad as i0 ls → ∀ (i : Nat) (v : en_V), ls[i]? = some (some v) → (i0 + i, en_tv ad v) ∈ as
  | [], _, _, i, v, hv => by simp at hv
  | none :: t, i0, h, 0, v, hv => by simp at hv
  | none :: t, i0, h, i + 1, v, hv => by
    simp only [List.getElem?_cons_succ] at hv
    have z := ls_i t (i0 + 1) h i v hv
    rw [show i0 + (i + 1) = i0 + 1 + i by omega]
    exact z
  | some w :: t, i0, h, 0, v, hv => by
    simp at hv
    subst hv
    exact h.1
  | some w :: t, i0, h, i + 1, v, hv => by
    simp only [List.getElem?_cons_succ] at hv
    have z := ls_i t (i0 + 1) h.2 i v hv
    rw [show i0 + (i + 1) = i0 + 1 + i by omega]
    exact z
theorem ls_0 {ad : Int → Nat} {as : List (Nat × Value)} {ls : List (Option en_V)} (h : ls_c ad as 0 ls) : ∀ (i : Nat) (v : en_V), ls[i]? = some (some v) → (i, en_tv ad v) ∈ as := fun i v hv => by
  have z := ls_i ls 0 h i v hv
  rw [Nat.zero_add] at z
  exact z
