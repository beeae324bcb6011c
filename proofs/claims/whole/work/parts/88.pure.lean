/-! PURE 20: sizes and the worst meter, alike -/
theorem lk_ab {x : Int} (h : -9223372036854775808 < x ∧ x < 9223372036854775808) : mm_ab x = gm_ab x := by
  unfold mm_ab gm_ab
  rw [en_w64_id ⟨by omega, h.2⟩]
  by_cases c : x < 0
  · rw [if_pos c, if_neg (by omega)]
  · rw [if_neg c]
    by_cases c2 : 0 < x
    · rw [if_pos c2]
    · rw [if_neg c2]; omega
theorem lk_ws {m : en_M} (h : xl m) (hv : xv_all m) (hd : xv_rd m) {q i : Int} (i0 : 0 ≤ i) (i1 : i < m 21 1) : mg_ws (mo_qm m 0) q i = xe_ws m q i := by
  have b := bd_rs h hv hd q i0 i1
  unfold mg_ws xe_ws
  rw [lk_rs h i0 i1, lk_ab (by omega), mo_qm_kk (k := 59) (by decide) (by decide), h.1.2.2.2.2.2.2.2.2.2.2.1]
theorem gm_wm_cong2 {io io' ws ws' : Int → Int} {q : Int} : ∀ n : Nat, (∀ i, 0 ≤ i → i < (n : Int) → io i = io' i ∧ ws i = ws' i) → gm_wm io ws q n = gm_wm io' ws' q n
  | 0, _ => rfl
  | n + 1, h => by
    have e := h n (by omega) (by omega)
    simp only [gm_wm]
    rw [gm_wm_cong2 n (fun c c0 c1 => h c c0 (by omega)), e.1, e.2]
theorem lk_wm {m : en_M} (h : xl m) (hv : xv_all m) (hd : xv_rd m) (q : Int) : mg_wm (mo_qm m 0) q = xe_wm m q := by
  have e7 : (mo_qm m 0 51 7) = m 21 1 := by rw [mo_qm_j (by decide), h.1.2.2.1]
  unfold mg_wm xe_wm
  rw [e7, gm_wm_cong2 (m 21 1).toNat (fun i i0 i1 => ⟨lk_io h.1 h.2.1 h.2.2.1 h.2.2.2.1 i0 (by omega), lk_ws h hv hd i0 (by omega)⟩)]
