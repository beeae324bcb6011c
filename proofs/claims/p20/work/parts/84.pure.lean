/-! PURE 13: a grid with its lines turned round -/
def sgk (k : Int) : Int := if k = 0 then -1 else 1
theorem sgk_sq (k : Int) : sgk k * sgk k = 1 := by
  unfold sgk
  split <;> decide
theorem sgk_c (k : Int) : sgk k = 1 ∨ sgk k = -1 := by
  unfold sgk
  split
  · exact Or.inr rfl
  · exact Or.inl rfl
/-- M is m, its lines turned round and their flows' readings with them -/
def tw (M m : en_M) : Prop := (M 0 0 = m 0 0 ∧ M 0 1 = m 0 1 ∧ M 21 1 = m 21 1) ∧ (∀ j, 0 ≤ j → j < m 0 1 → M 1 j = m 2 j ∧ M 2 j = m 1 j ∧ M 3 j = m 3 j ∧ M 4 j = m 4 j) ∧ ∀ i, 0 ≤ i → i < m 21 1 → M 22 i = m 22 i ∧ M 23 i = m 23 i ∧ M 24 i = sgk (m 22 i) * m 24 i ∧ M 25 i = m 25 i ∧ M 26 i = m 26 i
theorem tw_ln {fi se cl R fi' se' cl' : Int → Int} {j : Int} (h : fi' j = se j ∧ se' j = fi j ∧ cl' j = cl j) : gs_ln fi' se' cl' R j = gs_ln fi se cl R j := by
  funext b
  unfold gs_ln
  rw [h.1, h.2.1, h.2.2]
  by_cases c : cl j = 0
  · rw [if_pos c, if_pos c]
  · rw [if_neg c, if_neg c, Int.min_comm]
    by_cases c1 : b = fi j
    · rw [if_pos c1]
      by_cases c2 : b = se j
      · rw [if_pos c2]
      · rw [if_neg c2, if_pos c1]
    · rw [if_neg c1]
      by_cases c2 : b = se j
      · rw [if_pos c2, if_pos c2]
      · rw [if_neg c2, if_neg c2, if_neg c1]
theorem tw_rd {fi se cl R fi' se' cl' : Int → Int} : ∀ n : Nat, (∀ j, 0 ≤ j → j < (n : Int) → fi' j = se j ∧ se' j = fi j ∧ cl' j = cl j) → gs_rd fi' se' cl' R n = gs_rd fi se cl R n
  | 0, _ => rfl
  | n + 1, h => by
    simp only [gs_rd]
    rw [tw_rd n (fun j j0 j1 => h j j0 (by omega)), tw_ln (h n (by omega) (by omega))]
theorem tw_it {fi se cl fi' se' cl' : Int → Int} {nl : Nat} (h : ∀ j, 0 ≤ j → j < (nl : Int) → fi' j = se j ∧ se' j = fi j ∧ cl' j = cl j) : ∀ t : Nat, gs_it nl fi' se' cl' t = gs_it nl fi se cl t
  | 0 => rfl
  | t + 1 => by
    simp only [gs_it]
    rw [tw_it h t, tw_rd nl h]
theorem tw_fg {fi se sg cl fi' se' sg' cl' : Int → Int} {j : Int} (h : fi' j = se j ∧ se' j = fi j ∧ sg' j = sg j ∧ cl' j = cl j) (hne : fi j ≠ se j) (b : Int) : gs_fg fi' se' sg' cl' j b = -(gs_fg fi se sg cl j b) := by
  unfold gs_fg
  rw [h.1, h.2.1, h.2.2.1, h.2.2.2]
  by_cases c1 : b = fi j
  · rw [if_pos c1, if_neg (show ¬ b = se j from fun z => hne (by rw [← c1, ← z])), if_pos c1]
  · rw [if_neg c1, if_neg c1]
    by_cases c2 : b = se j
    · rw [if_pos c2, if_pos c2, Int.neg_neg]
    · rw [if_neg c2, if_neg c2]
      rfl
theorem tw_ig {fi se fi' se' : Int → Int} {F F' : Int → Int → Int} {p b : Int} : ∀ n : Nat, (∀ j, 0 ≤ j → j < (n : Int) → (fi' j = se j ∧ se' j = fi j) ∧ F' j b = -(F j b)) → gs_ig fi' se' F' n p b = gs_ig fi se F n p b
  | 0, _ => rfl
  | n + 1, h => by
    have ih := tw_ig (fi := fi) (se := se) (F := F) (p := p) n (fun j j0 j1 => h j j0 (by omega))
    obtain ⟨⟨e1, e2⟩, e3⟩ := h (n : Int) (by omega) (by omega)
    simp only [gs_ig]
    rw [ih, e1, e2, e3]
    split <;> split <;> omega
section TW
variable {M m : en_M}
theorem tw_5 (h : tw M m) (hM : xl M) (hm : xl m) {b : Int} (b0 : 0 ≤ b) (b1 : b < 5) : M 5 b = m 5 b := by
  have n1 := hm.1.2.1
  rw [hM.2.2.1 b b0 b1, hm.2.2.1 b b0 b1, h.1.2.1, tw_it (fun j j0 j1 => by have z := h.2.1 j j0 (by omega); exact ⟨z.1, z.2.1, z.2.2.2⟩)]
theorem tw_gr (h : tw M m) (hM : xl M) (hm : xl m) {i b : Int} (i0 : 0 ≤ i) (i1 : i < m 21 1) (b0 : 0 ≤ b) (b1 : b < 5) : xm_gr M i b = sgk (m 22 i) * xm_gr m i b := by
  have n0 := hm.1.1
  have n1 := hm.1.2.1
  have z := h.2.2 i i0 i1
  have k := (hm.2.1.2 i i0 i1).1
  have fg : ∀ j, 0 ≤ j → j < m 0 1 → gs_fg (M 1) (M 2) (M 3) (M 4) j b = -(gs_fg (m 1) (m 2) (m 3) (m 4) j b) := fun j j0 j1 => tw_fg (h.2.1 j j0 j1) (hm.1.2.2 j j0 j1).2.2.2.2 b
  unfold xm_gr
  rw [z.1, z.2.1]
  unfold sgk
  rcases k with ⟨k1, k2, k3⟩ | ⟨k1, k2, k3⟩
  · rw [if_pos k1, if_pos k1, if_neg (show ¬ m 22 i = 0 by omega), Int.one_mul, hM.2.2.2.2 _ b k2 (by omega) b0 b1, hm.2.2.2.2 _ b k2 (by omega) b0 b1, h.1.2.1]
    exact tw_ig _ (fun j j0 j1 => by have z := h.2.1 j j0 (by omega); exact ⟨⟨z.1, z.2.1⟩, fg j j0 (by omega)⟩)
  · have k0 : ¬ m 22 i = 1 := by omega
    rw [if_neg k0, if_neg k0, if_pos k1, hM.2.2.2.1 _ b k2 (by rw [h.1.2.1]; exact k3) b0 b1, hm.2.2.2.1 _ b k2 k3 b0 b1, fg _ k2 k3]
    omega
theorem tw_iu (h : tw M m) (hM : xl M) (hm : xl m) {i : Int} (i0 : 0 ≤ i) (i1 : i < m 21 1) : xm_iu M i = xm_iu m i := by
  have n0 := hm.1.1
  have n1 := hm.1.2.1
  have z := h.2.2 i i0 i1
  have k := (hm.2.1.2 i i0 i1).1
  unfold xm_iu
  rw [z.1, z.2.1]
  rcases k with ⟨k1, k2, k3⟩ | ⟨k1, k2, k3⟩
  · rw [if_pos k1, if_pos k1]
    exact tw_5 h hM hm k2 (by omega)
  · have y := h.2.1 _ k2 k3
    have x := hm.1.2.2 _ k2 k3
    have k0 : ¬ m 22 i = 1 := by omega
    rw [if_neg k0, if_neg k0, y.2.2.2]
    by_cases c : m 4 (m 23 i) = 0
    · rw [if_pos c, if_pos c]
    · rw [if_neg c, if_neg c, y.1, tw_5 h hM hm x.2.1.1 (by omega)]
      exact (lk_cl hm k2 k3 c).symm
theorem tw_io (h : tw M m) (hM : xl M) (hm : xl m) {i : Int} (i0 : 0 ≤ i) (i1 : i < m 21 1) : xm_io M i = xm_io m i := by
  unfold xm_io
  rw [(h.2.2 i i0 i1).2.2.2.2, tw_iu h hM hm i0 i1]
theorem tw_row (h : tw M m) (hM : xl M) (hm : xl m) {lo q i b : Int} (i0 : 0 ≤ i) (b0 : 0 ≤ b) (b1 : b < 5) : xm_row M lo q i b = sgk (m 22 i) * xm_row m lo q i b := by
  unfold xm_row
  rw [h.1.2.2]
  by_cases c : i < m 21 1
  · rw [tw_io h hM hm i0 c, tw_gr h hM hm i0 c b0 b1]
    split
    · rfl
    · rw [Int.mul_zero]
  · rw [if_neg (fun z => c z.1.1), if_neg (fun z => c z.1.1), Int.mul_zero]
theorem tw_ind (h : tw M m) (hM : xl M) (hm : xl m) {lo q : Int} {S : Int → Bool} : la_ind (xm_row M lo q) S ↔ la_ind (xm_row m lo q) S := by
  have e : ∀ (x : Int → Int) (i : Int), 0 ≤ i → (la_d (xm_row M lo q i) x = 0 ↔ la_d (xm_row m lo q i) x = 0) := by
    intro x i i0
    have e1 : la_d (xm_row M lo q i) x = sgk (m 22 i) * la_d (xm_row m lo q i) x := by
      unfold la_d
      rw [tw_row h hM hm i0 (b := 0) (by decide) (by decide), tw_row h hM hm i0 (b := 1) (by decide) (by decide), tw_row h hM hm i0 (b := 2) (by decide) (by decide), tw_row h hM hm i0 (b := 3) (by decide) (by decide), tw_row h hM hm i0 (b := 4) (by decide) (by decide)]
      rcases sgk_c (m 22 i) with c | c <;> rw [c] <;> simp only [Int.one_mul, Int.neg_mul] <;> omega
    rw [e1]
    rcases sgk_c (m 22 i) with c | c <;> rw [c] <;> omega
  constructor
  · intro H x hx hA
    exact H x hx (fun i i0 i1 => (e x i i0).mpr (hA i i0 i1))
  · intro H x hx hA
    exact H x hx (fun i i0 i1 => (e x i i0).mp (hA i i0 i1))
theorem tw_rk (h : tw M m) (hM : xl M) (hm : xl m) (lo q : Int) : xm_rk M lo q = xm_rk m lo q := by
  obtain ⟨⟨S, s1, s2⟩, s3⟩ := la_rank (xm_row M lo q)
  obtain ⟨⟨T, t1, t2⟩, t3⟩ := la_rank (xm_row m lo q)
  have a := t3 S ((tw_ind h hM hm).mp s1)
  have b := s3 T ((tw_ind h hM hm).mpr t1)
  unfold xm_rk
  omega
theorem tw_S (h : tw M m) (hM : xl M) (hm : xl m) {q b o : Int} (b0 : 0 ≤ b) (b1 : b < 5) (o0 : 0 ≤ o) (o1 : o < 5) : ∀ n : Nat, (n : Int) ≤ m 21 1 → gq_S M q b o n = gq_S m q b o n
  | 0, _ => rfl
  | n + 1, hn => by
    have ih := tw_S h hM hm (q := q) b0 b1 o0 o1 n (by omega)
    simp only [gq_S]
    rw [ih, tw_io h hM hm (by omega) (by omega), tw_gr h hM hm (by omega) (by omega) b0 b1, tw_gr h hM hm (by omega) (by omega) o0 o1, (h.2.2 n (by omega) (by omega)).2.2.2.1]
    rcases sgk_c (m 22 (n : Int)) with c | c <;> rw [c] <;> simp only [Int.neg_mul, Int.one_mul, Int.mul_neg, Int.neg_neg]
theorem tw_R (h : tw M m) (hM : xl M) (hm : xl m) {q b : Int} (b0 : 0 ≤ b) (b1 : b < 5) : ∀ n : Nat, (n : Int) ≤ m 21 1 → gq_R M q b n = gq_R m q b n
  | 0, _ => rfl
  | n + 1, hn => by
    have ih := tw_R h hM hm (q := q) b0 b1 n (by omega)
    have z := h.2.2 n (by omega) (by omega)
    simp only [gq_R]
    rw [ih, tw_io h hM hm (by omega) (by omega), tw_gr h hM hm (by omega) (by omega) b0 b1, z.2.2.2.1, z.2.2.1]
    rcases sgk_c (m 22 (n : Int)) with c | c <;> rw [c] <;> simp only [Int.neg_mul, Int.one_mul, Int.mul_neg, Int.neg_neg]
theorem tw_E (h : tw M m) (hM : xl M) (hm : xl m) {q rep r c : Int} (r0 : 0 ≤ r) (r1 : r < 5) (c0 : 0 ≤ c) (c1 : c < 5) : gl_E M q rep r c = gl_E m q rep r c := by
  have n2 := hm.2.1.1
  have e5 : ∀ b, 0 ≤ b → b < 5 → ((M 5 b = q ∧ b ≠ q) ↔ (m 5 b = q ∧ b ≠ q)) := fun b b0 b1 => by rw [tw_5 h hM hm b0 b1]
  unfold gl_E
  rw [h.1.2.2]
  by_cases z : c = rep
  · rw [if_pos z, if_pos z]
    by_cases u : m 5 r = q ∧ r ≠ q
    · rw [gl_R_un u, gl_R_un ((e5 r r0 r1).mpr u)]
      exact tw_R h hM hm r0 r1 _ (by omega)
    · rw [gl_R_kn u, gl_R_kn (fun y => u ((e5 r r0 r1).mp y))]
  · rw [if_neg z, if_neg z]
    by_cases u : (m 5 r = q ∧ r ≠ q) ∧ (m 5 c = q ∧ c ≠ q)
    · rw [gl_L_un u.1 u.2, gl_L_un ((e5 r r0 r1).mpr u.1) ((e5 c c0 c1).mpr u.2)]
      exact tw_S h hM hm r0 r1 c0 c1 _ (by omega)
    · rw [gl_L_kn u, gl_L_kn (fun y => u ⟨(e5 r r0 r1).mp y.1, (e5 c c0 c1).mp y.2⟩)]
theorem tw_D (h : tw M m) (hM : xl M) (hm : xl m) (q rep : Int) : gl_D M q rep = gl_D m q rep := by
  by_cases z : rep = 0
  · have u : ∀ (m : en_M), xl m → ¬ (m 5 0 = q ∧ (0 : Int) ≠ q) := fun m hm y => y.2 (by rw [← y.1, lk_0 hm])
    rw [z, lk_T0 hM (by decide) (by decide) (u M hM), lk_T0 hm (by decide) (by decide) (u m hm)]
  · rw [gl_D_4 (lk_0 hM) z, gl_D_4 (lk_0 hm) z]
    have e := fun (r c : Int) (r0 : 0 ≤ r) (r1 : r < 5) (c0 : 0 ≤ c) (c1 : c < 5) => tw_E h hM hm (q := q) (rep := rep) r0 r1 c0 c1
    unfold gm_4
    rw [e 1 1 (by decide) (by decide) (by decide) (by decide), e 1 2 (by decide) (by decide) (by decide) (by decide), e 1 3 (by decide) (by decide) (by decide) (by decide), e 1 4 (by decide) (by decide) (by decide) (by decide), e 2 1 (by decide) (by decide) (by decide) (by decide), e 2 2 (by decide) (by decide) (by decide) (by decide), e 2 3 (by decide) (by decide) (by decide) (by decide), e 2 4 (by decide) (by decide) (by decide) (by decide), e 3 1 (by decide) (by decide) (by decide) (by decide), e 3 2 (by decide) (by decide) (by decide) (by decide), e 3 3 (by decide) (by decide) (by decide) (by decide), e 3 4 (by decide) (by decide) (by decide) (by decide), e 4 1 (by decide) (by decide) (by decide) (by decide), e 4 2 (by decide) (by decide) (by decide) (by decide), e 4 3 (by decide) (by decide) (by decide) (by decide), e 4 4 (by decide) (by decide) (by decide) (by decide)]
theorem tw_rs (h : tw M m) (hM : xl M) (hm : xl m) (q : Int) {i : Int} (i0 : 0 ≤ i) (i1 : i < m 21 1) : xe_rs M q i = sgk (m 22 i) * xe_rs m q i := by
  have z := h.2.2 i i0 i1
  have g := fun (b : Int) (b0 : 0 ≤ b) (b1 : b < 5) => tw_gr h hM hm i0 i1 b0 b1
  rw [xe_rs_5, xe_rs_5, z.2.2.1, g 0 (by decide) (by decide), g 1 (by decide) (by decide), g 2 (by decide) (by decide), g 3 (by decide) (by decide), g 4 (by decide) (by decide), tw_D h hM hm, tw_D h hM hm, tw_D h hM hm, tw_D h hM hm, tw_D h hM hm, tw_D h hM hm]
  rcases sgk_c (m 22 i) with c | c <;> rw [c] <;> simp only [Int.one_mul, Int.neg_mul] <;> omega
theorem tw_ab {x s : Int} (hs : s = 1 ∨ s = -1) (hx : -9223372036854775808 < x ∧ x < 9223372036854775808) : gm_ab (s * x) = gm_ab x := by
  unfold gm_ab
  rcases hs with rfl | rfl
  · rw [Int.one_mul]
  · rw [show (-1 : Int) * x = -x by omega, en_w64_id ⟨by omega, by omega⟩, en_w64_id ⟨by omega, by omega⟩]
    by_cases c : 0 < x
    · rw [if_pos c, if_neg (by omega), Int.neg_neg]
    · rw [if_neg c]
      by_cases c2 : 0 < -x
      · rw [if_pos c2]
      · rw [if_neg c2]
        omega
theorem tw_ws (h : tw M m) (hM : INV M) (hm : INV m) (q : Int) {i : Int} (i0 : 0 ≤ i) (i1 : i < m 21 1) : xe_ws M q i = xe_ws m q i := by
  have b := bd_rs hm.1 (inv_xc hm).2.2.1 (inv_xc hm).2.2.2 q i0 i1
  unfold xe_ws
  rw [tw_rs h hM.1 hm.1 q i0 i1, tw_ab (sgk_c _) (by omega), (h.2.2 i i0 i1).2.2.2.1]
theorem gm_wm_cong2 {io io' ws ws' : Int → Int} {q : Int} : ∀ n : Nat, (∀ i, 0 ≤ i → i < (n : Int) → io i = io' i ∧ ws i = ws' i) → gm_wm io ws q n = gm_wm io' ws' q n
  | 0, _ => rfl
  | n + 1, h => by
    have e := h n (by omega) (by omega)
    simp only [gm_wm]
    rw [gm_wm_cong2 n (fun c c0 c1 => h c c0 (by omega)), e.1, e.2]
theorem tw_wm (h : tw M m) (hM : INV M) (hm : INV m) (q : Int) : xe_wm M q = xe_wm m q := by
  have n := inv_n hm
  unfold xe_wm
  rw [h.1.2.2, gm_wm_cong2 (m 21 1).toNat (fun i i0 i1 => ⟨tw_io h hM.1 hm.1 i0 (by omega), tw_ws h hM hm q i0 (by omega)⟩)]
theorem tw_cu (h : tw M m) (hM : xl M) (hm : xl m) (q : Int) : gs_cu (M 5) q 5 = gs_cu (m 5) q 5 := by
  have st : ∀ n : Nat, n ≤ 5 → gs_cu (M 5) q n = gs_cu (m 5) q n := by
    intro n
    induction n with
    | zero => intro _; rfl
    | succ n ih =>
      intro hn
      simp only [gs_cu]
      rw [ih (by omega), tw_5 h hM hm (b := (n : Int)) (by omega) (by omega)]
  exact st 5 (Nat.le_refl _)
theorem tw_ob (h : tw M m) (hM : xl M) (hm : xl m) (q : Int) : obs M q ↔ obs m q := by
  unfold obs
  rw [tw_rk h hM hm, tw_cu h hM hm]
theorem tw_nd (h : tw M m) (hM : xl M) (hm : xl m) {i : Int} (i0 : 0 ≤ i) (i1 : i < m 21 1) : xm_nd M i ↔ xm_nd m i := by
  unfold xm_nd
  rw [tw_io h hM hm i0 i1, tw_rk h hM hm, tw_rk h hM hm, tw_cu h hM hm]
/-! the answers -/
theorem tw_pB (h : tw M m) (b : Int) : pB M b ↔ pB m b := by
  unfold pB
  rw [h.1.1]
theorem tw_pL (h : tw M m) (b : Int) : pL M b ↔ pL m b := by
  unfold pL
  rw [h.1.2.1]
theorem tw_pM (h : tw M m) (b : Int) : pM M b ↔ pM m b := by
  unfold pM
  rw [h.1.2.2]
theorem ite_c {α : Type} {p q : Prop} [Decidable p] [Decidable q] {a b a' b' : α} (h : p ↔ q) (ha : q → a = a') (hb : ¬ q → b = b') : (if p then a else b) = if q then a' else b' := by
  by_cases c : q
  · rw [if_pos c, if_pos (h.mpr c), ha c]
  · rw [if_neg c, if_neg (fun z => c (h.mp z)), hb c]
theorem a_reference (h : tw M m) (hM : INV M) (hm : INV m) (b : Int) : w_reference M b = w_reference m b := by
  have n := inv_n hm
  unfold w_reference
  exact ite_c (tw_pB h b) (fun c => tw_5 h hM.1 hm.1 c.1 (by omega)) (fun _ => rfl)
theorem a_rank (h : tw M m) (hM : INV M) (hm : INV m) (b : Int) : w_rank M b = w_rank m b := by
  have n := inv_n hm
  unfold w_rank
  exact ite_c (tw_pB h b) (fun c => by rw [tw_5 h hM.1 hm.1 c.1 (by omega), tw_rk h hM.1 hm.1]) (fun _ => rfl)
theorem a_top (h : tw M m) (hM : INV M) (hm : INV m) (b : Int) : w_top M b = w_top m b := by
  have n := inv_n hm
  unfold w_top
  refine ite_c (tw_pB h b) (fun c => ?_) (fun _ => rfl)
  rw [tw_5 h hM.1 hm.1 c.1 (by omega)]
  exact ite_c (tw_ob h hM.1 hm.1 _) (fun _ => by rw [tw_D h hM.1 hm.1, tw_D h hM.1 hm.1]) (fun _ => rfl)
theorem a_bottom (h : tw M m) (hM : INV M) (hm : INV m) (b : Int) : w_bottom M b = w_bottom m b := by
  have n := inv_n hm
  unfold w_bottom
  refine ite_c (tw_pB h b) (fun c => ?_) (fun _ => rfl)
  rw [tw_5 h hM.1 hm.1 c.1 (by omega)]
  exact ite_c (tw_ob h hM.1 hm.1 _) (fun _ => by rw [tw_D h hM.1 hm.1, tw_D h hM.1 hm.1]) (fun _ => rfl)
theorem a_worst (h : tw M m) (hM : INV M) (hm : INV m) (b : Int) : w_worst M b = w_worst m b := by
  have n := inv_n hm
  unfold w_worst
  refine ite_c (tw_pB h b) (fun c => ?_) (fun _ => rfl)
  rw [tw_5 h hM.1 hm.1 c.1 (by omega)]
  exact ite_c (tw_ob h hM.1 hm.1 _) (fun _ => tw_wm h hM hm _) (fun _ => rfl)
theorem a_counts (h : tw M m) (hM : INV M) (hm : INV m) (i : Int) : w_counts M i = w_counts m i := by
  unfold w_counts
  exact ite_c (tw_pM h i) (fun c => tw_io h hM.1 hm.1 c.1 c.2) (fun _ => rfl)
theorem a_critical (h : tw M m) (hM : INV M) (hm : INV m) (i : Int) : w_critical M i = w_critical m i := by
  unfold w_critical
  refine ite_c (tw_pM h i) (fun c => ?_) (fun _ => rfl)
  exact ite_c (tw_nd h hM.1 hm.1 c.1 c.2) (fun _ => rfl) (fun _ => rfl)
theorem xg_neg (x y : Int) : xg (-x) y = xg x y := by
  unfold xg
  rw [Int.natAbs_neg]
theorem a_under (h : tw M m) (hM : INV M) (hm : INV m) (i : Int) : w_under M i = w_under m i := by
  unfold w_under
  refine ite_c (tw_pM h i) (fun c => ?_) (fun _ => rfl)
  rw [tw_iu h hM.1 hm.1 c.1 c.2]
  refine ite_c (by rw [tw_ob h hM.1 hm.1]) (fun _ => ?_) (fun _ => rfl)
  rw [tw_rs h hM.1 hm.1 _ c.1 c.2, tw_D h hM.1 hm.1]
  rcases sgk_c (m 22 i) with e | e
  · rw [e, Int.one_mul]
  · rw [e, show (-1 : Int) * xe_rs m (xm_iu m i) i = -xe_rs m (xm_iu m i) i by omega, xg_neg]
/-- the residual of a turned line's meter is turned too -/
theorem a_over (h : tw M m) (hM : INV M) (hm : INV m) {i : Int} (hi : pM m i) : w_over M i = if w_over m i = (-4000000000000000003) ∧ ¬ (xm_iu m i ≠ -1 ∧ obs m (xm_iu m i)) then w_over m i else sgk (m 22 i) * w_over m i := by
  unfold w_over
  rw [if_pos ((tw_pM h i).mpr hi), if_pos hi, tw_iu h hM.1 hm.1 hi.1 hi.2]
  by_cases c : xm_iu m i ≠ -1 ∧ obs m (xm_iu m i)
  · rw [if_pos c, if_pos ⟨c.1, (tw_ob h hM.1 hm.1 _).mpr c.2⟩, if_neg (fun z => z.2 c), tw_rs h hM.1 hm.1 _ hi.1 hi.2, tw_D h hM.1 hm.1]
    rcases sgk_c (m 22 i) with e | e
    · rw [e, Int.one_mul, Int.one_mul]
    · rw [e, show (-1 : Int) * xe_rs m (xm_iu m i) i = -xe_rs m (xm_iu m i) i by omega, xg_neg, Int.neg_tdiv]
      omega
  · rw [if_neg c, if_neg (fun z => c ⟨z.1, (tw_ob h hM.1 hm.1 _).mp z.2⟩), if_pos ⟨rfl, c⟩]
theorem gs_is_cong {R R' : Int → Int} : ∀ n : Nat, (∀ b, 0 ≤ b → b < (n : Int) → R b = R' b) → gs_is R n = gs_is R' n
  | 0, _ => rfl
  | n + 1, h => by
    have e := h n (by omega) (by omega)
    simp only [gs_is]
    rw [gs_is_cong n (fun j j0 j1 => h j j0 (by omega)), e]
theorem a_islands (h : tw M m) (hM : INV M) (hm : INV m) : gs_is (M 5) (M 0 0).toNat = gs_is (m 5) (m 0 0).toNat := by
  have n := inv_n hm
  rw [h.1.1]
  exact gs_is_cong _ (fun b b0 b1 => tw_5 h hM.1 hm.1 b0 (by omega))
end TW
