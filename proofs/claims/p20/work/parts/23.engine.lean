/-! ENGINE 4: the JDK's own min, max, abs; division -/
section ENJ
variable {κ : en_C} {own : String} {cc : ByteArray} {nL : Nat} {Ts : List Cond} {rm : Room} {pc : Nat} {ls : List (Option en_V)} {st : List en_V} {m : en_M} {k n : Nat}
def en_J (Ts : List Cond) (own : String) (index : Nat) (y : MethodName) (bytes : ByteArray) (nl : Nat) (ret : Option FieldType) : Prop := Cond.methodLink own index y ∈ Ts ∧ Cond.static y ∈ Ts ∧ Cond.initialized "java/lang/Math" ∈ Ts ∧ Cond.code y bytes nl ret ∈ Ts
theorem en_cats (ad : Int → Nat) (rest : List en_V) : ((rest.map (en_tv ad)).map fun v => v.category).sum = (rest.map fun v => (en_tv (fun _ => 0) v).category).sum := by
  rw [List.map_map]
  congr 1
  apply List.map_congr_left
  intro v _
  rcases v with z | z | z <;> rfl
theorem en_mmin {x y : Int} {index : Nat} (h : en_Ok κ own cc nL Ts rm) (w : en_J Ts own index Lib.Math.min.name Lib.Math.min.code 2 (some .int)) (hc : k ≤ rm.cells ∧ n ≤ rm.slots) (hfr : 1 ≤ rm.frames) (hlo : (st.map fun v => (en_tv (fun _ => 0) v).category).sum + 13 ≤ rm.locals) (d : decode cc pc = .ok (.invokestatic index, 3)) (hrx : en_i32 x) (hry : en_i32 y) (kk : en_G κ (pc + 3) ls (en_I (min x y) :: st) m k n) : en_G κ pc ls (en_I y :: en_I x :: st) m k n := by
  obtain ⟨p, l, e, R, s, mid, args, below, meth, c, Q, D, cy, ad, PL, A⟩ := κ
  obtain ⟨hx, hb, hml, hown, hts, hR, hlk, hK, hn, hi, hA, hA2, hE⟩ := h
  subst hR
  intro H locs a hl hP hS
  have q := kk H locs a hl hP hS
  refine va_mmin hx hb hl.1.symm hown (hts _ w.1) (hts _ w.2.1) (hts _ w.2.2.1) (hts _ w.2.2.2) hfr (by rw [en_cats]; exact hlo) hc.1 hc.2 d ?_
  have e9 : (if Int32.ofInt y < Int32.ofInt x then Int32.ofInt y else Int32.ofInt x) = Int32.ofInt (min x y) := by
    simp only [en_lt32 hry hrx]
    split
    · rw [Int.min_eq_right (by omega)]
    · rw [Int.min_eq_left (by omega)]
  rw [e9]
  exact q
theorem en_mabs {x : Int} {index : Nat} (h : en_Ok κ own cc nL Ts rm) (w : en_J Ts own index Lib.MathLoose.abs_long.x Lib.MathLoose.abs_long.code 2 (some .long)) (hc : k ≤ rm.cells ∧ n ≤ rm.slots) (hfr : 1 ≤ rm.frames) (hlo : (st.map fun v => (en_tv (fun _ => 0) v).category).sum + 13 ≤ rm.locals) (d : decode cc pc = .ok (.invokestatic index, 3)) (kk : en_G κ (pc + 3) ls (en_L (if 0 < en_w64 x then x else -x) :: st) m k n) : en_G κ pc ls (en_L x :: st) m k n := by
  obtain ⟨p, l, e, R, s, mid, args, below, meth, c, Q, D, cy, ad, PL, A⟩ := κ
  obtain ⟨hx, hb, hml, hown, hts, hR, hlk, hK, hn, hi, hA, hA2, hE⟩ := h
  subst hR
  intro H locs a hl hP hS
  have q := kk H locs a hl hP hS
  refine va_mabs_long hx hb hl.1.symm hown (hts _ w.1) (hts _ w.2.1) (hts _ w.2.2.1) (hts _ w.2.2.2) hfr (by rw [en_cats]; exact hlo) hc.1 hc.2 d ?_
  have e9 : (if 0 < Int64.ofInt x then Int64.ofInt x else -Int64.ofInt x) = Int64.ofInt (if 0 < en_w64 x then x else -x) := by
    have e8 : (0 < Int64.ofInt x) ↔ 0 < en_w64 x := by
      rw [Int64.lt_iff_toInt_lt]
      exact Iff.rfl
    simp only [e8]
    split
    · rfl
    · rw [Int64.ofInt_neg]
  rw [e9]
  exact q
theorem en_mmaxL {x y : Int} {index : Nat} (h : en_Ok κ own cc nL Ts rm) (w : en_J Ts own index Lib.MathLoose.max_long.x Lib.MathLoose.max_long.code 4 (some .long)) (hc : k ≤ rm.cells ∧ n ≤ rm.slots) (hfr : 1 ≤ rm.frames) (hlo : (st.map fun v => (en_tv (fun _ => 0) v).category).sum + 15 ≤ rm.locals) (d : decode cc pc = .ok (.invokestatic index, 3)) (hrx : en_i64 x) (hry : en_i64 y) (kk : en_G κ (pc + 3) ls (en_L (max x y) :: st) m k n) : en_G κ pc ls (en_L y :: en_L x :: st) m k n := by
  obtain ⟨p, l, e, R, s, mid, args, below, meth, c, Q, D, cy, ad, PL, A⟩ := κ
  obtain ⟨hx, hb, hml, hown, hts, hR, hlk, hK, hn, hi, hA, hA2, hE⟩ := h
  subst hR
  intro H locs a hl hP hS
  have q := kk H locs a hl hP hS
  refine va_mmax_long hx hb hl.1.symm hown (hts _ w.1) (hts _ w.2.1) (hts _ w.2.2.1) (hts _ w.2.2.2) hfr (by rw [en_cats]; exact hlo) hc.1 hc.2 d ?_
  have e9 : (if Int64.ofInt y < Int64.ofInt x then Int64.ofInt x else Int64.ofInt y) = Int64.ofInt (max x y) := by
    simp only [en_lt64 hry hrx]
    split
    · rw [Int.max_eq_left (by omega)]
    · rw [Int.max_eq_right (by omega)]
  rw [e9]
  exact q
theorem en_bm32 {z : Int} (h : en_i32 z) : z.bmod (2 ^ 32) = z := Int.bmod_eq_of_le (by have := h.1; omega) (by have := h.2; omega)
theorem en_bm64 {z : Int} (h : en_i64 z) : z.bmod (2 ^ 64) = z := Int.bmod_eq_of_le (by have := h.1; omega) (by have := h.2; omega)
theorem en_div32 {x y : Int} (hx : en_i32 x) (hy : 0 < y ∧ y < 2147483648) : Int32.ofInt x / Int32.ofInt y = Int32.ofInt (x.tdiv y) := by
  have hq : en_i32 (x.tdiv y) := by
    have h1 := Int.natAbs_tdiv_le_natAbs x y
    rcases Int.lt_or_le x 0 with q | q
    · have h2 : x.tdiv y = -((-x).tdiv y) := by rw [Int.neg_tdiv, Int.neg_neg]
      have h3 : 0 ≤ (-x).tdiv y := Int.tdiv_nonneg (by omega) (by omega)
      constructor <;> omega
    · have h3 : 0 ≤ x.tdiv y := Int.tdiv_nonneg q (by omega)
      constructor <;> omega
  rw [← Int32.toInt_inj, Int32.toInt_div, en_to32 hx, en_to32 ⟨by omega, by omega⟩, en_to32 hq]
  exact en_bm32 hq
theorem en_div64 {x y : Int} (hx : en_i64 x) (hy : 0 < y ∧ y < 9223372036854775808) : Int64.ofInt x / Int64.ofInt y = Int64.ofInt (x.tdiv y) := by
  have hq : en_i64 (x.tdiv y) := by
    have h1 := Int.natAbs_tdiv_le_natAbs x y
    rcases Int.lt_or_le x 0 with q | q
    · have h2 : x.tdiv y = -((-x).tdiv y) := by rw [Int.neg_tdiv, Int.neg_neg]
      have h3 : 0 ≤ (-x).tdiv y := Int.tdiv_nonneg (by omega) (by omega)
      constructor <;> omega
    · have h3 : 0 ≤ x.tdiv y := Int.tdiv_nonneg q (by omega)
      constructor <;> omega
  rw [← Int64.toInt_inj, Int64.toInt_div, en_to64 hx, en_to64 ⟨by omega, by omega⟩, en_to64 hq]
  exact en_bm64 hq
theorem en_idiv {x y : Int} (h : en_Ok κ own cc nL Ts rm) (d : decode cc pc = .ok (.idiv, 1)) (hrx : en_i32 x) (hry : 0 < y ∧ y < 2147483648) (kk : en_G κ (pc + 1) ls (en_I (x.tdiv y) :: st) m k n) : en_G κ pc ls (en_I y :: en_I x :: st) m k n := by
  obtain ⟨p, l, e, R, s, mid, args, below, meth, c, Q, D, cy, ad, PL, A⟩ := κ
  obtain ⟨hx, hb, hml, hown, hts, hR, hlk, hK, hn, hi, hA, hA2, hE⟩ := h
  intro H locs a hl hP hS
  have q := kk H locs a hl hP hS
  simp only [List.map_cons, en_tv, ← en_div32 hrx hry] at q
  exact lv_idiv hx hb d (fun z => by rw [en_0, en_eq32 ⟨by omega, by omega⟩ en_r0] at z; omega) q
theorem en_irem {x y : Int} (h : en_Ok κ own cc nL Ts rm) (d : decode cc pc = .ok (.irem, 1)) (hrx : en_i32 x) (hry : 0 < y ∧ y < 2147483648) (kk : en_G κ (pc + 1) ls (en_I (x - x.tdiv y * y) :: st) m k n) : en_G κ pc ls (en_I y :: en_I x :: st) m k n := by
  obtain ⟨p, l, e, R, s, mid, args, below, meth, c, Q, D, cy, ad, PL, A⟩ := κ
  obtain ⟨hx, hb, hml, hown, hts, hR, hlk, hK, hn, hi, hA, hA2, hE⟩ := h
  intro H locs a hl hP hS
  have q := kk H locs a hl hP hS
  simp only [List.map_cons, en_tv, Int32.ofInt_sub, Int32.ofInt_mul, ← en_div32 hrx hry] at q
  exact lv_irem hx hb d (fun z => by rw [en_0, en_eq32 ⟨by omega, by omega⟩ en_r0] at z; omega) q
theorem en_ldiv {x y : Int} (h : en_Ok κ own cc nL Ts rm) (d : decode cc pc = .ok (.ldiv, 1)) (hrx : en_i64 x) (hry : 0 < y ∧ y < 9223372036854775808) (kk : en_G κ (pc + 1) ls (en_L (x.tdiv y) :: st) m k n) : en_G κ pc ls (en_L y :: en_L x :: st) m k n := by
  obtain ⟨p, l, e, R, s, mid, args, below, meth, c, Q, D, cy, ad, PL, A⟩ := κ
  obtain ⟨hx, hb, hml, hown, hts, hR, hlk, hK, hn, hi, hA, hA2, hE⟩ := h
  intro H locs a hl hP hS
  have q := kk H locs a hl hP hS
  simp only [List.map_cons, en_tv, ← en_div64 hrx hry] at q
  exact lv_ldiv hx hb d (fun z => by rw [show (0 : Int64) = Int64.ofInt 0 from by decide, en_eq64 ⟨by omega, by omega⟩ ⟨by decide, by decide⟩] at z; omega) q
theorem en_lrem {x y : Int} (h : en_Ok κ own cc nL Ts rm) (d : decode cc pc = .ok (.lrem, 1)) (hrx : en_i64 x) (hry : 0 < y ∧ y < 9223372036854775808) (kk : en_G κ (pc + 1) ls (en_L (x - x.tdiv y * y) :: st) m k n) : en_G κ pc ls (en_L y :: en_L x :: st) m k n := by
  obtain ⟨p, l, e, R, s, mid, args, below, meth, c, Q, D, cy, ad, PL, A⟩ := κ
  obtain ⟨hx, hb, hml, hown, hts, hR, hlk, hK, hn, hi, hA, hA2, hE⟩ := h
  intro H locs a hl hP hS
  have q := kk H locs a hl hP hS
  simp only [List.map_cons, en_tv, Int64.ofInt_sub, Int64.ofInt_mul, ← en_div64 hrx hry] at q
  exact lv_lrem hx hb d (fun z => by rw [show (0 : Int64) = Int64.ofInt 0 from by decide, en_eq64 ⟨by omega, by omega⟩ ⟨by decide, by decide⟩] at z; omega) q
end ENJ
