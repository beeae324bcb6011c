/-! PURE 2: minors by sets of columns (bits) -/
def gm_p (c : Int) : Int := if c ≤ 0 then 1 else if c ≤ 1 then 2 else if c ≤ 2 then 4 else if c ≤ 3 then 8 else 16
/-- whether a set holds a column -/
def gm_tb (s c : Int) : Bool := decide ((s / gm_p c) % 2 = 1)
def gm_pc (s : Int) : Int := s % 2 + s / 2 % 2 + s / 4 % 2 + s / 8 % 2 + s / 16 % 2
theorem gm_32 {P : Int → Prop} (h : ∀ s : Fin 32, P ((s.val : Nat) : Int)) {s : Int} (h0 : 0 ≤ s) (h1 : s < 32) : P s := by
  have q := h ⟨s.toNat, by omega⟩
  have e : ((s.toNat : Nat) : Int) = s := by omega
  simp only [e] at q
  exact q
theorem gm_5 {P : Int → Prop} (h : ∀ s : Fin 5, P ((s.val : Nat) : Int)) {s : Int} (h0 : 0 ≤ s) (h1 : s < 5) : P s := by
  have q := h ⟨s.toNat, by omega⟩
  have e : ((s.toNat : Nat) : Int) = s := by omega
  simp only [e] at q
  exact q
theorem gm_shl {c : Int} (h0 : 0 ≤ c) (h1 : c < 5) : Int32.ofInt 1 <<< (Int32.ofInt c &&& 31) = Int32.ofInt (gm_p c) :=
  gm_5 (P := fun c => Int32.ofInt 1 <<< (Int32.ofInt c &&& 31) = Int32.ofInt (gm_p c)) (by decide +kernel) h0 h1
theorem gm_and {s c : Int} (h0 : 0 ≤ s) (h1 : s < 32) (h2 : 0 ≤ c) (h3 : c < 5) : Int32.ofInt s &&& Int32.ofInt (gm_p c) = Int32.ofInt (if gm_tb s c = true then gm_p c else 0) :=
  gm_5 (P := fun c => ∀ s, 0 ≤ s → s < 32 → Int32.ofInt s &&& Int32.ofInt (gm_p c) = Int32.ofInt (if gm_tb s c = true then gm_p c else 0)) (fun c s h0 h1 => gm_32 (P := fun s => Int32.ofInt s &&& Int32.ofInt (gm_p ((c.val : Nat) : Int)) = Int32.ofInt (if gm_tb s ((c.val : Nat) : Int) = true then gm_p ((c.val : Nat) : Int) else 0)) (fun s => by revert c s; decide +kernel) h0 h1) h2 h3 s h0 h1
theorem gm_p_rng (c : Int) : 1 ≤ gm_p c ∧ gm_p c ≤ 16 := by
  unfold gm_p
  split
  · decide
  · split
    · decide
    · split
      · decide
      · split <;> decide
theorem gm_sub {s c : Int} (h0 : 0 ≤ s) (h1 : s < 32) (h2 : 0 ≤ c) (h3 : c < 5) (h : gm_tb s c = true) : 0 ≤ s - gm_p c ∧ gm_pc (s - gm_p c) = gm_pc s - 1 :=
  gm_5 (P := fun c => ∀ s, 0 ≤ s → s < 32 → gm_tb s c = true → 0 ≤ s - gm_p c ∧ gm_pc (s - gm_p c) = gm_pc s - 1) (fun c s h0 h1 => gm_32 (P := fun s => gm_tb s ((c.val : Nat) : Int) = true → 0 ≤ s - gm_p ((c.val : Nat) : Int) ∧ gm_pc (s - gm_p ((c.val : Nat) : Int)) = gm_pc s - 1) (fun s => by revert c s; decide +kernel) h0 h1) h2 h3 s h0 h1 h
theorem gm_pc_rng {s : Int} (h0 : 0 ≤ s) (h1 : s < 32) : 0 ≤ gm_pc s ∧ gm_pc s ≤ 5 := gm_32 (P := fun s => 0 ≤ gm_pc s ∧ gm_pc s ≤ 5) (by decide +kernel) h0 h1
theorem gm_pc_0 {s : Int} (h0 : 0 ≤ s) (h1 : s < 32) (h : gm_pc s = 0) : s = 0 := gm_32 (P := fun s => gm_pc s = 0 → s = 0) (by decide +kernel) h0 h1 h
/-- the expansion along a row, from column f - 1 down; M: the minors of the rows before -/
def gm_go (E : Int → Int → Int) (M : Int → Int) (row s : Int) : Nat → Int → Int → Int
  | 0, sum, _ => sum
  | f + 1, sum, sg => if gm_tb s (f : Int) = true then gm_go E M row s f (sum + sg * E row (f : Int) * M (s - gm_p (f : Int))) (-sg) else gm_go E M row s f sum sg
/-- the minor of the first p rows and the columns of a set -/
def gm_D (E : Int → Int → Int) : Nat → Int → Int
  | 0, _ => 1
  | p + 1, s => gm_go E (gm_D E p) (p : Int) s 5 0 1
theorem gm_go_cong {E : Int → Int → Int} {M M' : Int → Int} {row s : Int} (h : ∀ c, 0 ≤ c → c < 5 → gm_tb s c = true → M (s - gm_p c) = M' (s - gm_p c)) : ∀ (f : Nat) (sum sg : Int), f ≤ 5 → gm_go E M row s f sum sg = gm_go E M' row s f sum sg
  | 0, _, _, _ => rfl
  | f + 1, sum, sg, hf => by
    simp only [gm_go]
    by_cases c : gm_tb s (f : Int) = true
    · rw [if_pos c, if_pos c, h f (by omega) (by omega) c, gm_go_cong h f _ _ (by omega)]
    · rw [if_neg c, if_neg c, gm_go_cong h f _ _ (by omega)]
section ENB
variable {κ : en_C} {own : String} {cc : ByteArray} {nL : Nat} {Ts : List Cond} {rm : Room} {pc : Nat} {ls : List (Option en_V)} {st : List en_V} {m : en_M} {k n : Nat}
theorem en_ldc_w {index : Nat} {v : Int32} (h : en_Ok κ own cc nL Ts rm) (d : decode cc pc = .ok (.ldc_w index, 3)) (hw : Cond.constant own index v ∈ Ts) (kk : en_G κ (pc + 3) ls (en_I v.toInt :: st) m k n) : en_G κ pc ls st m k n := by
  obtain ⟨p, l, e, R, s, mid, args, below, meth, c, Q, D, cy, ad, PL, A⟩ := κ
  obtain ⟨hx, hb, hml, hown, hts, hR, hlk, hK, hn, hi, hA, hA2, hE⟩ := h
  intro H locs a hl hP hS
  have q := kk H locs a hl hP hS
  simp only [List.map_cons, en_tv, Int32.ofInt_toInt] at q
  exact lv_ldcw hx hb hown (hts _ hw) d q
theorem en_iushr {x y : Int} (h : en_Ok κ own cc nL Ts rm) (d : decode cc pc = .ok (.iushr, 1)) (z : Int) (hz : ((Int32.ofInt x).toUInt32 >>> ((Int32.ofInt y).toUInt32 &&& Int32.toUInt32 31)).toInt32 = Int32.ofInt z) (kk : en_G κ (pc + 1) ls (en_I z :: st) m k n) : en_G κ pc ls (en_I y :: en_I x :: st) m k n := by
  obtain ⟨p, l, e, R, s, mid, args, below, meth, c, Q, D, cy, ad, PL, A⟩ := κ
  obtain ⟨hx, hb, hml, hown, hts, hR, hlk, hK, hn, hi, hA, hA2, hE⟩ := h
  intro H locs a hl hP hS
  exact t_iushr hx hb d hz (kk H locs a hl hP hS)
end ENB
