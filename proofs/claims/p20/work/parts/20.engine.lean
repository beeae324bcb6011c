/-! ENGINE 1: small values, locals, memory by places -/
abbrev en_V : Type := Int ⊕ Int ⊕ Int
abbrev en_I (z : Int) : en_V := Sum.inl z
abbrev en_L (z : Int) : en_V := Sum.inr (Sum.inl z)
abbrev en_R (k : Int) : en_V := Sum.inr (Sum.inr k)
abbrev en_M : Type := Int → Int → Int
def en_tv (ad : Int → Nat) : en_V → Value
  | .inl z => .int (Int32.ofInt z)
  | .inr (.inl z) => .long (Int64.ofInt z)
  | .inr (.inr k) => .ref (ad k)
theorem en_tvI (ad : Int → Nat) (z : Int) : en_tv ad (en_I z) = .int (Int32.ofInt z) := rfl
theorem en_tvL (ad : Int → Nat) (z : Int) : en_tv ad (en_L z) = .long (Int64.ofInt z) := rfl
theorem en_tvR (ad : Int → Nat) (z : Int) : en_tv ad (en_R z) = .ref (ad z) := rfl
abbrev en_i32 (x : Int) : Prop := -2147483648 ≤ x ∧ x < 2147483648
abbrev en_i64 (x : Int) : Prop := -9223372036854775808 ≤ x ∧ x < 9223372036854775808
theorem en_to32 {x : Int} (h : en_i32 x) : (Int32.ofInt x).toInt = x := Int32.toInt_ofInt_of_le (by have := h.1; omega) (by have := h.2; omega)
theorem en_to64 {x : Int} (h : en_i64 x) : (Int64.ofInt x).toInt = x := Int64.toInt_ofInt_of_le (by have := h.1; omega) (by have := h.2; omega)
theorem en_eq32 {x y : Int} (hx : en_i32 x) (hy : en_i32 y) : Int32.ofInt x = Int32.ofInt y ↔ x = y := by
  rw [← Int32.toInt_inj, en_to32 hx, en_to32 hy]
theorem en_lt32 {x y : Int} (hx : en_i32 x) (hy : en_i32 y) : Int32.ofInt x < Int32.ofInt y ↔ x < y := by
  rw [Int32.lt_iff_toInt_lt, en_to32 hx, en_to32 hy]
theorem en_le32 {x y : Int} (hx : en_i32 x) (hy : en_i32 y) : Int32.ofInt x ≤ Int32.ofInt y ↔ x ≤ y := by
  rw [Int32.le_iff_toInt_le, en_to32 hx, en_to32 hy]
theorem en_eq64 {x y : Int} (hx : en_i64 x) (hy : en_i64 y) : Int64.ofInt x = Int64.ofInt y ↔ x = y := by
  rw [← Int64.toInt_inj, en_to64 hx, en_to64 hy]
theorem en_lt64 {x y : Int} (hx : en_i64 x) (hy : en_i64 y) : Int64.ofInt x < Int64.ofInt y ↔ x < y := by
  rw [Int64.lt_iff_toInt_lt, en_to64 hx, en_to64 hy]
theorem en_le64 {x y : Int} (hx : en_i64 x) (hy : en_i64 y) : Int64.ofInt x ≤ Int64.ofInt y ↔ x ≤ y := by
  rw [Int64.le_iff_toInt_le, en_to64 hx, en_to64 hy]
theorem en_0 : (0 : Int32) = Int32.ofInt 0 := by decide
theorem en_r0 : en_i32 0 := by decide
/-! locals -/
def en_cl : Option en_V → Option en_V
  | some (.inr (.inl _)) => none
  | x => x
def en_s1 : List (Option en_V) → Nat → en_V → List (Option en_V)
  | [], _, _ => []
  | _ :: t, 0, v => some v :: t
  | a :: t, i + 1, v => (if i = 0 then en_cl a else a) :: en_s1 t i v
def en_sn : List (Option en_V) → Nat → List (Option en_V)
  | [], _ => []
  | _ :: t, 0 => none :: t
  | a :: t, i + 1 => a :: en_sn t i
def en_s2 (ls : List (Option en_V)) (i : Nat) (v : en_V) : List (Option en_V) := en_sn (en_s1 ls i v) (i + 1)
def en_isL : en_V → Prop
  | .inr (.inl _) => True
  | _ => False
theorem en_cat2 (ad : Int → Nat) (v : en_V) : (en_tv ad v).category = 2 ↔ en_isL v := by
  rcases v with z | z | z <;> simp [en_tv, en_isL, Value.category]
theorem en_s1_get : ∀ (ls : List (Option en_V)) (i : Nat) (v : en_V) (j : Nat) (w : en_V), (en_s1 ls i v)[j]? = some (some w) → (j = i ∧ w = v) ∨ (j ≠ i ∧ ls[j]? = some (some w) ∧ ¬ (j + 1 = i ∧ en_isL w))
  | [], _, _, _, _, h => by simp [en_s1] at h
  | _ :: t, 0, v, 0, w, h => by
    simp [en_s1] at h
    exact Or.inl ⟨rfl, h.symm⟩
  | _ :: t, 0, v, j + 1, w, h => by
    simp [en_s1] at h
    exact Or.inr ⟨by omega, by simpa using h, by omega⟩
  | a :: t, i + 1, v, 0, w, h => by
    simp only [en_s1, List.getElem?_cons_zero, Option.some.injEq] at h
    refine Or.inr ⟨by omega, ?_, ?_⟩
    · by_cases hi : i = 0
      · rw [if_pos hi] at h
        rcases a with _ | (z | z | z) <;> simp [en_cl] at h <;> simp [h]
      · rw [if_neg hi] at h
        simp [h]
    · rintro ⟨h1, h2⟩
      have hi : i = 0 := by omega
      rw [if_pos hi] at h
      rcases a with _ | (z | z | z) <;> simp [en_cl] at h <;> (subst h; simp [en_isL] at h2)
  | a :: t, i + 1, v, j + 1, w, h => by
    simp only [en_s1, List.getElem?_cons_succ] at h
    rcases en_s1_get t i v j w h with ⟨h1, h2⟩ | ⟨h1, h2, h3⟩
    · exact Or.inl ⟨by omega, h2⟩
    · exact Or.inr ⟨by omega, by simpa using h2, fun q => h3 ⟨by omega, q.2⟩⟩
theorem en_sn_get : ∀ (ls : List (Option en_V)) (i j : Nat) (w : en_V), (en_sn ls i)[j]? = some (some w) → j ≠ i ∧ ls[j]? = some (some w)
  | [], _, _, _, h => by simp [en_sn] at h
  | _ :: t, 0, 0, w, h => by simp [en_sn] at h
  | _ :: t, 0, j + 1, w, h => by
    simp [en_sn] at h
    exact ⟨by omega, by simpa using h⟩
  | a :: t, i + 1, 0, w, h => by
    simp [en_sn] at h
    exact ⟨by omega, by simp [h]⟩
  | a :: t, i + 1, j + 1, w, h => by
    simp only [en_sn, List.getElem?_cons_succ] at h
    obtain ⟨h1, h2⟩ := en_sn_get t i j w h
    exact ⟨by omega, by simpa using h2⟩
/-- the machine's locals hold the listed ones -/
def en_lm (ad : Int → Nat) (nL : Nat) (ls : List (Option en_V)) (a : Array Slot) : Prop :=
  a.size = nL ∧ lv_wf a ∧ ∀ (i : Nat) (v : en_V), ls[i]? = some (some v) → a[i]? = some (.val (en_tv ad v))
def en_as (ad : Int → Nat) (ls : List (Option en_V)) : List (Nat × Value) := (List.range ls.length).filterMap fun i => (ls[i]?).join.map fun v => (i, en_tv ad v)
theorem en_as_mem {ad : Int → Nat} {ls : List (Option en_V)} {q : Nat × Value} : q ∈ en_as ad ls ↔ ∃ v, ls[q.1]? = some (some v) ∧ q.2 = en_tv ad v := by
  unfold en_as
  rw [List.mem_filterMap]
  constructor
  · rintro ⟨i, hi, h⟩
    cases hx : (ls[i]?).join with
    | none => rw [hx] at h; simp at h
    | some v =>
      rw [hx] at h
      simp only [Option.map_some, Option.some.injEq] at h
      subst h
      exact ⟨v, Option.join_eq_some_iff.mp hx, rfl⟩
  · rintro ⟨v, h1, h2⟩
    refine ⟨q.1, ?_, ?_⟩
    · rw [List.mem_range]
      exact (List.getElem?_eq_some_iff.mp h1).1
    · rw [h1]
      simp only [Option.join_some, Option.map_some, Option.some.injEq]
      rw [← h2]
theorem en_lm_has {ad : Int → Nat} {nL : Nat} {ls : List (Option en_V)} {a : Array Slot} (h : en_lm ad nL ls a) : lv_has a nL (en_as ad ls) := by
  refine ⟨h.1, h.2.1, fun q hq => ?_⟩
  obtain ⟨v, h1, h2⟩ := en_as_mem.mp hq
  rw [h.2.2 q.1 v h1, h2]
theorem en_lm_1 {ad : Int → Nat} {nL i : Nat} {ls : List (Option en_V)} {v : en_V} {a : Array Slot} (h : lv_has a nL ((i, en_tv ad v) :: (en_as ad ls).filter (fun q => !(q.1 == i) && !(q.1 + 1 == i && q.2.category == 2)))) : en_lm ad nL (en_s1 ls i v) a := by
  refine ⟨h.1, h.2.1, fun j w hj => ?_⟩
  rcases en_s1_get ls i v j w hj with ⟨rfl, rfl⟩ | ⟨h1, h2, h3⟩
  · exact h.2.2 _ List.mem_cons_self
  · refine h.2.2 (j, en_tv ad w) (List.mem_cons_of_mem _ (List.mem_filter.mpr ⟨en_as_mem.mpr ⟨w, h2, rfl⟩, ?_⟩))
    have h4 : ¬ (j + 1 = i ∧ (en_tv ad w).category = 2) := fun q => h3 ⟨q.1, (en_cat2 ad w).mp q.2⟩
    simp [h1]
    rcases Classical.em (j + 1 = i) with q1 | q1
    · exact Or.inr fun q2 => h4 ⟨q1, q2⟩
    · exact Or.inl q1
theorem en_lm_2 {ad : Int → Nat} {nL i : Nat} {ls : List (Option en_V)} {v : en_V} {a : Array Slot} (h : lv_has a nL ((i, en_tv ad v) :: (en_as ad ls).filter (fun q => !(q.1 == i) && (!(q.1 == i + 1) && !(q.1 + 1 == i && q.2.category == 2))))) : en_lm ad nL (en_s2 ls i v) a := by
  refine ⟨h.1, h.2.1, fun j w hj => ?_⟩
  obtain ⟨h0, hj⟩ := en_sn_get _ _ _ _ hj
  rcases en_s1_get ls i v j w hj with ⟨rfl, rfl⟩ | ⟨h1, h2, h3⟩
  · exact h.2.2 _ List.mem_cons_self
  · refine h.2.2 (j, en_tv ad w) (List.mem_cons_of_mem _ (List.mem_filter.mpr ⟨en_as_mem.mpr ⟨w, h2, rfl⟩, ?_⟩))
    have h4 : ¬ (j + 1 = i ∧ (en_tv ad w).category = 2) := fun q => h3 ⟨q.1, (en_cat2 ad w).mp q.2⟩
    simp [h1, h0]
    rcases Classical.em (j + 1 = i) with q1 | q1
    · exact Or.inr fun q2 => h4 ⟨q1, q2⟩
    · exact Or.inl q1
/-! the layout of the cells: arrays (kind 0 int, 1 long, 2 boolean, 3 rows of ints, 4 rows of longs; length; first row's place, -1 where the rows move), objects (class, fields: 0 int, 1 long, 2 the cell at a place) -/
abbrev en_Y : Type := (Nat × Nat × Int) ⊕ (Nat × List (Nat × Int))
def en_lyL : List en_Y :=
  [ .inr (1, [(0, 0), (0, 0), (2, 1), (2, 2), (2, 3), (2, 4), (2, 5), (2, 6), (2, 7)]), .inl (0, 8, 0), .inl (0, 8, 0), .inl (0, 8, 0), .inl (2, 8, 0), .inl (0, 5, 0), .inl (3, 8, 8), .inl (3, 5, 16), .inl (0, 5, 0), .inl (0, 5, 0), .inl (0, 5, 0), .inl (0, 5, 0), .inl (0, 5, 0), .inl (0, 5, 0), .inl (0, 5, 0), .inl (0, 5, 0), .inl (0, 5, 0), .inl (0, 5, 0), .inl (0, 5, 0), .inl (0, 5, 0), .inl (0, 5, 0), .inr (2, [(2, 0), (0, 0), (2, 22), (2, 23), (2, 24), (2, 25), (2, 26)]), .inl (0, 10, 0), .inl (0, 10, 0), .inl (0, 10, 0), .inl (0, 10, 0), .inl (2, 10, 0), .inr (3, [(2, 0), (2, 21), (2, 28)]), .inl (4, 10, -1), .inl (1, 5, 0), .inl (1, 5, 0), .inl (1, 5, 0), .inl (1, 5, 0), .inl (1, 5, 0), .inl (1, 5, 0), .inl (1, 5, 0), .inl (1, 5, 0), .inl (1, 5, 0), .inl (1, 5, 0), .inr (0, [(2, 0), (2, 21), (2, 40), (2, 41), (2, 42), (2, 43), (1, 0)]), .inl (4, 5, 44), .inl (1, 5, 0), .inl (1, 32, 0), .inl (1, 5, 0), .inl (1, 5, 0), .inl (1, 5, 0), .inl (1, 5, 0), .inl (1, 5, 0), .inl (1, 5, 0), .inr (4, [(2, 0), (2, 21), (2, 27), (2, 39)]), .inr (0, []), .inr (0, []), .inr (0, []), .inr (0, []), .inr (0, []), .inr (0, []), .inr (0, []), .inr (0, []), .inr (0, []), .inr (0, []), .inr (0, []), .inr (0, []), .inr (0, []), .inr (0, []), .inr (0, []), .inr (0, []), .inr (0, []), .inr (0, []), .inr (0, []), .inr (0, []), .inr (0, []), .inr (0, []), .inr (0, []), .inr (0, []), .inr (0, []), .inr (0, []), .inr (0, []), .inr (0, []), .inr (0, []), .inr (0, []), .inr (0, []), .inr (0, []), .inr (0, []), .inr (0, []), .inr (0, []), .inr (0, []), .inr (0, []), .inr (0, []), .inr (0, []), .inr (0, []), .inr (0, []), .inr (0, []), .inr (0, []), .inr (0, []), .inr (0, []), .inr (0, []), .inr (0, []), .inr (0, []), .inr (0, []), .inr (0, []), .inr (1, [(0, 0), (0, 0), (2, 101), (2, 102), (2, 103), (2, 104), (2, 105), (2, 106), (2, 107)]), .inl (0, 8, 0), .inl (0, 8, 0), .inl (0, 8, 0), .inl (2, 8, 0), .inl (0, 5, 0), .inl (3, 8, 108), .inl (3, 5, 116), .inl (0, 5, 0), .inl (0, 5, 0), .inl (0, 5, 0), .inl (0, 5, 0), .inl (0, 5, 0), .inl (0, 5, 0), .inl (0, 5, 0), .inl (0, 5, 0), .inl (0, 5, 0), .inl (0, 5, 0), .inl (0, 5, 0), .inl (0, 5, 0), .inl (0, 5, 0), .inr (2, [(2, 100), (0, 0), (2, 122), (2, 123), (2, 124), (2, 125), (2, 126)]), .inl (0, 10, 0), .inl (0, 10, 0), .inl (0, 10, 0), .inl (0, 10, 0), .inl (2, 10, 0), .inr (3, [(2, 100), (2, 121), (2, 128)]), .inl (4, 10, -1), .inl (1, 5, 0), .inl (1, 5, 0), .inl (1, 5, 0), .inl (1, 5, 0), .inl (1, 5, 0), .inl (1, 5, 0), .inl (1, 5, 0), .inl (1, 5, 0), .inl (1, 5, 0), .inl (1, 5, 0), .inr (0, [(2, 100), (2, 121), (2, 140), (2, 141), (2, 142), (2, 143), (1, 0)]), .inl (4, 5, 144), .inl (1, 5, 0), .inl (1, 32, 0), .inl (1, 5, 0), .inl (1, 5, 0), .inl (1, 5, 0), .inl (1, 5, 0), .inl (1, 5, 0), .inl (1, 5, 0), .inr (4, [(2, 100), (2, 121), (2, 127), (2, 139)]), .inr (0, []), .inr (0, []), .inr (0, []), .inr (0, []), .inr (0, []), .inr (0, []), .inr (0, []), .inr (0, []), .inr (0, []), .inr (0, []), .inr (0, []), .inr (0, []), .inr (0, []), .inr (0, []), .inr (0, []), .inr (0, []), .inr (0, []), .inr (0, []), .inr (0, []), .inr (0, []), .inr (0, []), .inr (0, []), .inr (0, []), .inr (0, []), .inr (0, []), .inr (0, []), .inr (0, []), .inr (0, []), .inr (0, []), .inr (0, []), .inr (0, []), .inr (0, []), .inr (0, []), .inr (0, []), .inr (0, []), .inr (0, []), .inr (0, []), .inr (0, []), .inr (0, []), .inr (0, []), .inr (0, []), .inr (0, []), .inr (0, []), .inr (0, []), .inr (0, []), .inr (0, []), .inr (0, []), .inr (0, []), .inr (0, []), .inr (0, []), .inl (0, 3, 0), .inl (0, 10, 0), .inl (0, 32, 0), .inl (0, 40, 0) ]
def en_ly (k : Int) : en_Y := en_lyL.getD k.toNat (.inr (0, []))
theorem en_lyN {k : Int} {t N : Nat} {b : Int} (h : en_ly k = .inl (t, N, b)) : N ≤ 100 := by
  unfold en_ly at h
  have h0 : en_lyL.all (fun y => match y with | .inl q => decide (q.2.1 ≤ 100) | .inr _ => true) = true := by decide
  have h1 : ∀ y ∈ en_lyL, ∀ t N b, y = .inl (t, N, b) → N ≤ 100 := by
    intro y hy t N b e
    have q := List.all_eq_true.mp h0 y hy
    rw [e] at q
    simpa using q
  by_cases hk : k.toNat < en_lyL.length
  · rw [List.getD_eq_getElem?_getD, List.getElem?_eq_getElem hk] at h
    exact h1 _ (List.getElem_mem hk) t N b h
  · rw [List.getD_eq_getElem?_getD, List.getElem?_eq_none (by omega)] at h
    cases h
def en_fv (ad : Int → Nat) (m : en_M) (k : Int) (i : Nat) (f : Nat × Int) : Value := if f.1 = 0 then .int (Int32.ofInt (m k i)) else if f.1 = 1 then .long (Int64.ofInt (m k i)) else .ref (ad f.2)
def en_fl (ad : Int → Nat) (m : en_M) (k : Int) : Nat → List (Nat × Int) → List Value
  | _, [] => []
  | i, f :: t => en_fv ad m k i f :: en_fl ad m k (i + 1) t
def en_ac (ad : Int → Nat) (m : en_M) (k : Int) (t : Nat) (b : Int) : (Nat → Int32) ⊕ (Nat → Int64) ⊕ (Nat → UInt32) ⊕ (Nat → UInt64) ⊕ (Nat → Option Nat) :=
  if t = 0 ∨ t = 2 then .inl (fun j => Int32.ofInt (m k (j : Int))) else if t = 1 then .inr (.inl (fun j => Int64.ofInt (m k (j : Int)))) else .inr (.inr (.inr (.inr (fun j => some (ad (if b < 0 then m k (j : Int) else b + (j : Int)))))))
def en_ct (cy : Nat → ClassId) (ad : Int → Nat) (m : en_M) (k : Int) : va_E := match en_ly k with
  | .inl y => .inl (cy y.1, y.2.1, en_ac ad m k y.1 y.2.2)
  | .inr y => .inr (y.1, en_fl ad m k 0 y.2)
def en_ws (cy : Nat → ClassId) (ad : Int → Nat) (PL : List Int) (m : en_M) : va_W := PL.map fun k => (ad k, en_ct cy ad m k)
def en_ty (cy : Nat → ClassId) : List (ClassId × FieldType) := [(cy 0, .int), (cy 1, .long), (cy 2, .boolean), (cy 3, .array .int), (cy 4, .array .long)]
def en_set (m : en_M) (k j v : Int) : en_M := fun k' j' => if k' = k ∧ j' = j then v else m k' j'
theorem en_set_k {m : en_M} {k j v k' : Int} (h : k' ≠ k) : en_set m k j v k' = m k' := by
  funext j'
  simp [en_set, h]
theorem en_fl_get (ad : Int → Nat) (m : en_M) (k : Int) : ∀ (fl : List (Nat × Int)) (i j : Nat), (en_fl ad m k i fl)[j]? = (fl[j]?).map (fun f => en_fv ad m k (i + j) f)
  | [], i, j => by simp [en_fl]
  | f :: t, i, 0 => by simp [en_fl]
  | f :: t, i, j + 1 => by
    simp only [en_fl, List.getElem?_cons_succ]
    rw [en_fl_get ad m k t (i + 1) j]
    congr 2
    funext f
    rw [show i + 1 + j = i + (j + 1) by omega]
theorem en_fl_len (ad : Int → Nat) (m : en_M) (k : Int) : ∀ (fl : List (Nat × Int)) (i : Nat), (en_fl ad m k i fl).length = fl.length
  | [], i => rfl
  | f :: t, i => by simp [en_fl, en_fl_len ad m k t (i + 1)]
theorem en_ct_k {cy : Nat → ClassId} {ad : Int → Nat} {m m' : en_M} {k : Int} (h : m' k = m k) : en_ct cy ad m' k = en_ct cy ad m k := by
  have h1 : ∀ (fl : List (Nat × Int)) (i : Nat), en_fl ad m' k i fl = en_fl ad m k i fl := by
    intro fl
    induction fl with
    | nil => intro i; rfl
    | cons f t ih =>
      intro i
      simp only [en_fl, ih (i + 1), en_fv, h]
  unfold en_ct
  cases en_ly k with
  | inl y => simp only [en_ac, h]
  | inr y => simp only [h1]
theorem en_ws_get {cy : Nat → ClassId} {ad : Int → Nat} {PL : List Int} {m : en_M} {k : Int} (h : k ∈ PL) : ∃ q : Nat, PL[q]? = some k ∧ (en_ws cy ad PL m)[q]? = some (ad k, en_ct cy ad m k) := by
  obtain ⟨q, hq⟩ := List.getElem?_of_mem h
  exact ⟨q, hq, by simp [en_ws, hq]⟩
theorem en_ws_set {cy : Nat → ClassId} {ad : Int → Nat} {PL : List Int} {m m' : en_M} {k : Int} {q : Nat} (hn : PL.Nodup) (hq : PL[q]? = some k) (h : ∀ k', k' ≠ k → m' k' = m k') : (en_ws cy ad PL m).set q (ad k, en_ct cy ad m' k) = en_ws cy ad PL m' := by
  apply List.ext_getElem?
  intro i
  by_cases hi : i = q
  · subst hi
    have hl : i < (en_ws cy ad PL m).length := by
      simp only [en_ws, List.length_map]
      exact (List.getElem?_eq_some_iff.mp hq).1
    rw [List.getElem?_set_self hl]
    simp [en_ws, hq]
  · rw [List.getElem?_set_ne (Ne.symm hi)]
    simp only [en_ws, List.getElem?_map]
    cases hk : PL[i]? with
    | none => rfl
    | some k' =>
      have hne : k' ≠ k := by
        intro e
        subst e
        obtain ⟨l1, e1⟩ := List.getElem?_eq_some_iff.mp hk
        obtain ⟨l2, e2⟩ := List.getElem?_eq_some_iff.mp hq
        exact hi ((List.getElem_inj hn).mp (e1.trans e2.symm))
      simp [en_ct_k (h k' hne)]
theorem en_ws_D {cy : Nat → ClassId} {ad : Int → Nat} {PL : List Int} {A : Nat → Prop} (m : en_M) (hn : PL.Nodup) (hi : ∀ i j, i ∈ PL → j ∈ PL → ad i = ad j → i = j) (hA : ∀ i, i ∈ PL → A (ad i)) : va_D A (en_ws cy ad PL m) := by
  have key : ∀ (i : Nat) (p : Nat × va_E), (en_ws cy ad PL m)[i]? = some p → ∃ k, PL[i]? = some k ∧ p.1 = ad k := by
    intro i p h
    simp only [en_ws, List.getElem?_map] at h
    cases hk : PL[i]? with
    | none => rw [hk] at h; cases h
    | some k =>
      rw [hk] at h
      simp only [Option.map_some, Option.some.injEq] at h
      subst h
      exact ⟨k, rfl, rfl⟩
  refine ⟨fun i j p q h1 h2 h3 => ?_, fun i p h1 => ?_⟩
  · obtain ⟨k1, a1, b1⟩ := key i p h1
    obtain ⟨k2, a2, b2⟩ := key j q h2
    have e : k1 = k2 := hi k1 k2 (List.mem_of_getElem? a1) (List.mem_of_getElem? a2) (by rw [← b1, ← b2, h3])
    subst e
    obtain ⟨l1, e1⟩ := List.getElem?_eq_some_iff.mp a1
    obtain ⟨l2, e2⟩ := List.getElem?_eq_some_iff.mp a2
    exact (List.getElem_inj hn).mp (e1.trans e2.symm)
  · obtain ⟨k1, a1, b1⟩ := key i p h1
    rw [b1]
    exact hA k1 (List.mem_of_getElem? a1)
