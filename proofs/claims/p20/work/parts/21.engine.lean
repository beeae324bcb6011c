/-! ENGINE 2: the walk's judgement en_G over small values, one row an instruction -/
abbrev en_C : Type := Program × Launch × Env × Room × State × MethodId × Array Value × List Frame × Method × Code × (State → Prop) × va_G × (Nat → ClassId) × (Int → Nat) × List Int × (Nat → Prop)
abbrev en_W : Type := va_G × (Nat → ClassId) × (Int → Nat) × List Int
def en_l (κ : en_C) : Launch := κ.2.1
def en_w (κ : en_C) : en_W := match κ with
  | (_, _, _, _, _, _, _, _, _, _, _, D, cy, ad, PL, _) => (D, cy, ad, PL)
def en_in (κ : en_C) (k : Int) : Prop := k ∈ (en_w κ).2.2.2
def en_G (κ : en_C) (pc : Nat) (ls : List (Option en_V)) (st : List en_V) (m : en_M) (k n : Nat) : Prop := match κ with
  | (p, l, e, R, s, mid, args, below, meth, c, Q, D, cy, ad, PL, A) => ∀ (H : Heap) (locs : List Loc) (a : Array Slot), en_lm ad c.maxLocals ls a → va_P D vwCl (en_ws cy ad PL m) H → va_S A s.heap H locs → W p l e R s mid args below meth c H locs k n Q (F0 mid pc a (st.map (en_tv ad)))
def en_Ok (κ : en_C) (own : String) (cc : ByteArray) (nL : Nat) (Ts : List Cond) (rm : Room) : Prop := match κ with
  | (p, l, e, R, s, mid, args, below, meth, c, Q, D, cy, ad, PL, A) => p.tables.exec = Jvm.exec ∧ c.code = cc ∧ c.maxLocals = nL ∧ s.vm.findClass own = some mid.cls ∧ (∀ w ∈ Ts, w.before args s = true) ∧ R = rm ∧ meth.locks = false ∧ va_K D vwCl (en_ty cy) s ∧ PL.Nodup ∧ (∀ i j, i ∈ PL → j ∈ PL → ad i = ad j → i = j) ∧ (∀ i, i ∈ PL → A (ad i)) ∧ (∀ q, s.heap.size ≤ q → A q) ∧ en_E s
section ENR
variable {κ : en_C} {own : String} {cc : ByteArray} {nL : Nat} {Ts : List Cond} {rm : Room} {pc : Nat} {ls : List (Option en_V)} {st : List en_V} {m : en_M} {k n : Nat}
theorem en_iconst {c9 : Int} (h : en_Ok κ own cc nL Ts rm) (d : decode cc pc = .ok (.iconst c9, 1)) (kk : en_G κ (pc + 1) ls (en_I c9 :: st) m k n) : en_G κ pc ls st m k n := by
  obtain ⟨p, l, e, R, s, mid, args, below, meth, c, Q, D, cy, ad, PL, A⟩ := κ
  obtain ⟨hx, hb, hml, hown, hts, hR, hlk, hK, hn, hi, hA, hA2, hE⟩ := h
  intro H locs a hl hP hS
  exact lv_iconst hx hb d rfl (kk H locs a hl hP hS)
theorem en_bipush {c9 : Int} (h : en_Ok κ own cc nL Ts rm) (d : decode cc pc = .ok (.bipush c9, 2)) (hc : -128 ≤ c9 ∧ c9 < 128) (kk : en_G κ (pc + 2) ls (en_I c9 :: st) m k n) : en_G κ pc ls st m k n := by
  obtain ⟨p, l, e, R, s, mid, args, below, meth, c, Q, D, cy, ad, PL, A⟩ := κ
  obtain ⟨hx, hb, hml, hown, hts, hR, hlk, hK, hn, hi, hA, hA2, hE⟩ := h
  intro H locs a hl hP hS
  refine lv_bipush hx hb d ?_ (kk H locs a hl hP hS)
  rw [← Int32.toInt_inj, Int8.toInt_toInt32, en_to32 ⟨by omega, by omega⟩]
  exact Int8.toInt_ofInt_of_le (by omega) (by omega)
theorem en_sipush {c9 : Int} (h : en_Ok κ own cc nL Ts rm) (d : decode cc pc = .ok (.sipush c9, 3)) (hc : -32768 ≤ c9 ∧ c9 < 32768) (kk : en_G κ (pc + 3) ls (en_I c9 :: st) m k n) : en_G κ pc ls st m k n := by
  obtain ⟨p, l, e, R, s, mid, args, below, meth, c, Q, D, cy, ad, PL, A⟩ := κ
  obtain ⟨hx, hb, hml, hown, hts, hR, hlk, hK, hn, hi, hA, hA2, hE⟩ := h
  intro H locs a hl hP hS
  refine lv_sipush hx hb d ?_ (kk H locs a hl hP hS)
  rw [← Int32.toInt_inj, Int16.toInt_toInt32, en_to32 ⟨by omega, by omega⟩]
  exact Int16.toInt_ofInt_of_le (by omega) (by omega)
theorem en_lconst {c9 : Fin 2} {z : Int} (h : en_Ok κ own cc nL Ts rm) (d : decode cc pc = .ok (.lconst c9, 1)) (hz : ((c9 : Nat) : Int) = z) (kk : en_G κ (pc + 1) ls (en_L z :: st) m k n) : en_G κ pc ls st m k n := by
  obtain ⟨p, l, e, R, s, mid, args, below, meth, c, Q, D, cy, ad, PL, A⟩ := κ
  obtain ⟨hx, hb, hml, hown, hts, hR, hlk, hK, hn, hi, hA, hA2, hE⟩ := h
  intro H locs a hl hP hS
  refine lv_lconst hx hb d ?_ (kk H locs a hl hP hS)
  subst hz
  exact Int64.ofInt_eq_ofNat.symm
theorem en_iload_n {k9 : Fin 4} {i : Nat} {x : Int} (h : en_Ok κ own cc nL Ts rm) (d : decode cc pc = .ok (.iload_n k9, 1)) (hi9 : (k9 : Nat) = i) (hv : ls[i]? = some (some (en_I x))) (kk : en_G κ (pc + 1) ls (en_I x :: st) m k n) : en_G κ pc ls st m k n := by
  obtain ⟨p, l, e, R, s, mid, args, below, meth, c, Q, D, cy, ad, PL, A⟩ := κ
  obtain ⟨hx, hb, hml, hown, hts, hR, hlk, hK, hn, hi, hA, hA2, hE⟩ := h
  intro H locs a hl hP hS
  exact lv_iload_n hx hb d hi9 (hl.2.2 i (en_I x) hv) (kk H locs a hl hP hS)
theorem en_iload {i : Nat} {x : Int} (h : en_Ok κ own cc nL Ts rm) (d : decode cc pc = .ok (.iload i, 2)) (hv : ls[i]? = some (some (en_I x))) (kk : en_G κ (pc + 2) ls (en_I x :: st) m k n) : en_G κ pc ls st m k n := by
  obtain ⟨p, l, e, R, s, mid, args, below, meth, c, Q, D, cy, ad, PL, A⟩ := κ
  obtain ⟨hx, hb, hml, hown, hts, hR, hlk, hK, hn, hi, hA, hA2, hE⟩ := h
  intro H locs a hl hP hS
  exact lv_iload hx hb d (hl.2.2 i (en_I x) hv) (kk H locs a hl hP hS)
theorem en_istore_n {k9 : Fin 4} {i : Nat} {x : Int} (h : en_Ok κ own cc nL Ts rm) (d : decode cc pc = .ok (.istore_n k9, 1)) (hi9 : (k9 : Nat) = i) (hn9 : i < nL) (kk : en_G κ (pc + 1) (en_s1 ls i (en_I x)) st m k n) : en_G κ pc ls (en_I x :: st) m k n := by
  obtain ⟨p, l, e, R, s, mid, args, below, meth, c, Q, D, cy, ad, PL, A⟩ := κ
  obtain ⟨hx, hb, hml, hown, hts, hR, hlk, hK, hn, hi, hA, hA2, hE⟩ := h
  intro H locs a hl hP hS
  exact lv_istore_n hx hb d hi9 (en_lm_has hl) (by rw [hml]; exact hn9) rfl (fun a hl => kk H locs a (en_lm_1 hl) hP hS)
theorem en_istore {i : Nat} {x : Int} (h : en_Ok κ own cc nL Ts rm) (d : decode cc pc = .ok (.istore i, 2)) (hn9 : i < nL) (kk : en_G κ (pc + 2) (en_s1 ls i (en_I x)) st m k n) : en_G κ pc ls (en_I x :: st) m k n := by
  obtain ⟨p, l, e, R, s, mid, args, below, meth, c, Q, D, cy, ad, PL, A⟩ := κ
  obtain ⟨hx, hb, hml, hown, hts, hR, hlk, hK, hn, hi, hA, hA2, hE⟩ := h
  intro H locs a hl hP hS
  exact lv_istore hx hb d (en_lm_has hl) (by rw [hml]; exact hn9) rfl (fun a hl => kk H locs a (en_lm_1 hl) hP hS)
theorem en_lload_n {k9 : Fin 4} {i : Nat} {x : Int} (h : en_Ok κ own cc nL Ts rm) (d : decode cc pc = .ok (.lload_n k9, 1)) (hi9 : (k9 : Nat) = i) (hv : ls[i]? = some (some (en_L x))) (kk : en_G κ (pc + 1) ls (en_L x :: st) m k n) : en_G κ pc ls st m k n := by
  obtain ⟨p, l, e, R, s, mid, args, below, meth, c, Q, D, cy, ad, PL, A⟩ := κ
  obtain ⟨hx, hb, hml, hown, hts, hR, hlk, hK, hn, hi, hA, hA2, hE⟩ := h
  intro H locs a hl hP hS
  exact lv_lload_n hx hb d hi9 (hl.2.2 i (en_L x) hv) (kk H locs a hl hP hS)
theorem en_lload {i : Nat} {x : Int} (h : en_Ok κ own cc nL Ts rm) (d : decode cc pc = .ok (.lload i, 2)) (hv : ls[i]? = some (some (en_L x))) (kk : en_G κ (pc + 2) ls (en_L x :: st) m k n) : en_G κ pc ls st m k n := by
  obtain ⟨p, l, e, R, s, mid, args, below, meth, c, Q, D, cy, ad, PL, A⟩ := κ
  obtain ⟨hx, hb, hml, hown, hts, hR, hlk, hK, hn, hi, hA, hA2, hE⟩ := h
  intro H locs a hl hP hS
  exact lv_lload hx hb d (hl.2.2 i (en_L x) hv) (kk H locs a hl hP hS)
theorem en_lstore_n {k9 : Fin 4} {i : Nat} {x : Int} (h : en_Ok κ own cc nL Ts rm) (d : decode cc pc = .ok (.lstore_n k9, 1)) (hi9 : (k9 : Nat) = i) (hn9 : i + 1 < nL) (kk : en_G κ (pc + 1) (en_s2 ls i (en_L x)) st m k n) : en_G κ pc ls (en_L x :: st) m k n := by
  obtain ⟨p, l, e, R, s, mid, args, below, meth, c, Q, D, cy, ad, PL, A⟩ := κ
  obtain ⟨hx, hb, hml, hown, hts, hR, hlk, hK, hn, hi, hA, hA2, hE⟩ := h
  intro H locs a hl hP hS
  exact lv_lstore_n hx hb d hi9 (en_lm_has hl) (by rw [hml]; exact hn9) rfl (fun a hl => kk H locs a (en_lm_2 hl) hP hS)
theorem en_lstore {i : Nat} {x : Int} (h : en_Ok κ own cc nL Ts rm) (d : decode cc pc = .ok (.lstore i, 2)) (hn9 : i + 1 < nL) (kk : en_G κ (pc + 2) (en_s2 ls i (en_L x)) st m k n) : en_G κ pc ls (en_L x :: st) m k n := by
  obtain ⟨p, l, e, R, s, mid, args, below, meth, c, Q, D, cy, ad, PL, A⟩ := κ
  obtain ⟨hx, hb, hml, hown, hts, hR, hlk, hK, hn, hi, hA, hA2, hE⟩ := h
  intro H locs a hl hP hS
  exact lv_lstore hx hb d (en_lm_has hl) (by rw [hml]; exact hn9) rfl (fun a hl => kk H locs a (en_lm_2 hl) hP hS)
theorem en_aload_n {k9 : Fin 4} {i : Nat} {x : Int} (h : en_Ok κ own cc nL Ts rm) (d : decode cc pc = .ok (.aload_n k9, 1)) (hi9 : (k9 : Nat) = i) (hv : ls[i]? = some (some (en_R x))) (kk : en_G κ (pc + 1) ls (en_R x :: st) m k n) : en_G κ pc ls st m k n := by
  obtain ⟨p, l, e, R, s, mid, args, below, meth, c, Q, D, cy, ad, PL, A⟩ := κ
  obtain ⟨hx, hb, hml, hown, hts, hR, hlk, hK, hn, hi, hA, hA2, hE⟩ := h
  intro H locs a hl hP hS
  exact lv_aload_n hx hb d hi9 (hl.2.2 i (en_R x) hv) (kk H locs a hl hP hS)
theorem en_aload {i : Nat} {x : Int} (h : en_Ok κ own cc nL Ts rm) (d : decode cc pc = .ok (.aload i, 2)) (hv : ls[i]? = some (some (en_R x))) (kk : en_G κ (pc + 2) ls (en_R x :: st) m k n) : en_G κ pc ls st m k n := by
  obtain ⟨p, l, e, R, s, mid, args, below, meth, c, Q, D, cy, ad, PL, A⟩ := κ
  obtain ⟨hx, hb, hml, hown, hts, hR, hlk, hK, hn, hi, hA, hA2, hE⟩ := h
  intro H locs a hl hP hS
  exact lv_aload hx hb d (hl.2.2 i (en_R x) hv) (kk H locs a hl hP hS)
theorem en_astore_n {k9 : Fin 4} {i : Nat} {x : Int} (h : en_Ok κ own cc nL Ts rm) (d : decode cc pc = .ok (.astore_n k9, 1)) (hi9 : (k9 : Nat) = i) (hn9 : i < nL) (kk : en_G κ (pc + 1) (en_s1 ls i (en_R x)) st m k n) : en_G κ pc ls (en_R x :: st) m k n := by
  obtain ⟨p, l, e, R, s, mid, args, below, meth, c, Q, D, cy, ad, PL, A⟩ := κ
  obtain ⟨hx, hb, hml, hown, hts, hR, hlk, hK, hn, hi, hA, hA2, hE⟩ := h
  intro H locs a hl hP hS
  exact lv_astore_n hx hb d hi9 (en_lm_has hl) (by rw [hml]; exact hn9) rfl (fun a hl => kk H locs a (en_lm_1 hl) hP hS)
theorem en_astore {i : Nat} {x : Int} (h : en_Ok κ own cc nL Ts rm) (d : decode cc pc = .ok (.astore i, 2)) (hn9 : i < nL) (kk : en_G κ (pc + 2) (en_s1 ls i (en_R x)) st m k n) : en_G κ pc ls (en_R x :: st) m k n := by
  obtain ⟨p, l, e, R, s, mid, args, below, meth, c, Q, D, cy, ad, PL, A⟩ := κ
  obtain ⟨hx, hb, hml, hown, hts, hR, hlk, hK, hn, hi, hA, hA2, hE⟩ := h
  intro H locs a hl hP hS
  exact lv_astore hx hb d (en_lm_has hl) (by rw [hml]; exact hn9) rfl (fun a hl => kk H locs a (en_lm_1 hl) hP hS)
theorem en_iinc {i : Nat} {x c9 : Int} (h : en_Ok κ own cc nL Ts rm) (d : decode cc pc = .ok (.iinc i c9, 3)) (hv : ls[i]? = some (some (en_I x))) (hn9 : i < nL) (kk : en_G κ (pc + 3) (en_s1 ls i (en_I (x + c9))) st m k n) : en_G κ pc ls st m k n := by
  obtain ⟨p, l, e, R, s, mid, args, below, meth, c, Q, D, cy, ad, PL, A⟩ := κ
  obtain ⟨hx, hb, hml, hown, hts, hR, hlk, hK, hn, hi, hA, hA2, hE⟩ := h
  intro H locs a hl hP hS
  obtain ⟨j, hj⟩ := List.getElem?_of_mem (en_as_mem (ad := ad) (ls := ls) (q := (i, en_tv ad (en_I x))).mpr ⟨_, hv, rfl⟩)
  refine lv_iinc hx hb d (en_lm_has hl) hj (v := Int32.ofInt (x + c9)) (by rw [Int32.ofInt_add]) (by rw [hml]; exact hn9) rfl (fun a hl => kk H locs a (en_lm_1 (v := en_I (x + c9)) hl) hP hS)
theorem en_iadd {x y : Int} (h : en_Ok κ own cc nL Ts rm) (d : decode cc pc = .ok (.iadd, 1)) (kk : en_G κ (pc + 1) ls (en_I (x + y) :: st) m k n) : en_G κ pc ls (en_I y :: en_I x :: st) m k n := by
  obtain ⟨p, l, e, R, s, mid, args, below, meth, c, Q, D, cy, ad, PL, A⟩ := κ
  obtain ⟨hx, hb, hml, hown, hts, hR, hlk, hK, hn, hi, hA, hA2, hE⟩ := h
  intro H locs a hl hP hS
  have q := kk H locs a hl hP hS
  simp only [List.map_cons, en_tv, Int32.ofInt_add] at q
  exact lv_iadd hx hb d q
theorem en_isub {x y : Int} (h : en_Ok κ own cc nL Ts rm) (d : decode cc pc = .ok (.isub, 1)) (kk : en_G κ (pc + 1) ls (en_I (x - y) :: st) m k n) : en_G κ pc ls (en_I y :: en_I x :: st) m k n := by
  obtain ⟨p, l, e, R, s, mid, args, below, meth, c, Q, D, cy, ad, PL, A⟩ := κ
  obtain ⟨hx, hb, hml, hown, hts, hR, hlk, hK, hn, hi, hA, hA2, hE⟩ := h
  intro H locs a hl hP hS
  have q := kk H locs a hl hP hS
  simp only [List.map_cons, en_tv, Int32.ofInt_sub] at q
  exact lv_isub hx hb d q
theorem en_imul {x y : Int} (h : en_Ok κ own cc nL Ts rm) (d : decode cc pc = .ok (.imul, 1)) (kk : en_G κ (pc + 1) ls (en_I (x * y) :: st) m k n) : en_G κ pc ls (en_I y :: en_I x :: st) m k n := by
  obtain ⟨p, l, e, R, s, mid, args, below, meth, c, Q, D, cy, ad, PL, A⟩ := κ
  obtain ⟨hx, hb, hml, hown, hts, hR, hlk, hK, hn, hi, hA, hA2, hE⟩ := h
  intro H locs a hl hP hS
  have q := kk H locs a hl hP hS
  simp only [List.map_cons, en_tv, Int32.ofInt_mul] at q
  exact lv_imul hx hb d q
theorem en_ladd {x y : Int} (h : en_Ok κ own cc nL Ts rm) (d : decode cc pc = .ok (.ladd, 1)) (kk : en_G κ (pc + 1) ls (en_L (x + y) :: st) m k n) : en_G κ pc ls (en_L y :: en_L x :: st) m k n := by
  obtain ⟨p, l, e, R, s, mid, args, below, meth, c, Q, D, cy, ad, PL, A⟩ := κ
  obtain ⟨hx, hb, hml, hown, hts, hR, hlk, hK, hn, hi, hA, hA2, hE⟩ := h
  intro H locs a hl hP hS
  have q := kk H locs a hl hP hS
  simp only [List.map_cons, en_tv, Int64.ofInt_add] at q
  exact lv_ladd hx hb d q
theorem en_lsub {x y : Int} (h : en_Ok κ own cc nL Ts rm) (d : decode cc pc = .ok (.lsub, 1)) (kk : en_G κ (pc + 1) ls (en_L (x - y) :: st) m k n) : en_G κ pc ls (en_L y :: en_L x :: st) m k n := by
  obtain ⟨p, l, e, R, s, mid, args, below, meth, c, Q, D, cy, ad, PL, A⟩ := κ
  obtain ⟨hx, hb, hml, hown, hts, hR, hlk, hK, hn, hi, hA, hA2, hE⟩ := h
  intro H locs a hl hP hS
  have q := kk H locs a hl hP hS
  simp only [List.map_cons, en_tv, Int64.ofInt_sub] at q
  exact lv_lsub hx hb d q
theorem en_lmul {x y : Int} (h : en_Ok κ own cc nL Ts rm) (d : decode cc pc = .ok (.lmul, 1)) (kk : en_G κ (pc + 1) ls (en_L (x * y) :: st) m k n) : en_G κ pc ls (en_L y :: en_L x :: st) m k n := by
  obtain ⟨p, l, e, R, s, mid, args, below, meth, c, Q, D, cy, ad, PL, A⟩ := κ
  obtain ⟨hx, hb, hml, hown, hts, hR, hlk, hK, hn, hi, hA, hA2, hE⟩ := h
  intro H locs a hl hP hS
  have q := kk H locs a hl hP hS
  simp only [List.map_cons, en_tv, Int64.ofInt_mul] at q
  exact lv_lmul hx hb d q
theorem en_ineg {x : Int} (h : en_Ok κ own cc nL Ts rm) (d : decode cc pc = .ok (.ineg, 1)) (kk : en_G κ (pc + 1) ls (en_I (-x) :: st) m k n) : en_G κ pc ls (en_I x :: st) m k n := by
  obtain ⟨p, l, e, R, s, mid, args, below, meth, c, Q, D, cy, ad, PL, A⟩ := κ
  obtain ⟨hx, hb, hml, hown, hts, hR, hlk, hK, hn, hi, hA, hA2, hE⟩ := h
  intro H locs a hl hP hS
  have q := kk H locs a hl hP hS
  simp only [List.map_cons, en_tv, Int32.ofInt_neg] at q
  exact lv_ineg hx hb d q
theorem en_lneg {x : Int} (h : en_Ok κ own cc nL Ts rm) (d : decode cc pc = .ok (.lneg, 1)) (kk : en_G κ (pc + 1) ls (en_L (-x) :: st) m k n) : en_G κ pc ls (en_L x :: st) m k n := by
  obtain ⟨p, l, e, R, s, mid, args, below, meth, c, Q, D, cy, ad, PL, A⟩ := κ
  obtain ⟨hx, hb, hml, hown, hts, hR, hlk, hK, hn, hi, hA, hA2, hE⟩ := h
  intro H locs a hl hP hS
  have q := kk H locs a hl hP hS
  simp only [List.map_cons, en_tv, Int64.ofInt_neg] at q
  exact lv_lneg hx hb d q
theorem en_iand {x y : Int} (h : en_Ok κ own cc nL Ts rm) (d : decode cc pc = .ok (.iand, 1)) (z : Int) (hz : Int32.ofInt x &&& Int32.ofInt y = Int32.ofInt z) (kk : en_G κ (pc + 1) ls (en_I z :: st) m k n) : en_G κ pc ls (en_I y :: en_I x :: st) m k n := by
  obtain ⟨p, l, e, R, s, mid, args, below, meth, c, Q, D, cy, ad, PL, A⟩ := κ
  obtain ⟨hx, hb, hml, hown, hts, hR, hlk, hK, hn, hi, hA, hA2, hE⟩ := h
  intro H locs a hl hP hS
  have q := kk H locs a hl hP hS
  simp only [List.map_cons, en_tv, ← hz] at q
  exact lv_iand hx hb d q
theorem en_ishl {x y : Int} (h : en_Ok κ own cc nL Ts rm) (d : decode cc pc = .ok (.ishl, 1)) (z : Int) (hz : Int32.ofInt x <<< (Int32.ofInt y &&& 31) = Int32.ofInt z) (kk : en_G κ (pc + 1) ls (en_I z :: st) m k n) : en_G κ pc ls (en_I y :: en_I x :: st) m k n := by
  obtain ⟨p, l, e, R, s, mid, args, below, meth, c, Q, D, cy, ad, PL, A⟩ := κ
  obtain ⟨hx, hb, hml, hown, hts, hR, hlk, hK, hn, hi, hA, hA2, hE⟩ := h
  intro H locs a hl hP hS
  have q := kk H locs a hl hP hS
  simp only [List.map_cons, en_tv, ← hz] at q
  exact lv_ishl hx hb d q
theorem en_ishr {x y : Int} (h : en_Ok κ own cc nL Ts rm) (d : decode cc pc = .ok (.ishr, 1)) (z : Int) (hz : Int32.ofInt x >>> (Int32.ofInt y &&& 31) = Int32.ofInt z) (kk : en_G κ (pc + 1) ls (en_I z :: st) m k n) : en_G κ pc ls (en_I y :: en_I x :: st) m k n := by
  obtain ⟨p, l, e, R, s, mid, args, below, meth, c, Q, D, cy, ad, PL, A⟩ := κ
  obtain ⟨hx, hb, hml, hown, hts, hR, hlk, hK, hn, hi, hA, hA2, hE⟩ := h
  intro H locs a hl hP hS
  have q := kk H locs a hl hP hS
  simp only [List.map_cons, en_tv, ← hz] at q
  exact lv_ishr hx hb d q
theorem en_i2l {x : Int} (h : en_Ok κ own cc nL Ts rm) (d : decode cc pc = .ok (.i2l, 1)) (hr : en_i32 x) (kk : en_G κ (pc + 1) ls (en_L x :: st) m k n) : en_G κ pc ls (en_I x :: st) m k n := by
  obtain ⟨p, l, e, R, s, mid, args, below, meth, c, Q, D, cy, ad, PL, A⟩ := κ
  obtain ⟨hx, hb, hml, hown, hts, hR, hlk, hK, hn, hi, hA, hA2, hE⟩ := h
  intro H locs a hl hP hS
  refine lv_i2l hx hb d ?_ (kk H locs a hl hP hS)
  rw [← Int64.toInt_inj, Int32.toInt_toInt64, en_to32 hr, en_to64 ⟨by omega, by omega⟩]
theorem en_dup1 {x : Int} (h : en_Ok κ own cc nL Ts rm) (d : decode cc pc = .ok (.dup, 1)) (kk : en_G κ (pc + 1) ls (en_I x :: en_I x :: st) m k n) : en_G κ pc ls (en_I x :: st) m k n := by
  obtain ⟨p, l, e, R, s, mid, args, below, meth, c, Q, D, cy, ad, PL, A⟩ := κ
  obtain ⟨hx, hb, hml, hown, hts, hR, hlk, hK, hn, hi, hA, hA2, hE⟩ := h
  intro H locs a hl hP hS
  exact lv_dup hx hb d rfl (kk H locs a hl hP hS)
theorem en_dupa {x : Int} (h : en_Ok κ own cc nL Ts rm) (d : decode cc pc = .ok (.dup, 1)) (kk : en_G κ (pc + 1) ls (en_R x :: en_R x :: st) m k n) : en_G κ pc ls (en_R x :: st) m k n := by
  obtain ⟨p, l, e, R, s, mid, args, below, meth, c, Q, D, cy, ad, PL, A⟩ := κ
  obtain ⟨hx, hb, hml, hown, hts, hR, hlk, hK, hn, hi, hA, hA2, hE⟩ := h
  intro H locs a hl hP hS
  exact lv_dup hx hb d rfl (kk H locs a hl hP hS)
theorem en_dup2 {x y : Int} (h : en_Ok κ own cc nL Ts rm) (d : decode cc pc = .ok (.dup2, 1)) (kk : en_G κ (pc + 1) ls (en_I y :: en_R x :: en_I y :: en_R x :: st) m k n) : en_G κ pc ls (en_I y :: en_R x :: st) m k n := by
  obtain ⟨p, l, e, R, s, mid, args, below, meth, c, Q, D, cy, ad, PL, A⟩ := κ
  obtain ⟨hx, hb, hml, hown, hts, hR, hlk, hK, hn, hi, hA, hA2, hE⟩ := h
  intro H locs a hl hP hS
  exact lv_dup2_11 hx hb d rfl rfl (kk H locs a hl hP hS)
theorem en_popI {x : Int} (h : en_Ok κ own cc nL Ts rm) (d : decode cc pc = .ok (.pop, 1)) (kk : en_G κ (pc + 1) ls st m k n) : en_G κ pc ls (en_I x :: st) m k n := by
  obtain ⟨p, l, e, R, s, mid, args, below, meth, c, Q, D, cy, ad, PL, A⟩ := κ
  obtain ⟨hx, hb, hml, hown, hts, hR, hlk, hK, hn, hi, hA, hA2, hE⟩ := h
  intro H locs a hl hP hS
  exact lv_pop hx hb d rfl (kk H locs a hl hP hS)
theorem en_goto {off : Int} {tgt : Nat} (h : en_Ok κ own cc nL Ts rm) (d : decode cc pc = .ok (.goto off, 3)) (ht : (pc : Int) + off = (tgt : Int)) (kk : en_G κ tgt ls st m k n) : en_G κ pc ls st m k n := by
  obtain ⟨p, l, e, R, s, mid, args, below, meth, c, Q, D, cy, ad, PL, A⟩ := κ
  obtain ⟨hx, hb, hml, hown, hts, hR, hlk, hK, hn, hi, hA, hA2, hE⟩ := h
  intro H locs a hl hP hS
  exact lv_goto hx hb d ht (kk H locs a hl hP hS)
theorem en_icmp_eq {x y : Int} {off : Int} {tgt : Nat} (h : en_Ok κ own cc nL Ts rm) (d : decode cc pc = .ok (.if_icmp .eq off, 3)) (ht : (pc : Int) + off = (tgt : Int)) (hrx : en_i32 x) (hry : en_i32 y) (kt : x = y → en_G κ tgt ls st m k n) (kf : x ≠ y → en_G κ (pc + 3) ls st m k n) : en_G κ pc ls (en_I y :: en_I x :: st) m k n := by
  obtain ⟨p, l, e, R, s, mid, args, below, meth, c, Q, D, cy, ad, PL, A⟩ := κ
  obtain ⟨hx, hb, hml, hown, hts, hR, hlk, hK, hn, hi, hA, hA2, hE⟩ := h
  intro H locs a hl hP hS
  refine lv_icmp_eq hx hb d ht (fun q => ?_) (fun q => ?_)
  · exact kt ((en_eq32 hrx hry).mp q) H locs a hl hP hS
  · exact kf (fun z => q ((en_eq32 hrx hry).mpr z)) H locs a hl hP hS
theorem en_if_eq {x : Int} {off : Int} {tgt : Nat} (h : en_Ok κ own cc nL Ts rm) (d : decode cc pc = .ok (.ifCond .eq off, 3)) (ht : (pc : Int) + off = (tgt : Int)) (hrx : en_i32 x) (kt : x = 0 → en_G κ tgt ls st m k n) (kf : x ≠ 0 → en_G κ (pc + 3) ls st m k n) : en_G κ pc ls (en_I x :: st) m k n := by
  obtain ⟨p, l, e, R, s, mid, args, below, meth, c, Q, D, cy, ad, PL, A⟩ := κ
  obtain ⟨hx, hb, hml, hown, hts, hR, hlk, hK, hn, hi, hA, hA2, hE⟩ := h
  intro H locs a hl hP hS
  refine lv_if_eq hx hb d ht (fun q => ?_) (fun q => ?_)
  · exact kt ((en_eq32 hrx en_r0).mp q) H locs a hl hP hS
  · exact kf (fun z => q ((en_eq32 hrx en_r0).mpr z)) H locs a hl hP hS
theorem en_icmp_ne {x y : Int} {off : Int} {tgt : Nat} (h : en_Ok κ own cc nL Ts rm) (d : decode cc pc = .ok (.if_icmp .ne off, 3)) (ht : (pc : Int) + off = (tgt : Int)) (hrx : en_i32 x) (hry : en_i32 y) (kt : x ≠ y → en_G κ tgt ls st m k n) (kf : x = y → en_G κ (pc + 3) ls st m k n) : en_G κ pc ls (en_I y :: en_I x :: st) m k n := by
  obtain ⟨p, l, e, R, s, mid, args, below, meth, c, Q, D, cy, ad, PL, A⟩ := κ
  obtain ⟨hx, hb, hml, hown, hts, hR, hlk, hK, hn, hi, hA, hA2, hE⟩ := h
  intro H locs a hl hP hS
  refine lv_icmp_ne hx hb d ht (fun q => ?_) (fun q => ?_)
  · exact kt (fun z => q ((en_eq32 hrx hry).mpr z)) H locs a hl hP hS
  · exact kf ((en_eq32 hrx hry).mp q) H locs a hl hP hS
theorem en_if_ne {x : Int} {off : Int} {tgt : Nat} (h : en_Ok κ own cc nL Ts rm) (d : decode cc pc = .ok (.ifCond .ne off, 3)) (ht : (pc : Int) + off = (tgt : Int)) (hrx : en_i32 x) (kt : x ≠ 0 → en_G κ tgt ls st m k n) (kf : x = 0 → en_G κ (pc + 3) ls st m k n) : en_G κ pc ls (en_I x :: st) m k n := by
  obtain ⟨p, l, e, R, s, mid, args, below, meth, c, Q, D, cy, ad, PL, A⟩ := κ
  obtain ⟨hx, hb, hml, hown, hts, hR, hlk, hK, hn, hi, hA, hA2, hE⟩ := h
  intro H locs a hl hP hS
  refine lv_if_ne hx hb d ht (fun q => ?_) (fun q => ?_)
  · exact kt (fun z => q ((en_eq32 hrx en_r0).mpr z)) H locs a hl hP hS
  · exact kf ((en_eq32 hrx en_r0).mp q) H locs a hl hP hS
theorem en_icmp_lt {x y : Int} {off : Int} {tgt : Nat} (h : en_Ok κ own cc nL Ts rm) (d : decode cc pc = .ok (.if_icmp .lt off, 3)) (ht : (pc : Int) + off = (tgt : Int)) (hrx : en_i32 x) (hry : en_i32 y) (kt : x < y → en_G κ tgt ls st m k n) (kf : y ≤ x → en_G κ (pc + 3) ls st m k n) : en_G κ pc ls (en_I y :: en_I x :: st) m k n := by
  obtain ⟨p, l, e, R, s, mid, args, below, meth, c, Q, D, cy, ad, PL, A⟩ := κ
  obtain ⟨hx, hb, hml, hown, hts, hR, hlk, hK, hn, hi, hA, hA2, hE⟩ := h
  intro H locs a hl hP hS
  refine lv_icmp_lt hx hb d ht (fun q => ?_) (fun q => ?_)
  · exact kt ((en_lt32 hrx hry).mp q) H locs a hl hP hS
  · exact kf (Int.not_lt.mp fun z => q ((en_lt32 hrx hry).mpr z)) H locs a hl hP hS
theorem en_if_lt {x : Int} {off : Int} {tgt : Nat} (h : en_Ok κ own cc nL Ts rm) (d : decode cc pc = .ok (.ifCond .lt off, 3)) (ht : (pc : Int) + off = (tgt : Int)) (hrx : en_i32 x) (kt : x < 0 → en_G κ tgt ls st m k n) (kf : 0 ≤ x → en_G κ (pc + 3) ls st m k n) : en_G κ pc ls (en_I x :: st) m k n := by
  obtain ⟨p, l, e, R, s, mid, args, below, meth, c, Q, D, cy, ad, PL, A⟩ := κ
  obtain ⟨hx, hb, hml, hown, hts, hR, hlk, hK, hn, hi, hA, hA2, hE⟩ := h
  intro H locs a hl hP hS
  refine lv_if_lt hx hb d ht (fun q => ?_) (fun q => ?_)
  · exact kt ((en_lt32 hrx en_r0).mp q) H locs a hl hP hS
  · exact kf (Int.not_lt.mp fun z => q ((en_lt32 hrx en_r0).mpr z)) H locs a hl hP hS
theorem en_icmp_ge {x y : Int} {off : Int} {tgt : Nat} (h : en_Ok κ own cc nL Ts rm) (d : decode cc pc = .ok (.if_icmp .ge off, 3)) (ht : (pc : Int) + off = (tgt : Int)) (hrx : en_i32 x) (hry : en_i32 y) (kt : y ≤ x → en_G κ tgt ls st m k n) (kf : x < y → en_G κ (pc + 3) ls st m k n) : en_G κ pc ls (en_I y :: en_I x :: st) m k n := by
  obtain ⟨p, l, e, R, s, mid, args, below, meth, c, Q, D, cy, ad, PL, A⟩ := κ
  obtain ⟨hx, hb, hml, hown, hts, hR, hlk, hK, hn, hi, hA, hA2, hE⟩ := h
  intro H locs a hl hP hS
  refine lv_icmp_ge hx hb d ht (fun q => ?_) (fun q => ?_)
  · exact kt ((en_le32 hry hrx).mp q) H locs a hl hP hS
  · exact kf (Int.not_le.mp fun z => q ((en_le32 hry hrx).mpr z)) H locs a hl hP hS
theorem en_if_ge {x : Int} {off : Int} {tgt : Nat} (h : en_Ok κ own cc nL Ts rm) (d : decode cc pc = .ok (.ifCond .ge off, 3)) (ht : (pc : Int) + off = (tgt : Int)) (hrx : en_i32 x) (kt : 0 ≤ x → en_G κ tgt ls st m k n) (kf : x < 0 → en_G κ (pc + 3) ls st m k n) : en_G κ pc ls (en_I x :: st) m k n := by
  obtain ⟨p, l, e, R, s, mid, args, below, meth, c, Q, D, cy, ad, PL, A⟩ := κ
  obtain ⟨hx, hb, hml, hown, hts, hR, hlk, hK, hn, hi, hA, hA2, hE⟩ := h
  intro H locs a hl hP hS
  refine lv_if_ge hx hb d ht (fun q => ?_) (fun q => ?_)
  · exact kt ((en_le32 en_r0 hrx).mp q) H locs a hl hP hS
  · exact kf (Int.not_le.mp fun z => q ((en_le32 en_r0 hrx).mpr z)) H locs a hl hP hS
theorem en_icmp_gt {x y : Int} {off : Int} {tgt : Nat} (h : en_Ok κ own cc nL Ts rm) (d : decode cc pc = .ok (.if_icmp .gt off, 3)) (ht : (pc : Int) + off = (tgt : Int)) (hrx : en_i32 x) (hry : en_i32 y) (kt : y < x → en_G κ tgt ls st m k n) (kf : x ≤ y → en_G κ (pc + 3) ls st m k n) : en_G κ pc ls (en_I y :: en_I x :: st) m k n := by
  obtain ⟨p, l, e, R, s, mid, args, below, meth, c, Q, D, cy, ad, PL, A⟩ := κ
  obtain ⟨hx, hb, hml, hown, hts, hR, hlk, hK, hn, hi, hA, hA2, hE⟩ := h
  intro H locs a hl hP hS
  refine lv_icmp_gt hx hb d ht (fun q => ?_) (fun q => ?_)
  · exact kt ((en_lt32 hry hrx).mp q) H locs a hl hP hS
  · exact kf (Int.not_lt.mp fun z => q ((en_lt32 hry hrx).mpr z)) H locs a hl hP hS
theorem en_if_gt {x : Int} {off : Int} {tgt : Nat} (h : en_Ok κ own cc nL Ts rm) (d : decode cc pc = .ok (.ifCond .gt off, 3)) (ht : (pc : Int) + off = (tgt : Int)) (hrx : en_i32 x) (kt : 0 < x → en_G κ tgt ls st m k n) (kf : x ≤ 0 → en_G κ (pc + 3) ls st m k n) : en_G κ pc ls (en_I x :: st) m k n := by
  obtain ⟨p, l, e, R, s, mid, args, below, meth, c, Q, D, cy, ad, PL, A⟩ := κ
  obtain ⟨hx, hb, hml, hown, hts, hR, hlk, hK, hn, hi, hA, hA2, hE⟩ := h
  intro H locs a hl hP hS
  refine lv_if_gt hx hb d ht (fun q => ?_) (fun q => ?_)
  · exact kt ((en_lt32 en_r0 hrx).mp q) H locs a hl hP hS
  · exact kf (Int.not_lt.mp fun z => q ((en_lt32 en_r0 hrx).mpr z)) H locs a hl hP hS
theorem en_icmp_le {x y : Int} {off : Int} {tgt : Nat} (h : en_Ok κ own cc nL Ts rm) (d : decode cc pc = .ok (.if_icmp .le off, 3)) (ht : (pc : Int) + off = (tgt : Int)) (hrx : en_i32 x) (hry : en_i32 y) (kt : x ≤ y → en_G κ tgt ls st m k n) (kf : y < x → en_G κ (pc + 3) ls st m k n) : en_G κ pc ls (en_I y :: en_I x :: st) m k n := by
  obtain ⟨p, l, e, R, s, mid, args, below, meth, c, Q, D, cy, ad, PL, A⟩ := κ
  obtain ⟨hx, hb, hml, hown, hts, hR, hlk, hK, hn, hi, hA, hA2, hE⟩ := h
  intro H locs a hl hP hS
  refine lv_icmp_le hx hb d ht (fun q => ?_) (fun q => ?_)
  · exact kt ((en_le32 hrx hry).mp q) H locs a hl hP hS
  · exact kf (Int.not_le.mp fun z => q ((en_le32 hrx hry).mpr z)) H locs a hl hP hS
theorem en_if_le {x : Int} {off : Int} {tgt : Nat} (h : en_Ok κ own cc nL Ts rm) (d : decode cc pc = .ok (.ifCond .le off, 3)) (ht : (pc : Int) + off = (tgt : Int)) (hrx : en_i32 x) (kt : x ≤ 0 → en_G κ tgt ls st m k n) (kf : 0 < x → en_G κ (pc + 3) ls st m k n) : en_G κ pc ls (en_I x :: st) m k n := by
  obtain ⟨p, l, e, R, s, mid, args, below, meth, c, Q, D, cy, ad, PL, A⟩ := κ
  obtain ⟨hx, hb, hml, hown, hts, hR, hlk, hK, hn, hi, hA, hA2, hE⟩ := h
  intro H locs a hl hP hS
  refine lv_if_le hx hb d ht (fun q => ?_) (fun q => ?_)
  · exact kt ((en_le32 hrx en_r0).mp q) H locs a hl hP hS
  · exact kf (Int.not_le.mp fun z => q ((en_le32 hrx en_r0).mpr z)) H locs a hl hP hS
def en_cmp (x y : Int) : Int := if y < x then 1 else if x = y then 0 else -1
theorem en_cmp_r (x y : Int) : en_i32 (en_cmp x y) := by unfold en_cmp; split <;> (try split) <;> constructor <;> decide
theorem en_cmp_lt (x y : Int) : en_cmp x y < 0 ↔ x < y := by unfold en_cmp; split <;> (try split) <;> omega
theorem en_cmp_le (x y : Int) : en_cmp x y ≤ 0 ↔ x ≤ y := by unfold en_cmp; split <;> (try split) <;> omega
theorem en_cmp_gt (x y : Int) : 0 < en_cmp x y ↔ y < x := by unfold en_cmp; split <;> (try split) <;> omega
theorem en_cmp_ge (x y : Int) : 0 ≤ en_cmp x y ↔ y ≤ x := by unfold en_cmp; split <;> (try split) <;> omega
theorem en_cmp_eq (x y : Int) : en_cmp x y = 0 ↔ x = y := by unfold en_cmp; split <;> (try split) <;> omega
/-- a long's value, wrapped round -/
def en_w64 (x : Int) : Int := (Int64.ofInt x).toInt
theorem en_w64_id {x : Int} (h : en_i64 x) : en_w64 x = x := en_to64 h
theorem en_w64_r (x : Int) : en_i64 (en_w64 x) := by
  have h1 := Int64.le_toInt (Int64.ofInt x)
  have h2 := Int64.toInt_lt (Int64.ofInt x)
  unfold en_w64
  constructor <;> omega
theorem en_w64_of (x : Int) : Int64.ofInt (en_w64 x) = Int64.ofInt x := Int64.ofInt_toInt _
theorem en_lg (x y : Int) : lg_cmp (Int64.ofInt x) (Int64.ofInt y) = Int32.ofInt (en_cmp (en_w64 x) (en_w64 y)) := by
  unfold lg_cmp en_cmp en_w64
  simp only [gt_iff_lt, Int64.lt_iff_toInt_lt, ← Int64.toInt_inj]
  split
  · rfl
  · split <;> rfl
theorem en_lcmp {x y : Int} (h : en_Ok κ own cc nL Ts rm) (d : decode cc pc = .ok (.lcmp, 1)) (kk : en_G κ (pc + 1) ls (en_I (en_cmp (en_w64 x) (en_w64 y)) :: st) m k n) : en_G κ pc ls (en_L y :: en_L x :: st) m k n := by
  obtain ⟨p, l, e, R, s, mid, args, below, meth, c, Q, D, cy, ad, PL, A⟩ := κ
  obtain ⟨hx, hb, hml, hown, hts, hR, hlk, hK, hn, hi, hA, hA2, hE⟩ := h
  intro H locs a hl hP hS
  have q := kk H locs a hl hP hS
  simp only [List.map_cons, en_tv, ← en_lg] at q
  exact W.lcmp hx hb d q
theorem en_lcmpR {x y : Int} (h : en_Ok κ own cc nL Ts rm) (d : decode cc pc = .ok (.lcmp, 1)) (hrx : en_i64 x) (hry : en_i64 y) (kk : en_G κ (pc + 1) ls (en_I (en_cmp x y) :: st) m k n) : en_G κ pc ls (en_L y :: en_L x :: st) m k n :=
  en_lcmp h d (by rw [en_w64_id hrx, en_w64_id hry]; exact kk)
/-! arrays -/
theorem en_vpin {i : Int} {N : Nat} (h : 0 ≤ i ∧ i < (N : Int)) (hN : N ≤ 100) : vp_in (Int32.ofInt i) N ∧ (Int32.ofInt i).toNatClampNeg = i.toNat := by
  have h1 : (Int32.ofInt i).toInt = i := en_to32 ⟨by omega, by omega⟩
  have h2 : (Int32.ofInt i).toNatClampNeg = i.toNat := by
    rw [← Int32.toNat_toInt, h1]
  exact ⟨vp_in_iff.mpr ⟨by omega, by omega⟩, h2⟩
theorem en_up {m : en_M} {a i x : Int} (hi : 0 ≤ i) : (fun j : Nat => Int32.ofInt (en_set m a i x a (j : Int))) = upd (fun j : Nat => Int32.ofInt (m a (j : Int))) i.toNat (Int32.ofInt x) := by
  funext j
  unfold en_set upd
  by_cases e : (j : Int) = i
  · have e2 : j = i.toNat := by omega
    rw [if_pos ⟨rfl, e⟩, if_pos e2]
  · have e2 : ¬ j = i.toNat := by omega
    rw [if_neg (fun q => e q.2), if_neg e2]
theorem en_upL {m : en_M} {a i x : Int} (hi : 0 ≤ i) : (fun j : Nat => Int64.ofInt (en_set m a i x a (j : Int))) = vp_updL (fun j : Nat => Int64.ofInt (m a (j : Int))) i.toNat (Int64.ofInt x) := by
  funext j
  unfold en_set vp_updL
  by_cases e : (j : Int) = i
  · have e2 : j = i.toNat := by omega
    rw [if_pos ⟨rfl, e⟩, if_pos e2]
  · have e2 : ¬ j = i.toNat := by omega
    rw [if_neg (fun q => e q.2), if_neg e2]
theorem en_ctA {cy : Nat → ClassId} {ad : Int → Nat} {m : en_M} {a : Int} {t N : Nat} {b : Int} (hly : en_ly a = .inl (t, N, b)) : en_ct cy ad m a = .inl (cy t, N, en_ac ad m a t b) := by
  unfold en_ct
  rw [hly]
theorem en_ctO {cy : Nat → ClassId} {ad : Int → Nat} {m : en_M} {a : Int} {ci : Nat} {fl : List (Nat × Int)} (hly : en_ly a = .inr (ci, fl)) : en_ct cy ad m a = .inr (ci, en_fl ad m a 0 fl) := by
  unfold en_ct
  rw [hly]
theorem en_iaload {a i : Int} {N : Nat} {b : Int} (h : en_Ok κ own cc nL Ts rm) (d : decode cc pc = .ok (.iaload, 1)) (hk9 : en_in κ a) (hly : en_ly a = .inl (0, N, b)) (hi9 : 0 ≤ i ∧ i < (N : Int)) {v9 : Int} (hv9 : m a i = v9) (kk : en_G κ (pc + 1) ls (en_I v9 :: st) m k n) : en_G κ pc ls (en_I i :: en_R a :: st) m k n := by
  subst hv9
  obtain ⟨p, l, e, R, s, mid, args, below, meth, c, Q, D, cy, ad, PL, A⟩ := κ
  obtain ⟨hx, hb, hml, hown, hts, hR, hlk, hK, hn, hi, hA, hA2, hE⟩ := h
  intro H locs a9 hl hP hS
  obtain ⟨q0, hq0, hg⟩ := en_ws_get (cy := cy) (ad := ad) (m := m) (show a ∈ PL from hk9)
  rw [en_ctA hly] at hg
  obtain ⟨v1, v2⟩ := en_vpin hi9 (en_lyN hly)
  refine va_iald hx hb hK hP q0 0 hg rfl v1 d ?_
  rw [v2]
  have q := kk H locs a9 hl hP hS
  simp only [List.map_cons, en_tv] at q
  rw [show ((i.toNat : Nat) : Int) = i by omega]
  exact q
theorem en_zaload {a i : Int} {N : Nat} {b : Int} (h : en_Ok κ own cc nL Ts rm) (d : decode cc pc = .ok (.baload, 1)) (hk9 : en_in κ a) (hly : en_ly a = .inl (2, N, b)) (hi9 : 0 ≤ i ∧ i < (N : Int)) {v9 : Int} (hv9 : m a i = v9) (kk : en_G κ (pc + 1) ls (en_I v9 :: st) m k n) : en_G κ pc ls (en_I i :: en_R a :: st) m k n := by
  subst hv9
  obtain ⟨p, l, e, R, s, mid, args, below, meth, c, Q, D, cy, ad, PL, A⟩ := κ
  obtain ⟨hx, hb, hml, hown, hts, hR, hlk, hK, hn, hi, hA, hA2, hE⟩ := h
  intro H locs a9 hl hP hS
  obtain ⟨q0, hq0, hg⟩ := en_ws_get (cy := cy) (ad := ad) (m := m) (show a ∈ PL from hk9)
  rw [en_ctA hly] at hg
  obtain ⟨v1, v2⟩ := en_vpin hi9 (en_lyN hly)
  refine va_zald hx hb hK hP q0 2 hg rfl v1 d ?_
  rw [v2]
  have q := kk H locs a9 hl hP hS
  simp only [List.map_cons, en_tv] at q
  rw [show ((i.toNat : Nat) : Int) = i by omega]
  exact q
theorem en_laload {a i : Int} {N : Nat} {b : Int} (h : en_Ok κ own cc nL Ts rm) (d : decode cc pc = .ok (.laload, 1)) (hk9 : en_in κ a) (hly : en_ly a = .inl (1, N, b)) (hi9 : 0 ≤ i ∧ i < (N : Int)) {v9 : Int} (hv9 : m a i = v9) (kk : en_G κ (pc + 1) ls (en_L v9 :: st) m k n) : en_G κ pc ls (en_I i :: en_R a :: st) m k n := by
  subst hv9
  obtain ⟨p, l, e, R, s, mid, args, below, meth, c, Q, D, cy, ad, PL, A⟩ := κ
  obtain ⟨hx, hb, hml, hown, hts, hR, hlk, hK, hn, hi, hA, hA2, hE⟩ := h
  intro H locs a9 hl hP hS
  obtain ⟨q0, hq0, hg⟩ := en_ws_get (cy := cy) (ad := ad) (m := m) (show a ∈ PL from hk9)
  rw [en_ctA hly] at hg
  obtain ⟨v1, v2⟩ := en_vpin hi9 (en_lyN hly)
  refine va_lald hx hb hK hP q0 1 hg rfl v1 d ?_
  rw [v2]
  have q := kk H locs a9 hl hP hS
  simp only [List.map_cons, en_tv] at q
  rw [show ((i.toNat : Nat) : Int) = i by omega]
  exact q
theorem en_iastore {a i x : Int} {N : Nat} {b : Int} (h : en_Ok κ own cc nL Ts rm) (d : decode cc pc = .ok (.iastore, 1)) (hk9 : en_in κ a) (hly : en_ly a = .inl (0, N, b)) (hi9 : 0 ≤ i ∧ i < (N : Int)) (kk : en_G κ (pc + 1) ls st (en_set m a i x) k n) : en_G κ pc ls (en_I x :: en_I i :: en_R a :: st) m k n := by
  obtain ⟨p, l, e, R, s, mid, args, below, meth, c, Q, D, cy, ad, PL, A⟩ := κ
  obtain ⟨hx, hb, hml, hown, hts, hR, hlk, hK, hn, hi, hA, hA2, hE⟩ := h
  intro H locs a9 hl hP hS
  obtain ⟨q0, hq0, hg⟩ := en_ws_get (cy := cy) (ad := ad) (m := m) (show a ∈ PL from hk9)
  rw [en_ctA hly] at hg
  obtain ⟨v1, v2⟩ := en_vpin hi9 (en_lyN hly)
  refine va_iast hx hb hK hP (en_ws_D m hn hi hA) hS q0 0 hg rfl v1 d (fun H1 locs1 hP1 hD1 hS1 => ?_)
  refine kk H1 locs1 a9 hl ?_ hS1
  have e9 := en_ws_set (cy := cy) (ad := ad) (m := m) (m' := en_set m a i x) hn hq0 (fun k' hk' => en_set_k hk')
  rw [en_ctA hly] at e9
  rw [v2, ← en_up hi9.1] at hP1
  rw [← e9]
  exact hP1
theorem en_lastore {a i x : Int} {N : Nat} {b : Int} (h : en_Ok κ own cc nL Ts rm) (d : decode cc pc = .ok (.lastore, 1)) (hk9 : en_in κ a) (hly : en_ly a = .inl (1, N, b)) (hi9 : 0 ≤ i ∧ i < (N : Int)) (kk : en_G κ (pc + 1) ls st (en_set m a i x) k n) : en_G κ pc ls (en_L x :: en_I i :: en_R a :: st) m k n := by
  obtain ⟨p, l, e, R, s, mid, args, below, meth, c, Q, D, cy, ad, PL, A⟩ := κ
  obtain ⟨hx, hb, hml, hown, hts, hR, hlk, hK, hn, hi, hA, hA2, hE⟩ := h
  intro H locs a9 hl hP hS
  obtain ⟨q0, hq0, hg⟩ := en_ws_get (cy := cy) (ad := ad) (m := m) (show a ∈ PL from hk9)
  rw [en_ctA hly] at hg
  obtain ⟨v1, v2⟩ := en_vpin hi9 (en_lyN hly)
  refine va_last hx hb hK hP (en_ws_D m hn hi hA) hS q0 1 hg rfl v1 d (fun H1 locs1 hP1 hD1 hS1 => ?_)
  refine kk H1 locs1 a9 hl ?_ hS1
  have e9 := en_ws_set (cy := cy) (ad := ad) (m := m) (m' := en_set m a i x) hn hq0 (fun k' hk' => en_set_k hk')
  rw [en_ctA hly] at e9
  rw [v2, ← en_upL hi9.1] at hP1
  rw [← e9]
  exact hP1
theorem en_zastore {a i x : Int} {N : Nat} {b : Int} (h : en_Ok κ own cc nL Ts rm) (d : decode cc pc = .ok (.bastore, 1)) (hk9 : en_in κ a) (hly : en_ly a = .inl (2, N, b)) (hi9 : 0 ≤ i ∧ i < (N : Int)) (hx9 : x = 0 ∨ x = 1) (kk : en_G κ (pc + 1) ls st (en_set m a i x) k n) : en_G κ pc ls (en_I x :: en_I i :: en_R a :: st) m k n := by
  obtain ⟨p, l, e, R, s, mid, args, below, meth, c, Q, D, cy, ad, PL, A⟩ := κ
  obtain ⟨hx, hb, hml, hown, hts, hR, hlk, hK, hn, hi, hA, hA2, hE⟩ := h
  intro H locs a9 hl hP hS
  obtain ⟨q0, hq0, hg⟩ := en_ws_get (cy := cy) (ad := ad) (m := m) (show a ∈ PL from hk9)
  rw [en_ctA hly] at hg
  obtain ⟨v1, v2⟩ := en_vpin hi9 (en_lyN hly)
  have hz : vp_nar .boolean (Int32.ofInt x) = Int32.ofInt x := by
    rcases hx9 with rfl | rfl <;> decide
  refine va_zast hx hb hK hP (en_ws_D m hn hi hA) hS q0 2 hg rfl v1 d (fun H1 locs1 hP1 hD1 hS1 => ?_)
  refine kk H1 locs1 a9 hl ?_ hS1
  have e9 := en_ws_set (cy := cy) (ad := ad) (m := m) (m' := en_set m a i x) hn hq0 (fun k' hk' => en_set_k hk')
  rw [en_ctA hly] at e9
  rw [hz, v2, ← en_up hi9.1] at hP1
  rw [← e9]
  exact hP1
theorem en_aaload3 {a i : Int} {N : Nat} {b : Int} (h : en_Ok κ own cc nL Ts rm) (d : decode cc pc = .ok (.aaload, 1)) (hk9 : en_in κ a) (hly : en_ly a = .inl (3, N, b)) (hi9 : 0 ≤ i ∧ i < (N : Int)) (kk : en_G κ (pc + 1) ls (en_R (if b < 0 then m a i else b + i) :: st) m k n) : en_G κ pc ls (en_I i :: en_R a :: st) m k n := by
  obtain ⟨p, l, e, R, s, mid, args, below, meth, c, Q, D, cy, ad, PL, A⟩ := κ
  obtain ⟨hx, hb, hml, hown, hts, hR, hlk, hK, hn, hi, hA, hA2, hE⟩ := h
  intro H locs a9 hl hP hS
  obtain ⟨q0, hq0, hg⟩ := en_ws_get (cy := cy) (ad := ad) (m := m) (show a ∈ PL from hk9)
  rw [en_ctA hly] at hg
  obtain ⟨v1, v2⟩ := en_vpin hi9 (en_lyN hly)
  have hlt : (Int32.ofInt i).toNatClampNeg < N := by rw [v2]; omega
  have q := kk H locs a9 hl hP hS
  simp only [List.map_cons, en_tv] at q
  have hc := hP q0 _ hg
  refine W.aald (v := .ref (ad (if b < 0 then m a i else b + i))) (ty := .array .int) hx hb hc ((hK.2 3 _ rfl).1 N (fun j => va_rf (some (ad (if b < 0 then m a (j : Int) else b + (j : Int)))))) rfl (fun q => by cases q) (by show ¬ (_ < 0 ∨ (arrV _ _ _).slots.size ≤ _); rw [arrV_size]; exact v1) ?_ rfl rfl d q
  show (arrV _ _ _).slots[_]? = _
  rw [arrV_read _ _ hlt, v2]
  show some (va_rf (some (ad (if b < 0 then m a ((i.toNat : Nat) : Int) else b + ((i.toNat : Nat) : Int))))) = _
  rw [show ((i.toNat : Nat) : Int) = i by omega]
  rfl
theorem en_aaload4 {a i : Int} {N : Nat} {b : Int} (h : en_Ok κ own cc nL Ts rm) (d : decode cc pc = .ok (.aaload, 1)) (hk9 : en_in κ a) (hly : en_ly a = .inl (4, N, b)) (hi9 : 0 ≤ i ∧ i < (N : Int)) (kk : en_G κ (pc + 1) ls (en_R (if b < 0 then m a i else b + i) :: st) m k n) : en_G κ pc ls (en_I i :: en_R a :: st) m k n := by
  obtain ⟨p, l, e, R, s, mid, args, below, meth, c, Q, D, cy, ad, PL, A⟩ := κ
  obtain ⟨hx, hb, hml, hown, hts, hR, hlk, hK, hn, hi, hA, hA2, hE⟩ := h
  intro H locs a9 hl hP hS
  obtain ⟨q0, hq0, hg⟩ := en_ws_get (cy := cy) (ad := ad) (m := m) (show a ∈ PL from hk9)
  rw [en_ctA hly] at hg
  obtain ⟨v1, v2⟩ := en_vpin hi9 (en_lyN hly)
  have hlt : (Int32.ofInt i).toNatClampNeg < N := by rw [v2]; omega
  have q := kk H locs a9 hl hP hS
  simp only [List.map_cons, en_tv] at q
  have hc := hP q0 _ hg
  refine W.aald (v := .ref (ad (if b < 0 then m a i else b + i))) (ty := .array .long) hx hb hc ((hK.2 4 _ rfl).1 N (fun j => va_rf (some (ad (if b < 0 then m a (j : Int) else b + (j : Int)))))) rfl (fun q => by cases q) (by show ¬ (_ < 0 ∨ (arrV _ _ _).slots.size ≤ _); rw [arrV_size]; exact v1) ?_ rfl rfl d q
  show (arrV _ _ _).slots[_]? = _
  rw [arrV_read _ _ hlt, v2]
  show some (va_rf (some (ad (if b < 0 then m a ((i.toNat : Nat) : Int) else b + ((i.toNat : Nat) : Int))))) = _
  rw [show ((i.toNat : Nat) : Int) = i by omega]
  rfl
theorem en_aaloadS3 {a i : Int} {N : Nat} {b : Int} (h : en_Ok κ own cc nL Ts rm) (d : decode cc pc = .ok (.aaload, 1)) (hk9 : en_in κ a) (hly : en_ly a = .inl (3, N, b)) (hb9 : ¬ b < 0) (hi9 : 0 ≤ i ∧ i < (N : Int)) (kk : en_G κ (pc + 1) ls (en_R (b + i) :: st) m k n) : en_G κ pc ls (en_I i :: en_R a :: st) m k n :=
  en_aaload3 h d hk9 hly hi9 (by rw [if_neg hb9]; exact kk)
theorem en_aaloadS4 {a i : Int} {N : Nat} {b : Int} (h : en_Ok κ own cc nL Ts rm) (d : decode cc pc = .ok (.aaload, 1)) (hk9 : en_in κ a) (hly : en_ly a = .inl (4, N, b)) (hb9 : ¬ b < 0) (hi9 : 0 ≤ i ∧ i < (N : Int)) (kk : en_G κ (pc + 1) ls (en_R (b + i) :: st) m k n) : en_G κ pc ls (en_I i :: en_R a :: st) m k n :=
  en_aaload4 h d hk9 hly hi9 (by rw [if_neg hb9]; exact kk)
theorem en_aaloadD4 {a i : Int} {N : Nat} (h : en_Ok κ own cc nL Ts rm) (d : decode cc pc = .ok (.aaload, 1)) (hk9 : en_in κ a) (hly : en_ly a = .inl (4, N, -1)) (hi9 : 0 ≤ i ∧ i < (N : Int)) {v9 : Int} (hv9 : m a i = v9) (kk : en_G κ (pc + 1) ls (en_R v9 :: st) m k n) : en_G κ pc ls (en_I i :: en_R a :: st) m k n :=
  en_aaload4 h d hk9 hly hi9 (by rw [if_pos (by decide), hv9]; exact kk)
/-! fields: en_FL says that the instruction's number names field j of class ci -/
def en_FL (Ts : List Cond) (own : String) (index ci j : Nat) : Prop := ∃ C T N, vwCl[ci]? = some (C, T, N) ∧ j < N ∧ (∀ w ∈ u_ws C T N, w ∈ Ts) ∧ (Cond.fieldLink own index (T j).1 (T j).2.1 (T j).2.2.1 ∈ Ts ∨ (own, index, (T j).1, (T j).2.1, (T j).2.2.1) ∈ en_nestL)
def en_FP (ci j : Nat) (ty : FieldType) : Prop := ∃ C T N, vwCl[ci]? = some (C, T, N) ∧ (∃ ty0 : Nat → FieldType, ∀ k, k < N → parseFieldDescriptor (T k).2.2.1 = some (ty0 k)) ∧ (∀ a, a < N → ∀ b, b < N → a ≠ b → (T a).2.1 ≠ (T b).2.1) ∧ (T j).2.2.2 = false ∧ parseFieldDescriptor (T j).2.2.1 = some ty
theorem en_getf {a : Int} {index ci j : Nat} {fl : List (Nat × Int)} {f : Nat × Int} {v : en_V} (h : en_Ok κ own cc nL Ts rm) (d : decode cc pc = .ok (.getfield index, 3)) (hf : en_FL Ts own index ci j) (hk9 : en_in κ a) (hly : en_ly a = .inr (ci, fl)) (hfl : fl[j]? = some f) (hv : ∀ ad, en_fv ad m a j f = en_tv ad v) (kk : en_G κ (pc + 3) ls (v :: st) m k n) : en_G κ pc ls (en_R a :: st) m k n := by
  obtain ⟨p, l, e, R, s, mid, args, below, meth, c, Q, D, cy, ad, PL, A⟩ := κ
  obtain ⟨hx, hb, hml, hown, hts, hR, hlk, hK, hn, hi, hA, hA2, hE⟩ := h
  intro H locs a9 hl hP hS
  obtain ⟨q0, hq0, hg⟩ := en_ws_get (cy := cy) (ad := ad) (m := m) (show a ∈ PL from hk9)
  rw [en_ctO hly] at hg
  obtain ⟨C, T, N, h1, h2, h3, h4⟩ := hf
  have hv9 : (en_fl ad m a 0 fl)[j]? = some (en_tv ad v) := by
    rw [en_fl_get, hfl, ← hv ad]
    simp
  rcases h4 with h4 | h4
  · exact va_get hx hb hts h3 hown hK hP q0 hg h1 j h2 (hts _ h4) (fun _ q => q) (v := en_tv ad v) hv9 d (kk H locs a9 hl hP hS)
  · exact va_getN hx hb hts h3 hown hK hP q0 hg h1 j h2 (va_Nw.use rfl (hE.1 _ h4)) (fun _ q => q) (v := en_tv ad v) hv9 d (kk H locs a9 hl hP hS)
theorem en_getI {a : Int} {index ci j : Nat} {fl : List (Nat × Int)} {b : Int} (h : en_Ok κ own cc nL Ts rm) (d : decode cc pc = .ok (.getfield index, 3)) (hf : en_FL Ts own index ci j) (hk9 : en_in κ a) (hly : en_ly a = .inr (ci, fl)) (hfl : fl[j]? = some (0, b)) {i : Int} (hi9 : ((j : Nat) : Int) = i) {v9 : Int} (hv9 : m a i = v9) (kk : en_G κ (pc + 3) ls (en_I v9 :: st) m k n) : en_G κ pc ls (en_R a :: st) m k n :=
  en_getf h d hf hk9 hly hfl (v := en_I v9) (fun ad => by subst hi9; subst hv9; rfl) kk
theorem en_getL {a : Int} {index ci j : Nat} {fl : List (Nat × Int)} {b : Int} (h : en_Ok κ own cc nL Ts rm) (d : decode cc pc = .ok (.getfield index, 3)) (hf : en_FL Ts own index ci j) (hk9 : en_in κ a) (hly : en_ly a = .inr (ci, fl)) (hfl : fl[j]? = some (1, b)) {i : Int} (hi9 : ((j : Nat) : Int) = i) {v9 : Int} (hv9 : m a i = v9) (kk : en_G κ (pc + 3) ls (en_L v9 :: st) m k n) : en_G κ pc ls (en_R a :: st) m k n :=
  en_getf h d hf hk9 hly hfl (v := en_L v9) (fun ad => by subst hi9; subst hv9; rfl) kk
theorem en_getR {a : Int} {index ci j : Nat} {fl : List (Nat × Int)} {b : Int} (h : en_Ok κ own cc nL Ts rm) (d : decode cc pc = .ok (.getfield index, 3)) (hf : en_FL Ts own index ci j) (hk9 : en_in κ a) (hly : en_ly a = .inr (ci, fl)) (hfl : fl[j]? = some (2, b)) (kk : en_G κ (pc + 3) ls (en_R b :: st) m k n) : en_G κ pc ls (en_R a :: st) m k n :=
  en_getf h d hf hk9 hly hfl (v := en_R b) (fun ad => rfl) kk
theorem en_fl_set (ad : Int → Nat) (m m' : en_M) (a : Int) (v : Value) (j : Nat) : ∀ (fl : List (Nat × Int)) (i : Nat) (f : Nat × Int), fl[j]? = some f → v = en_fv ad m' a (i + j) f → (∀ j', j' ≠ ((i + j : Nat) : Int) → m' a j' = m a j') → (en_fl ad m a i fl).set j v = en_fl ad m' a i fl := by
  intro fl i f hf hv hm
  apply List.ext_getElem?
  intro q
  by_cases hq : q = j
  · subst hq
    rw [List.getElem?_set_self (by rw [en_fl_len]; exact (List.getElem?_eq_some_iff.mp hf).1), en_fl_get, hf, hv]
    rfl
  · rw [List.getElem?_set_ne (Ne.symm hq), en_fl_get, en_fl_get]
    congr 1
    funext g
    unfold en_fv
    rw [hm ((i + q : Nat) : Int) (by omega)]
theorem en_putf {a x : Int} {index ci j : Nat} {fl : List (Nat × Int)} {f : Nat × Int} {v : en_V} {ty : FieldType} (h : en_Ok κ own cc nL Ts rm) (d : decode cc pc = .ok (.putfield index, 3)) (hf : en_FL Ts own index ci j) (hp : en_FP ci j ty) (hk9 : en_in κ a) (hly : en_ly a = .inr (ci, fl)) (hfl : fl[j]? = some f) {i : Int} (hi9 : ((j : Nat) : Int) = i) (hv : ∀ ad, en_tv ad v = en_fv ad (en_set m a i x) a j f) (hnar : ∀ ad, narrow ty (en_tv ad v) = en_tv ad v) (hfit : ∀ ad, fits ty (en_tv ad v) = true)
    (kk : en_G κ (pc + 3) ls st (en_set m a i x) k n) : en_G κ pc ls (v :: en_R a :: st) m k n := by
  obtain ⟨p, l, e, R, s, mid, args, below, meth, c, Q, D, cy, ad, PL, A⟩ := κ
  obtain ⟨hx, hb, hml, hown, hts, hR, hlk, hK, hn, hi, hA, hA2, hE⟩ := h
  intro H locs a9 hl hP hS
  obtain ⟨q0, hq0, hg⟩ := en_ws_get (cy := cy) (ad := ad) (m := m) (show a ∈ PL from hk9)
  rw [en_ctO hly] at hg
  obtain ⟨C, T, N, h1, h2, h3, h4⟩ := hf
  obtain ⟨C', T', N', g1, ⟨ty0, g2⟩, g3, g4, g5⟩ := hp
  rw [h1] at g1
  simp only [Option.some.injEq, Prod.mk.injEq] at g1
  obtain ⟨rfl, rfl, rfl⟩ := g1
  have hjl : j < fl.length := (List.getElem?_eq_some_iff.mp hfl).1
  have kk9 : ∀ (H1 : Heap) (locs1 : List Loc), va_P D vwCl ((en_ws cy ad PL m).set q0 (ad a, .inr (ci, (en_fl ad m a 0 fl).set j (en_tv ad v)))) H1 → va_D A ((en_ws cy ad PL m).set q0 (ad a, .inr (ci, (en_fl ad m a 0 fl).set j (en_tv ad v)))) → va_S A s.heap H1 locs1 → W p l e R s mid args below meth c H1 locs1 k n Q (F0 mid (pc + 3) a9 (st.map (en_tv ad))) := by
    intro H1 locs1 hP1 hD1 hS1
    refine kk H1 locs1 a9 hl ?_ hS1
    have e9 := en_ws_set (cy := cy) (ad := ad) (m := m) (m' := en_set m a i x) hn hq0 (fun k' hk' => en_set_k hk')
    rw [en_ctO hly] at e9
    rw [en_fl_set ad m (en_set m a i x) a _ j fl 0 f hfl (by rw [hv ad, Nat.zero_add]) (fun j' hj' => by unfold en_set; rw [if_neg (fun q => hj' (by rw [q.2, Nat.zero_add]; exact hi9.symm))])] at hP1
    rw [← e9]
    exact hP1
  rcases h4 with h4 | h4
  · exact va_put hx hb hts h3 ty0 g2 g3 hown hK hP (en_ws_D m hn hi hA) hS q0 hg h1 j h2 (hts _ h4) (fun _ q => q) g4 g5 (hnar ad) (hfit ad) (by rw [en_fl_len]; exact hjl) d kk9
  · exact va_putN hx hb hts h3 ty0 g2 g3 hown hK hP (en_ws_D m hn hi hA) hS q0 hg h1 j h2 (va_Nw.use rfl (hE.1 _ h4)) (fun _ q => q) g4 g5 (hnar ad) (hfit ad) (by rw [en_fl_len]; exact hjl) d kk9
theorem en_putI {a x : Int} {index ci j : Nat} {fl : List (Nat × Int)} {b : Int} (h : en_Ok κ own cc nL Ts rm) (d : decode cc pc = .ok (.putfield index, 3)) (hf : en_FL Ts own index ci j) (hp : en_FP ci j .int) (hk9 : en_in κ a) (hly : en_ly a = .inr (ci, fl)) (hfl : fl[j]? = some (0, b)) {i : Int} (hi9 : ((j : Nat) : Int) = i) (kk : en_G κ (pc + 3) ls st (en_set m a i x) k n) : en_G κ pc ls (en_I x :: en_R a :: st) m k n :=
  en_putf h d hf hp hk9 hly hfl hi9 (fun ad => by subst hi9; simp [en_fv, en_tv, en_set]) (fun ad => rfl) (fun ad => rfl) kk
theorem en_putL {a x : Int} {index ci j : Nat} {fl : List (Nat × Int)} {b : Int} (h : en_Ok κ own cc nL Ts rm) (d : decode cc pc = .ok (.putfield index, 3)) (hf : en_FL Ts own index ci j) (hp : en_FP ci j .long) (hk9 : en_in κ a) (hly : en_ly a = .inr (ci, fl)) (hfl : fl[j]? = some (1, b)) {i : Int} (hi9 : ((j : Nat) : Int) = i) (kk : en_G κ (pc + 3) ls st (en_set m a i x) k n) : en_G κ pc ls (en_L x :: en_R a :: st) m k n :=
  en_putf h d hf hp hk9 hly hfl hi9 (fun ad => by subst hi9; simp [en_fv, en_tv, en_set]) (fun ad => rfl) (fun ad => rfl) kk
end ENR
