/-! ENGINE 7: constructors; the world is a list of cells, the new object first -/
abbrev ek_C : Type := Program × Launch × Env × Room × State × MethodId × Array Value × List Frame × Method × Code × (State → Prop) × va_G × (Nat → ClassId) × (Nat → Prop) × Array Slot
def ek_l (κ : ek_C) : Launch := κ.2.1
def ek_D (κ : ek_C) : va_G := match κ with
  | (_, _, _, _, _, _, _, _, _, _, _, D, _, _, _) => D
def ek_cy (κ : ek_C) : Nat → ClassId := match κ with
  | (_, _, _, _, _, _, _, _, _, _, _, _, cy, _, _) => cy
def ek_E (U : State) : Prop := en_E U ∧ va_AOA .int U
theorem ek_E.same {u U : State} (h : U.vm = u.vm) (hE : ek_E u) : ek_E U := ⟨hE.1.same h, Jvm.Stand.arrayOver_alikeB (by rw [h]; exact Vm.Alike.refl u.vm) hE.2⟩
theorem ek_E.warm {s U : State} (hW : s.WarmedH U.vm) (hE : ek_E s) : ek_E U := ⟨hE.1.warm hW, Jvm.Stand.arrayOver_alikeB hW.alike hE.2⟩
def ek_G (κ : ek_C) (pc : Nat) (st : List Value) (ws : va_W) (k n : Nat) : Prop := match κ with
  | (p, l, e, R, s, mid, args, below, meth, c, Q, D, _, A, a) => ∀ (H : Heap) (locs : List Loc), va_P D vwCl ws H → va_D A ws → va_S A s.heap H locs → W p l e R s mid args below meth c H locs k n Q (F0 mid pc a st)
def ek_Ok (κ : ek_C) (own : String) (cc : ByteArray) (nL : Nat) (Ts : List Cond) (rm : Room) (as : List (Nat × Value)) : Prop := match κ with
  | (p, _, _, R, s, mid, args, _, meth, c, _, D, cy, A, a) => p.tables.exec = Jvm.exec ∧ c.code = cc ∧ c.maxLocals = nL ∧ s.vm.findClass own = some mid.cls ∧ (∀ w ∈ Ts, w.before args s = true) ∧ R = rm ∧ meth.locks = false ∧ va_K D vwCl (en_ty cy) s ∧ (∀ q, s.heap.size ≤ q → A q) ∧ lv_has a nL as ∧ ek_E s
def ek_In (κ : ek_C) : Prop := match κ with
  | (_, _, _, _, _, _, _, _, meth, _, _, _, _, _, _) => meth.name = "<init>"
def ek_Q (D : va_G) (cy : Nat → ClassId) (q ci : Nat) (fs : List Value) (P : va_W → Prop) (sz : Nat) : Array Value → State → Outcome → State → Prop := va_Qv P (fun W t => va_P D vwCl W t.heap ∧ va_D (va_A [(q, .inr (ci, fs))] sz) W ∧ va_K D vwCl (en_ty cy) t) (va_A [(q, .inr (ci, fs))] sz)
def ek_P (D : va_G) (cy : Nat → ClassId) (q ci : Nat) (fs : List Value) (As : List Value) (sz : Nat) : Array Value → State → Prop := va_Pc (.ref q :: As) (fun U => U.heap.size = sz ∧ va_P D vwCl [(q, .inr (ci, fs))] U.heap ∧ va_K D vwCl (en_ty cy) U ∧ ek_E U)
/-- a constructor's contract: the object with fresh fields comes, the cells that P tells are left -/
def ek_Met (l : Launch) (D : va_G) (cy : Nat → ClassId) (y : MethodName) (ws : List Cond) (rm : Room) (q ci : Nat) (fs : List Value) (As : List Value) (P : va_W → Prop) : Prop :=
  ∀ sz : Nat, Met l y ws rm (ek_P D cy q ci fs As sz) (ek_Q D cy q ci fs P sz) rm.cells rm.slots (va_A [(q, .inr (ci, fs))] sz)
def ek_fin (κ : ek_C) (rm : Room) (q ci : Nat) (fs : List Value) (P : va_W → Prop) : Prop := match κ with
  | (_, _, _, _, s, _, args, below, meth, _, Q, D, cy, A, _) => Q = MQ below (ek_Q D cy q ci fs P s.heap.size) args s rm.cells rm.slots (va_A [(q, .inr (ci, fs))] s.heap.size) ∧ A = va_A [(q, .inr (ci, fs))] s.heap.size ∧ meth.sig.returnType = none
theorem ek_blind {D : va_G} {cy : Nat → ClassId} {q ci : Nat} {fs As : List Value} {sz : Nat} : FrameBlind (ek_P D cy q ci fs As sz) := fun a U g mk x => by
  obtain ⟨q0, q1, q2, q3, q4⟩ := x
  exact ⟨q0, q1, q2, va_K.moved (u := U) (U := U.calling g mk a) (Vm.Alike.refl U.vm) q3, ek_E.same rfl q4⟩
theorem ek_D1 {A : Nat → Prop} {q : Nat} {e : va_E} (h : A q) : va_D A [(q, e)] := by
  refine ⟨fun i j p r hi hj _ => ?_, fun k p hk => ?_⟩
  · have h1 : i < 1 := (List.getElem?_eq_some_iff.mp hi).1
    have h2 : j < 1 := (List.getElem?_eq_some_iff.mp hj).1
    omega
  · have h1 : k < 1 := (List.getElem?_eq_some_iff.mp hk).1
    rw [show k = 0 by omega] at hk
    cases hk
    exact h
theorem ek_met {l : Launch} {D : va_G} {cy : Nat → ClassId} {y : MethodName} {C : String} {cc : ByteArray} {nL : Nat} {ws : List Cond} {np : Nat} {rm : Room} {q ci : Nat} {fs As : List Value} {P : va_W → Prop} (hy : en_MY y C cc nL none ws np) (hnm : y.name = "<init>") (hn : (lg_sl (.ref q :: As)).length ≤ nL)
    (body : ∀ κ : ek_C, ek_l κ = l → ek_D κ = D → ek_cy κ = cy → ek_Ok κ C cc nL ws rm (lv_args 0 (.ref q :: As)) → ek_fin κ rm q ci fs P → ek_In κ → ek_G κ 0 [] [(q, .inr (ci, fs))] 0 0) : ek_Met l D cy y ws rm q ci fs As P := by
  intro sz
  obtain ⟨⟨ws', hws⟩, hC, -, -, -, hpl⟩ := hy
  refine Met.ofW (cc := cc) (maxL := nL) (ret := none) hpl hws ?_
  intro p e s mid args below meth c s₁ B hml hv
  obtain ⟨rfl, hsz, hP, hK, hE⟩ := hv
  have hts := atoms_spec (ws := ws) B.pre
  have hown : s.vm.findClass C = some mid.cls := by rw [← hC]; exact findClass_of_methodNamed B.named
  have hin : meth.name = "<init>" := by rw [← hnm]; exact (name_of_methodNamed B.named B.method).1
  subst hsz
  have hl := lv_entry (.ref q :: As) (n := nL) hn
  rw [lg_entry_eq]
  generalize (lg_sl (.ref q :: As) ++ List.replicate (nL - (lg_sl (.ref q :: As)).length) Slot.unset).toArray = a at hl ⊢
  exact body (p, l, e, (headSpec ws rm).room, s, mid, ((.ref q :: As : List Value).toArray), below, meth, c, MQ below (ek_Q D cy q ci fs P s.heap.size) ((.ref q :: As : List Value).toArray) s rm.cells rm.slots (va_A [(q, .inr (ci, fs))] s.heap.size), D, cy, va_A [(q, .inr (ci, fs))] s.heap.size, a) rfl rfl rfl
    ⟨B.exec, B.bytes, hml, hown, hts, rfl, B.notSynchronized, hK, fun q hq => Or.inr hq, hl, hE⟩ ⟨rfl, rfl, B.returns⟩ hin s.heap [] hP (ek_D1 (Or.inl ⟨0, _, rfl⟩)) va_S.rf
section EK
variable {κ : ek_C} {own : String} {cc : ByteArray} {nL : Nat} {Ts : List Cond} {rm : Room} {pc : Nat} {as : List (Nat × Value)} {st : List Value} {ws : va_W} {k n : Nat}
theorem ek_aload {k9 : Fin 4} {i j q : Nat} (h : ek_Ok κ own cc nL Ts rm as) (d : decode cc pc = .ok (.aload_n k9, 1)) (hi9 : (k9 : Nat) = i) (hv : as[j]? = some (i, Value.ref q)) (kk : ek_G κ (pc + 1) (.ref q :: st) ws k n) : ek_G κ pc st ws k n := by
  obtain ⟨p, l, e, R, s, mid, args, below, meth, c, Q, D, cy, A, a⟩ := κ
  obtain ⟨hx, hb, hml, hown, hts, hR, hlk, hK, hA, hl, hE⟩ := h
  intro H locs hP hD hS
  exact lv_aload_n hx hb d hi9 (hl.2.2 (i, .ref q) (List.mem_of_getElem? hv)) (kk H locs hP hD hS)
theorem ek_iload {k9 : Fin 4} {i j : Nat} {x : Int32} (h : ek_Ok κ own cc nL Ts rm as) (d : decode cc pc = .ok (.iload_n k9, 1)) (hi9 : (k9 : Nat) = i) (hv : as[j]? = some (i, Value.int x)) (kk : ek_G κ (pc + 1) (.int x :: st) ws k n) : ek_G κ pc st ws k n := by
  obtain ⟨p, l, e, R, s, mid, args, below, meth, c, Q, D, cy, A, a⟩ := κ
  obtain ⟨hx, hb, hml, hown, hts, hR, hlk, hK, hA, hl, hE⟩ := h
  intro H locs hP hD hS
  exact lv_iload_n hx hb d hi9 (hl.2.2 (i, .int x) (List.mem_of_getElem? hv)) (kk H locs hP hD hS)
theorem ek_iconst {c9 : Int} (h : ek_Ok κ own cc nL Ts rm as) (d : decode cc pc = .ok (.iconst c9, 1)) (kk : ek_G κ (pc + 1) (.int (Int32.ofInt c9) :: st) ws k n) : ek_G κ pc st ws k n := by
  obtain ⟨p, l, e, R, s, mid, args, below, meth, c, Q, D, cy, A, a⟩ := κ
  obtain ⟨hx, hb, hml, hown, hts, hR, hlk, hK, hA, hl, hE⟩ := h
  intro H locs hP hD hS
  exact lv_iconst hx hb d rfl (kk H locs hP hD hS)
theorem ek_bipush {c9 : Int} (h : ek_Ok κ own cc nL Ts rm as) (d : decode cc pc = .ok (.bipush c9, 2)) (hc : -128 ≤ c9 ∧ c9 < 128) (kk : ek_G κ (pc + 2) (.int (Int32.ofInt c9) :: st) ws k n) : ek_G κ pc st ws k n := by
  obtain ⟨p, l, e, R, s, mid, args, below, meth, c, Q, D, cy, A, a⟩ := κ
  obtain ⟨hx, hb, hml, hown, hts, hR, hlk, hK, hA, hl, hE⟩ := h
  intro H locs hP hD hS
  refine lv_bipush hx hb d ?_ (kk H locs hP hD hS)
  rw [← Int32.toInt_inj, Int8.toInt_toInt32, en_to32 ⟨by omega, by omega⟩]
  exact Int8.toInt_ofInt_of_le (by omega) (by omega)
theorem ek_lconst {c9 : Fin 2} {z : Int} (h : ek_Ok κ own cc nL Ts rm as) (d : decode cc pc = .ok (.lconst c9, 1)) (hz : ((c9 : Nat) : Int) = z) (kk : ek_G κ (pc + 1) (.long (Int64.ofInt z) :: st) ws k n) : ek_G κ pc st ws k n := by
  obtain ⟨p, l, e, R, s, mid, args, below, meth, c, Q, D, cy, A, a⟩ := κ
  obtain ⟨hx, hb, hml, hown, hts, hR, hlk, hK, hA, hl, hE⟩ := h
  intro H locs hP hD hS
  refine lv_lconst hx hb d ?_ (kk H locs hP hD hS)
  subst hz
  exact Int64.ofInt_eq_ofNat.symm
theorem ek_dup {q : Nat} (h : ek_Ok κ own cc nL Ts rm as) (d : decode cc pc = .ok (.dup, 1)) (kk : ek_G κ (pc + 1) (.ref q :: .ref q :: st) ws k n) : ek_G κ pc (.ref q :: st) ws k n := by
  obtain ⟨p, l, e, R, s, mid, args, below, meth, c, Q, D, cy, A, a⟩ := κ
  obtain ⟨hx, hb, hml, hown, hts, hR, hlk, hK, hA, hl, hE⟩ := h
  intro H locs hP hD hS
  exact lv_dup hx hb d rfl (kk H locs hP hD hS)
theorem ek_goto {off : Int} {tgt : Nat} (h : ek_Ok κ own cc nL Ts rm as) (d : decode cc pc = .ok (.goto off, 3)) (ht : (pc : Int) + off = (tgt : Int)) (kk : ek_G κ tgt st ws k n) : ek_G κ pc st ws k n := by
  obtain ⟨p, l, e, R, s, mid, args, below, meth, c, Q, D, cy, A, a⟩ := κ
  obtain ⟨hx, hb, hml, hown, hts, hR, hlk, hK, hA, hl, hE⟩ := h
  intro H locs hP hD hS
  exact lv_goto hx hb d ht (kk H locs hP hD hS)
theorem ek_icmp_ge {x y : Int} {off : Int} {tgt : Nat} (h : ek_Ok κ own cc nL Ts rm as) (d : decode cc pc = .ok (.if_icmp .ge off, 3)) (ht : (pc : Int) + off = (tgt : Int)) (hrx : en_i32 x) (hry : en_i32 y) (kt : y ≤ x → ek_G κ tgt st ws k n) (kf : x < y → ek_G κ (pc + 3) st ws k n) : ek_G κ pc (.int (Int32.ofInt y) :: .int (Int32.ofInt x) :: st) ws k n := by
  obtain ⟨p, l, e, R, s, mid, args, below, meth, c, Q, D, cy, A, a⟩ := κ
  obtain ⟨hx, hb, hml, hown, hts, hR, hlk, hK, hA, hl, hE⟩ := h
  intro H locs hP hD hS
  refine lv_icmp_ge hx hb d ht (fun q => ?_) (fun q => ?_)
  · exact kt ((en_le32 hry hrx).mp q) H locs hP hD hS
  · exact kf (Int.not_le.mp fun z => q ((en_le32 hry hrx).mpr z)) H locs hP hD hS
theorem ek_icmp_le {x y : Int} {off : Int} {tgt : Nat} (h : ek_Ok κ own cc nL Ts rm as) (d : decode cc pc = .ok (.if_icmp .le off, 3)) (ht : (pc : Int) + off = (tgt : Int)) (hrx : en_i32 x) (hry : en_i32 y) (kt : x ≤ y → ek_G κ tgt st ws k n) (kf : y < x → ek_G κ (pc + 3) st ws k n) : ek_G κ pc (.int (Int32.ofInt y) :: .int (Int32.ofInt x) :: st) ws k n := by
  obtain ⟨p, l, e, R, s, mid, args, below, meth, c, Q, D, cy, A, a⟩ := κ
  obtain ⟨hx, hb, hml, hown, hts, hR, hlk, hK, hA, hl, hE⟩ := h
  intro H locs hP hD hS
  refine lv_icmp_le hx hb d ht (fun q => ?_) (fun q => ?_)
  · exact kt ((en_le32 hrx hry).mp q) H locs hP hD hS
  · exact kf (Int.not_le.mp fun z => q ((en_le32 hrx hry).mpr z)) H locs hP hD hS
/-- Object.<init> -/
theorem ek_obj {q idx : Nat} (h : ek_Ok κ own cc nL Ts rm as) (d : decode cc pc = .ok (.invokespecial idx, 3)) (w1 : Cond.methodLink own idx Lib.objectInit ∈ Ts) (w2 : Cond.instanceMethod Lib.objectInit ∈ Ts) (w3 : Cond.code Lib.objectInit ⟨#[0xb1]⟩ 1 none ∈ Ts) (hr : 1 ≤ rm.frames ∧ (st.map fun v => v.category).sum + 12 ≤ rm.locals) (kk : ek_G κ (pc + 3) st ws k n) : ek_G κ pc (.ref q :: st) ws k n := by
  obtain ⟨p, l, e, R, s, mid, args, below, meth, c, Q, D, cy, A, a⟩ := κ
  obtain ⟨hx, hb, hml, hown, hts, hR, hlk, hK, hA, hl, hE⟩ := h
  subst hR
  intro H locs hP hD hS
  refine W.objInit hx hb hown (hts _ w1) (hts _ w2) (hts _ w3) rfl (by rw [hml]; exact hl.1) rfl d hr.1 (by show 2 * 0 + _ + 12 ≤ _; omega) ?_
  exact kk H locs hP hD hS
theorem ek_ret {q ci : Nat} {fs : List Value} {P : va_W → Prop} (h : ek_Ok κ own cc nL Ts rm as) (hf : ek_fin κ rm q ci fs P) (d : decode cc pc = .ok (.return_, 1)) (hc : k ≤ rm.cells ∧ n ≤ rm.slots) (hp : P ws) : ek_G κ pc [] ws k n := by
  obtain ⟨p, l, e, R, s, mid, args, below, meth, c, Q, D, cy, A, a⟩ := κ
  obtain ⟨hx, hb, hml, hown, hts, hR, hlk, hK, hA, hl, hE⟩ := h
  obtain ⟨hQ, hAe, hr⟩ := hf
  subst hQ
  intro H locs hP hD hS
  refine W.widen hc.1 hc.2 ?_
  exact W.vret hx hb hr (fun t ht hW => ⟨⟨ws, rfl, hp, by rw [ht]; exact hP, by rw [← hAe]; exact hD, va_K.moved hW.alike hK⟩, by rw [← hAe]; exact hS.F ht⟩) (by rw [← hAe]; exact hS.2.2) d hlk
/-- a field of the new object -/
def en_FK (Ts : List Cond) (own : String) (index ci j : Nat) : Prop := ∃ C T N, vwCl[ci]? = some (C, T, N) ∧ j < N ∧ (∀ w ∈ u_ws C T N, w ∈ Ts) ∧ Cond.fieldLink own index (T j).1 (T j).2.1 (T j).2.2.1 ∈ Ts
def en_FPK (own : String) (ci j : Nat) (ty : FieldType) : Prop := ∃ C T N, vwCl[ci]? = some (C, T, N) ∧ (∃ ty0 : Nat → FieldType, ∀ k, k < N → parseFieldDescriptor (T k).2.2.1 = some (ty0 k)) ∧ (∀ a, a < N → ∀ b, b < N → a ≠ b → (T a).2.1 ≠ (T b).2.1) ∧ ((T j).2.2.2 = false ∨ ((T j).2.2.2 = true ∧ (T j).1 = own)) ∧ parseFieldDescriptor (T j).2.2.1 = some ty
theorem ek_put {q index ci j : Nat} {fs fs' : List Value} {v : Value} {ty : FieldType} (h : ek_Ok κ own cc nL Ts rm as) (hin : ek_In κ) (d : decode cc pc = .ok (.putfield index, 3)) (hf : en_FK Ts own index ci j) (hp : en_FPK own ci j ty) (hn : narrow ty v = v) (hfit : fits ty v = true) (hl9 : j < fs.length) (hfs : fs.set j v = fs') (kk : ek_G κ (pc + 3) st ((q, .inr (ci, fs')) :: ws) k n) : ek_G κ pc (v :: .ref q :: st) ((q, .inr (ci, fs)) :: ws) k n := by
  obtain ⟨p, l, e, R, s, mid, args, below, meth, c, Q, D, cy, A, a⟩ := κ
  obtain ⟨hx, hb, hml, hown, hts, hR, hlk, hK, hA, hl, hE⟩ := h
  subst hfs
  intro H locs hP hD hS
  obtain ⟨C, T, N, h1, h2, h3, h4⟩ := hf
  obtain ⟨C', T', N', g1, ⟨ty0, g2⟩, g3, g4, g5⟩ := hp
  rw [h1] at g1
  simp only [Option.some.injEq, Prod.mk.injEq] at g1
  obtain ⟨rfl, rfl, rfl⟩ := g1
  rcases g4 with g4 | ⟨g4, g6⟩
  · exact va_put hx hb hts h3 ty0 g2 g3 hown hK hP hD hS 0 rfl h1 j h2 (hts _ h4) (fun _ q => q) g4 g5 hn hfit hl9 d (fun H1 locs1 a1 a2 a3 => kk H1 locs1 a1 a2 a3)
  · exact va_putF hx hb hts h3 ty0 g2 g3 hown hK hP hD hS 0 rfl h1 j h2 (hts _ h4) (fun _ q => q) g4 hin g6 g5 hn hfit hl9 d (fun H1 locs1 a1 a2 a3 => kk H1 locs1 a1 a2 a3)
theorem ek_get {q index ci j : Nat} {fs : List Value} {v : Value} (h : ek_Ok κ own cc nL Ts rm as) (d : decode cc pc = .ok (.getfield index, 3)) (hf : en_FK Ts own index ci j) (hv : fs[j]? = some v) (kk : ek_G κ (pc + 3) (v :: st) ((q, .inr (ci, fs)) :: ws) k n) : ek_G κ pc (.ref q :: st) ((q, .inr (ci, fs)) :: ws) k n := by
  obtain ⟨p, l, e, R, s, mid, args, below, meth, c, Q, D, cy, A, a⟩ := κ
  obtain ⟨hx, hb, hml, hown, hts, hR, hlk, hK, hA, hl, hE⟩ := h
  intro H locs hP hD hS
  obtain ⟨C, T, N, h1, h2, h3, h4⟩ := hf
  exact va_get hx hb hts h3 hown hK hP 0 rfl h1 j h2 (hts _ h4) (fun _ q => q) hv d (kk H locs hP hD hS)
theorem ek_newI {x : Int} {N : Nat} (h : ek_Ok κ own cc nL Ts rm as) (d : decode cc pc = .ok (.newarray .int, 2)) (harr : Cond.arrayClass .int ∈ Ts) (hN : x = (N : Int) ∧ N ≤ 100) (hc : k + 1 ≤ rm.cells ∧ n + N ≤ rm.slots) (kk : ∀ q : Nat, ek_G κ (pc + 2) (.ref q :: st) (ws ++ [(q, .inl (ek_cy κ 0, N, .inl (fun _ => Int32.ofInt 0)))]) (k + 1) (n + N)) : ek_G κ pc (.int (Int32.ofInt x) :: st) ws k n := by
  obtain ⟨p, l, e, R, s, mid, args, below, meth, c, Q, D, cy, A, a⟩ := κ
  obtain ⟨hx, hb, hml, hown, hts, hR, hlk, hK, hA, hl, hE⟩ := h
  subst hR
  intro H locs hP hD hS
  obtain ⟨rfl, hN⟩ := hN
  have e1 : (Int32.ofInt (N : Int)).toInt = (N : Int) := en_to32 ⟨by omega, by omega⟩
  have e2 : (Int32.ofInt (N : Int)).toNatClampNeg = N := by rw [← Int32.toNat_toInt, e1]; omega
  have e3 : ¬ Int32.ofInt (N : Int) < 0 := fun z => by
    rw [Int32.lt_iff_toInt_lt, e1] at z
    have z0 : (0 : Int32).toInt = 0 := rfl
    omega
  refine va_newa (atype := .int) (a0 := (N, .inl (fun _ => Int32.ofInt 0))) hx hb (hts _ harr) rfl hK hP hD hS hA (fun cA => ?_) e3 e2 (Nat.le_trans (Nat.mul_le_mul hN (show componentBytes .int ≤ 8 by decide)) (by decide)) hc.1 hc.2 d (fun q cA H1 hK1 hP1 hD1 hS1 => ?_)
  · show arrV cA N (fun _ => .int (Int32.ofInt 0)) = arrV cA N (fun _ => .int (0 : Int32))
    rw [show Int32.ofInt 0 = (0 : Int32) from by decide]
  · have c1 : cA = cy 0 := Option.some.inj ((hK1.2 5 _ rfl).2.symm.trans (hK.2 0 _ rfl).2)
    subst c1
    exact kk q H1 locs hP1 hD1 hS1
theorem ek_newZ {x : Int} {N : Nat} (h : ek_Ok κ own cc nL Ts rm as) (d : decode cc pc = .ok (.newarray .boolean, 2)) (harr : Cond.arrayClass .boolean ∈ Ts) (hN : x = (N : Int) ∧ N ≤ 100) (hc : k + 1 ≤ rm.cells ∧ n + N ≤ rm.slots) (kk : ∀ q : Nat, ek_G κ (pc + 2) (.ref q :: st) (ws ++ [(q, .inl (ek_cy κ 2, N, .inl (fun _ => Int32.ofInt 0)))]) (k + 1) (n + N)) : ek_G κ pc (.int (Int32.ofInt x) :: st) ws k n := by
  obtain ⟨p, l, e, R, s, mid, args, below, meth, c, Q, D, cy, A, a⟩ := κ
  obtain ⟨hx, hb, hml, hown, hts, hR, hlk, hK, hA, hl, hE⟩ := h
  subst hR
  intro H locs hP hD hS
  obtain ⟨rfl, hN⟩ := hN
  have e1 : (Int32.ofInt (N : Int)).toInt = (N : Int) := en_to32 ⟨by omega, by omega⟩
  have e2 : (Int32.ofInt (N : Int)).toNatClampNeg = N := by rw [← Int32.toNat_toInt, e1]; omega
  have e3 : ¬ Int32.ofInt (N : Int) < 0 := fun z => by
    rw [Int32.lt_iff_toInt_lt, e1] at z
    have z0 : (0 : Int32).toInt = 0 := rfl
    omega
  refine va_newa (atype := .boolean) (a0 := (N, .inl (fun _ => Int32.ofInt 0))) hx hb (hts _ harr) rfl hK hP hD hS hA (fun cA => ?_) e3 e2 (Nat.le_trans (Nat.mul_le_mul hN (show componentBytes .boolean ≤ 8 by decide)) (by decide)) hc.1 hc.2 d (fun q cA H1 hK1 hP1 hD1 hS1 => ?_)
  · show arrV cA N (fun _ => .int (Int32.ofInt 0)) = arrV cA N (fun _ => .int (0 : Int32))
    rw [show Int32.ofInt 0 = (0 : Int32) from by decide]
  · have c1 : cA = cy 2 := Option.some.inj ((hK1.2 5 _ rfl).2.symm.trans (hK.2 2 _ rfl).2)
    subst c1
    exact kk q H1 locs hP1 hD1 hS1
theorem ek_newJ {x : Int} {N : Nat} (h : ek_Ok κ own cc nL Ts rm as) (d : decode cc pc = .ok (.newarray .long, 2)) (harr : Cond.arrayClass .long ∈ Ts) (hN : x = (N : Int) ∧ N ≤ 100) (hc : k + 1 ≤ rm.cells ∧ n + N ≤ rm.slots) (kk : ∀ q : Nat, ek_G κ (pc + 2) (.ref q :: st) (ws ++ [(q, .inl (ek_cy κ 1, N, .inr (.inl (fun _ => Int64.ofInt 0))))]) (k + 1) (n + N)) : ek_G κ pc (.int (Int32.ofInt x) :: st) ws k n := by
  obtain ⟨p, l, e, R, s, mid, args, below, meth, c, Q, D, cy, A, a⟩ := κ
  obtain ⟨hx, hb, hml, hown, hts, hR, hlk, hK, hA, hl, hE⟩ := h
  subst hR
  intro H locs hP hD hS
  obtain ⟨rfl, hN⟩ := hN
  have e1 : (Int32.ofInt (N : Int)).toInt = (N : Int) := en_to32 ⟨by omega, by omega⟩
  have e2 : (Int32.ofInt (N : Int)).toNatClampNeg = N := by rw [← Int32.toNat_toInt, e1]; omega
  have e3 : ¬ Int32.ofInt (N : Int) < 0 := fun z => by
    rw [Int32.lt_iff_toInt_lt, e1] at z
    have z0 : (0 : Int32).toInt = 0 := rfl
    omega
  refine va_newa (atype := .long) (a0 := (N, .inr (.inl (fun _ => Int64.ofInt 0)))) hx hb (hts _ harr) rfl hK hP hD hS hA (fun cA => ?_) e3 e2 (Nat.le_trans (Nat.mul_le_mul hN (show componentBytes .long ≤ 8 by decide)) (by decide)) hc.1 hc.2 d (fun q cA H1 hK1 hP1 hD1 hS1 => ?_)
  · show arrV cA N (fun _ => .long (Int64.ofInt 0)) = arrV cA N (fun _ => .long (0 : Int64))
    rw [show Int64.ofInt 0 = (0 : Int64) from by decide]
  · have c1 : cA = cy 1 := Option.some.inj ((hK1.2 5 _ rfl).2.symm.trans (hK.2 1 _ rfl).2)
    subst c1
    exact kk q H1 locs hP1 hD1 hS1
theorem ek_mnaI {x y : Int} {N K index : Nat} (h : ek_Ok κ own cc nL Ts rm as) (d : decode cc pc = .ok (.multianewarray index 2, 4)) (hcl : Cond.classLink own index ("[" ++ (FieldType.array .int).toString) ∈ Ts) (harr : Cond.arrayClass .int ∈ Ts) (hN : x = (N : Int) ∧ N ≤ 100) (hM : y = (K : Int) ∧ K ≤ 100) (hc : k + (1 + N) ≤ rm.cells ∧ n + (N + N * K) ≤ rm.slots) (kk : ∀ (q : Nat) (r : Nat → Nat), ek_G κ (pc + 4) (.ref q :: st) ((ws ++ [(q, .inl (ek_cy κ 3, N, .inr (.inr (.inr (.inr (fun i => if i < N then some (r i) else none))))))]) ++ ((List.range N).map r).map (fun a => (a, .inl (ek_cy κ 0, K, .inl (fun _ => Int32.ofInt 0))))) (k + 1 + N) (n + N + N * K)) : ek_G κ pc (.int (Int32.ofInt y) :: .int (Int32.ofInt x) :: st) ws k n := by
  obtain ⟨p, l, e, R, s, mid, args, below, meth, c, Q, D, cy, A, a⟩ := κ
  obtain ⟨hx, hb, hml, hown, hts, hR, hlk, hK, hA, hl, hE⟩ := h
  subst hR
  intro H locs hP hD hS
  obtain ⟨rfl, hN⟩ := hN
  obtain ⟨rfl, hM⟩ := hM
  have e1 : ∀ N : Nat, N ≤ 100 → (Int32.ofInt (N : Int)).toInt = (N : Int) := fun N hN => en_to32 ⟨by omega, by omega⟩
  have e2 : ∀ N : Nat, N ≤ 100 → (Int32.ofInt (N : Int)).toNatClampNeg = N := fun N hN => by rw [← Int32.toNat_toInt, e1 N hN]; omega
  have e3 : ∀ N : Nat, N ≤ 100 → ¬ Int32.ofInt (N : Int) < 0 := fun N hN z => by
    rw [Int32.lt_iff_toInt_lt, e1 N hN] at z
    have z0 : (0 : Int32).toInt = 0 := rfl
    omega
  have e4 : ws ++ va_pl [] (fun _ => (.inr (0, []) : va_E)) = ws := List.append_nil ws
  have hP0 : va_P D vwCl (ws ++ va_pl [] (fun _ => (.inr (0, []) : va_E))) H := by rw [e4]; exact hP
  have hD0 : va_D A (ws ++ va_pl [] (fun _ => (.inr (0, []) : va_E))) := by rw [e4]; exact hD
  refine va_mna (ty := .int) (cy := cy 0) (z := (K, .inl (fun _ => Int32.ofInt 0))) hx hb hown (hts _ hcl) hE.2 (hts _ harr) (hK.2 0 _ rfl).2 hK hP0 hD0 hS hA (e3 N hN) (e3 K hM) (e2 N hN) (e2 K hM) (by omega) (Nat.le_trans (Nat.mul_le_mul hM (show componentBytes .int ≤ 8 by decide)) (by decide)) (by omega) rfl rfl hc.1 hc.2 (fun c => ?_) d (fun q r cA H1 _ _ hK1 hP1 hD1 hS1 => ?_)
  · show ({ cls := c, slots := Array.replicate K (.int (0 : Int32)), vm := .none } : Cell) = arrV c K (fun _ => .int (Int32.ofInt 0))
    rw [arrV_new, show Int32.ofInt 0 = (0 : Int32) from by decide]
  · have c1 : cA = cy 3 := Option.some.inj ((hK1.2 5 _ rfl).2.symm.trans (hK.2 3 _ rfl).2)
    subst c1
    rw [← vr_rows (fun a _ z => by cases z)] at hP1 hD1
    exact kk q r H1 locs hP1 hD1 hS1
theorem ek_mnaJ {x y : Int} {N K index : Nat} (h : ek_Ok κ own cc nL Ts rm as) (d : decode cc pc = .ok (.multianewarray index 2, 4)) (hcl : Cond.classLink own index ("[" ++ (FieldType.array .long).toString) ∈ Ts) (harr : Cond.arrayClass .long ∈ Ts) (hN : x = (N : Int) ∧ N ≤ 100) (hM : y = (K : Int) ∧ K ≤ 100) (hc : k + (1 + N) ≤ rm.cells ∧ n + (N + N * K) ≤ rm.slots) (kk : ∀ (q : Nat) (r : Nat → Nat), ek_G κ (pc + 4) (.ref q :: st) ((ws ++ [(q, .inl (ek_cy κ 4, N, .inr (.inr (.inr (.inr (fun i => if i < N then some (r i) else none))))))]) ++ ((List.range N).map r).map (fun a => (a, .inl (ek_cy κ 1, K, .inr (.inl (fun _ => Int64.ofInt 0)))))) (k + 1 + N) (n + N + N * K)) : ek_G κ pc (.int (Int32.ofInt y) :: .int (Int32.ofInt x) :: st) ws k n := by
  obtain ⟨p, l, e, R, s, mid, args, below, meth, c, Q, D, cy, A, a⟩ := κ
  obtain ⟨hx, hb, hml, hown, hts, hR, hlk, hK, hA, hl, hE⟩ := h
  subst hR
  intro H locs hP hD hS
  obtain ⟨rfl, hN⟩ := hN
  obtain ⟨rfl, hM⟩ := hM
  have e1 : ∀ N : Nat, N ≤ 100 → (Int32.ofInt (N : Int)).toInt = (N : Int) := fun N hN => en_to32 ⟨by omega, by omega⟩
  have e2 : ∀ N : Nat, N ≤ 100 → (Int32.ofInt (N : Int)).toNatClampNeg = N := fun N hN => by rw [← Int32.toNat_toInt, e1 N hN]; omega
  have e3 : ∀ N : Nat, N ≤ 100 → ¬ Int32.ofInt (N : Int) < 0 := fun N hN z => by
    rw [Int32.lt_iff_toInt_lt, e1 N hN] at z
    have z0 : (0 : Int32).toInt = 0 := rfl
    omega
  have e4 : ws ++ va_pl [] (fun _ => (.inr (0, []) : va_E)) = ws := List.append_nil ws
  have hP0 : va_P D vwCl (ws ++ va_pl [] (fun _ => (.inr (0, []) : va_E))) H := by rw [e4]; exact hP
  have hD0 : va_D A (ws ++ va_pl [] (fun _ => (.inr (0, []) : va_E))) := by rw [e4]; exact hD
  refine va_mna (ty := .long) (cy := cy 1) (z := (K, .inr (.inl (fun _ => Int64.ofInt 0)))) hx hb hown (hts _ hcl) hE.1.2.2.2.1 (hts _ harr) (hK.2 1 _ rfl).2 hK hP0 hD0 hS hA (e3 N hN) (e3 K hM) (e2 N hN) (e2 K hM) (by omega) (Nat.le_trans (Nat.mul_le_mul hM (show componentBytes .long ≤ 8 by decide)) (by decide)) (by omega) rfl rfl hc.1 hc.2 (fun c => ?_) d (fun q r cA H1 _ _ hK1 hP1 hD1 hS1 => ?_)
  · show ({ cls := c, slots := Array.replicate K (.long (0 : Int64)), vm := .none } : Cell) = arrV c K (fun _ => .long (Int64.ofInt 0))
    rw [arrV_new, show Int64.ofInt 0 = (0 : Int64) from by decide]
  · have c1 : cA = cy 4 := Option.some.inj ((hK1.2 5 _ rfl).2.symm.trans (hK.2 4 _ rfl).2)
    subst c1
    rw [← vr_rows (fun a _ z => by cases z)] at hP1 hD1
    exact kk q r H1 locs hP1 hD1 hS1
/-- a new object, its fields as they come -/
theorem ek_new {ci N index : Nat} {C : String} {T : u_T} {ty : Nat → FieldType} {fs : List Value} (h : ek_Ok κ own cc nL Ts rm as) (d : decode cc pc = .ok (.new index, 3)) (hci : vwCl[ci]? = some (C, T, N)) (hw : ∀ w ∈ u_ws C T N, w ∈ Ts) (hty : ∀ k, k < N → parseFieldDescriptor (T k).2.2.1 = some (ty k)) (w1 : Cond.classLink own index C ∈ Ts) (w2 : Cond.instantiable C N ∈ Ts) (w3 : Cond.initialized C ∈ Ts) (hfs : ∀ j, j < N → defaultValue (ty j) = vp_V fs j) (hc : k + 1 ≤ rm.cells ∧ n + N ≤ rm.slots) (kk : ∀ q : Nat, ek_G κ (pc + 3) (.ref q :: st) (ws ++ [(q, .inr (ci, fs))]) (k + 1) (n + N)) : ek_G κ pc st ws k n := by
  obtain ⟨p, l, e, R, s, mid, args, below, meth, c, Q, D, cy, A, a⟩ := κ
  obtain ⟨hx, hb, hml, hown, hts, hR, hlk, hK, hA, hl, hE⟩ := h
  subst hR
  intro H locs hP hD hS
  exact va_new hx hb hts hw ty hty hown (hts _ w1) (hts _ w2) (hts _ w3) hK hP hD hS hA hci hfs hc.1 hc.2 d (fun q H1 hP1 hD1 hS1 => kk q H1 locs hP1 hD1 hS1)
/-- cells that are alike -/
def ek_e (e e' : va_E) : Prop := ∀ (D : va_G) (q : Nat) (H : Heap), va_at D vwCl (q, e) H → va_at D vwCl (q, e') H
theorem ek_er (e : va_E) : ek_e e e := fun _ _ _ h => h
theorem ek_eq {c : ClassId} {N : Nat} {f g : Nat → Option Nat} (h : ∀ i, i < N → f i = g i) : ek_e (.inl (c, N, .inr (.inr (.inr (.inr f))))) (.inl (c, N, .inr (.inr (.inr (.inr g))))) := by
  intro D q H hq
  have e : vp_cell c (N, .inr (.inr (.inr (.inr f)))) = vp_cell c (N, .inr (.inr (.inr (.inr g)))) := by
    show arrV c N (fun j => va_rf (f j)) = arrV c N (fun j => va_rf (g j))
    unfold arrV
    congr 1
    apply congrArg
    funext j
    show va_rf (f j.val) = va_rf (g j.val)
    rw [h j.val j.isLt]
  show H[q]? = some (vp_cell c (N, .inr (.inr (.inr (.inr g)))))
  rw [← e]
  exact hq
def ek_sim : va_W → va_W → Prop
  | [], [] => True
  | x :: t, y :: u => x.1 = y.1 ∧ ek_e x.2 y.2 ∧ ek_sim t u
  | _, _ => False
theorem ek_sim_get : ∀ (ws ws' : va_W), ek_sim ws ws' → ∀ (k : Nat) (y : Nat × va_E), ws'[k]? = some y → ∃ x, ws[k]? = some x ∧ x.1 = y.1 ∧ ek_e x.2 y.2
  | [], [], _, k, y, hk => by simp at hk
  | x :: t, y :: u, h, 0, z, hk => by
    simp at hk
    subst hk
    exact ⟨x, rfl, h.1, h.2.1⟩
  | x :: t, y :: u, h, k + 1, z, hk => by
    simp only [List.getElem?_cons_succ] at hk ⊢
    exact ek_sim_get t u h.2.2 k z hk
  | [], _ :: _, h, _, _, _ => h.elim
  | _ :: _, [], h, _, _, _ => h.elim
theorem ek_sim_rf : ∀ ws : va_W, ek_sim ws ws
  | [] => trivial
  | x :: t => ⟨rfl, ek_er _, ek_sim_rf t⟩
theorem ek_sim_P {ws ws' : va_W} (h : ek_sim ws ws') {D : va_G} {H : Heap} (hP : va_P D vwCl ws H) : va_P D vwCl ws' H := fun k y hk => by
  obtain ⟨x, h1, h2, h3⟩ := ek_sim_get ws ws' h k y hk
  have z := hP k x h1
  obtain ⟨xa, xe⟩ := x
  obtain ⟨ya, ye⟩ := y
  dsimp only at h2 h3
  subst h2
  exact h3 D _ H z
theorem ek_sim_D {ws ws' : va_W} (h : ek_sim ws ws') {A : Nat → Prop} (hD : va_D A ws) : va_D A ws' := by
  refine ⟨fun i j p q hi hj e => ?_, fun k q hk => ?_⟩
  · obtain ⟨x, h1, h2, -⟩ := ek_sim_get ws ws' h i p hi
    obtain ⟨y, g1, g2, -⟩ := ek_sim_get ws ws' h j q hj
    exact hD.1 i j x y h1 g1 (by rw [h2, g2]; exact e)
  · obtain ⟨x, h1, h2, -⟩ := ek_sim_get ws ws' h k q hk
    rw [← h2]
    exact hD.2 k x h1
theorem ek_conv {ws' : va_W} (hs : ek_sim ws ws') (kk : ek_G κ pc st ws' k n) : ek_G κ pc st ws k n := by
  obtain ⟨p, l, e, R, s, mid, args, below, meth, c, Q, D, cy, A, a⟩ := κ
  intro H locs hP hD hS
  exact kk H locs (ek_sim_P hs hP) (ek_sim_D hs hD) hS
/-- another order of the cells -/
theorem ek_perm {ws' : va_W} (g : Nat → Nat) (hg : ∀ (k : Nat) (q : Nat × va_E), ws'[k]? = some q → ws[g k]? = some q) (hi : ∀ i j : Nat, i < ws'.length → j < ws'.length → g i = g j → i = j) (kk : ek_G κ pc st ws' k n) : ek_G κ pc st ws k n := by
  obtain ⟨p, l, e, R, s, mid, args, below, meth, c, Q, D, cy, A, a⟩ := κ
  intro H locs hP hD hS
  exact kk H locs (hP.by g hg) (hD.by g hg hi) hS
end EK
/-- behind a call whose world stands last -/
theorem ek_join {A0 : Nat → Prop} {D : va_G} {W0 wc w1 : va_W} {H H1 : Heap} (hP : va_P D vwCl (W0 ++ wc) H) (hD : va_D A0 (W0 ++ wc)) (hk : ∀ q : Nat, q < H.size → ¬ va_A wc H.size q → H1[q]? = H[q]?) (hF : ∀ q, va_A wc H.size q → A0 q) (hP1 : va_P D vwCl w1 H1) (hD1 : va_D (va_A wc H.size) w1) : va_P D vwCl (W0 ++ w1) H1 ∧ va_D A0 (W0 ++ w1) := by
  have g0 : ∀ (k : Nat) (x : Nat × va_E), W0[k]? = some x → (W0 ++ wc)[k]? = some x ∧ k < W0.length := fun k x hx => by
    have hl := (List.getElem?_eq_some_iff.mp hx).1
    exact ⟨by rw [List.getElem?_append_left hl]; exact hx, hl⟩
  have apart : ∀ (k : Nat) (x : Nat × va_E), W0[k]? = some x → x.1 < H.size ∧ ¬ va_A wc H.size x.1 := by
    intro k x hx
    obtain ⟨h1, h2⟩ := g0 k x hx
    have hl := (hP k x h1).lt
    refine ⟨hl, fun z => ?_⟩
    rcases z with ⟨k2, e, z⟩ | z
    · have h3 : (W0 ++ wc)[W0.length + k2]? = some (x.1, e) := by
        rw [List.getElem?_append_right (by omega), show W0.length + k2 - W0.length = k2 by omega]
        exact z
      have := hD.1 k (W0.length + k2) x (x.1, e) h1 h3 rfl
      omega
    · omega
  refine ⟨va_P.app (fun k x hx => ?_) hP1, va_D.app ⟨fun i j p q hi hj e => hD.1 i j p q (g0 i p hi).1 (g0 j q hj).1 e, fun k q hk => hD.2 k q (g0 k q hk).1⟩ (hD1.weaken (fun k q _ h => hF q.1 h)) (fun i j x y hx hy hxy => ?_)⟩
  · obtain ⟨h1, h2⟩ := apart k x hx
    exact (hP k x (g0 k x hx).1).kept (hk x.1 h1 h2)
  · exact (apart i x hx).2 (by rw [hxy]; exact hD1.2 j y hy)
section EK2
variable {κ : ek_C} {own : String} {cc : ByteArray} {nL : Nat} {Ts : List Cond} {rm : Room} {pc : Nat} {as : List (Nat × Value)} {st : List Value} {ws : va_W} {k n : Nat}
/-- a constructor's call -/
theorem ek_call {y : MethodName} {C : String} {bytes : ByteArray} {maxL : Nat} {ws' : List Cond} {np index q ci : Nat} {fs As rest : List Value} {rmc : Room} {P : va_W → Prop} (h : ek_Ok κ own cc nL Ts rm as) (hM : ek_Met (ek_l κ) (ek_D κ) (ek_cy κ) y ws' rmc q ci fs As P) (hy : en_MY y C bytes maxL none ws' np) (g : GoodIn Ts ws') (hnm : y.name = "<init>") (w1 : Cond.initialized C ∈ Ts) (w2 : Cond.methodLink own index y ∈ Ts) (w3 : Cond.instanceMethod y ∈ Ts)
    (hst : st = As.reverse ++ .ref q :: rest) (hnp : As.length = np) (hR : rmc.frames + 1 ≤ rm.frames ∧ 8 + (maxL + 11) + rmc.locals ≤ rm.locals) (hcs : k + rmc.cells ≤ rm.cells ∧ n + rmc.slots ≤ rm.slots) (hcat : (rest.map fun v => v.category).sum ≤ 8) (d : decode cc pc = .ok (.invokespecial index, 3))
    (kk : ∀ W1 : va_W, P W1 → ek_G κ (pc + 3) rest (ws ++ W1) (k + rmc.cells) (n + rmc.slots)) : ek_G κ pc st (ws ++ [(q, .inr (ci, fs))]) k n := by
  subst hst
  obtain ⟨p, l, e, R, s, mid, args, below, meth, c, Q, D, cy, A, a⟩ := κ
  obtain ⟨hx, hb, hml, hown, hts, hR9, hlk, hK, hA, hl, hE⟩ := h
  subst hR9
  intro H locs hP hD hS
  obtain ⟨⟨ws9, hws⟩, h1, h2, h3, h4, h5⟩ := hy
  have hlast : (ws ++ [(q, (.inr (ci, fs) : va_E))])[ws.length]? = some (q, .inr (ci, fs)) := by simp
  have hPc : va_P D vwCl [(q, .inr (ci, fs))] H := fun k9 x hx9 => by
    have h0 : k9 < 1 := (List.getElem?_eq_some_iff.mp hx9).1
    rw [show k9 = 0 by omega] at hx9
    cases hx9
    exact hP _ _ hlast
  have hFc : ∀ x, va_A [(q, (.inr (ci, fs) : va_E))] H.size x → A x := fun x hx9 => by
    rcases hx9 with ⟨k9, e9, hx9⟩ | hx9
    · have h0 : k9 < 1 := (List.getElem?_eq_some_iff.mp hx9).1
      rw [show k9 = 0 by omega] at hx9
      cases hx9
      exact hD.2 _ _ hlast
    · exact hA _ (Nat.le_trans hS.1 hx9)
  refine va_callv (va_runI (As := As) (rest := rest) ⟨hx, hb, hml, hown, hts⟩ (hM H.size) (cwI np hts g hws rfl rfl (by rw [h1]; exact hts _ w1) (hts _ w2) (hts _ w3) hnm ⟨h2, h3, h4⟩ hR) ⟨ek_blind, fun U hU hW => ⟨rfl, by rw [hU], by rw [hU]; exact hPc, va_K.moved hW.alike hK, hE.warm hW⟩⟩ rfl hnp hl.1 rfl (lv_room hcat) d hcs) hS (fun x _ hx9 => hFc x hx9) hFc (fun W1 t H1 locs1 ht hvm hw hB hz1 hk1 hS1 => ?_)
  obtain ⟨b1, b2, b3⟩ := hB
  rw [ht] at b1
  obtain ⟨j1, j2⟩ := ek_join hP hD hk1 hFc b1 b2
  exact kk W1 hw H1 locs1 j1 j2 hS1
theorem ek_mmin {x y : Int} {index : Nat} (h : ek_Ok κ own cc nL Ts rm as) (w : en_J Ts own index Lib.Math.min.name Lib.Math.min.code 2 (some .int)) (hc : k ≤ rm.cells ∧ n ≤ rm.slots) (hfr : 1 ≤ rm.frames) (hlo : (st.map fun v => v.category).sum + 13 ≤ rm.locals) (d : decode cc pc = .ok (.invokestatic index, 3)) (hrx : en_i32 x) (hry : en_i32 y) (kk : ek_G κ (pc + 3) (.int (Int32.ofInt (min x y)) :: st) ws k n) : ek_G κ pc (.int (Int32.ofInt y) :: .int (Int32.ofInt x) :: st) ws k n := by
  obtain ⟨p, l, e, R, s, mid, args, below, meth, c, Q, D, cy, A, a⟩ := κ
  obtain ⟨hx, hb, hml, hown, hts, hR, hlk, hK, hA, hl, hE⟩ := h
  subst hR
  intro H locs hP hD hS
  have q := kk H locs hP hD hS
  refine va_mmin hx hb (hml.trans hl.1.symm) hown (hts _ w.1) (hts _ w.2.1) (hts _ w.2.2.1) (hts _ w.2.2.2) hfr hlo hc.1 hc.2 d ?_
  have e9 : (if Int32.ofInt y < Int32.ofInt x then Int32.ofInt y else Int32.ofInt x) = Int32.ofInt (min x y) := by
    simp only [en_lt32 hry hrx]
    split
    · rw [Int.min_eq_right (by omega)]
    · rw [Int.min_eq_left (by omega)]
  rw [e9]
  exact q
theorem ek_mmax {x y : Int} {index : Nat} (h : ek_Ok κ own cc nL Ts rm as) (w : en_J Ts own index Lib.Math.max.name Lib.Math.max.code 2 (some .int)) (hc : k ≤ rm.cells ∧ n ≤ rm.slots) (hfr : 1 ≤ rm.frames) (hlo : (st.map fun v => v.category).sum + 13 ≤ rm.locals) (d : decode cc pc = .ok (.invokestatic index, 3)) (hrx : en_i32 x) (hry : en_i32 y) (kk : ek_G κ (pc + 3) (.int (Int32.ofInt (max x y)) :: st) ws k n) : ek_G κ pc (.int (Int32.ofInt y) :: .int (Int32.ofInt x) :: st) ws k n := by
  obtain ⟨p, l, e, R, s, mid, args, below, meth, c, Q, D, cy, A, a⟩ := κ
  obtain ⟨hx, hb, hml, hown, hts, hR, hlk, hK, hA, hl, hE⟩ := h
  subst hR
  intro H locs hP hD hS
  have q := kk H locs hP hD hS
  refine va_mmax hx hb (hml.trans hl.1.symm) hown (hts _ w.1) (hts _ w.2.1) (hts _ w.2.2.1) (hts _ w.2.2.2) hfr hlo hc.1 hc.2 d ?_
  have e9 : (if Int32.ofInt x < Int32.ofInt y then Int32.ofInt y else Int32.ofInt x) = Int32.ofInt (max x y) := by
    simp only [en_lt32 hrx hry]
    split
    · rw [Int.max_eq_right (by omega)]
    · rw [Int.max_eq_left (by omega)]
  rw [e9]
  exact q
end EK2
