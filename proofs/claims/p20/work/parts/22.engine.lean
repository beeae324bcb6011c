/-! ENGINE 3: contracts and calls (methods that return) -/
def en_A (ad : Int → Nat) (PL : List Int) (sz : Nat) : Nat → Prop := fun q => (∃ k, k ∈ PL ∧ q = ad k) ∨ sz ≤ q
def en_Wok (w : en_W) : Prop := w.2.2.2.Nodup ∧ ∀ i j, i ∈ w.2.2.2 → j ∈ w.2.2.2 → w.2.2.1 i = w.2.2.1 j → i = j
def en_Has (w : en_W) (lo hi : Int) : Prop := ∀ k, lo ≤ k → k < hi → k ∈ w.2.2.2
def en_Pc (w : en_W) (As : List en_V) (m : en_M) (sz : Nat) : Array Value → State → Prop := va_Pc (As.map (en_tv w.2.2.1)) (fun U => U.heap.size = sz ∧ va_P w.1 vwCl (en_ws w.2.1 w.2.2.1 w.2.2.2 m) U.heap ∧ va_K w.1 vwCl (en_ty w.2.1) U ∧ en_E U)
def en_Qc (w : en_W) (post : Option en_V → en_M → Prop) (sz : Nat) : Array Value → State → Outcome → State → Prop := fun _ st oc t => (∃ (r : Option en_V) (m' : en_M), oc = .returned (r.map (en_tv w.2.2.1)) ∧ post r m' ∧ va_P w.1 vwCl (en_ws w.2.1 w.2.2.1 w.2.2.2 m') t.heap ∧ va_K w.1 vwCl (en_ty w.2.1) t) ∧ va_F (en_A w.2.2.1 w.2.2.2 sz) st t
/-- method y, called with As over the memory m, returns r and leaves m' with 'post r m'' -/
def en_Met (l : Launch) (w : en_W) (y : MethodName) (ws : List Cond) (rm : Room) (As : List en_V) (m : en_M) (post : Option en_V → en_M → Prop) : Prop :=
  ∀ sz : Nat, Met l y ws rm (en_Pc w As m sz) (en_Qc w post sz) rm.cells rm.slots (en_A w.2.2.1 w.2.2.2 sz)
def en_fin (κ : en_C) (rm : Room) (ret : Option FieldType) (post : Option en_V → en_M → Prop) : Prop := match κ with
  | (p, l, e, R, s, mid, args, below, meth, c, Q, D, cy, ad, PL, A) => ((Q = MQ below (en_Qc (D, cy, ad, PL) post s.heap.size) args s rm.cells rm.slots (en_A ad PL s.heap.size)) ∨ ∃ XC, Q = vx_MQ below (en_Qc (D, cy, ad, PL) post s.heap.size) XC args s rm.cells rm.slots (en_A ad PL s.heap.size)) ∧ A = en_A ad PL s.heap.size ∧ meth.sig.returnType = ret
/-- a method's facts: its words begin with its code; its class; how many parameters -/
def en_MY (y : MethodName) (C : String) (cc : ByteArray) (nL : Nat) (ret : Option FieldType) (ws : List Cond) (np : Nat) : Prop :=
  (∃ ws', ws = .code y cc nL ret :: ws') ∧ y.cls = C ∧ y.cls ≠ "java/lang/invoke/MethodHandle" ∧ y.cls ≠ "java/lang/invoke/VarHandle" ∧ (parseMethodDescriptor y.desc).map (fun d => d.parameters.length) = some np ∧ plainName y.cls = true
/-- arguments as locals -/
def en_ea : List en_V → List (Option en_V)
  | [] => []
  | .inr (.inl z) :: t => some (en_L z) :: none :: en_ea t
  | .inr (.inr z) :: t => some (en_R z) :: en_ea t
  | .inl z :: t => some (en_I z) :: en_ea t
def en_ent (nL : Nat) (As : List en_V) : List (Option en_V) := en_ea As ++ List.replicate (nL - (en_ea As).length) none
theorem en_ea_args (ad : Int → Nat) : ∀ (As : List en_V) (b i : Nat) (v : en_V), (en_ea As)[i]? = some (some v) → (b + i, en_tv ad v) ∈ lv_args b (As.map (en_tv ad))
  | [], b, i, v, h => by simp [en_ea] at h
  | .inr (.inl z) :: t, b, i, v, h => by
    match i, h with
    | 0, h =>
      simp [en_ea] at h
      subst h
      simp [lv_args, en_tv]
    | 1, h => simp [en_ea] at h
    | i + 2, h =>
      simp only [en_ea, List.getElem?_cons_succ] at h
      have q := en_ea_args ad t (b + 2) i v h
      simp only [List.map_cons, lv_args]
      refine List.mem_cons_of_mem _ ?_
      rw [show b + (i + 2) = b + 2 + i by omega]
      exact q
  | .inr (.inr z) :: t, b, i, v, h => by
    match i, h with
    | 0, h =>
      simp [en_ea] at h
      subst h
      simp [lv_args, en_tv]
    | i + 1, h =>
      simp only [en_ea, List.getElem?_cons_succ] at h
      have q := en_ea_args ad t (b + 1) i v h
      simp only [List.map_cons, lv_args]
      refine List.mem_cons_of_mem _ ?_
      rw [show b + (i + 1) = b + 1 + i by omega]
      exact q
  | .inl z :: t, b, i, v, h => by
    match i, h with
    | 0, h =>
      simp [en_ea] at h
      subst h
      simp [lv_args, en_tv]
    | i + 1, h =>
      simp only [en_ea, List.getElem?_cons_succ] at h
      have q := en_ea_args ad t (b + 1) i v h
      simp only [List.map_cons, lv_args]
      refine List.mem_cons_of_mem _ ?_
      rw [show b + (i + 1) = b + 1 + i by omega]
      exact q
theorem en_ea_len (ad : Int → Nat) : ∀ As : List en_V, (lg_sl (As.map (en_tv ad))).length = (en_ea As).length
  | [] => rfl
  | .inr (.inl z) :: t => by
    have q := en_ea_len ad t
    simp only [lg_sl, List.map_cons, List.flatMap_cons, en_tv, Value.category, if_pos, List.length_append, en_ea, List.length_cons] at q ⊢
    simp at q ⊢
    omega
  | .inr (.inr z) :: t => by
    have q := en_ea_len ad t
    simp only [lg_sl, List.map_cons, List.flatMap_cons, en_tv, Value.category, List.length_append, en_ea, List.length_cons] at q ⊢
    simp at q ⊢
    omega
  | .inl z :: t => by
    have q := en_ea_len ad t
    simp only [lg_sl, List.map_cons, List.flatMap_cons, en_tv, Value.category, List.length_append, en_ea, List.length_cons] at q ⊢
    simp at q ⊢
    omega
theorem en_entry (ad : Int → Nat) (As : List en_V) {nL : Nat} (h : (en_ea As).length ≤ nL) : en_lm ad nL (en_ent nL As) ((lg_sl (As.map (en_tv ad)) ++ List.replicate (nL - (lg_sl (As.map (en_tv ad))).length) Slot.unset).toArray) := by
  have q := lv_entry (As.map (en_tv ad)) (n := nL) (by rw [en_ea_len]; exact h)
  refine ⟨q.1, q.2.1, fun i v hv => ?_⟩
  unfold en_ent at hv
  by_cases hi : i < (en_ea As).length
  · rw [List.getElem?_append_left hi] at hv
    have q2 := en_ea_args ad As 0 i v hv
    rw [Nat.zero_add] at q2
    exact q.2.2 (i, en_tv ad v) q2
  · rw [List.getElem?_append_right (by omega)] at hv
    have q3 := List.mem_of_getElem? hv
    rw [List.mem_replicate] at q3
    cases q3.2
/-- a contract out of a walk of the method's body -/
theorem en_met {l : Launch} {w : en_W} {y : MethodName} {C : String} {cc : ByteArray} {nL : Nat} {ret : Option FieldType} {ws : List Cond} {np : Nat} {rm : Room} {As : List en_V} {m : en_M} {post : Option en_V → en_M → Prop} (hy : en_MY y C cc nL ret ws np) (hw : en_Wok w) (hn : (en_ea As).length ≤ nL)
    (body : ∀ κ : en_C, en_l κ = l → en_w κ = w → en_Ok κ C cc nL ws rm → en_fin κ rm ret post → en_G κ 0 (en_ent nL As) [] m 0 0) : en_Met l w y ws rm As m post := by
  intro sz
  obtain ⟨⟨ws', hws⟩, hC, -, -, -, hpl⟩ := hy
  refine Met.ofW (cc := cc) (maxL := nL) (ret := ret) hpl hws ?_
  intro p e s mid args below meth c s₁ B hml hv
  obtain ⟨rfl, hsz, hP, hK, hE⟩ := hv
  obtain ⟨D, cy, ad, PL⟩ := w
  have hts := atoms_spec (ws := ws) B.pre
  have hown : s.vm.findClass C = some mid.cls := by rw [← hC]; exact findClass_of_methodNamed B.named
  subst hsz
  have G := body (p, l, e, (headSpec ws rm).room, s, mid, ((As.map (en_tv ad)).toArray), below, meth, c, MQ below (en_Qc (D, cy, ad, PL) post s.heap.size) ((As.map (en_tv ad)).toArray) s rm.cells rm.slots (en_A ad PL s.heap.size), D, cy, ad, PL, en_A ad PL s.heap.size) rfl rfl
    ⟨B.exec, B.bytes, hml, hown, hts, rfl, B.notSynchronized, hK, hw.1, hw.2, fun i hi => Or.inl ⟨i, hi, rfl⟩, fun q hq => Or.inr hq, hE⟩ ⟨Or.inl rfl, rfl, B.returns⟩
  have q := G s.heap [] ((lg_sl (As.map (en_tv ad)) ++ List.replicate (nL - (lg_sl (As.map (en_tv ad))).length) Slot.unset).toArray) (by rw [hml]; exact en_entry ad As hn) hP va_S.rf
  rw [lg_entry_eq]
  exact q
section ENC
variable {κ : en_C} {own : String} {cc : ByteArray} {nL : Nat} {Ts : List Cond} {rm : Room} {pc : Nat} {ls : List (Option en_V)} {st : List en_V} {m : en_M} {k n : Nat} {post : Option en_V → en_M → Prop}
theorem en_iret {x : Int} (h : en_Ok κ own cc nL Ts rm) (hf : en_fin κ rm (some .int) post) (d : decode cc pc = .ok (.ireturn, 1)) (hc : k ≤ rm.cells ∧ n ≤ rm.slots) (hp : post (some (en_I x)) m) : en_G κ pc ls [en_I x] m k n := by
  obtain ⟨p, l, e, R, s, mid, args, below, meth, c, Q, D, cy, ad, PL, A⟩ := κ
  obtain ⟨hx, hb, hml, hown, hts, hR, hlk, hK, hn, hi, hA, hA2, hE⟩ := h
  intro H locs a hl hP hS
  obtain ⟨hQ, hAe, hr⟩ := hf
  refine W.widen hc.1 hc.2 ?_
  have q : W p l e R s mid args below meth c H locs rm.cells rm.slots (MQ below (en_Qc (D, cy, ad, PL) post s.heap.size) args s rm.cells rm.slots (en_A ad PL s.heap.size)) (F0 mid pc a [.int (Int32.ofInt x)]) :=
    W.iret (v := Int32.ofInt x) hx hb hr (fun t ht hW => ⟨⟨some (en_I x), m, rfl, hp, by rw [ht]; exact hP, va_K.moved hW.alike hK⟩, by rw [← hAe]; exact hS.F ht⟩) (by rw [← hAe]; exact hS.2.2) d hlk
  rcases hQ with rfl | ⟨XC, rfl⟩
  · exact q
  · exact vx_ret q
theorem en_zret {x : Int} (h : en_Ok κ own cc nL Ts rm) (hf : en_fin κ rm (some .boolean) post) (d : decode cc pc = .ok (.ireturn, 1)) (hc : k ≤ rm.cells ∧ n ≤ rm.slots) (hx9 : x = 0 ∨ x = 1) (hp : post (some (en_I x)) m) : en_G κ pc ls [en_I x] m k n := by
  obtain ⟨p, l, e, R, s, mid, args, below, meth, c, Q, D, cy, ad, PL, A⟩ := κ
  obtain ⟨hx, hb, hml, hown, hts, hR, hlk, hK, hn, hi, hA, hA2, hE⟩ := h
  intro H locs a hl hP hS
  obtain ⟨hQ, hAe, hr⟩ := hf
  refine W.widen hc.1 hc.2 ?_
  have hnar : narrow .boolean (.int (Int32.ofInt x)) = .int (Int32.ofInt x) := by
    rcases hx9 with rfl | rfl <;> decide
  have q : W p l e R s mid args below meth c H locs rm.cells rm.slots (MQ below (en_Qc (D, cy, ad, PL) post s.heap.size) args s rm.cells rm.slots (en_A ad PL s.heap.size)) (F0 mid pc a [.int (Int32.ofInt x)]) :=
    W.zret (v := Int32.ofInt x) hx hb hr hnar (fun t ht hW => ⟨⟨some (en_I x), m, rfl, hp, by rw [ht]; exact hP, va_K.moved hW.alike hK⟩, by rw [← hAe]; exact hS.F ht⟩) (by rw [← hAe]; exact hS.2.2) d hlk
  rcases hQ with rfl | ⟨XC, rfl⟩
  · exact q
  · exact vx_ret q
theorem en_lret {x : Int} (h : en_Ok κ own cc nL Ts rm) (hf : en_fin κ rm (some .long) post) (d : decode cc pc = .ok (.lreturn, 1)) (hc : k ≤ rm.cells ∧ n ≤ rm.slots) (hp : post (some (en_L x)) m) : en_G κ pc ls [en_L x] m k n := by
  obtain ⟨p, l, e, R, s, mid, args, below, meth, c, Q, D, cy, ad, PL, A⟩ := κ
  obtain ⟨hx, hb, hml, hown, hts, hR, hlk, hK, hn, hi, hA, hA2, hE⟩ := h
  intro H locs a hl hP hS
  obtain ⟨hQ, hAe, hr⟩ := hf
  refine W.widen hc.1 hc.2 ?_
  have q : W p l e R s mid args below meth c H locs rm.cells rm.slots (MQ below (en_Qc (D, cy, ad, PL) post s.heap.size) args s rm.cells rm.slots (en_A ad PL s.heap.size)) (F0 mid pc a [.long (Int64.ofInt x)]) :=
    W.lret (v := Int64.ofInt x) hx hb hr (fun t ht hW => ⟨⟨some (en_L x), m, rfl, hp, by rw [ht]; exact hP, va_K.moved hW.alike hK⟩, by rw [← hAe]; exact hS.F ht⟩) (by rw [← hAe]; exact hS.2.2) d hlk
  rcases hQ with rfl | ⟨XC, rfl⟩
  · exact q
  · exact vx_ret q
theorem en_vret (h : en_Ok κ own cc nL Ts rm) (hf : en_fin κ rm none post) (d : decode cc pc = .ok (.return_, 1)) (hc : k ≤ rm.cells ∧ n ≤ rm.slots) (hp : post none m) : en_G κ pc ls [] m k n := by
  obtain ⟨p, l, e, R, s, mid, args, below, meth, c, Q, D, cy, ad, PL, A⟩ := κ
  obtain ⟨hx, hb, hml, hown, hts, hR, hlk, hK, hn, hi, hA, hA2, hE⟩ := h
  intro H locs a hl hP hS
  obtain ⟨hQ, hAe, hr⟩ := hf
  refine W.widen hc.1 hc.2 ?_
  have q : W p l e R s mid args below meth c H locs rm.cells rm.slots (MQ below (en_Qc (D, cy, ad, PL) post s.heap.size) args s rm.cells rm.slots (en_A ad PL s.heap.size)) (F0 mid pc a []) :=
    W.vret hx hb hr (fun t ht hW => ⟨⟨none, m, rfl, hp, by rw [ht]; exact hP, va_K.moved hW.alike hK⟩, by rw [← hAe]; exact hS.F ht⟩) (by rw [← hAe]; exact hS.2.2) d hlk
  rcases hQ with rfl | ⟨XC, rfl⟩
  · exact q
  · exact vx_ret q
def en_psh : Option en_V → List en_V → List en_V
  | none, l => l
  | some v, l => v :: l
/-- behind a call that came back -/
theorem en_go {p : Program} {l : Launch} {e : Env} {R : Room} {s : State} {mid : MethodId} {args : Array Value} {below : List Frame} {meth : Method} {c : Code} {Q : State → Prop} {D : va_G} {cy : Nat → ClassId} {ad : Int → Nat} {PL : List Int} {A : Nat → Prop} {H : Heap} {locs : List Loc} {a : Array Slot} {st0 : List Value} {rest : List en_V} {av : Array Value} {mc ms : Nat} {post' : Option en_V → en_M → Prop}
    (hr : va_Run p l e R s mid args below meth c H locs k n mc ms (F0 mid pc a st0) (rest.map (en_tv ad)) (en_Qc (D, cy, ad, PL) post' H.size av) (en_A ad PL H.size)) (hS : va_S A s.heap H locs) (hA : ∀ i, i ∈ PL → A (ad i)) (hA2 : ∀ q, s.heap.size ≤ q → A q)
    (kk : ∀ (r : Option en_V) (m' : en_M) (H1 : Heap) (locs1 : List Loc), post' r m' → va_P D vwCl (en_ws cy ad PL m') H1 → va_S A s.heap H1 locs1 → W p l e R s mid args below meth c H1 locs1 (k + mc) (n + ms) Q (F0 mid (pc + 3) a ((en_psh r rest).map (en_tv ad)))) : W p l e R s mid args below meth c H locs k n Q (F0 mid pc a st0) := by
  intro T hT X
  obtain ⟨v, st₀, t, T', L, h0, X', hL, e1, e2, ⟨⟨r, m', hv, hp, hP1, hK1⟩, hz, hk⟩, st⟩ := hr T hT X
  cases hv
  rw [h0] at hz hk
  have hfA : ∀ q, en_A ad PL H.size q → A q := fun q hq => by
    rcases hq with ⟨i, hi, rfl⟩ | hq
    · exact hA i hi
    · exact hA2 q (Nat.le_trans hS.1 hq)
  obtain ⟨t2, a1, b1⟩ := kk r m' T'.heap (locs ++ L) hp (by rw [e1]; exact hP1)
    ⟨Nat.le_trans hS.1 (by rw [e1]; exact hz), fun q h1 h2 => by rw [e1, hk q (Nat.lt_of_lt_of_le h1 hS.1) (fun z => h2 (hfA q z))]; exact hS.2.1 q h1 h2, fun q hq => by
      rcases List.mem_append.mp hq with h | h
      · exact hS.2.2 q h
      · exact hfA _ (hL q h)⟩ T' rfl X'
  refine ⟨t2, st t2 ?_, b1⟩
  have e3 : (en_psh r rest).map (en_tv ad) = (r.map (en_tv ad)).toList ++ rest.map (en_tv ad) := by cases r <;> simp [en_psh]
  rw [e3] at a1
  exact a1
theorem en_blind {w : en_W} {As : List en_V} {m : en_M} {sz : Nat} : FrameBlind (en_Pc w As m sz) := fun a U g mk q => by
  obtain ⟨q0, q1, q2, q3, q4⟩ := q
  exact ⟨q0, q1, q2, va_K.moved (u := U) (U := U.calling g mk a) (Vm.Alike.refl U.vm) q3, en_E.same rfl q4⟩
theorem en_callV {y : MethodName} {C : String} {bytes : ByteArray} {maxL : Nat} {ret : Option FieldType} {ws : List Cond} {np index : Nat} {rmc : Room} {b : Int} {As rest : List en_V} {post' : Option en_V → en_M → Prop} {ci : Nat} {fl : List (Nat × Int)} {T : u_T} {N : Nat} (h : en_Ok κ own cc nL Ts rm) (hM : en_Met (en_l κ) (en_w κ) y ws rmc (en_R b :: As) m post') (hy : en_MY y C bytes maxL ret ws np) (g : GoodIn Ts (wsV own index C y ws))
    (hin : en_in κ b) (hly : en_ly b = .inr (ci, fl)) (hci : vwCl[ci]? = some (C, T, N)) (hst : st = As.reverse ++ en_R b :: rest) (hnp : As.length = np) (hR : rmc.frames + 1 ≤ rm.frames ∧ 8 + (maxL + 11) + rmc.locals ≤ rm.locals) (hcs : k + rmc.cells ≤ rm.cells ∧ n + rmc.slots ≤ rm.slots) (hcat : (rest.map fun v => (en_tv (fun _ => 0) v).category).sum ≤ 8) (d : decode cc pc = .ok (.invokevirtual index, 3))
    (kk : ∀ (r : Option en_V) (m' : en_M), post' r m' → en_G κ (pc + 3) ls (en_psh r rest) m' (k + rmc.cells) (n + rmc.slots)) : en_G κ pc ls st m k n := by
  subst hst
  obtain ⟨p, l, e, R, s, mid, args, below, meth, c, Q, D, cy, ad, PL, A⟩ := κ
  obtain ⟨hx, hb, hml, hown, hts, hR9, hlk, hK, hn, hi, hA, hA2, hE⟩ := h
  subst hR9
  intro H locs a hl hP hS
  obtain ⟨⟨ws', hws⟩, h1, h2, h3, h4, h5⟩ := hy
  obtain ⟨q0, hq0, hg⟩ := en_ws_get (cy := cy) (ad := ad) (m := m) (show b ∈ PL from hin)
  rw [en_ctO hly] at hg
  have hcat' : ((rest.map (en_tv ad)).map fun v => v.category).sum ≤ 8 := by
    have e1 : (rest.map (en_tv ad)).map (fun v => v.category) = rest.map fun v => (en_tv (fun _ => 0) v).category := by
      rw [List.map_map]
      apply List.map_congr_left
      intro v _
      rcases v with z | z | z <;> rfl
    rw [e1]
    exact hcat
  refine en_go (rest := rest) (va_runV (As := As.map (en_tv ad)) (rest := rest.map (en_tv ad)) ⟨hx, hb, hml, hown, hts⟩ (hM H.size) (cwV np hts g hws rfl rfl ⟨h1, h2, h3, h4⟩ hR) ⟨en_blind, va_recv hK hP hci hg, fun U hU hW => ⟨rfl, by rw [hU], by rw [hU]; exact hP, va_K.moved hW.alike hK, en_E.warm hW hE⟩⟩ rfl (by rw [List.length_map]; exact hnp) (hl.1.trans hml) ?_ (lv_room hcat') d hcs) hS hA hA2 (fun r m' H1 locs1 hp hP1 hS1 => kk r m' hp H1 locs1 a hl hP1 hS1)
  show ((As.reverse ++ en_R b :: rest).map (en_tv ad)) = _
  rw [List.map_append, List.map_reverse]
  rfl
theorem en_callS {y : MethodName} {C : String} {bytes : ByteArray} {maxL : Nat} {ret : Option FieldType} {ws : List Cond} {np index : Nat} {rmc : Room} {As rest : List en_V} {post' : Option en_V → en_M → Prop} (h : en_Ok κ own cc nL Ts rm) (hM : en_Met (en_l κ) (en_w κ) y ws rmc As m post') (hy : en_MY y C bytes maxL ret ws np) (g : GoodIn Ts (va_wsS own index y ws))
    (hst : st = As.reverse ++ rest) (hnp : As.length = np) (hR : rmc.frames + 1 ≤ rm.frames ∧ 8 + (maxL + 11) + rmc.locals ≤ rm.locals) (hcs : k + rmc.cells ≤ rm.cells ∧ n + rmc.slots ≤ rm.slots) (hcat : (rest.map fun v => (en_tv (fun _ => 0) v).category).sum ≤ 8) (d : decode cc pc = .ok (.invokestatic index, 3))
    (kk : ∀ (r : Option en_V) (m' : en_M), post' r m' → en_G κ (pc + 3) ls (en_psh r rest) m' (k + rmc.cells) (n + rmc.slots)) : en_G κ pc ls st m k n := by
  subst hst
  obtain ⟨p, l, e, R, s, mid, args, below, meth, c, Q, D, cy, ad, PL, A⟩ := κ
  obtain ⟨hx, hb, hml, hown, hts, hR9, hlk, hK, hn, hi, hA, hA2, hE⟩ := h
  subst hR9
  intro H locs a hl hP hS
  obtain ⟨⟨ws', hws⟩, h1, h2, h3, h4, h5⟩ := hy
  have hcat' : ((rest.map (en_tv ad)).map fun v => v.category).sum ≤ 8 := by
    have e1 : (rest.map (en_tv ad)).map (fun v => v.category) = rest.map fun v => (en_tv (fun _ => 0) v).category := by
      rw [List.map_map]
      apply List.map_congr_left
      intro v _
      rcases v with z | z | z <;> rfl
    rw [e1]
    exact hcat
  refine en_go (rest := rest) (va_runS (As := As.map (en_tv ad)) (rest := rest.map (en_tv ad)) ⟨hx, hb, hml, hown, hts⟩ (hM H.size) (va_cwS np hts g hws rfl rfl ⟨h2, h3, h4⟩ hR) ⟨en_blind, fun U hU hW => ⟨rfl, by rw [hU], by rw [hU]; exact hP, va_K.moved hW.alike hK, en_E.warm hW hE⟩⟩ rfl (by rw [List.length_map]; exact hnp) (hl.1.trans hml) ?_ (lv_room hcat') d hcs) hS hA hA2 (fun r m' H1 locs1 hp hP1 hS1 => kk r m' hp H1 locs1 a hl hP1 hS1)
  show ((As.reverse ++ rest).map (en_tv ad)) = _
  rw [List.map_append, List.map_reverse]
end ENC
