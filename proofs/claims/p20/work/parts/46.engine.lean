/-! ENGINE 6: methods that may throw -/
def en_X (A : Nat → Prop) (U : State) (H : Heap) : Prop := vx_Zq Bundle.tN "UNASSIGNED_STACK" Bundle.steD A U H ∧ vx_Zq Bundle.tN "SUPPRESSED_SENTINEL" Bundle.listD A U H
def en_PcX (w : en_W) (As : List en_V) (m : en_M) (sz : Nat) : Array Value → State → Prop := va_Pc (As.map (en_tv w.2.2.1)) (fun U => U.heap.size = sz ∧ va_P w.1 vwCl (en_ws w.2.1 w.2.2.1 w.2.2.2 m) U.heap ∧ va_K w.1 vwCl (en_ty w.2.1) U ∧ en_E U ∧ en_X (en_A w.2.2.1 w.2.2.2 sz) U U.heap)
def en_XC (w : en_W) (postX : String → en_M → Prop) (sz : Nat) : String → State → State → Prop := fun E st t => (∃ m' : en_M, postX E m' ∧ va_P w.1 vwCl (en_ws w.2.1 w.2.2.1 w.2.2.2 m') t.heap ∧ va_K w.1 vwCl (en_ty w.2.1) t) ∧ va_F (en_A w.2.2.1 w.2.2.2 sz) st t
def en_MetX (l : Launch) (w : en_W) (y : MethodName) (ws : List Cond) (rm : Room) (As : List en_V) (m : en_M) (post : Option en_V → en_M → Prop) (postX : String → en_M → Prop) : Prop :=
  ∀ sz : Nat, vx_Met l y ws rm (en_PcX w As m sz) (en_Qc w post sz) (en_XC w postX sz) rm.cells rm.slots (en_A w.2.2.1 w.2.2.2 sz)
/-- a method that catches what it calls throws -/
def en_MetS (l : Launch) (w : en_W) (y : MethodName) (ws : List Cond) (rm : Room) (As : List en_V) (m : en_M) (post : Option en_V → en_M → Prop) : Prop :=
  ∀ sz : Nat, Met l y ws rm (en_PcX w As m sz) (en_Qc w post sz) rm.cells rm.slots (en_A w.2.2.1 w.2.2.2 sz)
def en_Xs (κ : en_C) : Prop := match κ with
  | (p, l, e, R, s, mid, args, below, meth, c, Q, D, cy, ad, PL, A) => en_X A s s.heap ∧ l.stackTraces = false
def en_tab (κ : en_C) (hh : List (Nat × Nat × Nat × Nat)) : Prop := match κ with
  | (p, l, e, R, s, mid, args, below, meth, c, Q, D, cy, ad, PL, A) => c.exceptionTable.toList = tableOf hh
def en_finX (κ : en_C) (rm : Room) (ret : Option FieldType) (post : Option en_V → en_M → Prop) (postX : String → en_M → Prop) : Prop := match κ with
  | (p, l, e, R, s, mid, args, below, meth, c, Q, D, cy, ad, PL, A) => Q = vx_MQ below (en_Qc (D, cy, ad, PL) post s.heap.size) (en_XC (D, cy, ad, PL) postX s.heap.size) args s rm.cells rm.slots (en_A ad PL s.heap.size) ∧ A = en_A ad PL s.heap.size ∧ meth.sig.returnType = ret ∧ (∀ x ∈ c.exceptionTable.toList, False)
theorem en_finX.fin {κ : en_C} {rm : Room} {ret : Option FieldType} {post : Option en_V → en_M → Prop} {postX : String → en_M → Prop} (h : en_finX κ rm ret post postX) : en_fin κ rm ret post := by
  obtain ⟨p, l, e, R, s, mid, args, below, meth, c, Q, D, cy, ad, PL, A⟩ := κ
  obtain ⟨h1, h2, h3, h4⟩ := h
  exact ⟨Or.inr ⟨_, h1⟩, h2, h3⟩
theorem en_metX {l : Launch} {w : en_W} {y : MethodName} {C : String} {cc : ByteArray} {nL : Nat} {ret : Option FieldType} {ws : List Cond} {np : Nat} {rm : Room} {As : List en_V} {m : en_M} {post : Option en_V → en_M → Prop} {postX : String → en_M → Prop} (hy : en_MY y C cc nL ret ws np) (hw : en_Wok w) (hl : l.stackTraces = false) (hn : (en_ea As).length ≤ nL)
    (body : ∀ κ : en_C, en_l κ = l → en_w κ = w → en_Ok κ C cc nL ws rm → en_finX κ rm ret post postX → en_Xs κ → en_G κ 0 (en_ent nL As) [] m 0 0) : en_MetX l w y ws rm As m post postX := by
  intro sz
  obtain ⟨⟨ws', hws⟩, hC, -, -, -, hpl⟩ := hy
  refine vx_ofW (cc := cc) (maxL := nL) (ret := ret) hpl hws ?_
  intro p e s mid args below meth c s₁ B hml ht hv
  obtain ⟨rfl, hsz, hP, hK, hE, hX⟩ := hv
  obtain ⟨D, cy, ad, PL⟩ := w
  have hts := atoms_spec (ws := ws) B.pre
  have hown : s.vm.findClass C = some mid.cls := by rw [← hC]; exact findClass_of_methodNamed B.named
  subst hsz
  have G := body (p, l, e, (headSpec ws rm).room, s, mid, ((As.map (en_tv ad)).toArray), below, meth, c, vx_MQ below (en_Qc (D, cy, ad, PL) post s.heap.size) (en_XC (D, cy, ad, PL) postX s.heap.size) ((As.map (en_tv ad)).toArray) s rm.cells rm.slots (en_A ad PL s.heap.size), D, cy, ad, PL, en_A ad PL s.heap.size) rfl rfl
    ⟨B.exec, B.bytes, hml, hown, hts, rfl, B.notSynchronized, hK, hw.1, hw.2, fun i hi => Or.inl ⟨i, hi, rfl⟩, fun q hq => Or.inr hq, hE⟩ ⟨rfl, rfl, B.returns, ht⟩ ⟨hX, hl⟩
  have q := G s.heap [] ((lg_sl (As.map (en_tv ad)) ++ List.replicate (nL - (lg_sl (As.map (en_tv ad))).length) Slot.unset).toArray) (by rw [hml]; exact en_entry ad As hn) hP va_S.rf
  rw [lg_entry_eq]
  exact q
/-- the facts of a method with a table of its own -/
def en_MYS (y : MethodName) (C : String) (cc : ByteArray) (nL : Nat) (ret : Option FieldType) (hh : List (Nat × Nat × Nat × Nat)) (ws : List Cond) (np : Nat) : Prop :=
  (∃ ws', ws = .codeWith y cc nL ret hh :: ws') ∧ y.cls = C ∧ y.cls ≠ "java/lang/invoke/MethodHandle" ∧ y.cls ≠ "java/lang/invoke/VarHandle" ∧ (parseMethodDescriptor y.desc).map (fun d => d.parameters.length) = some np ∧ plainName y.cls = true
theorem en_metS {l : Launch} {w : en_W} {y : MethodName} {C : String} {cc : ByteArray} {nL : Nat} {ret : Option FieldType} {hh : List (Nat × Nat × Nat × Nat)} {ws : List Cond} {np : Nat} {rm : Room} {As : List en_V} {m : en_M} {post : Option en_V → en_M → Prop} (hy : en_MYS y C cc nL ret hh ws np) (hw : en_Wok w) (hl : l.stackTraces = false) (hn : (en_ea As).length ≤ nL)
    (body : ∀ κ : en_C, en_l κ = l → en_w κ = w → en_Ok κ C cc nL ws rm → en_fin κ rm ret post → en_Xs κ → en_tab κ hh → en_G κ 0 (en_ent nL As) [] m 0 0) : en_MetS l w y ws rm As m post := by
  intro sz
  obtain ⟨⟨ws', hws⟩, hC, -, -, -, hpl⟩ := hy
  refine va_MetW (cc := cc) (maxL := nL) (ret := ret) (hh := hh) hpl hws ?_
  intro p e s mid args below meth c s₁ B hml hv
  obtain ⟨rfl, hsz, hP, hK, hE, hX⟩ := hv
  obtain ⟨D, cy, ad, PL⟩ := w
  have hts := atoms_spec (ws := ws) B.pre
  have hown : s.vm.findClass C = some mid.cls := by rw [← hC]; exact findClass_of_methodNamed B.named
  have htab := vx_table (x := y) (y := y) B (hts _ (by rw [hws]; exact List.mem_cons_self))
  subst hsz
  have G := body (p, l, e, (headSpec ws rm).room, s, mid, ((As.map (en_tv ad)).toArray), below, meth, c, MQ below (en_Qc (D, cy, ad, PL) post s.heap.size) ((As.map (en_tv ad)).toArray) s rm.cells rm.slots (en_A ad PL s.heap.size), D, cy, ad, PL, en_A ad PL s.heap.size) rfl rfl
    ⟨B.exec, B.bytes, hml, hown, hts, rfl, B.notSynchronized, hK, hw.1, hw.2, fun i hi => Or.inl ⟨i, hi, rfl⟩, fun q hq => Or.inr hq, hE⟩ ⟨Or.inl rfl, rfl, B.returns⟩ ⟨hX, hl⟩ htab
  have q := G s.heap [] ((lg_sl (As.map (en_tv ad)) ++ List.replicate (nL - (lg_sl (As.map (en_tv ad))).length) Slot.unset).toArray) (by rw [hml]; exact en_entry ad As hn) hP va_S.rf
  rw [lg_entry_eq]
  exact q
theorem en_X.at {D : va_G} {ad : Int → Nat} {PL : List Int} {A : Nat → Prop} {s U : State} {H : Heap} {locs : List Loc} (hX : en_X A s s.heap) (hW : s.WarmedH U.vm) (hU : U.heap = H) (hS : va_S A s.heap H locs) (hA : ∀ q, en_A ad PL H.size q → A q) : en_X (en_A ad PL H.size) U U.heap := by
  rw [hU]
  exact ⟨vx_Zq.moved hW.alike ((hX.1.kept hS.2.1).narrow hA), vx_Zq.moved hW.alike ((hX.2.kept hS.2.1).narrow hA)⟩
theorem en_blindX {w : en_W} {As : List en_V} {m : en_M} {sz : Nat} : FrameBlind (en_PcX w As m sz) := fun a U g mk q => by
  obtain ⟨q0, q1, q2, q3, q4, q5, q6⟩ := q
  exact ⟨q0, q1, q2, va_K.moved (u := U) (U := U.calling g mk a) (Vm.Alike.refl U.vm) q3, en_E.same rfl q4, vx_Zq.moved (u := U) (U := U.calling g mk a) (Vm.Alike.refl U.vm) q5, vx_Zq.moved (u := U) (U := U.calling g mk a) (Vm.Alike.refl U.vm) q6⟩
/-- the words of a throw -/
def en_TH (Ts : List Cond) (own : String) (ik ic : Nat) (cls : String) : Prop := Cond.classLink own ik cls ∈ Ts ∧ Cond.initialized cls ∈ Ts ∧ (∀ w ∈ (vx_atS own ic cls ["java/lang/RuntimeException", "java/lang/Exception"]).filter goodWord, w ∈ Ts) ∧
  (∀ w ∈ (vx_atS own ic cls ["java/lang/RuntimeException", "java/lang/Exception"]).filter (fun w => !goodWord w), w ∈ [Cond.castable cls cls, .declares (Bundle.initS "java/lang/RuntimeException"), .declares (Bundle.initS "java/lang/Exception"), .declares (Bundle.initS Bundle.tN)]) ∧
  (∀ w ∈ Cond.classLink own ik cls :: Cond.initialized cls :: vx_atS own ic cls ["java/lang/RuntimeException", "java/lang/Exception"], vx_ot w = true) ∧ Bundle.fit cls = true
section ENX
variable {κ : en_C} {own : String} {cc : ByteArray} {nL : Nat} {Ts : List Cond} {rm : Room} {pc : Nat} {ls : List (Option en_V)} {st : List en_V} {m : en_M} {k n : Nat} {post : Option en_V → en_M → Prop} {postX : String → en_M → Prop} {ret : Option FieldType}
theorem en_throw {cls text : String} {ik is ic : Nat} (h : en_Ok κ "GridEstimator" cc nL Ts rm) (hf : en_finX κ rm ret post postX) (hx9 : en_Xs κ) (hT : en_TH Ts "GridEstimator" ik ic cls) (hca : cls ∈ en_caL) (hst : (is, text) ∈ en_strL)
    (d0 : decode cc pc = .ok (.new ik, 3)) (d3 : decode cc (pc + 3) = .ok (.dup, 1)) (d4 : decode cc (pc + 4) = .ok (.ldc is, 2)) (d6 : decode cc (pc + 6) = .ok (.invokespecial ic, 3)) (d9 : decode cc (pc + 9) = .ok (.athrow, 1))
    (hroom : 5 < rm.frames ∧ (st.map fun v => (en_tv (fun _ => 0) v).category).sum + 82 ≤ rm.locals) (hc : k + 1 ≤ rm.cells ∧ n + 6 ≤ rm.slots) (hp : postX cls m) : en_G κ pc ls st m k n := by
  obtain ⟨p, l, e, R, s, mid, args, below, meth, c, Q, D, cy, ad, PL, A⟩ := κ
  obtain ⟨hx, hb, hml, hown, hts, hR, hlk, hK, hn, hi, hA, hA2, hE⟩ := h
  obtain ⟨hQ, hAe, hr, htab⟩ := hf
  obtain ⟨⟨hU, hN⟩, hfl⟩ := hx9
  obtain ⟨t1, t2, t3, t4, t5, t6⟩ := hT
  subst hR
  subst hQ
  intro H locs a hl hP hS
  obtain ⟨sa, hsa⟩ := hE.2.1 _ hst
  have hbad : ∀ w ∈ [Cond.castable cls cls, .declares (Bundle.initS "java/lang/RuntimeException"), .declares (Bundle.initS "java/lang/Exception"), .declares (Bundle.initS Bundle.tN)], w.before args s = true := by
    intro w hw
    simp only [List.mem_cons, List.not_mem_nil, or_false] at hw
    rcases hw with rfl | rfl | rfl | rfl
    · exact va_Nw.use rfl (hE.2.2.2.2.1 _ hca)
    · exact va_Nw.use rfl (hE.2.2.2.2.2 _ (by simp [en_deL]))
    · exact va_Nw.use rfl (hE.2.2.2.2.2 _ (by simp [en_deL]))
    · exact va_Nw.use rfl (hE.2.2.2.2.2 _ (by simp [en_deL]))
  refine vx_throwS hx hb hfl hown t6 (fun n hn => by simp only [List.mem_cons, List.not_mem_nil, or_false] at hn; rcases hn with rfl | rfl <;> decide +kernel) (hts _ t1) (hts _ t2) hsa (vx_hat (fun w hw => hts w (t3 w hw)) t4 hbad) t5 hU hN hS hl.1 d0 d3 d4 d6 d9 (fun x hx => absurd (htab x hx) id) hroom.1 (by rw [en_cats]; exact hroom.2) (by omega) (by omega) hlk (fun t hal hsz hk => ?_) (by rw [← hAe]; exact hS.2.2) hc.1 hc.2
  refine ⟨⟨m, hp, hP.kept (fun k q hkq => hk q.1 (hP k q hkq).lt), va_K.moved hal hK⟩, Nat.le_trans hS.1 hsz, fun q h1 h2 => ?_⟩
  rw [hk q (Nat.lt_of_lt_of_le h1 hS.1)]
  exact hS.2.1 q h1 (by rw [hAe]; exact h2)
/-- behind a call that may throw -/
theorem en_goX {p : Program} {l : Launch} {e : Env} {R : Room} {s : State} {mid : MethodId} {args : Array Value} {below : List Frame} {meth : Method} {c : Code} {Q : State → Prop} {D : va_G} {cy : Nat → ClassId} {ad : Int → Nat} {PL : List Int} {A : Nat → Prop} {H : Heap} {locs : List Loc} {a : Array Slot} {st0 : List Value} {rest : List en_V} {av : Array Value} {mc ms : Nat} {post' : Option en_V → en_M → Prop} {postX' : String → en_M → Prop}
    (hr : vx_Run p l e R s mid args below meth c H locs k n mc ms (F0 mid pc a st0) (rest.map (en_tv ad)) (en_Qc (D, cy, ad, PL) post' H.size av) (en_XC (D, cy, ad, PL) postX' H.size) (en_A ad PL H.size)) (hS : va_S A s.heap H locs) (hA : ∀ i, i ∈ PL → A (ad i)) (hA2 : ∀ q, s.heap.size ≤ q → A q)
    (kx : ∀ (E : String) (ce : Cell) (q9 : Addr) (m' : en_M) (H1 : Heap) (locs1 : List Loc) (t : State), t.heap = H1 → s.vm.Alike t.vm → postX' E m' → va_P D vwCl (en_ws cy ad PL m') H1 → va_S A s.heap H1 locs1 → H1[q9]? = some ce → ce.vm = .none → s.vm.findClass E = some ce.cls → vx_W p l e R s mid args below meth c H1 locs1 (k + mc) (n + ms) Q (F0 mid pc a (rest.map (en_tv ad))) q9)
    (kk : ∀ (r : Option en_V) (m' : en_M) (H1 : Heap) (locs1 : List Loc), post' r m' → va_P D vwCl (en_ws cy ad PL m') H1 → va_S A s.heap H1 locs1 → W p l e R s mid args below meth c H1 locs1 (k + mc) (n + ms) Q (F0 mid (pc + 3) a ((en_psh r rest).map (en_tv ad)))) : W p l e R s mid args below meth c H locs k n Q (F0 mid pc a st0) := by
  intro T hT X
  have hfA : ∀ q, en_A ad PL H.size q → A q := fun q hq => by
    rcases hq with ⟨i, hi, rfl⟩ | hq
    · exact hA i hi
    · exact hA2 q (Nat.le_trans hS.1 hq)
  rcases hr T hT X with ⟨v, st₀, t, T', L, h0, X', hL, e1, e2, ⟨⟨r, m', hv, hp, hP1, hK1⟩, hF⟩, st⟩ | ⟨q, st₀, t, T', L, E, ce, h0, X', hL, e1, e2, ⟨⟨m', hp, hP1, hK1⟩, hF⟩, hce, hcv, hcl, st⟩
  · cases hv
    obtain ⟨k1, k2, k3⟩ := vx_keep h0 e1 hS (fun q _ => hfA q) hfA hL hF
    obtain ⟨t2, a1, b1⟩ := kk r m' T'.heap (locs ++ L) hp (by rw [e1]; exact hP1) k3 T' rfl X'
    refine ⟨t2, st t2 ?_, b1⟩
    have e3 : (en_psh r rest).map (en_tv ad) = (r.map (en_tv ad)).toList ++ rest.map (en_tv ad) := by cases r <;> simp [en_psh]
    rw [e3] at a1
    exact a1
  · obtain ⟨k1, k2, k3⟩ := vx_keep h0 e1 hS (fun q _ => hfA q) hfA hL hF
    obtain ⟨t2, a1, b1⟩ := kx E ce q m' T'.heap (locs ++ L) t e1.symm (by rw [← e2]; exact X'.warmed.alike) hp (by rw [e1]; exact hP1) k3 (by rw [e1]; exact hce) hcv hcl T' rfl X'
    exact ⟨t2, st.trans a1, b1⟩
/-- a call that may throw, in a method that throws on -/
theorem en_callVX {y : MethodName} {C : String} {bytes : ByteArray} {maxL : Nat} {ret' : Option FieldType} {ws : List Cond} {np index : Nat} {rmc : Room} {b : Int} {As rest : List en_V} {post' : Option en_V → en_M → Prop} {postX' : String → en_M → Prop} {ci : Nat} {fl : List (Nat × Int)} {T : u_T} {N : Nat} (h : en_Ok κ own cc nL Ts rm) (hf : en_finX κ rm ret post postX) (hx9 : en_Xs κ) (hM : en_MetX (en_l κ) (en_w κ) y ws rmc (en_R b :: As) m post' postX') (hy : en_MY y C bytes maxL ret' ws np) (g : GoodIn Ts (wsV own index C y ws))
    (hin : en_in κ b) (hly : en_ly b = .inr (ci, fl)) (hci : vwCl[ci]? = some (C, T, N)) (hst : st = As.reverse ++ en_R b :: rest) (hnp : As.length = np) (hR : rmc.frames + 1 ≤ rm.frames ∧ 8 + (maxL + 11) + rmc.locals ≤ rm.locals) (hcs : k + rmc.cells ≤ rm.cells ∧ n + rmc.slots ≤ rm.slots) (hcat : (rest.map fun v => (en_tv (fun _ => 0) v).category).sum ≤ 8) (d : decode cc pc = .ok (.invokevirtual index, 3))
    (hX : ∀ E m', postX' E m' → postX E m') (kk : ∀ (r : Option en_V) (m' : en_M), post' r m' → en_G κ (pc + 3) ls (en_psh r rest) m' (k + rmc.cells) (n + rmc.slots)) : en_G κ pc ls st m k n := by
  subst hst
  obtain ⟨p, l, e, R, s, mid, args, below, meth, c, Q, D, cy, ad, PL, A⟩ := κ
  obtain ⟨hx, hb, hml, hown, hts, hR9, hlk, hK, hn, hi, hA, hA2, hE⟩ := h
  obtain ⟨hQ, hAe, hr, htab⟩ := hf
  obtain ⟨hX9, hfl⟩ := hx9
  subst hR9
  subst hQ
  intro H locs a hl hP hS
  obtain ⟨⟨ws', hws⟩, h1, h2, h3, h4, h5⟩ := hy
  obtain ⟨q0, hq0, hg⟩ := en_ws_get (cy := cy) (ad := ad) (m := m) (show b ∈ PL from hin)
  rw [en_ctO hly] at hg
  have hfA : ∀ q, en_A ad PL H.size q → A q := fun q hq => by
    rcases hq with ⟨i, hi, rfl⟩ | hq
    · exact hA i hi
    · exact hA2 q (Nat.le_trans hS.1 hq)
  refine en_goX (rest := rest) (vx_runV (As := As.map (en_tv ad)) (rest := rest.map (en_tv ad)) ⟨hx, hb, hml, hown, hts⟩ (hM H.size) (cwV np hts g hws rfl rfl ⟨h1, h2, h3, h4⟩ hR) ⟨en_blindX, va_recv hK hP hci hg, fun U hU hW => ⟨rfl, by rw [hU], by rw [hU]; exact hP, va_K.moved hW.alike hK, en_E.warm hW hE, en_X.at (D := D) hX9 hW hU hS hfA⟩⟩ rfl (by rw [List.length_map]; exact hnp) (hl.1.trans hml) ?_ (lv_room (by rw [en_cats]; exact hcat)) d hcs) hS hA hA2 (fun E ce q9 m' H1 locs1 t ht hal hp hP1 hS1 hce hcv hcl => ?_) (fun r m' H1 locs1 hp hP1 hS1 => kk r m' hp H1 locs1 a hl hP1 hS1)
  · show ((As.reverse ++ en_R b :: rest).map (en_tv ad)) = _
    rw [List.map_append, List.map_reverse]
    rfl
  · refine vx_out (fun x hx => absurd (htab x hx) id) hlk hce hcv hcl (fun t ht hal => ⟨⟨m', hX E m' hp, by rw [ht]; exact hP1, va_K.moved hal hK⟩, ?_⟩) (by rw [← hAe]; exact hS1.2.2) hcs.1 hcs.2
    rw [← hAe]
    exact hS1.F ht
/-- a call that may throw, in a method that catches all of it: what each class of exception meets is told by 'kc' -/
theorem en_callVC {y : MethodName} {C : String} {bytes : ByteArray} {maxL : Nat} {ret' : Option FieldType} {ws : List Cond} {np index : Nat} {rmc : Room} {b : Int} {As rest : List en_V} {post' : Option en_V → en_M → Prop} {postX' : String → en_M → Prop} {ci : Nat} {fl : List (Nat × Int)} {T : u_T} {N : Nat} {hh : List (Nat × Nat × Nat × Nat)} (h : en_Ok κ own cc nL Ts rm) (htab : en_tab κ hh) (hx9 : en_Xs κ) (hM : en_MetX (en_l κ) (en_w κ) y ws rmc (en_R b :: As) m post' postX') (hy : en_MY y C bytes maxL ret' ws np) (g : GoodIn Ts (wsV own index C y ws))
    (hin : en_in κ b) (hly : en_ly b = .inr (ci, fl)) (hci : vwCl[ci]? = some (C, T, N)) (hst : st = As.reverse ++ en_R b :: rest) (hnp : As.length = np) (hR : rmc.frames + 1 ≤ rm.frames ∧ 8 + (maxL + 11) + rmc.locals ≤ rm.locals) (hcs : k + rmc.cells ≤ rm.cells ∧ n + rmc.slots ≤ rm.slots) (hcat : (rest.map fun v => (en_tv (fun _ => 0) v).category).sum ≤ 8) (d : decode cc pc = .ok (.invokevirtual index, 3))
    (hX : ∀ E m', postX' E m' → E ∈ en_caL ∧ ∃ (pre : List (Nat × Nat × Nat × Nat)) (x : Nat × Nat × Nat × Nat) (suf : List (Nat × Nat × Nat × Nat)), hh = pre ++ x :: suf ∧ (∀ z ∈ pre, z.2.2.2 ≠ 0 ∧ ∃ nm : String, Cond.classLink own z.2.2.2 nm ∈ Ts ∧ (E, nm) ∈ en_ncL) ∧ (x.1 ≤ pc ∧ pc < x.2.1) ∧ x.2.2.2 ≠ 0 ∧ Cond.classLink own x.2.2.2 E ∈ Ts ∧
      ∃ (i : Nat) (ln : Nat), i < nL ∧ ((decode cc x.2.2.1 = .ok (.astore i, 2) ∧ ln = 2) ∨ (∃ k9 : Fin 4, (k9 : Nat) = i ∧ decode cc x.2.2.1 = .ok (.astore_n k9, 1) ∧ ln = 1)) ∧ en_G κ (x.2.2.1 + ln) (en_sn (en_s1 ls i (en_R 0)) i) [] m' (k + rmc.cells) (n + rmc.slots))
    (kk : ∀ (r : Option en_V) (m' : en_M), post' r m' → en_G κ (pc + 3) ls (en_psh r rest) m' (k + rmc.cells) (n + rmc.slots)) : en_G κ pc ls st m k n := by
  subst hst
  obtain ⟨p, l, e, R, s, mid, args, below, meth, c, Q, D, cy, ad, PL, A⟩ := κ
  obtain ⟨hx, hb, hml, hown, hts, hR9, hlk, hK, hn, hi, hA, hA2, hE⟩ := h
  obtain ⟨hX9, hfl⟩ := hx9
  have htab : c.exceptionTable.toList = tableOf hh := htab
  subst hR9
  intro H locs a hl hP hS
  obtain ⟨⟨ws', hws⟩, h1, h2, h3, h4, h5⟩ := hy
  obtain ⟨q0, hq0, hg⟩ := en_ws_get (cy := cy) (ad := ad) (m := m) (show b ∈ PL from hin)
  rw [en_ctO hly] at hg
  have hfA : ∀ q, en_A ad PL H.size q → A q := fun q hq => by
    rcases hq with ⟨i, hi, rfl⟩ | hq
    · exact hA i hi
    · exact hA2 q (Nat.le_trans hS.1 hq)
  refine en_goX (rest := rest) (vx_runV (As := As.map (en_tv ad)) (rest := rest.map (en_tv ad)) ⟨hx, hb, hml, hown, hts⟩ (hM H.size) (cwV np hts g hws rfl rfl ⟨h1, h2, h3, h4⟩ hR) ⟨en_blindX, va_recv hK hP hci hg, fun U hU hW => ⟨rfl, by rw [hU], by rw [hU]; exact hP, va_K.moved hW.alike hK, en_E.warm hW hE, en_X.at (D := D) hX9 hW hU hS hfA⟩⟩ rfl (by rw [List.length_map]; exact hnp) (hl.1.trans hml) ?_ (lv_room (by rw [en_cats]; exact hcat)) d hcs) hS hA hA2 (fun E ce q9 m' H1 locs1 t ht hal hp hP1 hS1 hce hcv hcl => ?_) (fun r m' H1 locs1 hp hP1 hS1 => kk r m' hp H1 locs1 a hl hP1 hS1)
  · show ((As.reverse ++ en_R b :: rest).map (en_tv ad)) = _
    rw [List.map_append, List.map_reverse]
    rfl
  · obtain ⟨hca, pre, x, suf, f1, f2, f3, f4, f5, i, ln, f6, f7, f8⟩ := hX E m' hp
    refine vx_catch hown (tableOf pre) ⟨x.1, x.2.1, x.2.2.1, x.2.2.2⟩ (tableOf suf) (by rw [htab, f1]; unfold tableOf; simp) (fun z hz => ?_) ?_ f4 (hts _ f5) (va_Nw.use rfl (hE.2.2.2.2.1 _ hca)) hce hcv hcl ?_
    · unfold tableOf at hz
      obtain ⟨z9, hz1, hz2⟩ := List.mem_map.mp hz
      obtain ⟨g1, nm, g2, g3⟩ := f2 z9 hz1
      subst hz2
      exact Or.inr ⟨g1, nm, hts _ g2, hE.2.2.1 _ g3⟩
    · simp [covers, f3.1, f3.2]
    · have hlm := en_lm_has hl
      have key : ∀ a9 : Array Slot, lv_has a9 c.maxLocals ((i, Value.ref q9) :: (en_as ad ls).filter (fun q => !(q.1 == i) && !(q.1 + 1 == i && q.2.category == 2))) → W p l e R s mid args below meth c H1 locs1 (k + rmc.cells) (n + rmc.slots) Q (F0 mid (x.2.2.1 + ln) a9 []) := by
        intro a9 h9
        refine f8 H1 locs1 a9 ⟨h9.1, h9.2.1, fun j v hj => ?_⟩ hP1 hS1
        obtain ⟨h0, hj⟩ := en_sn_get _ _ _ _ hj
        rcases en_s1_get ls i (en_R 0) j v hj with ⟨e1, e2⟩ | ⟨e1, e2, e3⟩
        · exact absurd e1 h0
        · refine h9.2.2 (j, en_tv ad v) (List.mem_cons_of_mem _ (List.mem_filter.mpr ⟨en_as_mem.mpr ⟨v, e2, rfl⟩, ?_⟩))
          have h4 : ¬ (j + 1 = i ∧ (en_tv ad v).category = 2) := fun q => e3 ⟨q.1, (en_cat2 ad v).mp q.2⟩
          simp [e1]
          rcases Classical.em (j + 1 = i) with q1 | q1
          · exact Or.inr fun q2 => h4 ⟨q1, q2⟩
          · exact Or.inl q1
      rcases f7 with ⟨f7, rfl⟩ | ⟨k9, rfl, f7, rfl⟩
      · exact lv_astore hx hb f7 hlm (by rw [hml]; exact f6) rfl key
      · exact lv_astore_n hx hb f7 rfl hlm (by rw [hml]; exact f6) rfl key
/-- a static call of a method that catches -/
theorem en_callSS {y : MethodName} {C : String} {bytes : ByteArray} {maxL : Nat} {ret' : Option FieldType} {hh : List (Nat × Nat × Nat × Nat)} {ws : List Cond} {np index : Nat} {rmc : Room} {As rest : List en_V} {post' : Option en_V → en_M → Prop} (h : en_Ok κ own cc nL Ts rm) (hx9 : en_Xs κ) (hM : en_MetS (en_l κ) (en_w κ) y ws rmc As m post') (hy : en_MYS y C bytes maxL ret' hh ws np) (g : GoodIn Ts (va_wsS own index y ws))
    (hst : st = As.reverse ++ rest) (hnp : As.length = np) (hR : rmc.frames + 1 ≤ rm.frames ∧ 8 + (maxL + 11) + rmc.locals ≤ rm.locals) (hcs : k + rmc.cells ≤ rm.cells ∧ n + rmc.slots ≤ rm.slots) (hcat : (rest.map fun v => (en_tv (fun _ => 0) v).category).sum ≤ 8) (d : decode cc pc = .ok (.invokestatic index, 3))
    (kk : ∀ (r : Option en_V) (m' : en_M), post' r m' → en_G κ (pc + 3) ls (en_psh r rest) m' (k + rmc.cells) (n + rmc.slots)) : en_G κ pc ls st m k n := by
  subst hst
  obtain ⟨p, l, e, R, s, mid, args, below, meth, c, Q, D, cy, ad, PL, A⟩ := κ
  obtain ⟨hx, hb, hml, hown, hts, hR9, hlk, hK, hn, hi, hA, hA2, hE⟩ := h
  obtain ⟨hX9, hfl⟩ := hx9
  subst hR9
  intro H locs a hl hP hS
  obtain ⟨⟨ws', hws⟩, h1, h2, h3, h4, h5⟩ := hy
  have hfA : ∀ q, en_A ad PL H.size q → A q := fun q hq => by
    rcases hq with ⟨i, hi, rfl⟩ | hq
    · exact hA i hi
    · exact hA2 q (Nat.le_trans hS.1 hq)
  refine en_go (rest := rest) (vx_runSW (As := As.map (en_tv ad)) (rest := rest.map (en_tv ad)) ⟨hx, hb, hml, hown, hts⟩ (hM H.size) (vx_cwSW np hts g hws rfl rfl ⟨h2, h3, h4⟩ hR) ⟨en_blindX, fun U hU hW => ⟨rfl, by rw [hU], by rw [hU]; exact hP, va_K.moved hW.alike hK, en_E.warm hW hE, en_X.at (D := D) hX9 hW hU hS hfA⟩⟩ rfl (by rw [List.length_map]; exact hnp) (hl.1.trans hml) ?_ (lv_room (by rw [en_cats]; exact hcat)) d hcs) hS hA hA2 (fun r m' H1 locs1 hp hP1 hS1 => kk r m' hp H1 locs1 a hl hP1 hS1)
  show ((As.reverse ++ rest).map (en_tv ad)) = _
  rw [List.map_append, List.map_reverse]
end ENX
