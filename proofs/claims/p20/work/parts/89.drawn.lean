/-! ENGINE 11: the script, read by a method of its own -/
theorem en_vpinB {i : Int} {N : Nat} (h : 0 ≤ i ∧ i < (N : Int)) (hN : N ≤ 260) : vp_in (Int32.ofInt i) N ∧ (Int32.ofInt i).toNatClampNeg = i.toNat := by
  have h1 : (Int32.ofInt i).toInt = i := en_to32 ⟨by omega, by omega⟩
  have h2 : (Int32.ofInt i).toNatClampNeg = i.toNat := by
    rw [← Int32.toNat_toInt, h1]
  exact ⟨vp_in_iff.mpr ⟨by omega, by omega⟩, h2⟩
def en_sx (xs : Nat → Int32) (j : Int) : Int := (xs j.toNat).toInt
theorem en_sx_r (xs : Nat → Int32) (j : Int) : en_i32 (en_sx xs j) := by
  have h1 := Int32.le_toInt (xs j.toNat)
  have h2 := Int32.toInt_lt (xs j.toNat)
  unfold en_sx
  constructor <;> omega
/-- the script stands at place 99, outside of the world -/
def en_Sc (κ : en_C) (L : Nat) (xs : Nat → Int32) : Prop := match κ with
  | (_, _, _, _, s, _, _, _, _, _, _, _, _, ad, _, A) => va_X (ad 99) L xs s s.heap ∧ ad 99 < s.heap.size ∧ ¬ A (ad 99) ∧ L ≤ 260
def en_PcD (w : en_W) (As : List en_V) (m : en_M) (L : Nat) (xs : Nat → Int32) (sz : Nat) : Array Value → State → Prop := fun a st => en_Pc w As m sz a st ∧ va_X (w.2.2.1 99) L xs st st.heap ∧ w.2.2.1 99 < sz ∧ ¬ en_A w.2.2.1 w.2.2.2 sz (w.2.2.1 99) ∧ L ≤ 260
def en_MetD (l : Launch) (w : en_W) (y : MethodName) (ws : List Cond) (rm : Room) (As : List en_V) (m : en_M) (L : Nat) (xs : Nat → Int32) (post : Option en_V → en_M → Prop) : Prop :=
  ∀ sz : Nat, Met l y ws rm (en_PcD w As m L xs sz) (en_Qc w post sz) rm.cells rm.slots (en_A w.2.2.1 w.2.2.2 sz)
section EN11
variable {κ : en_C} {own : String} {cc : ByteArray} {nL : Nat} {Ts : List Cond} {rm : Room} {pc : Nat} {ls : List (Option en_V)} {st : List en_V} {m : en_M} {k n : Nat} {L : Nat} {xs : Nat → Int32}
theorem en_sld {i : Int} (h : en_Ok κ own cc nL Ts rm) (hs : en_Sc κ L xs) (d : decode cc pc = .ok (.iaload, 1)) (hi : 0 ≤ i ∧ i < (L : Int)) (kk : en_G κ (pc + 1) ls (en_I (en_sx xs i) :: st) m k n) : en_G κ pc ls (en_I i :: en_R 99 :: st) m k n := by
  obtain ⟨p, l, e, R, s, mid, args, below, meth, c, Q, D, cy, ad, PL, A⟩ := κ
  obtain ⟨hx, hb, hml, hown, hts, hR, hlk, hK, hn, hi9, hA, hA2, hE⟩ := h
  obtain ⟨s1, s2, s3, s4⟩ := hs
  intro H locs a hl hP hS
  obtain ⟨v1, v2⟩ := en_vpinB hi s4
  refine va_sld hx hb s1 s2 s3 hS v1 d ?_
  have q := kk H locs a hl hP hS
  simp only [List.map_cons, en_tv, en_sx, Int32.ofInt_toInt] at q
  rw [v2]
  exact q
theorem en_slen (h : en_Ok κ own cc nL Ts rm) (hs : en_Sc κ L xs) (d : decode cc pc = .ok (.arraylength, 1)) (kk : en_G κ (pc + 1) ls (en_I (L : Int) :: st) m k n) : en_G κ pc ls (en_R 99 :: st) m k n := by
  obtain ⟨p, l, e, R, s, mid, args, below, meth, c, Q, D, cy, ad, PL, A⟩ := κ
  obtain ⟨hx, hb, hml, hown, hts, hR, hlk, hK, hn, hi9, hA, hA2, hE⟩ := h
  obtain ⟨s1, s2, s3, s4⟩ := hs
  intro H locs a hl hP hS
  refine va_slen hx hb s1 s2 s3 hS d ?_
  have q := kk H locs a hl hP hS
  simp only [List.map_cons, en_tv] at q
  rw [show Int32.ofNat L = Int32.ofInt (L : Int) from Int32.ofInt_eq_ofNat.symm]
  exact q
theorem en_metD {l : Launch} {w : en_W} {y : MethodName} {C : String} {ret : Option FieldType} {ws : List Cond} {np : Nat} {As : List en_V} {post : Option en_V → en_M → Prop} (hy : en_MY y C cc nL ret ws np) (hw : en_Wok w) (hn : (en_ea As).length ≤ nL)
    (body : ∀ κ : en_C, en_l κ = l → en_w κ = w → en_Ok κ C cc nL ws rm → en_fin κ rm ret post → en_Sc κ L xs → en_G κ 0 (en_ent nL As) [] m 0 0) : en_MetD l w y ws rm As m L xs post := by
  intro sz
  obtain ⟨⟨ws', hws⟩, hC, -, -, -, hpl⟩ := hy
  refine Met.ofW (cc := cc) (maxL := nL) (ret := ret) hpl hws ?_
  intro p e s mid args below meth c s₁ B hml hv
  obtain ⟨⟨rfl, hsz, hP, hK, hE⟩, hX, hlt, hnA, hL⟩ := hv
  obtain ⟨D, cy, ad, PL⟩ := w
  have hts := atoms_spec (ws := ws) B.pre
  have hown : s.vm.findClass C = some mid.cls := by rw [← hC]; exact findClass_of_methodNamed B.named
  subst hsz
  have G := body (p, l, e, (headSpec ws rm).room, s, mid, ((As.map (en_tv ad)).toArray), below, meth, c, MQ below (en_Qc (D, cy, ad, PL) post s.heap.size) ((As.map (en_tv ad)).toArray) s rm.cells rm.slots (en_A ad PL s.heap.size), D, cy, ad, PL, en_A ad PL s.heap.size) rfl rfl
    ⟨B.exec, B.bytes, hml, hown, hts, rfl, B.notSynchronized, hK, hw.1, hw.2, fun i hi => Or.inl ⟨i, hi, rfl⟩, fun q hq => Or.inr hq, hE⟩ ⟨Or.inl rfl, rfl, B.returns⟩ ⟨hX, hlt, hnA, hL⟩
  have q := G s.heap [] ((lg_sl (As.map (en_tv ad)) ++ List.replicate (nL - (lg_sl (As.map (en_tv ad))).length) Slot.unset).toArray) (by rw [hml]; exact en_entry ad As hn) hP va_S.rf
  rw [lg_entry_eq]
  exact q
theorem en_blindD {w : en_W} {As : List en_V} {m : en_M} {sz : Nat} : FrameBlind (en_PcD w As m L xs sz) := fun a U g mk q => by
  obtain ⟨⟨q0, q1, q2, q3, q4⟩, q5, q6⟩ := q
  exact ⟨⟨q0, q1, q2, va_K.moved (u := U) (U := U.calling g mk a) (Vm.Alike.refl U.vm) q3, en_E.same rfl q4⟩, va_X.moved (u := U) (U := U.calling g mk a) (Vm.Alike.refl U.vm) q5, q6⟩
theorem en_callSD {y : MethodName} {C : String} {bytes : ByteArray} {maxL : Nat} {ret : Option FieldType} {ws : List Cond} {np index : Nat} {rmc : Room} {As rest : List en_V} {post' : Option en_V → en_M → Prop} (h : en_Ok κ own cc nL Ts rm) (hs : en_Sc κ L xs) (hM : en_MetD (en_l κ) (en_w κ) y ws rmc As m L xs post') (hy : en_MY y C bytes maxL ret ws np) (g : GoodIn Ts (va_wsS own index y ws))
    (hst : st = As.reverse ++ rest) (hnp : As.length = np) (hR : rmc.frames + 1 ≤ rm.frames ∧ 8 + (maxL + 11) + rmc.locals ≤ rm.locals) (hcs : k + rmc.cells ≤ rm.cells ∧ n + rmc.slots ≤ rm.slots) (hcat : (rest.map fun v => (en_tv (fun _ => 0) v).category).sum ≤ 8) (d : decode cc pc = .ok (.invokestatic index, 3))
    (kk : ∀ (r : Option en_V) (m' : en_M), post' r m' → en_G κ (pc + 3) ls (en_psh r rest) m' (k + rmc.cells) (n + rmc.slots)) : en_G κ pc ls st m k n := by
  subst hst
  obtain ⟨p, l, e, R, s, mid, args, below, meth, c, Q, D, cy, ad, PL, A⟩ := κ
  obtain ⟨hx, hb, hml, hown, hts, hR9, hlk, hK, hn, hi, hA, hA2, hE⟩ := h
  obtain ⟨s1, s2, s3, s4⟩ := hs
  subst hR9
  intro H locs a hl hP hS
  obtain ⟨⟨ws', hws⟩, h1, h2, h3, h4, h5⟩ := hy
  have hX : va_X (ad 99) L xs s H := s1.kept (hS.2.1 _ s2 s3)
  have hnA : ¬ en_A ad PL H.size (ad 99) := by
    rintro (⟨i, hi9, e9⟩ | e9)
    · exact s3 (by rw [e9]; exact hA i hi9)
    · have := hS.1
      omega
  have hlt : ad 99 < H.size := Nat.lt_of_lt_of_le s2 hS.1
  refine en_go (rest := rest) (va_runS (As := As.map (en_tv ad)) (rest := rest.map (en_tv ad)) ⟨hx, hb, hml, hown, hts⟩ (hM H.size) (va_cwS np hts g hws rfl rfl ⟨h2, h3, h4⟩ hR) ⟨en_blindD, fun U hU hW => ⟨⟨rfl, by rw [hU], by rw [hU]; exact hP, va_K.moved hW.alike hK, en_E.warm hW hE⟩, by rw [hU]; exact va_X.moved hW.alike hX, hlt, hnA, s4⟩⟩ rfl (by rw [List.length_map]; exact hnp) (hl.1.trans hml) ?_ (lv_room (by rw [en_cats]; exact hcat)) d hcs) hS hA hA2 (fun r m' H1 locs1 hp hP1 hS1 => kk r m' hp H1 locs1 a hl hP1 hS1)
  show ((As.reverse ++ rest).map (en_tv ad)) = _
  rw [List.map_append, List.map_reverse]
end EN11
abbrev rm_L_drawn : Room := { frames := 1, cells := 0, slots := 0, locals := 0 }
theorem my_L_drawn : en_MY yL_drawn RL cL_drawn 2 (some .int) wsL_drawn 2 := ⟨⟨_, rfl⟩, rfl, by decide, by decide, by decide +kernel, by decide +kernel⟩
set_option maxRecDepth 20000 in
theorem cn_L_drawn_77 : Cond.constant RL 77 15524219 ∈ wsL_drawn := by decide +kernel
set_option maxRecDepth 20000 in
theorem cn_L_drawn_78 : Cond.constant RL 78 2147483647 ∈ wsL_drawn := by decide +kernel
/-- a number drawn out of the script -/
def dw (L : Nat) (xs : Nat → Int32) (k : Int) : Int := ((Int32.ofInt (if k < (L : Int) then en_sx xs k else 15524219 * (k + 3) + 13691)) &&& (Int32.ofInt 2147483647)).toInt
theorem dw_rng (L : Nat) (xs : Nat → Int32) (k : Int) : 0 ≤ dw L xs k ∧ dw L xs k < 2147483648 := by
  unfold dw
  generalize Int32.ofInt (if k < (L : Int) then en_sx xs k else 15524219 * (k + 3) + 13691) = z
  have h : ((z &&& Int32.ofInt 2147483647).toBitVec).msb = false := by
    show (z.toBitVec &&& (2147483647#32)).msb = false
    rw [BitVec.msb_and, show (2147483647#32).msb = false by decide, Bool.and_false]
  have h2 : 0 ≤ (z &&& Int32.ofInt 2147483647).toInt := by
    show 0 ≤ (z &&& Int32.ofInt 2147483647).toBitVec.toInt
    rw [BitVec.toInt_eq_msb_cond, h]
    simp
  have h3 := Int32.toInt_lt (z &&& Int32.ofInt 2147483647)
  exact ⟨h2, by omega⟩
set_option maxRecDepth 100000 in
set_option maxHeartbeats 4000000 in
theorem k_L_drawn {l : Launch} {w : en_W} {m : en_M} {L : Nat} {xs : Nat → Int32} {k : Int} (hw : en_Wok w) (hk : 0 ≤ k ∧ k < 100) : en_MetD l w yL_drawn wsL_drawn rm_L_drawn [en_R 99, en_I k] m L xs (fun r m' => r = some (en_I (dw L xs k)) ∧ m' = m) := by
  refine en_metD my_L_drawn hw (Nat.le_of_ble_eq_true rfl) ?_
  intro κ hl9 hw9 h hf hs
  subst hw9
  subst hl9
  have hL : L ≤ 260 := by
    obtain ⟨p, l, e, R, s, mid, args, below, meth, c, Q, D, cy, ad, PL, A⟩ := κ
    exact hs.2.2.2
  have fin : ∀ z, z = (if k < (L : Int) then en_sx xs k else 15524219 * (k + 3) + 13691) → en_G κ 22 [some (en_R 99), some (en_I k)] [en_I z] m 0 0 := by
    intro z hz
    refine en_ldc (z := 2147483647) h dL_drawn_22 cn_L_drawn_78 (by decide) ?_
    refine en_iand h dL_drawn_24 (dw L xs k) (by unfold dw; rw [← hz, Int32.ofInt_toInt]) ?_
    exact en_iret h hf dL_drawn_25 ⟨by decide, by decide⟩ ⟨rfl, rfl⟩
  refine en_iload_n (i := 1) h dL_drawn_0 rfl rfl ?_
  refine en_aload_n (i := 0) h dL_drawn_1 rfl rfl ?_
  refine en_slen h hs dL_drawn_2 ?_
  refine en_icmp_ge (tgt := 12) h dL_drawn_3 (by decide) (by omega) (by omega) (fun c_3 => ?_) (fun c_3 => ?_)
  · refine en_ldc (z := 15524219) h dL_drawn_12 cn_L_drawn_77 (by decide) ?_
    refine en_iload_n (i := 1) h dL_drawn_14 rfl rfl ?_
    refine en_iconst h dL_drawn_15 ?_
    refine en_iadd h dL_drawn_16 ?_
    refine en_imul h dL_drawn_17 ?_
    refine en_sipush h dL_drawn_18 (by decide) ?_
    refine en_iadd h dL_drawn_21 ?_
    exact fin _ (by rw [if_neg (by omega)])
  · refine en_aload_n (i := 0) h dL_drawn_6 rfl rfl ?_
    refine en_iload_n (i := 1) h dL_drawn_7 rfl rfl ?_
    refine en_sld h hs dL_drawn_8 (by omega) ?_
    refine en_goto (tgt := 22) h dL_drawn_9 (by decide) ?_
    exact fin _ (by rw [if_pos (by omega)])
