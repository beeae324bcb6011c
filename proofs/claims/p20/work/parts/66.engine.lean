/-! ENGINE 9: constants; methods that call what catches; a world's places renamed -/
section EN9
variable {κ : en_C} {own : String} {cc : ByteArray} {nL : Nat} {Ts : List Cond} {rm : Room} {pc : Nat} {ls : List (Option en_V)} {st : List en_V} {m : en_M} {k n : Nat}
theorem en_ldc {index : Nat} {v : Int32} {z : Int} (h : en_Ok κ own cc nL Ts rm) (d : decode cc pc = .ok (.ldc index, 2)) (hw : Cond.constant own index v ∈ Ts) (hz : v.toInt = z) (kk : en_G κ (pc + 2) ls (en_I z :: st) m k n) : en_G κ pc ls st m k n := by
  obtain ⟨p, l, e, R, s, mid, args, below, meth, c, Q, D, cy, ad, PL, A⟩ := κ
  obtain ⟨hx, hb, hml, hown, hts, hR, hlk, hK, hn, hi, hA, hA2, hE⟩ := h
  intro H locs a hl hP hS
  have q := kk H locs a hl hP hS
  rw [← hz] at q
  simp only [List.map_cons, en_tv, Int32.ofInt_toInt] at q
  exact lv_ldc hx hb hown (hts _ hw) d q
theorem en_ldc2 {index : Nat} {v : Int64} {z : Int} (h : en_Ok κ own cc nL Ts rm) (d : decode cc pc = .ok (.ldc2_w index, 3)) (hw : Cond.constantLong own index v ∈ Ts) (hz : v.toInt = z) (kk : en_G κ (pc + 3) ls (en_L z :: st) m k n) : en_G κ pc ls st m k n := by
  obtain ⟨p, l, e, R, s, mid, args, below, meth, c, Q, D, cy, ad, PL, A⟩ := κ
  obtain ⟨hx, hb, hml, hown, hts, hR, hlk, hK, hn, hi, hA, hA2, hE⟩ := h
  intro H locs a hl hP hS
  have q := kk H locs a hl hP hS
  rw [← hz] at q
  simp only [List.map_cons, en_tv, Int64.ofInt_toInt] at q
  exact lv_ldc2 hx hb hown (hts _ hw) d q
/-- a method without a table, whose callees may throw and catch among themselves -/
theorem en_metP {l : Launch} {w : en_W} {y : MethodName} {C : String} {ret : Option FieldType} {ws : List Cond} {np : Nat} {As : List en_V} {post : Option en_V → en_M → Prop} (hy : en_MY y C cc nL ret ws np) (hw : en_Wok w) (hl : l.stackTraces = false) (hn : (en_ea As).length ≤ nL)
    (body : ∀ κ : en_C, en_l κ = l → en_w κ = w → en_Ok κ C cc nL ws rm → en_fin κ rm ret post → en_Xs κ → en_G κ 0 (en_ent nL As) [] m 0 0) : en_MetS l w y ws rm As m post := by
  intro sz
  obtain ⟨⟨ws', hws⟩, hC, -, -, -, hpl⟩ := hy
  refine Met.ofW (cc := cc) (maxL := nL) (ret := ret) hpl hws ?_
  intro p e s mid args below meth c s₁ B hml hv
  obtain ⟨rfl, hsz, hP, hK, hE, hX⟩ := hv
  obtain ⟨D, cy, ad, PL⟩ := w
  have hts := atoms_spec (ws := ws) B.pre
  have hown : s.vm.findClass C = some mid.cls := by rw [← hC]; exact findClass_of_methodNamed B.named
  subst hsz
  have G := body (p, l, e, (headSpec ws rm).room, s, mid, ((As.map (en_tv ad)).toArray), below, meth, c, MQ below (en_Qc (D, cy, ad, PL) post s.heap.size) ((As.map (en_tv ad)).toArray) s rm.cells rm.slots (en_A ad PL s.heap.size), D, cy, ad, PL, en_A ad PL s.heap.size) rfl rfl
    ⟨B.exec, B.bytes, hml, hown, hts, rfl, B.notSynchronized, hK, hw.1, hw.2, fun i hi => Or.inl ⟨i, hi, rfl⟩, fun q hq => Or.inr hq, hE⟩ ⟨Or.inl rfl, rfl, B.returns⟩ ⟨hX, hl⟩
  have q := G s.heap [] ((lg_sl (As.map (en_tv ad)) ++ List.replicate (nL - (lg_sl (As.map (en_tv ad))).length) Slot.unset).toArray) (by rw [hml]; exact en_entry ad As hn) hP va_S.rf
  rw [lg_entry_eq]
  exact q
/-- a static call of such a method -/
theorem en_callSP {y : MethodName} {C : String} {bytes : ByteArray} {maxL : Nat} {ret' : Option FieldType} {ws : List Cond} {np index : Nat} {rmc : Room} {As rest : List en_V} {post' : Option en_V → en_M → Prop} (h : en_Ok κ own cc nL Ts rm) (hx9 : en_Xs κ) (hM : en_MetS (en_l κ) (en_w κ) y ws rmc As m post') (hy : en_MY y C bytes maxL ret' ws np) (g : GoodIn Ts (va_wsS own index y ws))
    (hst : st = As.reverse ++ rest) (hnp : As.length = np) (hR : rmc.frames + 1 ≤ rm.frames ∧ 8 + (maxL + 11) + rmc.locals ≤ rm.locals) (hcs : k + rmc.cells ≤ rm.cells ∧ n + rmc.slots ≤ rm.slots) (hcat : (rest.map fun v => (en_tv (fun _ => 0) v).category).sum ≤ 8) (d : decode cc pc = .ok (.invokestatic index, 3))
    (kk : ∀ (r : Option en_V) (m' : en_M), post' r m' → en_G κ (pc + 3) ls (en_psh r rest) m' (k + rmc.cells) (n + rmc.slots)) : en_G κ pc ls st m k n := by
  subst hst
  obtain ⟨p, l, e, R, s, mid, args, below, meth, c, Q, D, cy, ad, PL, A⟩ := κ
  obtain ⟨hx, hb, hml, hown, hts, hR9, hlk, hK, hn, hi, hA, hA2, hE⟩ := h
  obtain ⟨hX9, hfl⟩ := hx9
  subst hR9
  intro H locs a hl hP hS
  obtain ⟨⟨ws', hws⟩, h1, h2, h3, h4, h5⟩ := hy
  have hfA : ∀ q, en_A ad PL H.size q → A q := fun q hq => by
    rcases hq with ⟨i, hi, rfl⟩ | hq
    · exact hA i hi
    · exact hA2 q (Nat.le_trans hS.1 hq)
  refine en_go (rest := rest) (va_runS (As := As.map (en_tv ad)) (rest := rest.map (en_tv ad)) ⟨hx, hb, hml, hown, hts⟩ (hM H.size) (va_cwS np hts g hws rfl rfl ⟨h2, h3, h4⟩ hR) ⟨en_blindX, fun U hU hW => ⟨rfl, by rw [hU], by rw [hU]; exact hP, va_K.moved hW.alike hK, en_E.warm hW hE, en_X.at (D := D) hX9 hW hU hS hfA⟩⟩ rfl (by rw [List.length_map]; exact hnp) (hl.1.trans hml) ?_ (lv_room (by rw [en_cats]; exact hcat)) d hcs) hS hA hA2 (fun r m' H1 locs1 hp hP1 hS1 => kk r m' hp H1 locs1 a hl hP1 hS1)
  show ((As.reverse ++ rest).map (en_tv ad)) = _
  rw [List.map_append, List.map_reverse]
theorem en_wide {k' n' : Nat} (h1 : k ≤ k') (h2 : n ≤ n') (kk : en_G κ pc ls st m k' n') : en_G κ pc ls st m k n := by
  obtain ⟨p, l, e, R, s, mid, args, below, meth, c, Q, D, cy, ad, PL, A⟩ := κ
  intro H locs a hl hP hS
  exact W.widen h1 h2 (kk H locs a hl hP hS)
theorem en_weak {ls' : List (Option en_V)} (h : ∀ (i : Nat) (v : en_V), ls'[i]? = some (some v) → ls[i]? = some (some v)) (kk : en_G κ pc ls' st m k n) : en_G κ pc ls st m k n := by
  obtain ⟨p, l, e, R, s, mid, args, below, meth, c, Q, D, cy, ad, PL, A⟩ := κ
  intro H locs a hl hP hS
  exact kk H locs a ⟨hl.1, hl.2.1, fun i v hv => hl.2.2 i v (h i v hv)⟩ hP hS
theorem en_tin {x dflt lo hi off : Int} {offs : Array Int} {len tgt : Nat} (h : en_Ok κ own cc nL Ts rm) (d : decode cc pc = .ok (.tableswitch dflt lo hi offs, len)) (hr : en_i32 x) (h1 : lo ≤ x ∧ x ≤ hi) (ho : offs[(x - lo).toNat]? = some off) (ht : (pc : Int) + off = (tgt : Int)) (kk : en_G κ tgt ls st m k n) : en_G κ pc ls (en_I x :: st) m k n := by
  obtain ⟨p, l, e, R, s, mid, args, below, meth, c, Q, D, cy, ad, PL, A⟩ := κ
  obtain ⟨hx, hb, hml, hown, hts, hR, hlk, hK, hn, hi9, hA, hA2, hE⟩ := h
  intro H locs a hl hP hS
  have e1 : (Int32.ofInt x).toInt = x := en_to32 hr
  exact lv_tableIn hx hb d (by rw [e1]; omega) (by rw [e1]; omega) (by rw [e1]; exact ho) ht (kk H locs a hl hP hS)
theorem en_tout {x dflt lo hi : Int} {offs : Array Int} {len tgt : Nat} (h : en_Ok κ own cc nL Ts rm) (d : decode cc pc = .ok (.tableswitch dflt lo hi offs, len)) (hr : en_i32 x) (h1 : x < lo ∨ hi < x) (ht : (pc : Int) + dflt = (tgt : Int)) (kk : en_G κ tgt ls st m k n) : en_G κ pc ls (en_I x :: st) m k n := by
  obtain ⟨p, l, e, R, s, mid, args, below, meth, c, Q, D, cy, ad, PL, A⟩ := κ
  obtain ⟨hx, hb, hml, hown, hts, hR, hlk, hK, hn, hi9, hA, hA2, hE⟩ := h
  intro H locs a hl hP hS
  have e1 : (Int32.ofInt x).toInt = x := en_to32 hr
  exact lv_tableOut hx hb d (by rw [e1]; exact h1) ht (kk H locs a hl hP hS)
end EN9
theorem en_Xs_l {κ : en_C} (h : en_Xs κ) : (en_l κ).stackTraces = false := by
  obtain ⟨p, l, e, R, s, mid, args, below, meth, c, Q, D, cy, ad, PL, A⟩ := κ
  exact h.2
/-! the two grids change places -/
def rn (k : Int) : Int := if 0 ≤ k ∧ k < 50 then k + 100 else if 100 ≤ k ∧ k < 150 then k - 100 else k
theorem rn_rn (k : Int) : rn (rn k) = k := by
  unfold rn
  split
  · rw [if_neg (by omega), if_pos (by omega)]
    omega
  · split
    · rw [if_pos (by omega)]
      omega
    · rfl
def rnV : en_V → en_V
  | .inr (.inr k) => en_R (rn k)
  | .inr (.inl z) => en_L z
  | .inl z => en_I z
theorem rnV_rnV (v : en_V) : rnV (rnV v) = v := by
  rcases v with z | z | z
  · rfl
  · rfl
  · show en_R (rn (rn z)) = en_R z
    rw [rn_rn]
def rnM (m : en_M) : en_M := fun k j => if k = 28 ∨ k = 128 then rn (m (rn k) j) else m (rn k) j
theorem rnM_rnM (m : en_M) : rnM (rnM m) = m := by
  funext k j
  unfold rnM
  by_cases c : k = 28 ∨ k = 128
  · have c2 : rn k = 28 ∨ rn k = 128 := by
      rcases c with rfl | rfl
      · exact Or.inr (by decide)
      · exact Or.inl (by decide)
    rw [if_pos c, if_pos c2, rn_rn, rn_rn]
  · have c2 : ¬ (rn k = 28 ∨ rn k = 128) := by
      intro z
      apply c
      rcases z with z | z
      · right
        rw [← rn_rn k, z]
        decide
      · left
        rw [← rn_rn k, z]
        decide
    rw [if_neg c, if_neg c2, rn_rn]
theorem rnM_k {m : en_M} {k : Int} (h : k ≠ 28 ∧ k ≠ 128) : rnM m k = m (rn k) := by
  funext j
  unfold rnM
  rw [if_neg (by omega)]
theorem rn_lo {k : Int} (h : 0 ≤ k ∧ k < 50) : rn k = k + 100 := if_pos h
theorem rn_mid {k : Int} (h : 100 ≤ k ∧ k < 150) : rn k = k - 100 := by
  unfold rn
  rw [if_neg (by omega), if_pos h]
theorem rn_hi {k : Int} (h : 150 ≤ k) : rn k = k := by
  unfold rn
  rw [if_neg (by omega), if_neg (by omega)]
def rnF (f : Nat × Int) : Nat × Int := if f.1 = 2 then (f.1, rn f.2) else f
def rnY : en_Y → en_Y
  | .inl (t, N, b) => .inl (t, N, if (t = 3 ∨ t = 4) ∧ 0 ≤ b then rn b else b)
  | .inr (c, fl) => .inr (c, fl.map rnF)
def rnK (k : Int) : Prop := (0 ≤ k ∧ k < 50) ∨ (100 ≤ k ∧ k < 150) ∨ (200 ≤ k ∧ k < 204)
def rnS (k : Int) : Bool := match en_ly k with
  | .inl (t, N, b) => (decide (t ≤ 2) && decide (k ≠ 28) && decide (k ≠ 128)) || (decide (t = 3 ∨ t = 4) && ((decide (b < 0) && decide (k = 28 ∨ k = 128)) || (decide (0 ≤ b) && decide (k ≠ 28) && decide (k ≠ 128) && decide ((b + (N : Int) ≤ 50) ∨ (100 ≤ b ∧ b + (N : Int) ≤ 150)))))
  | .inr (c, fl) => decide (k ≠ 28) && decide (k ≠ 128) && fl.all (fun f => decide (f.1 ≤ 2))
theorem rn_c1 : ((List.range 50).all fun k => decide (en_ly (rn (k : Int)) = rnY (en_ly (k : Int))) && rnS (k : Int)) = true := by decide +kernel
theorem rn_c2 : ((List.range 50).all fun k => decide (en_ly (rn ((k : Int) + 100)) = rnY (en_ly ((k : Int) + 100))) && rnS ((k : Int) + 100)) = true := by decide +kernel
theorem rn_c3 : ((List.range 4).all fun k => decide (en_ly (rn ((k : Int) + 200)) = rnY (en_ly ((k : Int) + 200))) && rnS ((k : Int) + 200)) = true := by decide +kernel
theorem rn_ly {k : Int} (h : rnK k) : en_ly (rn k) = rnY (en_ly k) ∧ rnS k = true := by
  have key : ∀ (N : Nat) (b : Int), ((List.range N).all fun k => decide (en_ly (rn ((k : Int) + b)) = rnY (en_ly ((k : Int) + b))) && rnS ((k : Int) + b)) = true → b ≤ k → k < b + N → en_ly (rn k) = rnY (en_ly k) ∧ rnS k = true := by
    intro N b hc h0 h1
    have z := List.all_eq_true.mp hc (k - b).toNat (List.mem_range.mpr (by omega))
    rw [show (((k - b).toNat : Nat) : Int) + b = k by omega, Bool.and_eq_true] at z
    exact ⟨of_decide_eq_true z.1, z.2⟩
  rcases h with h | h | h
  · refine key 50 0 ?_ h.1 (by omega)
    have z := rn_c1
    simpa using z
  · exact key 50 100 rn_c2 h.1 (by omega)
  · exact key 4 200 rn_c3 h.1 (by omega)
theorem arrV_cong {c : ClassId} {N : Nat} {f g : Nat → Value} (h : ∀ j, j < N → f j = g j) : arrV c N f = arrV c N g := by
  unfold arrV
  congr 1
  congr 1
  funext j
  exact h j.val j.isLt
theorem rn_fl (ad : Int → Nat) (m : en_M) {k : Int} (hk : rnM m (rn k) = m k) : ∀ (fl : List (Nat × Int)) (i : Nat), (fl.all (fun f => decide (f.1 ≤ 2))) = true → en_fl (fun j => ad (rn j)) (rnM m) (rn k) i (fl.map rnF) = en_fl ad m k i fl
  | [], _, _ => rfl
  | f :: t, i, h => by
    rw [List.all_cons, Bool.and_eq_true] at h
    simp only [List.map_cons, en_fl]
    rw [rn_fl ad m hk t (i + 1) h.2]
    congr 1
    have h1 : f.1 ≤ 2 := of_decide_eq_true h.1
    unfold en_fv rnF
    rw [hk]
    by_cases c : f.1 = 2
    · rw [if_pos c]
      simp only [c]
      simp [rn_rn]
    · rw [if_neg c]
      by_cases c0 : f.1 = 0
      · rw [if_pos c0, if_pos c0]
      · have c1 : f.1 = 1 := by omega
        rw [if_neg c0, if_neg c0, if_pos c1, if_pos c1]
theorem rn_at {D : va_G} {cy : Nat → ClassId} {ad : Int → Nat} {m : en_M} {k : Int} {H : Heap} (h : rnK k) : va_at D vwCl (ad k, en_ct cy (fun j => ad (rn j)) (rnM m) (rn k)) H ↔ va_at D vwCl (ad k, en_ct cy ad m k) H := by
  obtain ⟨e, s⟩ := rn_ly h
  have mk : k ≠ 28 ∧ k ≠ 128 → rnM m (rn k) = m k := by
    intro z
    have z2 : rn k ≠ 28 ∧ rn k ≠ 128 := by
      constructor
      · intro y
        exact z.2 (by rw [← rn_rn k, y]; decide)
      · intro y
        exact z.1 (by rw [← rn_rn k, y]; decide)
    rw [rnM_k z2, rn_rn]
  unfold rnS at s
  unfold en_ct
  rw [e]
  cases hy : en_ly k with
  | inl y =>
    obtain ⟨t, N, b⟩ := y
    rw [hy] at s
    simp only [rnY]
    show H[ad k]? = some (vp_cell _ _) ↔ H[ad k]? = some (vp_cell _ _)
    have key : vp_cell (cy t) (N, en_ac (fun j => ad (rn j)) (rnM m) (rn k) t (if (t = 3 ∨ t = 4) ∧ 0 ≤ b then rn b else b)) = vp_cell (cy t) (N, en_ac ad m k t b) := by
      simp only [Bool.or_eq_true, Bool.and_eq_true, decide_eq_true_eq] at s
      rcases s with ⟨⟨s1, s2⟩, s3⟩ | ⟨s1, s2⟩
      · unfold en_ac
        rw [mk ⟨s2, s3⟩]
        by_cases c : t = 0 ∨ t = 2
        · rw [if_pos c, if_pos c]
        · rw [if_neg c, if_neg c, if_pos (by omega), if_pos (by omega)]
      · have n0 : ¬ (t = 0 ∨ t = 2) := by omega
        have n1 : ¬ t = 1 := by omega
        unfold en_ac
        rw [if_neg n0, if_neg n0, if_neg n1, if_neg n1]
        unfold vp_cell
        dsimp only
        refine arrV_cong (fun j hj => ?_)
        congr 3
        rcases s2 with ⟨b0, c⟩ | ⟨⟨⟨b0, c1⟩, c2⟩, c3⟩
        · rw [if_neg (show ¬ ((t = 3 ∨ t = 4) ∧ 0 ≤ b) by omega), if_pos b0, if_pos b0]
          have z : rn k = 28 ∨ rn k = 128 := by
            rcases c with rfl | rfl
            · exact Or.inr (by decide)
            · exact Or.inl (by decide)
          unfold rnM
          rw [if_pos z, rn_rn, rn_rn]
        · rw [if_pos (show (t = 3 ∨ t = 4) ∧ 0 ≤ b from ⟨s1, b0⟩), if_neg (show ¬ b < 0 by omega)]
          have hr : rn b = b + 100 ∨ rn b = b - 100 ∧ 100 ≤ b := by
            rcases c3 with c3 | c3
            · exact Or.inl (rn_lo (by omega))
            · exact Or.inr ⟨rn_mid (by omega), c3.1⟩
          rw [if_neg (show ¬ rn b < 0 by omega)]
          rcases c3 with c3 | c3
          · rw [rn_lo (k := b) (by omega), rn_mid (by omega)]
            omega
          · rw [rn_mid (k := b) (by omega), rn_lo (by omega)]
            omega
    rw [key]
  | inr y =>
    obtain ⟨c, fl⟩ := y
    rw [hy] at s
    simp only [Bool.and_eq_true, decide_eq_true_eq] at s
    simp only [rnY]
    rw [rn_fl ad m (mk ⟨s.1.1, s.1.2⟩) fl 0 s.2]
def rnW (w : en_W) : en_W := (w.1, w.2.1, (fun k => w.2.2.1 (rn k)), w.2.2.2.map rn)
def HasL (w : en_W) : Prop := en_Has w 0 50 ∧ en_Has w 100 150 ∧ en_Has w 200 204 ∧ ∀ k ∈ w.2.2.2, rnK k
theorem rn_rW (w : en_W) : rnW (rnW w) = w := by
  obtain ⟨D, cy, ad, PL⟩ := w
  unfold rnW
  simp only [rn_rn, List.map_map]
  congr 3
  have : (rn ∘ rn) = id := by
    funext k
    exact rn_rn k
  rw [this, List.map_id]
theorem rn_K {k : Int} (h : rnK k) : rnK (rn k) := by
  rcases h with h | h | h
  · rw [rn_lo h]
    exact Or.inr (Or.inl (by omega))
  · rw [rn_mid h]
    exact Or.inl (by omega)
  · rw [rn_hi (by omega)]
    exact Or.inr (Or.inr h)
theorem rn_in {w : en_W} {k : Int} (h : rn k ∈ w.2.2.2) : k ∈ (rnW w).2.2.2 := List.mem_map.mpr ⟨rn k, h, rn_rn k⟩
theorem rn_HasL {w : en_W} (h : HasL w) : HasL (rnW w) := by
  obtain ⟨h1, h2, h3, h4⟩ := h
  refine ⟨fun k k0 k1 => rn_in ?_, fun k k0 k1 => rn_in ?_, fun k k0 k1 => rn_in ?_, fun k hk => ?_⟩
  · rw [rn_lo ⟨k0, k1⟩]
    exact h2 _ (by omega) (by omega)
  · rw [rn_mid ⟨k0, k1⟩]
    exact h1 _ (by omega) (by omega)
  · rw [rn_hi (by omega)]
    exact h3 _ k0 k1
  · obtain ⟨j, hj, rfl⟩ := List.mem_map.mp hk
    exact rn_K (h4 j hj)
theorem rn_Wok {w : en_W} (h : en_Wok w) : en_Wok (rnW w) := by
  obtain ⟨h1, h2⟩ := h
  refine ⟨?_, fun i j hi hj e => ?_⟩
  · show (w.2.2.2.map rn).Nodup
    refine List.Pairwise.map rn (fun a b hab => ?_) h1
    intro e
    apply hab
    rw [← rn_rn a, e, rn_rn]
  · obtain ⟨a, ha, rfl⟩ := List.mem_map.mp hi
    obtain ⟨b, hb, rfl⟩ := List.mem_map.mp hj
    have e2 : w.2.2.1 (rn (rn a)) = w.2.2.1 (rn (rn b)) := e
    rw [rn_rn, rn_rn] at e2
    rw [h2 a b ha hb e2]
theorem rn_P {w : en_W} {m : en_M} {H : Heap} (h : ∀ k ∈ w.2.2.2, rnK k) : va_P (rnW w).1 vwCl (en_ws (rnW w).2.1 (rnW w).2.2.1 (rnW w).2.2.2 (rnM m)) H ↔ va_P w.1 vwCl (en_ws w.2.1 w.2.2.1 w.2.2.2 m) H := by
  obtain ⟨D, cy, ad, PL⟩ := w
  have hg : ∀ i : Nat, (en_ws cy (fun k => ad (rn k)) (PL.map rn) (rnM m))[i]? = (PL[i]?).map (fun k => (ad k, en_ct cy (fun j => ad (rn j)) (rnM m) (rn k))) := by
    intro i
    simp only [en_ws, List.getElem?_map, Option.map_map]
    congr 1
    funext k
    simp [rn_rn]
  have hg2 : ∀ i : Nat, (en_ws cy ad PL m)[i]? = (PL[i]?).map (fun k => (ad k, en_ct cy ad m k)) := by
    intro i
    simp only [en_ws, List.getElem?_map]
  show (∀ (i : Nat) (q : Nat × va_E), (en_ws cy (fun k => ad (rn k)) (PL.map rn) (rnM m))[i]? = some q → va_at D vwCl q H) ↔ (∀ (i : Nat) (q : Nat × va_E), (en_ws cy ad PL m)[i]? = some q → va_at D vwCl q H)
  constructor
  · intro z i q hq
    rw [hg2] at hq
    cases hk : PL[i]? with
    | none => rw [hk] at hq; cases hq
    | some k =>
      rw [hk] at hq
      simp only [Option.map_some, Option.some.injEq] at hq
      subst hq
      exact (rn_at (h k (List.mem_of_getElem? hk))).mp (z i _ (by rw [hg, hk]; rfl))
  · intro z i q hq
    rw [hg] at hq
    cases hk : PL[i]? with
    | none => rw [hk] at hq; cases hq
    | some k =>
      rw [hk] at hq
      simp only [Option.map_some, Option.some.injEq] at hq
      subst hq
      exact (rn_at (h k (List.mem_of_getElem? hk))).mpr (z i _ (by rw [hg2, hk]; rfl))
theorem rn_A (w : en_W) (sz : Nat) : en_A (rnW w).2.2.1 (rnW w).2.2.2 sz = en_A w.2.2.1 w.2.2.2 sz := by
  funext q
  apply propext
  constructor
  · rintro (⟨k, hk, e⟩ | e)
    · obtain ⟨j, hj, rfl⟩ := List.mem_map.mp hk
      left
      refine ⟨j, hj, ?_⟩
      have e2 : q = w.2.2.1 (rn (rn j)) := e
      rw [rn_rn] at e2
      exact e2
    · exact Or.inr e
  · rintro (⟨k, hk, e⟩ | e)
    · left
      refine ⟨rn k, List.mem_map.mpr ⟨k, hk, rfl⟩, ?_⟩
      show q = w.2.2.1 (rn (rn k))
      rw [rn_rn]
      exact e
    · exact Or.inr e
theorem rn_tv (w : en_W) (v : en_V) : en_tv (rnW w).2.2.1 v = en_tv w.2.2.1 (rnV v) := by
  rcases v with z | z | z <;> rfl
theorem rn_As (w : en_W) (As : List en_V) : As.map (en_tv (rnW w).2.2.1) = (As.map rnV).map (en_tv w.2.2.1) := by
  rw [List.map_map]
  apply List.map_congr_left
  intro v _
  exact rn_tv w v
theorem rn_Pc {w : en_W} {As : List en_V} {m : en_M} {sz : Nat} (h : ∀ k ∈ w.2.2.2, rnK k) : en_Pc w (As.map rnV) (rnM m) sz = en_Pc (rnW w) As m sz := by
  funext a U
  have e : va_P w.1 vwCl (en_ws w.2.1 w.2.2.1 w.2.2.2 (rnM m)) U.heap ↔ va_P (rnW w).1 vwCl (en_ws (rnW w).2.1 (rnW w).2.2.1 (rnW w).2.2.2 m) U.heap := by
    have z := rn_P (m := rnM m) (H := U.heap) h
    rw [rnM_rnM] at z
    exact z.symm
  unfold en_Pc
  rw [rn_As]
  unfold va_Pc
  apply propext
  constructor
  · rintro ⟨q0, q1, q2, q3, q4⟩
    exact ⟨q0, q1, e.mp q2, q3, q4⟩
  · rintro ⟨q0, q1, q2, q3, q4⟩
    exact ⟨q0, q1, e.mpr q2, q3, q4⟩
theorem rn_PcX {w : en_W} {As : List en_V} {m : en_M} {sz : Nat} (h : ∀ k ∈ w.2.2.2, rnK k) : en_PcX w (As.map rnV) (rnM m) sz = en_PcX (rnW w) As m sz := by
  funext a U
  have e : va_P w.1 vwCl (en_ws w.2.1 w.2.2.1 w.2.2.2 (rnM m)) U.heap ↔ va_P (rnW w).1 vwCl (en_ws (rnW w).2.1 (rnW w).2.2.1 (rnW w).2.2.2 m) U.heap := by
    have z := rn_P (m := rnM m) (H := U.heap) h
    rw [rnM_rnM] at z
    exact z.symm
  unfold en_PcX
  rw [rn_As, rn_A]
  unfold va_Pc
  apply propext
  constructor
  · rintro ⟨q0, q1, q2, q3, q4, q5⟩
    exact ⟨q0, q1, e.mp q2, q3, q4, q5⟩
  · rintro ⟨q0, q1, q2, q3, q4, q5⟩
    exact ⟨q0, q1, e.mpr q2, q3, q4, q5⟩
theorem rn_ro (r : Option en_V) : (r.map rnV).map rnV = r := by
  cases r with
  | none => rfl
  | some v => simp [rnV_rnV]
theorem rn_Qc {w : en_W} {post : Option en_V → en_M → Prop} {sz : Nat} (h : ∀ k ∈ w.2.2.2, rnK k) : en_Qc w (fun r m' => post (r.map rnV) (rnM m')) sz = en_Qc (rnW w) post sz := by
  funext a s oc t
  have e : ∀ m, va_P w.1 vwCl (en_ws w.2.1 w.2.2.1 w.2.2.2 m) t.heap ↔ va_P (rnW w).1 vwCl (en_ws (rnW w).2.1 (rnW w).2.2.1 (rnW w).2.2.2 (rnM m)) t.heap := fun m => (rn_P h).symm
  have er : ∀ r : Option en_V, r.map (en_tv (rnW w).2.2.1) = (r.map rnV).map (en_tv w.2.2.1) := by
    intro r
    cases r with
    | none => rfl
    | some v => simp [rn_tv]
  unfold en_Qc
  rw [rn_A]
  apply propext
  constructor
  · rintro ⟨⟨r, m', q1, q2, q3, q4⟩, q5⟩
    exact ⟨⟨r.map rnV, rnM m', by rw [er, rn_ro]; exact q1, q2, (e m').mp q3, q4⟩, q5⟩
  · rintro ⟨⟨r, m', q1, q2, q3, q4⟩, q5⟩
    refine ⟨⟨r.map rnV, rnM m', by rw [← er]; exact q1, by show post ((r.map rnV).map rnV) (rnM (rnM m')); rw [rn_ro, rnM_rnM]; exact q2, (e _).mpr (by rw [rnM_rnM]; exact q3), q4⟩, q5⟩
theorem rn_Met {l : Launch} {w : en_W} {y : MethodName} {ws : List Cond} {rm : Room} {As : List en_V} {m : en_M} {post : Option en_V → en_M → Prop} (h : ∀ k ∈ w.2.2.2, rnK k) (hM : en_Met l (rnW w) y ws rm As m post) : en_Met l w y ws rm (As.map rnV) (rnM m) (fun r m' => post (r.map rnV) (rnM m')) := by
  intro sz
  have q := hM sz
  rw [← rn_Pc h, ← rn_Qc h, rn_A] at q
  exact q
theorem rn_MetS {l : Launch} {w : en_W} {y : MethodName} {ws : List Cond} {rm : Room} {As : List en_V} {m : en_M} {post : Option en_V → en_M → Prop} (h : ∀ k ∈ w.2.2.2, rnK k) (hM : en_MetS l (rnW w) y ws rm As m post) : en_MetS l w y ws rm (As.map rnV) (rnM m) (fun r m' => post (r.map rnV) (rnM m')) := by
  intro sz
  have q := hM sz
  rw [← rn_PcX h, ← rn_Qc h, rn_A] at q
  exact q
/-- a contract for the other grid: post over (rnM m') -/
theorem rn_use {l : Launch} {w : en_W} {y : MethodName} {ws : List Cond} {rm : Room} {As : List en_V} {m : en_M} {post : Option en_V → en_M → Prop} (h : ∀ k ∈ w.2.2.2, rnK k) (hM : en_MetS l (rnW w) y ws rm (As.map rnV) (rnM m) post) : en_MetS l w y ws rm As m (fun r m' => post (r.map rnV) (rnM m')) := by
  have q := rn_MetS h hM
  rw [rnM_rnM, List.map_map, show (rnV ∘ rnV) = id from funext rnV_rnV, List.map_id] at q
  exact q
/-! quotients and rests of what is not negative -/
section EN10
variable {κ : en_C} {own : String} {cc : ByteArray} {nL : Nat} {Ts : List Cond} {rm : Room} {pc : Nat} {ls : List (Option en_V)} {st : List en_V} {m : en_M} {k n : Nat}
theorem en_tm {x y : Int} (hx : 0 ≤ x) : x - x.tdiv y * y = x % y := by
  have h := Int.emod_def x y
  rw [Int.tdiv_eq_ediv_of_nonneg hx, h, Int.mul_comm]
theorem en_idivP {x y : Int} (h : en_Ok κ own cc nL Ts rm) (d : decode cc pc = .ok (.idiv, 1)) (hrx : 0 ≤ x ∧ x < 2147483648) (hry : 0 < y ∧ y < 2147483648) (kk : en_G κ (pc + 1) ls (en_I (x / y) :: st) m k n) : en_G κ pc ls (en_I y :: en_I x :: st) m k n :=
  en_idiv h d ⟨by omega, by omega⟩ hry (by rw [Int.tdiv_eq_ediv_of_nonneg hrx.1]; exact kk)
theorem en_iremP {x y : Int} (h : en_Ok κ own cc nL Ts rm) (d : decode cc pc = .ok (.irem, 1)) (hrx : 0 ≤ x ∧ x < 2147483648) (hry : 0 < y ∧ y < 2147483648) (kk : en_G κ (pc + 1) ls (en_I (x % y) :: st) m k n) : en_G κ pc ls (en_I y :: en_I x :: st) m k n :=
  en_irem h d ⟨by omega, by omega⟩ hry (by rw [en_tm hrx.1]; exact kk)
theorem en_ldivP {x y : Int} (h : en_Ok κ own cc nL Ts rm) (d : decode cc pc = .ok (.ldiv, 1)) (hrx : 0 ≤ x ∧ x < 9223372036854775808) (hry : 0 < y ∧ y < 9223372036854775808) (kk : en_G κ (pc + 1) ls (en_L (x / y) :: st) m k n) : en_G κ pc ls (en_L y :: en_L x :: st) m k n :=
  en_ldiv h d ⟨by omega, by omega⟩ hry (by rw [Int.tdiv_eq_ediv_of_nonneg hrx.1]; exact kk)
theorem en_lremP {x y : Int} (h : en_Ok κ own cc nL Ts rm) (d : decode cc pc = .ok (.lrem, 1)) (hrx : 0 ≤ x ∧ x < 9223372036854775808) (hry : 0 < y ∧ y < 9223372036854775808) (kk : en_G κ (pc + 1) ls (en_L (x % y) :: st) m k n) : en_G κ pc ls (en_L y :: en_L x :: st) m k n :=
  en_lrem h d ⟨by omega, by omega⟩ hry (by rw [en_tm hrx.1]; exact kk)
end EN10
