/-! LAW: the classes at the start -/
theorem law_AC {s : State} {A : Array Value} {ty : FieldType} (h : (Cond.arrayClass ty).before A s = true) : ∃ c, ArrOfT s c ty ∧ s.vm.findClass ("[" ++ ty.toString) = some c := by
  obtain ⟨c, k, comp, f, g, hk⟩ := Cond.arrayClass_spec h
  exact ⟨c, fun n z => ⟨fun k h => (by cases h), k, g, comp, hk⟩, f⟩
theorem law_AO {s : State} {ty : FieldType} (h : va_AOA ty s) : ∃ c, ArrOfT s c (.array ty) ∧ s.vm.findClass ("[" ++ (FieldType.array ty).toString) = some c := by
  obtain ⟨comp, c, k, f1, -, f3, f4, f5⟩ := Jvm.Stand.arrayOver_specB h
  exact ⟨c, fun n z => ⟨fun k h => (by cases h), k, f3, comp, f4⟩, f5⟩
theorem law_K1 {s : State} {b : Nat} (hts : ∀ w ∈ lw_tbl, w.before #[Value.ref b] s = true) : ∃ D : va_G, ∀ (c : Nat) (q : vw_C), vwCl[c]? = some q → u_Kn s q.1 q.2.1 q.2.2 (D.1 c) (D.2 c) := by
  have hts2 : ∀ w ∈ wsL_law, w.before #[Value.ref b] s = true := fun w hw => hts w (wsL_law_in w hw)
  obtain ⟨c0, i0, K0⟩ := u_known (C := RX0) (T := TX0) (N := 7) (n := 7) hts inX0 (hts2 (.instantiable RX0 7) (List.mem_of_getElem? (i := 38) rfl))
  obtain ⟨c1, i1, K1⟩ := u_known (C := RX1) (T := TX1) (N := 9) (n := 9) hts inX1 (hts2 (.instantiable RX1 9) (List.mem_of_getElem? (i := 19) rfl))
  obtain ⟨c2, i2, K2⟩ := u_known (C := RX2) (T := TX2) (N := 7) (n := 7) hts inX2 (hts2 (.instantiable RX2 7) (List.mem_of_getElem? (i := 30) rfl))
  obtain ⟨c3, i3, K3⟩ := u_known (C := RX3) (T := TX3) (N := 3) (n := 3) hts inX3 (hts2 (.instantiable RX3 3) (List.mem_of_getElem? (i := 34) rfl))
  obtain ⟨c4, i4, K4⟩ := u_known (C := RX4) (T := TX4) (N := 4) (n := 4) hts inX4 (hts2 (.instantiable RX4 4) (List.mem_of_getElem? (i := 2) rfl))
  refine ⟨(fun k => if k = 0 then c0 else if k = 1 then c1 else if k = 2 then c2 else if k = 3 then c3 else c4, fun k => if k = 0 then i0 else if k = 1 then i1 else if k = 2 then i2 else if k = 3 then i3 else i4), fun c q hq => ?_⟩
  match c, hq with
  | 0, hq => cases hq; exact K0
  | 1, hq => cases hq; exact K1
  | 2, hq => cases hq; exact K2
  | 3, hq => cases hq; exact K3
  | 4, hq => cases hq; exact K4
  | c + 5, hq => simp [vwCl] at hq
theorem law_K2 {s : State} {b : Nat} (hts : ∀ w ∈ lw_tbl, w.before #[Value.ref b] s = true) : ∃ cy : Nat → ClassId, ∀ (k : Nat) (q : ClassId × FieldType), (en_ty cy)[k]? = some q → ArrOfT s q.1 q.2 ∧ va_RA s q.1 q.2 := by
  have ht : ∀ w ∈ tables_1, w.before #[Value.ref b] s = true := fun w hw => hts w (tb_in hw)
  obtain ⟨t0, a0, f0⟩ := law_AC (ht _ tb_tint)
  obtain ⟨t1, a1, f1⟩ := law_AC (ht _ tb_tlong)
  obtain ⟨t2, a2, f2⟩ := law_AC (ht _ tb_tboolean)
  obtain ⟨t3, a3, f3⟩ := law_AO (va_AOA.of (ht _ tb_a0))
  obtain ⟨t4, a4, f4⟩ := law_AO (va_AOA.of (ht _ tb_a1))
  refine ⟨fun k => if k = 0 then t0 else if k = 1 then t1 else if k = 2 then t2 else if k = 3 then t3 else t4, fun k q hq => ?_⟩
  match k, hq with
  | 0, hq => cases hq; exact ⟨a0, f0⟩
  | 1, hq => cases hq; exact ⟨a1, f1⟩
  | 2, hq => cases hq; exact ⟨a2, f2⟩
  | 3, hq => cases hq; exact ⟨a3, f3⟩
  | 4, hq => cases hq; exact ⟨a4, f4⟩
  | k + 5, hq => simp [en_ty] at hq
theorem law_K {s : State} {b : Nat} (hts : ∀ w ∈ lw_tbl, w.before #[Value.ref b] s = true) : ∃ (D : va_G) (cy : Nat → ClassId), va_K D vwCl (en_ty cy) s := by
  obtain ⟨D, h1⟩ := law_K1 hts
  obtain ⟨cy, h2⟩ := law_K2 hts
  exact ⟨D, cy, h1, h2⟩
