/-! ENGINE 5: a row put into an array of rows -/
theorem en_asg (vm : Vm) (c : ClassId) : vm.assignable c c = true := by
  unfold Vm.assignable
  show Vm.assignableAux vm (255 + 1) c c = true
  rw [Vm.assignableAux, beq_self_eq_true, Bool.true_or]
section ENQ
variable {κ : en_C} {own : String} {cc : ByteArray} {nL : Nat} {Ts : List Cond} {rm : Room} {pc : Nat} {ls : List (Option en_V)} {st : List en_V} {m : en_M} {k n : Nat}
theorem en_aastoreD4 {a i v : Int} {N N' : Nat} {b' : Int} (h : en_Ok κ own cc nL Ts rm) (d : decode cc pc = .ok (.aastore, 1)) (hk9 : en_in κ a) (hly : en_ly a = .inl (4, N, -1)) (hv9 : en_in κ v) (hlv : en_ly v = .inl (1, N', b')) (hi9 : 0 ≤ i ∧ i < (N : Int)) (kk : en_G κ (pc + 1) ls st (en_set m a i v) k n) : en_G κ pc ls (en_R v :: en_I i :: en_R a :: st) m k n := by
  obtain ⟨p, l, e, R, s, mid, args, below, meth, c, Q, D, cy, ad, PL, A⟩ := κ
  obtain ⟨hx, hb, hml, hown, hts, hR, hlk, hK, hn, hi, hA, hA2, hE⟩ := h
  intro H locs a9 hl hP hS
  obtain ⟨q0, hq0, hg⟩ := en_ws_get (cy := cy) (ad := ad) (m := m) (show a ∈ PL from hk9)
  obtain ⟨q1, hq1, hg1⟩ := en_ws_get (cy := cy) (ad := ad) (m := m) (show v ∈ PL from hv9)
  rw [en_ctA hly] at hg
  rw [en_ctA hlv] at hg1
  obtain ⟨v1, v2⟩ := en_vpin hi9 (en_lyN hly)
  have hlt : (Int32.ofInt i).toNatClampNeg < N := by rw [v2]; omega
  have h0 : ¬ Int32.ofInt i < 0 := fun q => v1 (Or.inl q)
  have hc0 := hP q0 _ hg
  have hc1 := hP q1 _ hg1
  obtain ⟨comp, c4, k4, f1, -, f3, f4, f5⟩ := Jvm.Stand.arrayOver_specB hE.2.2.2.1
  have e4 : c4 = cy 4 := Option.some.inj (f5.symm.trans (hK.2 4 _ rfl).2)
  have e1 : comp = cy 1 := Option.some.inj (f1.symm.trans (hK.2 1 _ rfl).2)
  subst e4
  subst e1
  obtain ⟨k1, hk1, -⟩ := Vm.findClass_spec f1
  refine W.aast hx hb hc0 (fun q h => by cases h) (fun h => by cases h) f3 f4 rfl hk1 ⟨h0, by show _ < (arrV _ _ _).slots.size; rw [arrV_size]; exact hlt⟩ hc1 (fun q h => by cases h) hk1 (show s.vm.assignable (cy 1) (cy 1) = true from en_asg _ _) rfl rfl d fun H1 e z oq => ?_
  have hD := en_ws_D (cy := cy) (A := A) m hn hi hA
  refine kk H1 _ a9 hl ?_ (hS.put z oq (hA a hk9))
  have e9 := en_ws_set (cy := cy) (ad := ad) (m := m) (m' := en_set m a i v) hn hq0 (fun k' hk' => en_set_k hk')
  rw [← e9]
  refine hP.set hD hg ?_ oq
  rw [en_ctA hly]
  show H1[ad a]? = some (vp_cell _ _)
  rw [e]
  congr 1
  show (arrV (cy 4) N (fun j => va_rf (some (ad (if (-1 : Int) < 0 then m a (j : Int) else -1 + (j : Int)))))).setSlot _ _ = arrV (cy 4) N (fun j => va_rf (some (ad (if (-1 : Int) < 0 then en_set m a i v a (j : Int) else -1 + (j : Int)))))
  rw [arrV_store, v2]
  congr 1
  funext j
  unfold updV en_set
  by_cases ej : j = i.toNat
  · have e7 : (j : Int) = i := by omega
    rw [if_pos ej, if_pos (show (-1 : Int) < 0 by decide), if_pos (show a = a ∧ (j : Int) = i from ⟨rfl, e7⟩)]
    rfl
  · have e7 : ¬ (j : Int) = i := by omega
    simp [ej, e7]
end ENQ
