/-! ENGINE 12: calls with a counter of cells -/
section EN12
variable {κ : en_C} {own : String} {cc : ByteArray} {nL : Nat} {Ts : List Cond} {rm : Room} {pc : Nat} {ls : List (Option en_V)} {st : List en_V} {m : en_M}
theorem en_cS {y : MethodName} {C : String} {bytes : ByteArray} {maxL : Nat} {ret' : Option FieldType} {hh : List (Nat × Nat × Nat × Nat)} {ws : List Cond} {np index : Nat} {rmc : Room} {As rest : List en_V} {post' : Option en_V → en_M → Prop} {q B c : Nat} (h : en_Ok κ own cc nL Ts rm) (hx9 : en_Xs κ) (hM : en_MetS (en_l κ) (en_w κ) y ws rmc As m post') (hy : en_MYS y C bytes maxL ret' hh ws np) (g : GoodIn Ts (va_wsS own index y ws))
    (hst : st = As.reverse ++ rest) (hnp : As.length = np) (hR : rmc.frames + 1 ≤ rm.frames ∧ 8 + (maxL + 11) + rmc.locals ≤ rm.locals) (hq : rmc.cells = q ∧ rmc.slots = 6 * q) (hB : rm.cells = B ∧ rm.slots = 6 * B) (hc : c + q ≤ B) (hcat : (rest.map fun v => (en_tv (fun _ => 0) v).category).sum ≤ 8) (d : decode cc pc = .ok (.invokestatic index, 3))
    (kk : ∀ (r : Option en_V) (m' : en_M), post' r m' → en_G κ (pc + 3) ls (en_psh r rest) m' (c + q) (6 * (c + q))) : en_G κ pc ls st m c (6 * c) :=
  en_callSS h hx9 hM hy g hst hnp hR (by rw [hq.1, hq.2, hB.1, hB.2]; omega) hcat d (fun r m' hp => by
    have z := kk r m' hp
    rw [hq.1, hq.2, show 6 * c + 6 * q = 6 * (c + q) by omega]
    exact z)
theorem en_cP {y : MethodName} {C : String} {bytes : ByteArray} {maxL : Nat} {ret' : Option FieldType} {ws : List Cond} {np index : Nat} {rmc : Room} {As rest : List en_V} {post' : Option en_V → en_M → Prop} {q B c : Nat} (h : en_Ok κ own cc nL Ts rm) (hx9 : en_Xs κ) (hM : en_MetS (en_l κ) (en_w κ) y ws rmc As m post') (hy : en_MY y C bytes maxL ret' ws np) (g : GoodIn Ts (va_wsS own index y ws))
    (hst : st = As.reverse ++ rest) (hnp : As.length = np) (hR : rmc.frames + 1 ≤ rm.frames ∧ 8 + (maxL + 11) + rmc.locals ≤ rm.locals) (hq : rmc.cells = q ∧ rmc.slots = 6 * q) (hB : rm.cells = B ∧ rm.slots = 6 * B) (hc : c + q ≤ B) (hcat : (rest.map fun v => (en_tv (fun _ => 0) v).category).sum ≤ 8) (d : decode cc pc = .ok (.invokestatic index, 3))
    (kk : ∀ (r : Option en_V) (m' : en_M), post' r m' → en_G κ (pc + 3) ls (en_psh r rest) m' (c + q) (6 * (c + q))) : en_G κ pc ls st m c (6 * c) :=
  en_callSP h hx9 hM hy g hst hnp hR (by rw [hq.1, hq.2, hB.1, hB.2]; omega) hcat d (fun r m' hp => by
    have z := kk r m' hp
    rw [hq.1, hq.2, show 6 * c + 6 * q = 6 * (c + q) by omega]
    exact z)
theorem en_upk {c c' : Nat} (h1 : c ≤ c') (kk : en_G κ pc ls st m c' (6 * c')) : en_G κ pc ls st m c (6 * c) := en_wide h1 (by omega) kk
end EN12
