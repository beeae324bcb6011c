/-! LAW: the whole start -/
theorem whole_start {p : Program} {e : Env} {s : State} {m : MethodId} {below : List Frame} {meth : Method} {c : Code} (l : Launch) (hflags : l.flags = flags0) {b L : Nat} {xs : Nat → Int32} (hL : L ≤ 260) (C0 : lw_At p s m meth c b L xs) : W p l e room_1 s m #[Value.ref b] below meth c s.heap [] 0 0 (lw_Z below #[Value.ref b] s) (entryFrame m ([Value.ref b] : List Value).toArray 14) := by
  obtain ⟨hx, hb, hr, hml, hown, hts, hX, hbl, hlk, hgv⟩ := id C0
  have hfl : l.stackTraces = false := by
    unfold Launch.stackTraces
    rw [hflags]
    decide
  have hE := law_E hts hgv
  have hX9 := law_X hts hgv
  obtain ⟨D, cy, hK⟩ := law_K hts
  have hl := lv_entry ([.ref b]) (n := 14) (Nat.le_of_ble_eq_true rfl)
  rw [lg_entry_eq]
  generalize (lg_sl ([.ref b]) ++ List.replicate (14 - (lg_sl ([.ref b])).length) Slot.unset).toArray = a at hl ⊢
  have hl : lv_has a 14 [(0, .ref b)] := hl
  have h0 : ek_Ok (p, l, e, room_1, s, m, #[Value.ref b], below, meth, c, lw_Z below #[Value.ref b] s, D, cy, fun q => s.heap.size ≤ q, a) RL cL_law 14 wsL_law room_1 [(0, .ref b)] := ⟨hx, hb, hml, hown, fun w hw => hts w (wsL_law_in w hw), rfl, hlk, hK, fun q hq => hq, hl, hE⟩
  refine law_start hL h0 hX hbl (Nat.not_le.mpr hbl) hX9 hfl (fun ad M ls c9 hc9 => ?_) s.heap [] (fun k q h => by simp at h) ⟨fun i j p q h => by simp at h, fun k q h => by simp at h⟩ va_S.rf
  intro H locs a1 hl1 hP1 hS1
  refine va_forget hS1.2.2 ?_
  refine W.widen (show c9 ≤ 683867 by omega) (show 6 * c9 ≤ 7050001 by omega) ?_
  show W p l e room_1 s m #[Value.ref b] below meth c H [] 683867 7050001 (lw_Z below #[Value.ref b] s) (F0 m 551 a1 [.int (Int32.ofInt 1)])
  rw [show Int32.ofInt 1 = (1 : Int32) from by decide]
  exact lw_ret hx hb hr hlk dL_law_551
