/-! PURE 3: references settle -/
theorem gs_ln_le (fi se cl R : Int → Int) (j b : Int) : gs_ln fi se cl R j b ≤ R b := by
  unfold gs_ln
  by_cases c : cl j = 0
  · rw [if_pos c]; omega
  · rw [if_neg c]
    by_cases e1 : b = se j
    · rw [if_pos e1, e1]; omega
    · rw [if_neg e1]
      by_cases e2 : b = fi j
      · rw [if_pos e2, e2]; omega
      · rw [if_neg e2]; omega
theorem gs_rd_le (fi se cl R : Int → Int) (b : Int) : ∀ n : Nat, gs_rd fi se cl R n b ≤ R b
  | 0 => Int.le_refl _
  | n + 1 => Int.le_trans (gs_ln_le fi se cl (gs_rd fi se cl R n) (n : Int) b) (gs_rd_le fi se cl R b n)
theorem gs_rd_det {fi se cl P P' : Int → Int} {v nb : Int} (h : ∀ b, 0 ≤ b → b < nb → (P b ≤ v ↔ P' b ≤ v)) : ∀ n : Nat, (∀ j, 0 ≤ j → j < (n : Int) → (0 ≤ fi j ∧ fi j < nb) ∧ 0 ≤ se j ∧ se j < nb) → ∀ b, 0 ≤ b → b < nb → (gs_rd fi se cl P n b ≤ v ↔ gs_rd fi se cl P' n b ≤ v)
  | 0, _, b, b0, b1 => h b b0 b1
  | n + 1, hr, b, b0, b1 => by
    have ih := gs_rd_det (cl := cl) h n (fun j j0 j1 => hr j j0 (by omega))
    have r := hr n (by omega) (by omega)
    have i1 := ih (fi n) r.1.1 r.1.2
    have i2 := ih (se n) r.2.1 r.2.2
    have i3 := ih b b0 b1
    simp only [gs_rd, gs_ln]
    by_cases c : cl (n : Int) = 0
    · rw [if_pos c, if_pos c]; exact i3
    · rw [if_neg c, if_neg c]
      by_cases e1 : b = se (n : Int)
      · rw [if_pos e1, if_pos e1]; omega
      · rw [if_neg e1, if_neg e1]
        by_cases e2 : b = fi (n : Int)
        · rw [if_pos e2, if_pos e2]; omega
        · rw [if_neg e2, if_neg e2]; exact i3
def gs_ct (P : Int → Int) (v : Int) : Nat → Nat
  | 0 => 0
  | n + 1 => gs_ct P v n + (if P (n : Int) ≤ v then 1 else 0)
theorem gs_ct_le (P : Int → Int) (v : Int) : ∀ n : Nat, gs_ct P v n ≤ n
  | 0 => Nat.le_refl _
  | n + 1 => by
    have h := gs_ct_le P v n
    simp only [gs_ct]
    split <;> omega
theorem gs_ct_mono {P P' : Int → Int} {v : Int} : ∀ n : Nat, (∀ b, 0 ≤ b → b < (n : Int) → P b ≤ v → P' b ≤ v) → gs_ct P v n ≤ gs_ct P' v n ∧ (gs_ct P v n = gs_ct P' v n → ∀ b, 0 ≤ b → b < (n : Int) → P' b ≤ v → P b ≤ v)
  | 0, _ => ⟨Nat.le_refl _, fun _ b b0 b1 => by omega⟩
  | n + 1, h => by
    obtain ⟨h1, h2⟩ := gs_ct_mono n (fun b b0 b1 => h b b0 (by omega))
    have hn := h n (by omega) (by omega)
    simp only [gs_ct]
    by_cases c : P (n : Int) ≤ v
    · rw [if_pos c, if_pos (hn c)]
      refine ⟨by omega, fun e b b0 b1 hb => ?_⟩
      by_cases eb : b = (n : Int)
      · rw [eb]; exact c
      · exact h2 (by omega) b b0 (by omega) hb
    · rw [if_neg c]
      by_cases c' : P' (n : Int) ≤ v
      · rw [if_pos c']
        exact ⟨by omega, fun e => by omega⟩
      · rw [if_neg c']
        refine ⟨by omega, fun e b b0 b1 hb => ?_⟩
        by_cases eb : b = (n : Int)
        · rw [eb] at hb; exact absurd hb c'
        · exact h2 (by omega) b b0 (by omega) hb
theorem gs_ct_full {P : Int → Int} {v : Int} : ∀ n : Nat, n ≤ gs_ct P v n → ∀ b, 0 ≤ b → b < (n : Int) → P b ≤ v
  | 0, _, b, b0, b1 => by omega
  | n + 1, h, b, b0, b1 => by
    have l := gs_ct_le P v n
    simp only [gs_ct] at h
    by_cases c : P (n : Int) ≤ v
    · rw [if_pos c] at h
      by_cases eb : b = (n : Int)
      · rw [eb]; exact c
      · exact gs_ct_full n (by omega) b b0 (by omega)
    · rw [if_neg c] at h
      omega
theorem gs_ct_pos {P : Int → Int} {v : Int} (h : P 0 ≤ v) : ∀ n : Nat, 1 ≤ gs_ct P v (n + 1)
  | 0 => by
    simp only [gs_ct]
    rw [show ((0 : Nat) : Int) = 0 from rfl, if_pos h]
    omega
  | n + 1 => by
    have ih := gs_ct_pos (P := P) h n
    simp only [gs_ct] at ih ⊢
    omega
section SETTLE
variable {fi se cl : Int → Int} {nl nb : Nat}
theorem gs_it_settle1 (hr : ∀ j, 0 ≤ j → j < (nl : Int) → (0 ≤ fi j ∧ fi j < (nb : Int)) ∧ 0 ≤ se j ∧ se j < (nb : Int)) (hb : 1 ≤ nb) {v : Int} (v0 : 0 ≤ v) : ∀ t : Nat, (∀ b, 0 ≤ b → b < (nb : Int) → (gs_it nl fi se cl (t + 1) b ≤ v ↔ gs_it nl fi se cl t b ≤ v)) ∨ t + 1 ≤ gs_ct (gs_it nl fi se cl t) v nb
  | 0 => by
    refine Or.inr ?_
    obtain ⟨k, rfl⟩ : ∃ k, nb = k + 1 := ⟨nb - 1, by omega⟩
    exact gs_ct_pos (P := gs_it nl fi se cl 0) (show (0 : Int) ≤ v from v0) k
  | t + 1 => by
    have st : (∀ b, 0 ≤ b → b < (nb : Int) → (gs_it nl fi se cl (t + 1) b ≤ v ↔ gs_it nl fi se cl t b ≤ v)) → ∀ b, 0 ≤ b → b < (nb : Int) → (gs_it nl fi se cl (t + 1 + 1) b ≤ v ↔ gs_it nl fi se cl (t + 1) b ≤ v) := fun h => gs_rd_det h nl hr
    rcases gs_it_settle1 hr hb v0 t with h | h
    · exact Or.inl (st h)
    · have mono : ∀ b, 0 ≤ b → b < (nb : Int) → gs_it nl fi se cl t b ≤ v → gs_it nl fi se cl (t + 1) b ≤ v := fun b _ _ hb9 => Int.le_trans (gs_rd_le fi se cl (gs_it nl fi se cl t) b nl) hb9
      obtain ⟨m1, m2⟩ := gs_ct_mono nb mono
      by_cases e : gs_ct (gs_it nl fi se cl t) v nb = gs_ct (gs_it nl fi se cl (t + 1)) v nb
      · exact Or.inl (st (fun b b0 b1 => ⟨m2 e b b0 b1, mono b b0 b1⟩))
      · exact Or.inr (by omega)
theorem gs_it_settle2 (hr : ∀ j, 0 ≤ j → j < (nl : Int) → (0 ≤ fi j ∧ fi j < (nb : Int)) ∧ 0 ≤ se j ∧ se j < (nb : Int)) (hb : 1 ≤ nb) {v : Int} (v0 : 0 ≤ v) : ∀ k : Nat, ∀ b, 0 ≤ b → b < (nb : Int) → (gs_it nl fi se cl (nb - 1 + k + 1) b ≤ v ↔ gs_it nl fi se cl (nb - 1 + k) b ≤ v)
  | 0 => by
    intro b b0 b1
    rcases gs_it_settle1 hr hb v0 (nb - 1) with h | h
    · exact h b b0 b1
    · have f := gs_ct_full (P := gs_it nl fi se cl (nb - 1)) (v := v) nb (by omega) b b0 b1
      exact ⟨fun _ => f, fun _ => Int.le_trans (gs_rd_le fi se cl (gs_it nl fi se cl (nb - 1)) b nl) f⟩
  | k + 1 => gs_rd_det (gs_it_settle2 hr hb v0 k) nl hr
theorem gs_it_settle (hr : ∀ j, 0 ≤ j → j < (nl : Int) → (0 ≤ fi j ∧ fi j < (nb : Int)) ∧ 0 ≤ se j ∧ se j < (nb : Int)) (hb : 1 ≤ nb) {b : Int} (b0 : 0 ≤ b) (b1 : b < (nb : Int)) : ∀ k : Nat, gs_it nl fi se cl (nb - 1 + k) b = gs_it nl fi se cl (nb - 1) b
  | 0 => rfl
  | k + 1 => by
    rw [← gs_it_settle hr hb b0 b1 k]
    have r := gs_it_rng (nl := nl) (fi := fi) (se := se) (cl := cl) (fun j j0 j1 => ⟨(hr j j0 j1).1.1, (hr j j0 j1).2.1⟩) (nb - 1 + k + 1) b b0
    have h1 := (gs_it_settle2 (cl := cl) hr hb r.1 k b b0 b1).mp (Int.le_refl _)
    have h2 : gs_it nl fi se cl (nb - 1 + k + 1) b ≤ gs_it nl fi se cl (nb - 1 + k) b := gs_rd_le fi se cl (gs_it nl fi se cl (nb - 1 + k)) b nl
    show gs_it nl fi se cl (nb - 1 + k + 1) b = gs_it nl fi se cl (nb - 1 + k) b
    omega
/-- four rounds and as many rounds as there are buses come out alike -/
theorem gs_it_4 (hr : ∀ j, 0 ≤ j → j < (nl : Int) → (0 ≤ fi j ∧ fi j < (nb : Int)) ∧ 0 ≤ se j ∧ se j < (nb : Int)) (h1 : 1 ≤ nb) (h2 : nb ≤ 5) {b : Int} (b0 : 0 ≤ b) (b1 : b < (nb : Int)) : gs_it nl fi se cl nb b = gs_it nl fi se cl 4 b := by
  have e1 := gs_it_settle (cl := cl) hr h1 b0 b1 1
  have e2 := gs_it_settle (cl := cl) hr h1 b0 b1 (4 - (nb - 1))
  rw [show nb - 1 + 1 = nb by omega] at e1
  rw [show nb - 1 + (4 - (nb - 1)) = 4 by omega] at e2
  rw [e1, e2]
end SETTLE
