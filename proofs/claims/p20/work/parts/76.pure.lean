/-! PURE 8: the sums of products, as the class and as the model have them -/
def gq_S (m : en_M) (q : Int) (b o : Int) : Nat → Int
  | 0 => 0
  | n + 1 => if xm_io m (n : Int) = q then gq_S m q b o n + m 25 (n : Int) * m 25 (n : Int) * xm_gr m (n : Int) b * xm_gr m (n : Int) o else gq_S m q b o n
def gq_R (m : en_M) (q : Int) (b : Int) : Nat → Int
  | 0 => 0
  | n + 1 => if xm_io m (n : Int) = q then gq_R m q b n + m 25 (n : Int) * m 25 (n : Int) * xm_gr m (n : Int) b * m 24 (n : Int) else gq_R m q b n
theorem gl_L_un {m : en_M} {q b o : Int} (hb : m 5 b = q ∧ b ≠ q) (ho : m 5 o = q ∧ o ≠ q) : ∀ n : Nat, gl_L m q n b o = gq_S m q b o n
  | 0 => by
    simp only [gl_L, gl_L0, gq_S]
    rw [if_pos hb]
    split <;> rfl
  | n + 1 => by
    have ih := gl_L_un hb ho n
    simp only [gl_L, gq_S]
    by_cases c : xm_io m (n : Int) = q
    · rw [if_pos c, if_pos c]
      unfold gl_La
      rw [if_pos ⟨hb, ho⟩, ih]
    · rw [if_neg c, if_neg c]
      exact ih
theorem gl_L_kn {m : en_M} {q b o : Int} (h : ¬ ((m 5 b = q ∧ b ≠ q) ∧ (m 5 o = q ∧ o ≠ q))) : ∀ n : Nat, gl_L m q n b o = if b = o then 1 else 0
  | 0 => by
    simp only [gl_L, gl_L0]
    by_cases e : b = o
    · rw [if_pos e, if_pos e, if_neg (fun z => h ⟨z, by rw [← e]; exact z⟩)]
    · rw [if_neg e, if_neg e]
  | n + 1 => by
    have ih := gl_L_kn h n
    simp only [gl_L]
    by_cases c : xm_io m (n : Int) = q
    · rw [if_pos c]
      unfold gl_La
      rw [if_neg h, ih]
    · rw [if_neg c]
      exact ih
theorem gl_R_un {m : en_M} {q b : Int} (hb : m 5 b = q ∧ b ≠ q) : ∀ n : Nat, gl_R m q n b = gq_R m q b n
  | 0 => rfl
  | n + 1 => by
    have ih := gl_R_un hb n
    simp only [gl_R, gq_R]
    by_cases c : xm_io m (n : Int) = q
    · rw [if_pos c, if_pos c]
      unfold gl_Ra
      rw [if_pos hb, ih]
    · rw [if_neg c, if_neg c]
      exact ih
theorem gl_R_kn {m : en_M} {q b : Int} (hb : ¬ (m 5 b = q ∧ b ≠ q)) : ∀ n : Nat, gl_R m q n b = 0
  | 0 => rfl
  | n + 1 => by
    have ih := gl_R_kn hb n
    simp only [gl_R]
    by_cases c : xm_io m (n : Int) = q
    · rw [if_pos c]
      unfold gl_Ra
      rw [if_neg hb, ih]
    · rw [if_neg c]
      exact ih
/-- the first equation is bus 0's own -/
theorem gl_E_r0 {m : en_M} {q rep : Int} (h0 : m 5 0 = 0) (hrep : rep ≠ 0) : gm_r0 (gl_E m q rep) := by
  have hb : ¬ (m 5 0 = q ∧ (0 : Int) ≠ q) := fun z => z.2 (by rw [← z.1, h0])
  have e : ∀ c, gl_E m q rep 0 c = if 0 = c then 1 else 0 := by
    intro c
    unfold gl_E
    by_cases e1 : c = rep
    · rw [if_pos e1, gl_R_kn hb, if_neg (by omega)]
    · rw [if_neg e1, gl_L_kn (fun z => hb z.1)]
  exact ⟨by rw [e]; rfl, by rw [e]; rfl, by rw [e]; rfl, by rw [e]; rfl, by rw [e]; rfl⟩
theorem gl_D_4 {m : en_M} {q rep : Int} (h0 : m 5 0 = 0) (hrep : rep ≠ 0) : gl_D m q rep = gm_4 (gl_E m q rep) := gm_D_4 (gl_E_r0 h0 hrep)
