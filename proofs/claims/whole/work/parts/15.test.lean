/-- who sits at an end, of the first p -/
def sp_sit (pl : Nat → Int32) (e : Int32) : Nat → Int32
  | 0 => 0
  | p + 1 => if pl p = e then sp_sit pl e p ||| 1 <<< (nI p &&& 31) else sp_sit pl e p
theorem tX0_sitters_l {G : sx_G} {A : sx_A} {Z : sx_Z} {Q : List Value → sx_A → sx_Z → Prop} {b n : Nat} {e : Int32} (hb : sx_isB b) (hn : n ≤ 8) (hA : A b 5 = nI n) : ∀ (k p : Nat), p + k = n → (sx_ev G mX0_sitters 4 [some (.ref b), some (.int e), some (.int (sp_sit (A (b + 4)) e p)), some (.int (nI p))] [] A Z Q ↔ Q [.int (sp_sit (A (b + 4)) e n)] A Z) := by
  intro k
  induction k with
  | zero =>
    intro p hp
    have hp' : p = n := by omega
    subst hp'
    rw [eX0_sitters_4]
    have h1 : nI p ≤ nI p := nI_le (Nat.le_refl _) (by omega)
    simp only [eX0_sitters_0, eX0_sitters_1, eX0_sitters_2, eX0_sitters_3, eX0_sitters_5, eX0_sitters_6, eX0_sitters_9, eX0_sitters_12, eX0_sitters_13, eX0_sitters_16, eX0_sitters_17, eX0_sitters_18, eX0_sitters_19, eX0_sitters_22, eX0_sitters_23, eX0_sitters_24, eX0_sitters_25, eX0_sitters_26, eX0_sitters_27, eX0_sitters_28, eX0_sitters_31, eX0_sitters_34, eX0_sitters_35, kdB hb, kdB1 hb, frB1 hb, anB1 hb, rdB1 hb, kdB2 hb, frB2 hb, anB2 hb, rdB2 hb, kdB3 hb, frB3 hb, anB3 hb, rdB3 hb, kdB4 hb, frB4 hb, anB4 hb, rdB4 hb, kdB5 hb, frB5 hb, anB5 hb, rdB5 hb, hA, h1, if_true, true_and]
  | succ k ih =>
    intro p hp
    rw [eX0_sitters_4]
    have h1 : ¬ nI n ≤ nI p := nI_ge (by omega) (by omega)
    have h2 : ¬ nI p < 0 := nI_pos (by omega)
    have h5 : ¬ 8 ≤ p := by omega
    have h3 : (nI p).toNatClampNeg = p := nI_clamp (by omega)
    have h4 := ih (p + 1) (by omega)
    rw [sp_sit, nI_succ] at h4
    simp only [eX0_sitters_0, eX0_sitters_1, eX0_sitters_2, eX0_sitters_3, eX0_sitters_5, eX0_sitters_6, eX0_sitters_9, eX0_sitters_12, eX0_sitters_13, eX0_sitters_16, eX0_sitters_17, eX0_sitters_18, eX0_sitters_19, eX0_sitters_22, eX0_sitters_23, eX0_sitters_24, eX0_sitters_25, eX0_sitters_26, eX0_sitters_27, eX0_sitters_28, eX0_sitters_31, eX0_sitters_34, eX0_sitters_35, kdB hb, kdB1 hb, frB1 hb, anB1 hb, rdB1 hb, kdB2 hb, frB2 hb, anB2 hb, rdB2 hb, kdB3 hb, frB3 hb, anB3 hb, rdB3 hb, kdB4 hb, frB4 hb, anB4 hb, rdB4 hb, kdB5 hb, frB5 hb, anB5 hb, rdB5 hb, hA, h1, h2, h5, or_self, if_false, true_and, true_or, h3, not_false_eq_true]
    by_cases hc : A (b + 4) p = e
    · simp only [hc, if_true, not_true_eq_false, if_false] at h4 ⊢
      exact h4
    · simp only [hc, if_false, not_false_eq_true, if_true] at h4 ⊢
      exact h4
theorem tX0_sitters {G : sx_G} {A : sx_A} {Z : sx_Z} {Q : List Value → sx_A → sx_Z → Prop} {b n : Nat} {e : Int32} (hb : sx_isB b) (hn : n ≤ 8) (hA : A b 5 = nI n) : sx_call G mX0_sitters [.ref b, .int e] A Z Q ↔ Q [.int (sp_sit (A (b + 4)) e n)] A Z := by
  have h := tX0_sitters_l (G := G) (Z := Z) (Q := Q) (e := e) hb hn hA n 0 (by omega)
  rw [← h]
  show (sx_eok mX0_sitters [.ref b, .int e] = true ∧ sx_ev G mX0_sitters 0 [some (.ref b), some (.int e), none, none] [] A Z Q) ↔ _
  rw [show sx_eok mX0_sitters [.ref b, .int e] = true from rfl]
  simp only [eX0_sitters_0, eX0_sitters_1, eX0_sitters_2, eX0_sitters_3, eX0_sitters_5, eX0_sitters_6, eX0_sitters_9, eX0_sitters_12, eX0_sitters_13, eX0_sitters_16, eX0_sitters_17, eX0_sitters_18, eX0_sitters_19, eX0_sitters_22, eX0_sitters_23, eX0_sitters_24, eX0_sitters_25, eX0_sitters_26, eX0_sitters_27, eX0_sitters_28, eX0_sitters_31, eX0_sitters_34, eX0_sitters_35, true_and]
  rfl
