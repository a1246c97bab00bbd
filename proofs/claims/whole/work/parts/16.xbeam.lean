/-! PURE SPECS: the statics and the Beam of the class -/
def b2i (c : Prop) [Decidable c] : Int32 := if c then 1 else 0
theorem b2i_0 {c : Prop} [Decidable c] : (b2i c = 0) ↔ ¬ c := by unfold b2i; split <;> simp_all
theorem b2i_n0 {c : Prop} [Decidable c] : (¬ b2i c = 0) ↔ c := by unfold b2i; split <;> simp_all
theorem b2i_01 {c : Prop} [Decidable c] : (b2i c = 0 ∨ b2i c = 1) ↔ True := by unfold b2i; split <;> simp
theorem b2i_t {c : Prop} [Decidable c] (h : c) : b2i c = 1 := if_pos h
theorem b2i_f {c : Prop} [Decidable c] (h : ¬ c) : b2i c = 0 := if_neg h
theorem b2i_T {inst : Decidable True} : @b2i True inst = 1 := if_pos trivial
theorem b2i_F {inst : Decidable False} : @b2i False inst = 0 := if_neg (fun h => h)
theorem b2i_c {c d : Prop} [Decidable c] [Decidable d] (h : c ↔ d) : b2i c = b2i d := by
  by_cases hc : c
  · rw [b2i_t hc, b2i_t (h.mp hc)]
  · rw [b2i_f hc, b2i_f (fun x => hc (h.mpr x))]
theorem sx_call_in {G : sx_G} {y : sx_M} {as : List Value} {A : sx_A} {Z : sx_Z} {Q : List Value → sx_A → sx_Z → Prop} {L : sx_L} (h1 : sx_eok y as = true) (h2 : sx_ent y as = L) : sx_call G y as A Z Q ↔ sx_ev G y 0 L [] A Z Q := by
  unfold sx_call
  rw [h1, h2]
  simp
theorem ite_iff {c : Prop} [Decidable c] {P : Int32 → Prop} {a b : Int32} : (if c then P a else P b) ↔ P (if c then a else b) := by split <;> rfl
/-- HEART, as both programs reckon it -/
def sp_heart (k g r mn : Int32) : Int32 := if k = 1 then g - r - r / 2 else if k = 2 then 2 * (g - r) else if k = 3 then (g - r) / 2 else if k = 4 then 2 * (g - r) - 3 else if k = 5 then (if mn < 40 then g - r - r / 2 else 0) else g - r
def sp_mixes (k g : Int32) : Int32 := if k = 2 then 3 else if k = 3 then 0 else if k = 4 then 2 else if k = 5 then (if ¬ g = 0 then 1 else 0) else 1
def sp_abs (x : Int32) : Int32 := if 0 ≤ x then x else 0 - x
def sp_gone (k g r : Int32) : Int32 := if sp_abs (g - r) / 2 < sp_mixes k g then sp_abs (g - r) / 2 else sp_mixes k g
/-- what goes from GLAD to SORRY -/
def sp_mix (k g r : Int32) : Int32 := if g ≤ r then - sp_gone k g r else sp_gone k g r
section XB
variable {G : sx_G} {A : sx_A} {Z : sx_Z} {Q : List Value → sx_A → sx_Z → Prop}
theorem tX3_isWithin {v a b : Int32} : sx_call G mX3_isWithin [.int v, .int a, .int b] A Z Q ↔ Q [.int (b2i (a ≤ v ∧ v ≤ b))] A Z := by
  rw [sx_call_in (L := [some (.int v), some (.int a), some (.int b)]) rfl rfl]
  simp only [eX3_isWithin_0, eX3_isWithin_1, eX3_isWithin_2, eX3_isWithin_5, eX3_isWithin_6, eX3_isWithin_7, eX3_isWithin_10, eX3_isWithin_11, eX3_isWithin_14, eX3_isWithin_15, Nat.reduceLeDiff, Nat.reduceEqDiff, Nat.reduceAdd, if_true, if_false, b2i_T, b2i_F, and_self, and_false, false_and, true_and, and_true, true_or, or_true, false_or, or_false, or_self, not_true_eq_false, not_false_eq_true, eq_self, List.cons_append, List.nil_append]
  by_cases h1 : v < a
  · rw [if_pos h1, b2i_f (fun h => absurd h.1 (Int32.not_le.mpr h1))]
  · rw [if_neg h1]
    by_cases h2 : b < v
    · rw [if_pos h2, b2i_f (fun h => absurd h.2 (Int32.not_le.mpr h2))]
    · rw [if_neg h2, b2i_t ⟨Int32.not_lt.mp h1, Int32.not_lt.mp h2⟩]
theorem tX3_isKind {v : Int32} : sx_call G mX3_isKind [.int v] A Z Q ↔ Q [.int (b2i (0 ≤ v ∧ v ≤ 5))] A Z := by
  rw [sx_call_in (L := [some (.int v)]) rfl rfl]
  simp only [eX3_isKind_0, eX3_isKind_1, eX3_isKind_2, eX3_isKind_3, eX3_isKind_6, tX3_isWithin, b2i_01, Nat.reduceLeDiff, Nat.reduceEqDiff, Nat.reduceAdd, if_true, if_false, b2i_T, b2i_F, and_self, and_false, false_and, true_and, and_true, true_or, or_true, false_or, or_false, or_self, not_true_eq_false, not_false_eq_true, eq_self, List.cons_append, List.nil_append]
theorem tX3_isFeeling {v : Int32} : sx_call G mX3_isFeeling [.int v] A Z Q ↔ Q [.int (b2i (0 ≤ v ∧ v ≤ 99))] A Z := by
  rw [sx_call_in (L := [some (.int v)]) rfl rfl]
  simp only [eX3_isFeeling_0, eX3_isFeeling_1, eX3_isFeeling_2, eX3_isFeeling_4, eX3_isFeeling_7, tX3_isWithin, b2i_01, Nat.reduceLeDiff, Nat.reduceEqDiff, Nat.reduceAdd, if_true, if_false, b2i_T, b2i_F, and_self, and_false, false_and, true_and, and_true, true_or, or_true, false_or, or_false, or_self, not_true_eq_false, not_false_eq_true, eq_self, List.cons_append, List.nil_append]
theorem tX3_isEnd {v : Int32} : sx_call G mX3_isEnd [.int v] A Z Q ↔ Q [.int (b2i (0 ≤ v ∧ v ≤ 1))] A Z := by
  rw [sx_call_in (L := [some (.int v)]) rfl rfl]
  simp only [eX3_isEnd_0, eX3_isEnd_1, eX3_isEnd_2, eX3_isEnd_3, eX3_isEnd_6, tX3_isWithin, b2i_01, Nat.reduceLeDiff, Nat.reduceEqDiff, Nat.reduceAdd, if_true, if_false, b2i_T, b2i_F, and_self, and_false, false_and, true_and, and_true, true_or, or_true, false_or, or_false, or_self, not_true_eq_false, not_false_eq_true, eq_self, List.cons_append, List.nil_append]
theorem tX3_isSheet {v : Int32} : sx_call G mX3_isSheet [.int v] A Z Q ↔ Q [.int (b2i (0 ≤ v ∧ v ≤ 3))] A Z := by
  rw [sx_call_in (L := [some (.int v)]) rfl rfl]
  simp only [eX3_isSheet_0, eX3_isSheet_1, eX3_isSheet_2, eX3_isSheet_3, eX3_isSheet_6, tX3_isWithin, b2i_01, Nat.reduceLeDiff, Nat.reduceEqDiff, Nat.reduceAdd, if_true, if_false, b2i_T, b2i_F, and_self, and_false, false_and, true_and, and_true, true_or, or_true, false_or, or_false, or_self, not_true_eq_false, not_false_eq_true, eq_self, List.cons_append, List.nil_append]
theorem tX3_heartAs {k g r mn : Int32} : sx_call G mX3_heartAs [.int k, .int g, .int r, .int mn] A Z Q ↔ Q [.int (sp_heart k g r mn)] A Z := by
  rw [sx_call_in (L := [some (.int k), some (.int g), some (.int r), some (.int mn), none]) rfl rfl]
  simp only [eX3_heartAs_0, eX3_heartAs_1, eX3_heartAs_2, eX3_heartAs_3, eX3_heartAs_5, eX3_heartAs_6, eX3_heartAs_40, eX3_heartAs_42, eX3_heartAs_43, eX3_heartAs_44, eX3_heartAs_45, eX3_heartAs_46, eX3_heartAs_47, eX3_heartAs_48, eX3_heartAs_50, eX3_heartAs_51, eX3_heartAs_52, eX3_heartAs_54, eX3_heartAs_55, eX3_heartAs_56, eX3_heartAs_57, eX3_heartAs_58, eX3_heartAs_60, eX3_heartAs_61, eX3_heartAs_62, eX3_heartAs_63, eX3_heartAs_64, eX3_heartAs_65, eX3_heartAs_67, eX3_heartAs_70, eX3_heartAs_71, eX3_heartAs_74, eX3_heartAs_76, eX3_heartAs_77, eX3_heartAs_78, eX3_heartAs_79, eX3_heartAs_80, eX3_heartAs_81, eX3_heartAs_83, Nat.reduceLeDiff, Nat.reduceEqDiff, Nat.reduceAdd, if_true, if_false, b2i_T, b2i_F, and_self, and_false, false_and, true_and, and_true, true_or, or_true, false_or, or_false, or_self, not_true_eq_false, not_false_eq_true, eq_self, List.cons_append, List.nil_append]
  unfold sp_heart
  repeat' split
  all_goals rfl
theorem tX3_mixesAs {k g : Int32} : sx_call G mX3_mixesAs [.int k, .int g] A Z Q ↔ Q [.int (sp_mixes k g)] A Z := by
  rw [sx_call_in (L := [some (.int k), some (.int g)]) rfl rfl]
  simp only [eX3_mixesAs_0, eX3_mixesAs_1, eX3_mixesAs_32, eX3_mixesAs_33, eX3_mixesAs_34, eX3_mixesAs_35, eX3_mixesAs_36, eX3_mixesAs_37, eX3_mixesAs_38, eX3_mixesAs_39, eX3_mixesAs_42, eX3_mixesAs_43, eX3_mixesAs_46, eX3_mixesAs_47, eX3_mixesAs_48, eX3_mixesAs_49, Nat.reduceLeDiff, Nat.reduceEqDiff, Nat.reduceAdd, if_true, if_false, b2i_T, b2i_F, and_self, and_false, false_and, true_and, and_true, true_or, or_true, false_or, or_false, or_self, not_true_eq_false, not_false_eq_true, eq_self, List.cons_append, List.nil_append]
  unfold sp_mixes
  repeat' split
  all_goals rfl
theorem tX3_mixing {k g r : Int32} : sx_call G mX3_mixing [.int k, .int g, .int r] A Z Q ↔ Q [.int (sp_mix k g r)] A Z := by
  rw [sx_call_in (L := [some (.int k), some (.int g), some (.int r), none]) rfl rfl]
  simp only [eX3_mixing_0, eX3_mixing_1, eX3_mixing_2, eX3_mixing_5, eX3_mixing_6, eX3_mixing_7, eX3_mixing_8, eX3_mixing_11, eX3_mixing_12, eX3_mixing_13, eX3_mixing_16, eX3_mixing_17, eX3_mixing_18, eX3_mixing_19, eX3_mixing_22, eX3_mixing_23, eX3_mixing_26, eX3_mixing_27, eX3_mixing_28, tX3_mixesAs, Nat.reduceLeDiff, Nat.reduceEqDiff, Nat.reduceAdd, if_true, if_false, b2i_T, b2i_F, and_self, and_false, false_and, true_and, and_true, true_or, or_true, false_or, or_false, or_self, not_true_eq_false, not_false_eq_true, eq_self, List.cons_append, List.nil_append]
  unfold sp_mix sp_gone sp_abs
  split <;> rfl
/-- who sits at an end, of the first p -/
def sp_sit (pl : Nat → Int32) (e : Int32) : Nat → Int32
  | 0 => 0
  | p + 1 => if pl p = e then sp_sit pl e p ||| 1 <<< (nI p &&& 31) else sp_sit pl e p
/-- the load of an end by the first p -/
def sp_load (K Gl So pl : Nat → Int32) (mn e h : Int32) : Nat → Int32
  | 0 => (-2) * h
  | p + 1 => if pl p = e then sp_load K Gl So pl mn e h p + sp_heart (K p) (Gl p) (So p) mn else sp_load K Gl So pl mn e h p
/-- does it hang -/
abbrev sp_hangs (pl : Nat → Int32) (n : Nat) : Prop := ¬ sp_sit pl 0 n = 0 ∧ ¬ sp_sit pl 1 n = 0
variable {b n : Nat}
theorem tX0_heartOf {p : Nat} (hb : sx_isB b) (hp : p < 8) : sx_call G mX0_heartOf [.ref b, .int (nI p)] A Z Q ↔ Q [.int (sp_heart (A (b + 1) p) (A (b + 2) p) (A (b + 3) p) (A b 6))] A Z := by
  rw [sx_call_in (L := [some (.ref b), some (.int (nI p))]) rfl rfl]
  have h2 : ¬ nI p < 0 := nI_pos (by omega)
  have h5 : ¬ 8 ≤ p := by omega
  have h3 : (nI p).toNatClampNeg = p := nI_clamp (by omega)
  simp only [eX0_heartOf_0, eX0_heartOf_1, eX0_heartOf_4, eX0_heartOf_5, eX0_heartOf_6, eX0_heartOf_7, eX0_heartOf_10, eX0_heartOf_11, eX0_heartOf_12, eX0_heartOf_13, eX0_heartOf_16, eX0_heartOf_17, eX0_heartOf_18, eX0_heartOf_19, eX0_heartOf_22, eX0_heartOf_25, tX3_heartAs, kdB hb, kdB1 hb, frB1 hb, anB1 hb, rdB1 hb, kdB2 hb, frB2 hb, anB2 hb, rdB2 hb, kdB3 hb, frB3 hb, anB3 hb, rdB3 hb, kdB4 hb, frB4 hb, anB4 hb, rdB4 hb, kdB5 hb, frB5 hb, anB5 hb, rdB5 hb, h2, h3, h5, Nat.reduceLeDiff, Nat.reduceEqDiff, Nat.reduceAdd, if_true, if_false, b2i_T, b2i_F, and_self, and_false, false_and, true_and, and_true, true_or, or_true, false_or, or_false, or_self, not_true_eq_false, not_false_eq_true, eq_self, List.cons_append, List.nil_append]
theorem tX0_sitters_l {e : Int32} (hb : sx_isB b) (hn : n ≤ 8) (hA : A b 5 = nI n) : ∀ (k p : Nat), p + k = n → (sx_ev G mX0_sitters 4 [some (.ref b), some (.int e), some (.int (sp_sit (A (b + 4)) e p)), some (.int (nI p))] [] A Z Q ↔ Q [.int (sp_sit (A (b + 4)) e n)] A Z) := by
  intro k
  induction k with
  | zero =>
    intro p hp
    have hp' : p = n := by omega
    subst hp'
    rw [eX0_sitters_4]
    have h1 : nI p ≤ nI p := nI_le (Nat.le_refl _) (by omega)
    simp only [eX0_sitters_0, eX0_sitters_1, eX0_sitters_2, eX0_sitters_3, eX0_sitters_5, eX0_sitters_6, eX0_sitters_9, eX0_sitters_12, eX0_sitters_13, eX0_sitters_16, eX0_sitters_17, eX0_sitters_18, eX0_sitters_19, eX0_sitters_22, eX0_sitters_23, eX0_sitters_24, eX0_sitters_25, eX0_sitters_26, eX0_sitters_27, eX0_sitters_28, eX0_sitters_31, eX0_sitters_34, eX0_sitters_35, kdB hb, kdB1 hb, frB1 hb, anB1 hb, rdB1 hb, kdB2 hb, frB2 hb, anB2 hb, rdB2 hb, kdB3 hb, frB3 hb, anB3 hb, rdB3 hb, kdB4 hb, frB4 hb, anB4 hb, rdB4 hb, kdB5 hb, frB5 hb, anB5 hb, rdB5 hb, hA, h1, Nat.reduceLeDiff, Nat.reduceEqDiff, Nat.reduceAdd, if_true, if_false, b2i_T, b2i_F, and_self, and_false, false_and, true_and, and_true, true_or, or_true, false_or, or_false, or_self, not_true_eq_false, not_false_eq_true, eq_self, List.cons_append, List.nil_append]
  | succ k ih =>
    intro p hp
    rw [eX0_sitters_4]
    have h1 : ¬ nI n ≤ nI p := nI_ge (by omega) (by omega)
    have h2 : ¬ nI p < 0 := nI_pos (by omega)
    have h5 : ¬ 8 ≤ p := by omega
    have h3 : (nI p).toNatClampNeg = p := nI_clamp (by omega)
    have h4 := ih (p + 1) (by omega)
    rw [sp_sit, nI_succ] at h4
    simp only [eX0_sitters_0, eX0_sitters_1, eX0_sitters_2, eX0_sitters_3, eX0_sitters_5, eX0_sitters_6, eX0_sitters_9, eX0_sitters_12, eX0_sitters_13, eX0_sitters_16, eX0_sitters_17, eX0_sitters_18, eX0_sitters_19, eX0_sitters_22, eX0_sitters_23, eX0_sitters_24, eX0_sitters_25, eX0_sitters_26, eX0_sitters_27, eX0_sitters_28, eX0_sitters_31, eX0_sitters_34, eX0_sitters_35, kdB hb, kdB1 hb, frB1 hb, anB1 hb, rdB1 hb, kdB2 hb, frB2 hb, anB2 hb, rdB2 hb, kdB3 hb, frB3 hb, anB3 hb, rdB3 hb, kdB4 hb, frB4 hb, anB4 hb, rdB4 hb, kdB5 hb, frB5 hb, anB5 hb, rdB5 hb, hA, h1, h2, h3, h5, Nat.reduceLeDiff, Nat.reduceEqDiff, Nat.reduceAdd, if_true, if_false, b2i_T, b2i_F, and_self, and_false, false_and, true_and, and_true, true_or, or_true, false_or, or_false, or_self, not_true_eq_false, not_false_eq_true, eq_self, List.cons_append, List.nil_append]
    by_cases hc : A (b + 4) p = e
    · simp only [hc, Nat.reduceLeDiff, Nat.reduceEqDiff, Nat.reduceAdd, if_true, if_false, b2i_T, b2i_F, and_self, and_false, false_and, true_and, and_true, true_or, or_true, false_or, or_false, or_self, not_true_eq_false, not_false_eq_true, eq_self, List.cons_append, List.nil_append] at h4 ⊢
      exact h4
    · simp only [hc, Nat.reduceLeDiff, Nat.reduceEqDiff, Nat.reduceAdd, if_true, if_false, b2i_T, b2i_F, and_self, and_false, false_and, true_and, and_true, true_or, or_true, false_or, or_false, or_self, not_true_eq_false, not_false_eq_true, eq_self, List.cons_append, List.nil_append] at h4 ⊢
      exact h4
theorem tX0_sitters {e : Int32} (hb : sx_isB b) (hn : n ≤ 8) (hA : A b 5 = nI n) : sx_call G mX0_sitters [.ref b, .int e] A Z Q ↔ Q [.int (sp_sit (A (b + 4)) e n)] A Z := by
  rw [sx_call_in (L := [some (.ref b), some (.int e), none, none]) rfl rfl]
  rw [← tX0_sitters_l (G := G) (Z := Z) (Q := Q) (e := e) hb hn hA n 0 (by omega)]
  simp only [eX0_sitters_0, eX0_sitters_1, eX0_sitters_2, eX0_sitters_3, eX0_sitters_5, eX0_sitters_6, eX0_sitters_9, eX0_sitters_12, eX0_sitters_13, eX0_sitters_16, eX0_sitters_17, eX0_sitters_18, eX0_sitters_19, eX0_sitters_22, eX0_sitters_23, eX0_sitters_24, eX0_sitters_25, eX0_sitters_26, eX0_sitters_27, eX0_sitters_28, eX0_sitters_31, eX0_sitters_34, eX0_sitters_35]
  rfl
theorem tX0_loadOf_l {i : Nat} (hb : sx_isB b) (hn : n ≤ 8) (hA : A b 5 = nI n) : ∀ (k p : Nat), p + k = n → (sx_ev G mX0_loadOf 12 [some (.ref b), some (.int (nI i)), some (.int (sp_load (A (b + 1)) (A (b + 2)) (A (b + 3)) (A (b + 4)) (A b 6) (nI i) (A (b + 5) i) p)), some (.int (nI p))] [] A Z Q ↔ Q [.int (sp_load (A (b + 1)) (A (b + 2)) (A (b + 3)) (A (b + 4)) (A b 6) (nI i) (A (b + 5) i) n)] A Z) := by
  intro k
  induction k with
  | zero =>
    intro p hp
    have hp' : p = n := by omega
    subst hp'
    rw [eX0_loadOf_12]
    have h1 : nI p ≤ nI p := nI_le (Nat.le_refl _) (by omega)
    simp only [eX0_loadOf_0, eX0_loadOf_2, eX0_loadOf_3, eX0_loadOf_6, eX0_loadOf_7, eX0_loadOf_8, eX0_loadOf_9, eX0_loadOf_10, eX0_loadOf_11, eX0_loadOf_13, eX0_loadOf_14, eX0_loadOf_17, eX0_loadOf_20, eX0_loadOf_21, eX0_loadOf_24, eX0_loadOf_25, eX0_loadOf_26, eX0_loadOf_27, eX0_loadOf_30, eX0_loadOf_31, eX0_loadOf_32, eX0_loadOf_33, eX0_loadOf_36, eX0_loadOf_37, eX0_loadOf_38, eX0_loadOf_41, eX0_loadOf_44, eX0_loadOf_45, kdB hb, kdB1 hb, frB1 hb, anB1 hb, rdB1 hb, kdB2 hb, frB2 hb, anB2 hb, rdB2 hb, kdB3 hb, frB3 hb, anB3 hb, rdB3 hb, kdB4 hb, frB4 hb, anB4 hb, rdB4 hb, kdB5 hb, frB5 hb, anB5 hb, rdB5 hb, hA, h1, Nat.reduceLeDiff, Nat.reduceEqDiff, Nat.reduceAdd, if_true, if_false, b2i_T, b2i_F, and_self, and_false, false_and, true_and, and_true, true_or, or_true, false_or, or_false, or_self, not_true_eq_false, not_false_eq_true, eq_self, List.cons_append, List.nil_append]
  | succ k ih =>
    intro p hp
    rw [eX0_loadOf_12]
    have h1 : ¬ nI n ≤ nI p := nI_ge (by omega) (by omega)
    have h2 : ¬ nI p < 0 := nI_pos (by omega)
    have h5 : ¬ 8 ≤ p := by omega
    have h3 : (nI p).toNatClampNeg = p := nI_clamp (by omega)
    have h4 := ih (p + 1) (by omega)
    rw [sp_load, nI_succ] at h4
    simp only [eX0_loadOf_0, eX0_loadOf_2, eX0_loadOf_3, eX0_loadOf_6, eX0_loadOf_7, eX0_loadOf_8, eX0_loadOf_9, eX0_loadOf_10, eX0_loadOf_11, eX0_loadOf_13, eX0_loadOf_14, eX0_loadOf_17, eX0_loadOf_20, eX0_loadOf_21, eX0_loadOf_24, eX0_loadOf_25, eX0_loadOf_26, eX0_loadOf_27, eX0_loadOf_30, eX0_loadOf_31, eX0_loadOf_32, eX0_loadOf_33, eX0_loadOf_36, eX0_loadOf_37, eX0_loadOf_38, eX0_loadOf_41, eX0_loadOf_44, eX0_loadOf_45, kdB hb, kdB1 hb, frB1 hb, anB1 hb, rdB1 hb, kdB2 hb, frB2 hb, anB2 hb, rdB2 hb, kdB3 hb, frB3 hb, anB3 hb, rdB3 hb, kdB4 hb, frB4 hb, anB4 hb, rdB4 hb, kdB5 hb, frB5 hb, anB5 hb, rdB5 hb, hA, h1, h2, h3, h5, Nat.reduceLeDiff, Nat.reduceEqDiff, Nat.reduceAdd, if_true, if_false, b2i_T, b2i_F, and_self, and_false, false_and, true_and, and_true, true_or, or_true, false_or, or_false, or_self, not_true_eq_false, not_false_eq_true, eq_self, List.cons_append, List.nil_append]
    by_cases hc : A (b + 4) p = nI i
    · simp only [hc, Nat.reduceLeDiff, Nat.reduceEqDiff, Nat.reduceAdd, if_true, if_false, b2i_T, b2i_F, and_self, and_false, false_and, true_and, and_true, true_or, or_true, false_or, or_false, or_self, not_true_eq_false, not_false_eq_true, eq_self, List.cons_append, List.nil_append] at h4 ⊢
      rw [tX0_heartOf hb (by omega)]
      simp only [eX0_loadOf_0, eX0_loadOf_2, eX0_loadOf_3, eX0_loadOf_6, eX0_loadOf_7, eX0_loadOf_8, eX0_loadOf_9, eX0_loadOf_10, eX0_loadOf_11, eX0_loadOf_13, eX0_loadOf_14, eX0_loadOf_17, eX0_loadOf_20, eX0_loadOf_21, eX0_loadOf_24, eX0_loadOf_25, eX0_loadOf_26, eX0_loadOf_27, eX0_loadOf_30, eX0_loadOf_31, eX0_loadOf_32, eX0_loadOf_33, eX0_loadOf_36, eX0_loadOf_37, eX0_loadOf_38, eX0_loadOf_41, eX0_loadOf_44, eX0_loadOf_45, Nat.reduceLeDiff, Nat.reduceEqDiff, Nat.reduceAdd, if_true, if_false, b2i_T, b2i_F, and_self, and_false, false_and, true_and, and_true, true_or, or_true, false_or, or_false, or_self, not_true_eq_false, not_false_eq_true, eq_self, List.cons_append, List.nil_append]
      exact h4
    · simp only [hc, Nat.reduceLeDiff, Nat.reduceEqDiff, Nat.reduceAdd, if_true, if_false, b2i_T, b2i_F, and_self, and_false, false_and, true_and, and_true, true_or, or_true, false_or, or_false, or_self, not_true_eq_false, not_false_eq_true, eq_self, List.cons_append, List.nil_append] at h4 ⊢
      exact h4
theorem tX0_loadOf {i : Nat} (hb : sx_isB b) (hn : n ≤ 8) (hA : A b 5 = nI n) (hi : i < 2) : sx_call G mX0_loadOf [.ref b, .int (nI i)] A Z Q ↔ Q [.int (sp_load (A (b + 1)) (A (b + 2)) (A (b + 3)) (A (b + 4)) (A b 6) (nI i) (A (b + 5) i) n)] A Z := by
  rw [sx_call_in (L := [some (.ref b), some (.int (nI i)), none, none]) rfl rfl]
  rw [← tX0_loadOf_l (G := G) (Z := Z) (Q := Q) (i := i) hb hn hA n 0 (by omega)]
  have h2 : ¬ nI i < 0 := nI_pos (by omega)
  have h5 : ¬ 2 ≤ i := by omega
  have h3 : (nI i).toNatClampNeg = i := nI_clamp (by omega)
  simp only [eX0_loadOf_0, eX0_loadOf_2, eX0_loadOf_3, eX0_loadOf_6, eX0_loadOf_7, eX0_loadOf_8, eX0_loadOf_9, eX0_loadOf_10, eX0_loadOf_11, eX0_loadOf_13, eX0_loadOf_14, eX0_loadOf_17, eX0_loadOf_20, eX0_loadOf_21, eX0_loadOf_24, eX0_loadOf_25, eX0_loadOf_26, eX0_loadOf_27, eX0_loadOf_30, eX0_loadOf_31, eX0_loadOf_32, eX0_loadOf_33, eX0_loadOf_36, eX0_loadOf_37, eX0_loadOf_38, eX0_loadOf_41, eX0_loadOf_44, eX0_loadOf_45, kdB hb, kdB1 hb, frB1 hb, anB1 hb, rdB1 hb, kdB2 hb, frB2 hb, anB2 hb, rdB2 hb, kdB3 hb, frB3 hb, anB3 hb, rdB3 hb, kdB4 hb, frB4 hb, anB4 hb, rdB4 hb, kdB5 hb, frB5 hb, anB5 hb, rdB5 hb, h2, h3, h5, Nat.reduceLeDiff, Nat.reduceEqDiff, Nat.reduceAdd, if_true, if_false, b2i_T, b2i_F, and_self, and_false, false_and, true_and, and_true, true_or, or_true, false_or, or_false, or_self, not_true_eq_false, not_false_eq_true, eq_self, List.cons_append, List.nil_append]
  rfl
theorem tX0_hangs (hb : sx_isB b) (hn : n ≤ 8) (hA : A b 5 = nI n) : sx_call G mX0_hangs [.ref b] A Z Q ↔ Q [.int (b2i (sp_hangs (A (b + 4)) n))] A Z := by
  rw [sx_call_in (L := [some (.ref b)]) rfl rfl]
  simp only [eX0_hangs_0, eX0_hangs_1, eX0_hangs_2, eX0_hangs_5, eX0_hangs_8, eX0_hangs_9, eX0_hangs_10, eX0_hangs_13, eX0_hangs_16, eX0_hangs_17, eX0_hangs_20, eX0_hangs_21, kdB hb, kdB1 hb, frB1 hb, anB1 hb, rdB1 hb, kdB2 hb, frB2 hb, anB2 hb, rdB2 hb, kdB3 hb, frB3 hb, anB3 hb, rdB3 hb, kdB4 hb, frB4 hb, anB4 hb, rdB4 hb, kdB5 hb, frB5 hb, anB5 hb, rdB5 hb, tX0_sitters hb hn hA, Nat.reduceLeDiff, Nat.reduceEqDiff, Nat.reduceAdd, if_true, if_false, b2i_T, b2i_F, and_self, and_false, false_and, true_and, and_true, true_or, or_true, false_or, or_false, or_self, not_true_eq_false, not_false_eq_true, eq_self, List.cons_append, List.nil_append]
  unfold sp_hangs
  by_cases h1 : sp_sit (A (b + 4)) 0 n = 0
  · simp only [h1, Nat.reduceLeDiff, Nat.reduceEqDiff, Nat.reduceAdd, if_true, if_false, b2i_T, b2i_F, and_self, and_false, false_and, true_and, and_true, true_or, or_true, false_or, or_false, or_self, not_true_eq_false, not_false_eq_true, eq_self, List.cons_append, List.nil_append]
  · by_cases h2 : sp_sit (A (b + 4)) 1 n = 0
    · simp only [h1, h2, Nat.reduceLeDiff, Nat.reduceEqDiff, Nat.reduceAdd, if_true, if_false, b2i_T, b2i_F, and_self, and_false, false_and, true_and, and_true, true_or, or_true, false_or, or_false, or_self, not_true_eq_false, not_false_eq_true, eq_self, List.cons_append, List.nil_append]
    · simp only [h1, h2, Nat.reduceLeDiff, Nat.reduceEqDiff, Nat.reduceAdd, if_true, if_false, b2i_T, b2i_F, and_self, and_false, false_and, true_and, and_true, true_or, or_true, false_or, or_false, or_self, not_true_eq_false, not_false_eq_true, eq_self, List.cons_append, List.nil_append]
def sp_tilt (K Gl So pl : Nat → Int32) (mn h0 h1 : Int32) (n : Nat) : Int32 := if sp_hangs pl n then sp_load K Gl So pl mn 0 h0 n + sp_load K Gl So pl mn 1 h1 n else 5000
/-- TILT of the beam at b -/
abbrev sx_tilt (A : sx_A) (b n : Nat) : Int32 := sp_tilt (A (b + 1)) (A (b + 2)) (A (b + 3)) (A (b + 4)) (A b 6) (A (b + 5) 0) (A (b + 5) 1) n
theorem tX0_tiltNow (hb : sx_isB b) (hn : n ≤ 8) (hA : A b 5 = nI n) : sx_call G mX0_tiltNow [.ref b] A Z Q ↔ Q [.int (sx_tilt A b n)] A Z := by
  rw [sx_call_in (L := [some (.ref b)]) rfl rfl]
  have l0 := fun (Q : List Value → sx_A → sx_Z → Prop) => tX0_loadOf (G := G) (Z := Z) (Q := Q) (i := 0) hb hn hA (by omega)
  have l1 := fun (Q : List Value → sx_A → sx_Z → Prop) => tX0_loadOf (G := G) (Z := Z) (Q := Q) (i := 1) hb hn hA (by omega)
  rw [show nI 0 = 0 from rfl] at l0
  rw [show nI 1 = 1 from rfl] at l1
  simp only [eX0_tiltNow_0, eX0_tiltNow_1, eX0_tiltNow_4, eX0_tiltNow_7, eX0_tiltNow_8, eX0_tiltNow_9, eX0_tiltNow_12, eX0_tiltNow_13, eX0_tiltNow_14, eX0_tiltNow_17, eX0_tiltNow_18, eX0_tiltNow_21, eX0_tiltNow_24, kdB hb, kdB1 hb, frB1 hb, anB1 hb, rdB1 hb, kdB2 hb, frB2 hb, anB2 hb, rdB2 hb, kdB3 hb, frB3 hb, anB3 hb, rdB3 hb, kdB4 hb, frB4 hb, anB4 hb, rdB4 hb, kdB5 hb, frB5 hb, anB5 hb, rdB5 hb, tX0_hangs hb hn hA, l0, l1, b2i_0, Nat.reduceLeDiff, Nat.reduceEqDiff, Nat.reduceAdd, if_true, if_false, b2i_T, b2i_F, and_self, and_false, false_and, true_and, and_true, true_or, or_true, false_or, or_false, or_self, not_true_eq_false, not_false_eq_true, eq_self, List.cons_append, List.nil_append]
  unfold sx_tilt sp_tilt
  by_cases h : sp_hangs (A (b + 4)) n
  · rw [if_neg (fun z => z h), if_pos h]
  · rw [if_pos h, if_neg h]
theorem tX0_isLevel (hb : sx_isB b) (hn : n ≤ 8) (hA : A b 5 = nI n) : sx_call G mX0_isLevel [.ref b] A Z Q ↔ Q [.int (b2i (sx_tilt A b n = 0))] A Z := by
  rw [sx_call_in (L := [some (.ref b)]) rfl rfl]
  simp only [eX0_isLevel_0, eX0_isLevel_1, eX0_isLevel_4, eX0_isLevel_7, eX0_isLevel_8, eX0_isLevel_11, eX0_isLevel_12, kdB hb, kdB1 hb, frB1 hb, anB1 hb, rdB1 hb, kdB2 hb, frB2 hb, anB2 hb, rdB2 hb, kdB3 hb, frB3 hb, anB3 hb, rdB3 hb, kdB4 hb, frB4 hb, anB4 hb, rdB4 hb, kdB5 hb, frB5 hb, anB5 hb, rdB5 hb, tX0_tiltNow hb hn hA, Nat.reduceLeDiff, Nat.reduceEqDiff, Nat.reduceAdd, if_true, if_false, b2i_T, b2i_F, and_self, and_false, false_and, true_and, and_true, true_or, or_true, false_or, or_false, or_self, not_true_eq_false, not_false_eq_true, eq_self, List.cons_append, List.nil_append]
  by_cases h : sx_tilt A b n = 0
  · simp only [h, Nat.reduceLeDiff, Nat.reduceEqDiff, Nat.reduceAdd, if_true, if_false, b2i_T, b2i_F, and_self, and_false, false_and, true_and, and_true, true_or, or_true, false_or, or_false, or_self, not_true_eq_false, not_false_eq_true, eq_self, List.cons_append, List.nil_append]
  · simp only [h, Nat.reduceLeDiff, Nat.reduceEqDiff, Nat.reduceAdd, if_true, if_false, b2i_T, b2i_F, and_self, and_false, false_and, true_and, and_true, true_or, or_true, false_or, or_false, or_self, not_true_eq_false, not_false_eq_true, eq_self, List.cons_append, List.nil_append]
theorem tX0_join {k : Int32} (hb : sx_isB b) (hn : n < 8) (hA : A b 5 = nI n) : sx_call G mX0_join [.ref b, .int k] A Z Q ↔ Q [.int (nI n)] (va_up (va_up (va_up (va_up (va_up A (b + 1) (upd (A (b + 1)) n k)) (b + 2) (upd (A (b + 2)) n 0)) (b + 3) (upd (A (b + 3)) n 0)) (b + 4) (upd (A (b + 4)) n (-1))) b (upd (A b) 5 (nI (n + 1)))) Z := by
  rw [sx_call_in (L := [some (.ref b), some (.int k), none]) rfl rfl]
  have h1 : nI n < 8 := nI_lt (a := n) (b := 8) (by omega) (by omega)
  have h2 : ¬ nI n < 0 := nI_pos (by omega)
  have h5 : ¬ 8 ≤ n := by omega
  have h3 : (nI n).toNatClampNeg = n := nI_clamp (by omega)
  simp only [eX0_join_0, eX0_join_1, eX0_join_4, eX0_join_6, eX0_join_9, eX0_join_10, eX0_join_11, eX0_join_12, eX0_join_15, eX0_join_16, eX0_join_17, eX0_join_20, eX0_join_21, eX0_join_22, eX0_join_23, eX0_join_24, eX0_join_27, eX0_join_28, eX0_join_29, eX0_join_30, eX0_join_31, eX0_join_34, eX0_join_35, eX0_join_36, eX0_join_37, eX0_join_38, eX0_join_41, eX0_join_42, eX0_join_43, eX0_join_44, eX0_join_45, eX0_join_46, eX0_join_49, eX0_join_50, eX0_join_51, eX0_join_54, eX0_join_55, kdB hb, kdB1 hb, frB1 hb, anB1 hb, rdB1 hb, kdB2 hb, frB2 hb, anB2 hb, rdB2 hb, kdB3 hb, frB3 hb, anB3 hb, rdB3 hb, kdB4 hb, frB4 hb, anB4 hb, rdB4 hb, kdB5 hb, frB5 hb, anB5 hb, rdB5 hb, hA, h1, h2, h3, h5, Nat.reduceLeDiff, Nat.reduceEqDiff, Nat.reduceAdd, if_true, if_false, b2i_T, b2i_F, and_self, and_false, false_and, true_and, and_true, true_or, or_true, false_or, or_false, or_self, not_true_eq_false, not_false_eq_true, eq_self, List.cons_append, List.nil_append, up_s, up_n, ud_s, nb_0_1, nb_0_2, nb_0_3, nb_0_4, nb_0_5, nb_1_0, nb_1_2, nb_1_3, nb_1_4, nb_1_5, nb_2_0, nb_2_1, nb_2_3, nb_2_4, nb_2_5, nb_3_0, nb_3_1, nb_3_2, nb_3_4, nb_3_5, nb_4_0, nb_4_1, nb_4_2, nb_4_3, nb_4_5, nb_5_0, nb_5_1, nb_5_2, nb_5_3, nb_5_4]
  rw [nI_succ]
theorem tX0_hear {p : Nat} {g s : Int32} (hb : sx_isB b) (hp : p < 8) : sx_call G mX0_hear [.ref b, .int (nI p), .int g, .int s] A Z Q ↔ Q [] (va_up (va_up A (b + 2) (upd (A (b + 2)) p (if A (b + 2) p + g < 99 then A (b + 2) p + g else 99))) (b + 3) (upd (A (b + 3)) p (if A (b + 3) p + s < 99 then A (b + 3) p + s else 99))) Z := by
  rw [sx_call_in (L := [some (.ref b), some (.int (nI p)), some (.int g), some (.int s)]) rfl rfl]
  have h2 : ¬ nI p < 0 := nI_pos (by omega)
  have h5 : ¬ 8 ≤ p := by omega
  have h3 : (nI p).toNatClampNeg = p := nI_clamp (by omega)
  simp only [eX0_hear_0, eX0_hear_1, eX0_hear_4, eX0_hear_5, eX0_hear_7, eX0_hear_8, eX0_hear_11, eX0_hear_12, eX0_hear_13, eX0_hear_14, eX0_hear_15, eX0_hear_18, eX0_hear_19, eX0_hear_20, eX0_hear_23, eX0_hear_24, eX0_hear_26, eX0_hear_27, eX0_hear_30, eX0_hear_31, eX0_hear_32, eX0_hear_33, eX0_hear_34, eX0_hear_37, eX0_hear_38, kdB hb, kdB1 hb, frB1 hb, anB1 hb, rdB1 hb, kdB2 hb, frB2 hb, anB2 hb, rdB2 hb, kdB3 hb, frB3 hb, anB3 hb, rdB3 hb, kdB4 hb, frB4 hb, anB4 hb, rdB4 hb, kdB5 hb, frB5 hb, anB5 hb, rdB5 hb, h2, h3, h5, Nat.reduceLeDiff, Nat.reduceEqDiff, Nat.reduceAdd, if_true, if_false, b2i_T, b2i_F, and_self, and_false, false_and, true_and, and_true, true_or, or_true, false_or, or_false, or_self, not_true_eq_false, not_false_eq_true, eq_self, List.cons_append, List.nil_append, up_s, up_n, ud_s, nb_0_1, nb_0_2, nb_0_3, nb_0_4, nb_0_5, nb_1_0, nb_1_2, nb_1_3, nb_1_4, nb_1_5, nb_2_0, nb_2_1, nb_2_3, nb_2_4, nb_2_5, nb_3_0, nb_3_1, nb_3_2, nb_3_4, nb_3_5, nb_4_0, nb_4_1, nb_4_2, nb_4_3, nb_4_5, nb_5_0, nb_5_1, nb_5_2, nb_5_3, nb_5_4]
end XB
