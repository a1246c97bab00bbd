/-! THE CALLS, ONE BY ONE: sheet -/
/-- p longs from o on wiped -/
def lzo (g : Nat → Int64) (o : Nat) : Nat → (Nat → Int64)
  | 0 => g
  | p + 1 => vp_updL (lzo g o p) (o + p) 0
theorem lzo_in (g : Nat → Int64) (o : Nat) : ∀ (p q : Nat), o ≤ q → q < o + p → lzo g o p q = 0
  | 0, _, h1, h2 => absurd h2 (by omega)
  | p + 1, q, h1, h2 => by
    unfold lzo
    by_cases e : q = o + p
    · subst e; exact pk_uLs
    · rw [pk_uLn e]; exact lzo_in g o p q h1 (by omega)
theorem lzo_out (g : Nat → Int64) (o : Nat) : ∀ (p q : Nat), q < o ∨ o + p ≤ q → lzo g o p q = g q
  | 0, _, _ => rfl
  | p + 1, q, h => by
    unfold lzo
    rw [pk_uLn (by omega)]
    exact lzo_out g o p q (by omega)
theorem Rel.sh {c : Nat} {A : sx_A} {Z : sx_Z} (h : Rel c A Z) {k : Nat} (hk : k < 4) : r_S (A (30 + 2 * k)) (A 46) (A 47) k (Z (30 + 2 * k + 1)) (Z 48) := by
  obtain ⟨-, -, -, ⟨h0, h1, h2, h3⟩, -⟩ := h
  rcases (show k = 0 ∨ k = 1 ∨ k = 2 ∨ k = 3 by omega) with rfl | rfl | rfl | rfl
  · exact h0
  · exact h1
  · exact h2
  · exact h3
theorem Rel.shs {c : Nat} {A A' : sx_A} {Z Z' : sx_Z} (h : Rel c A Z) (hA : ∀ q, (q ≤ 12 ∨ q = 28 ∨ q = 38 ∨ q = 40 ∨ q = 41 ∨ q = 44 ∨ q = 45) → A' q = A q) (h27 : A' 27 1 = A 27 1) (h5 : A' 39 5 = A 39 5) (h7 : A' 39 7 = A 39 7) (hS : ∀ k, k < 4 → r_S (A' (30 + 2 * k)) (A' 46) (A' 47) k (Z' (30 + 2 * k + 1)) (Z' 48)) : Rel c A' Z' := by
  obtain ⟨g1, g2, g3, -, g5⟩ := h
  unfold Rel
  rw [hA 0 (by omega), hA 1 (by omega), hA 2 (by omega), hA 3 (by omega), hA 4 (by omega), hA 5 (by omega), hA 6 (by omega), hA 7 (by omega), hA 8 (by omega), hA 9 (by omega), hA 10 (by omega), hA 11 (by omega), hA 12 (by omega), hA 28 (by omega), hA 38 (by omega), hA 40 (by omega), hA 41 (by omega), hA 44 (by omega), hA 45 (by omega), h27, h5, h7]
  exact ⟨g1, g2, g3, ⟨hS 0 (by omega), hS 1 (by omega), hS 2 (by omega), hS 3 (by omega)⟩, g5⟩

section OP
variable {G : sx_G} {c n : Nat} {A : sx_A} {Z : sx_Z} {Q : List Value → sx_A → sx_Z → Prop}

theorem tX1_lay_l {b m : Nat} (hs : sx_isS b) (hm : m ≤ 40) (hA : A b 2 = nI m) {l1 l2 : Option Value} : ∀ (k p : Nat), p + k = m → (sx_ev G mX1_lay 12 [some (.ref b), l1, l2, some (.int (nI p))] [] A (va_up Z (b + 1) (lzo (Z (b + 1)) 0 p)) Q ↔ Q [.int (nI m)] A (va_up Z (b + 1) (lzo (Z (b + 1)) 0 m))) := by
  intro k
  induction k with
  | zero =>
    intro p hp
    obtain rfl : p = m := by omega
    rw [eX1_lay_12]
    have h1 : nI p ≤ nI p := nI_le (Nat.le_refl _) (by omega)
    simp only [eX1_lay_0, eX1_lay_1, eX1_lay_2, eX1_lay_5, eX1_lay_6, eX1_lay_7, eX1_lay_10, eX1_lay_11, eX1_lay_13, eX1_lay_14, eX1_lay_17, eX1_lay_20, eX1_lay_21, eX1_lay_23, eX1_lay_26, eX1_lay_27, eX1_lay_30, eX1_lay_31, eX1_lay_32, eX1_lay_33, eX1_lay_36, eX1_lay_39, eX1_lay_40, eX1_lay_43, kdS hs, kdS1 hs, frS hs, anS hs, hA, h1, Nat.reduceLeDiff, Nat.reduceEqDiff, Nat.reduceAdd, if_true, if_false, b2i_T, b2i_F, and_self, and_false, false_and, true_and, and_true, true_or, or_true, false_or, or_false, or_self, not_true_eq_false, not_false_eq_true, eq_self, List.cons_append, List.nil_append]
  | succ k ih =>
    intro p hp
    rw [eX1_lay_12]
    have h1 : ¬ nI m ≤ nI p := nI_ge (by omega) (by omega)
    have h7 : ¬ (40 : Int32) ≤ nI p := nI_ge (a := p) (b := 40) (by omega) (by omega)
    have h2 : ¬ nI p < 0 := nI_pos (by omega)
    have h5 : ¬ 40 ≤ p := by omega
    have h3 : (nI p).toNatClampNeg = p := nI_clamp (by omega)
    have h4 := ih (p + 1) (by omega)
    rw [lzo, nI_succ, Nat.zero_add] at h4
    simp only [eX1_lay_0, eX1_lay_1, eX1_lay_2, eX1_lay_5, eX1_lay_6, eX1_lay_7, eX1_lay_10, eX1_lay_11, eX1_lay_13, eX1_lay_14, eX1_lay_17, eX1_lay_20, eX1_lay_21, eX1_lay_23, eX1_lay_26, eX1_lay_27, eX1_lay_30, eX1_lay_31, eX1_lay_32, eX1_lay_33, eX1_lay_36, eX1_lay_39, eX1_lay_40, eX1_lay_43, kdS hs, kdS1 hs, frS hs, anS hs, hA, h1, h2, h3, h5, h7, up_s, up_up, Nat.reduceLeDiff, Nat.reduceEqDiff, Nat.reduceAdd, if_true, if_false, b2i_T, b2i_F, and_self, and_false, false_and, true_and, and_true, true_or, or_true, false_or, or_false, or_self, not_true_eq_false, not_false_eq_true, eq_self, List.cons_append, List.nil_append]
    exact h4
theorem tX1_lay {b m : Nat} {v : Int32} (hs : sx_isS b) (hm : m ≤ 40) : sx_call G mX1_lay [.ref b, .int v, .int (nI m)] A Z Q ↔ Q [.int (nI m)] (va_up A b (upd (upd (A b) 1 v) 2 (nI m))) (va_up Z (b + 1) (lzo (Z (b + 1)) 0 m)) := by
  rw [sx_call_in (L := [some (.ref b), some (.int v), some (.int (nI m)), none]) rfl rfl]
  have z := tX1_lay_l (G := G) (A := va_up A b (upd (upd (A b) 1 v) 2 (nI m))) (Z := Z) (Q := Q) hs hm (by rw [up_s, ud_s]) (l1 := some (.int v)) (l2 := some (.int (nI m))) m 0 (by omega)
  rw [lzo, up_id, nI_0] at z
  simp only [eX1_lay_0, eX1_lay_1, eX1_lay_2, eX1_lay_5, eX1_lay_6, eX1_lay_7, eX1_lay_10, eX1_lay_11, eX1_lay_13, eX1_lay_14, eX1_lay_17, eX1_lay_20, eX1_lay_21, eX1_lay_23, eX1_lay_26, eX1_lay_27, eX1_lay_30, eX1_lay_31, eX1_lay_32, eX1_lay_33, eX1_lay_36, eX1_lay_39, eX1_lay_40, eX1_lay_43, kdS hs, kdS1 hs, frS hs, anS hs, up_s, up_up, Nat.reduceLeDiff, Nat.reduceEqDiff, Nat.reduceAdd, if_true, if_false, b2i_T, b2i_F, and_self, and_false, false_and, true_and, and_true, true_or, or_true, false_or, or_false, or_self, not_true_eq_false, not_false_eq_true, eq_self, List.cons_append, List.nil_append]
  exact z
theorem lX4_sheet {s : Nat} (hs : s < 4) {l2 l3 : Option Value} : ∀ (k p : Nat), p + k = 40 → (sx_ev G mX4_sheet 85 [some (.ref 39), some (.int (nI s)), l2, l3, some (.int (nI p))] [] A (va_up Z 48 (lzo (Z 48) (40 * s) p)) Q ↔ Q [.int (A 47 s)] A (va_up Z 48 (lzo (Z 48) (40 * s) 40))) := by
  have a2 : ¬ nI s < 0 := nI_pos (by omega)
  have a5 : ¬ 4 ≤ s := by omega
  have a3 : (nI s).toNatClampNeg = s := nI_clamp (by omega)
  intro k
  induction k with
  | zero =>
    intro p hp
    obtain rfl : p = 40 := by omega
    rw [eX4_sheet_85]
    have h1 : (40 : Int32) ≤ nI 40 := by decide
    simp only [eX4_sheet_0, eX4_sheet_1, eX4_sheet_4, eX4_sheet_7, eX4_sheet_8, eX4_sheet_11, eX4_sheet_12, eX4_sheet_14, eX4_sheet_17, eX4_sheet_18, eX4_sheet_20, eX4_sheet_23, eX4_sheet_24, eX4_sheet_26, eX4_sheet_29, eX4_sheet_30, eX4_sheet_32, eX4_sheet_35, eX4_sheet_36, eX4_sheet_37, eX4_sheet_40, eX4_sheet_41, eX4_sheet_43, eX4_sheet_46, eX4_sheet_47, eX4_sheet_48, eX4_sheet_50, eX4_sheet_53, eX4_sheet_54, eX4_sheet_56, eX4_sheet_59, eX4_sheet_60, eX4_sheet_61, eX4_sheet_64, eX4_sheet_65, eX4_sheet_66, eX4_sheet_67, eX4_sheet_68, eX4_sheet_71, eX4_sheet_72, eX4_sheet_73, eX4_sheet_76, eX4_sheet_77, eX4_sheet_80, eX4_sheet_81, eX4_sheet_82, eX4_sheet_83, eX4_sheet_87, eX4_sheet_89, eX4_sheet_92, eX4_sheet_93, eX4_sheet_96, eX4_sheet_98, eX4_sheet_99, eX4_sheet_100, eX4_sheet_102, eX4_sheet_103, eX4_sheet_104, eX4_sheet_105, eX4_sheet_108, eX4_sheet_111, eX4_sheet_112, eX4_sheet_115, eX4_sheet_116, eX4_sheet_117, kd_39, fr_39_0, fr_39_1, fr_39_2, fr_39_3, fr_39_4, fr_39_6, fr_39_12, fr_39_13, fr_39_14, fr_39_15, kd_40, an_40, rd_40, kd_41, an_41, rd_41, kd_42, an_42, rd_42, kd_43, an_43, rd_43, kd_44, an_44, rd_44, kd_45, an_45, rd_45, kd_46, an_46, rd_46, kd_47, an_47, rd_47, kd_48, an_48, kd_49, an_49, h1, a2, a3, a5, Nat.reduceLeDiff, Nat.reduceEqDiff, Nat.reduceAdd, if_true, if_false, b2i_T, b2i_F, and_self, and_false, false_and, true_and, and_true, true_or, or_true, false_or, or_false, or_self, not_true_eq_false, not_false_eq_true, eq_self, List.cons_append, List.nil_append]
  | succ k ih =>
    intro p hp
    rw [eX4_sheet_85]
    have h1 : ¬ (40 : Int32) ≤ nI p := nI_ge (a := p) (b := 40) (by omega) (by omega)
    have h6 : (40 : Int32) * nI s + nI p = nI (40 * s + p) := by rw [show (40 : Int32) = nI 40 from rfl, pk_mul, nI_add]
    have h2 : ¬ nI (40 * s + p) < 0 := nI_pos (by omega)
    have h5 : ¬ 160 ≤ 40 * s + p := by omega
    have h3 : (nI (40 * s + p)).toNatClampNeg = 40 * s + p := nI_clamp (by omega)
    have h4 := ih (p + 1) (by omega)
    rw [lzo, nI_succ] at h4
    simp only [eX4_sheet_0, eX4_sheet_1, eX4_sheet_4, eX4_sheet_7, eX4_sheet_8, eX4_sheet_11, eX4_sheet_12, eX4_sheet_14, eX4_sheet_17, eX4_sheet_18, eX4_sheet_20, eX4_sheet_23, eX4_sheet_24, eX4_sheet_26, eX4_sheet_29, eX4_sheet_30, eX4_sheet_32, eX4_sheet_35, eX4_sheet_36, eX4_sheet_37, eX4_sheet_40, eX4_sheet_41, eX4_sheet_43, eX4_sheet_46, eX4_sheet_47, eX4_sheet_48, eX4_sheet_50, eX4_sheet_53, eX4_sheet_54, eX4_sheet_56, eX4_sheet_59, eX4_sheet_60, eX4_sheet_61, eX4_sheet_64, eX4_sheet_65, eX4_sheet_66, eX4_sheet_67, eX4_sheet_68, eX4_sheet_71, eX4_sheet_72, eX4_sheet_73, eX4_sheet_76, eX4_sheet_77, eX4_sheet_80, eX4_sheet_81, eX4_sheet_82, eX4_sheet_83, eX4_sheet_87, eX4_sheet_89, eX4_sheet_92, eX4_sheet_93, eX4_sheet_96, eX4_sheet_98, eX4_sheet_99, eX4_sheet_100, eX4_sheet_102, eX4_sheet_103, eX4_sheet_104, eX4_sheet_105, eX4_sheet_108, eX4_sheet_111, eX4_sheet_112, eX4_sheet_115, eX4_sheet_116, eX4_sheet_117, kd_39, fr_39_0, fr_39_1, fr_39_2, fr_39_3, fr_39_4, fr_39_6, fr_39_12, fr_39_13, fr_39_14, fr_39_15, kd_40, an_40, rd_40, kd_41, an_41, rd_41, kd_42, an_42, rd_42, kd_43, an_43, rd_43, kd_44, an_44, rd_44, kd_45, an_45, rd_45, kd_46, an_46, rd_46, kd_47, an_47, rd_47, kd_48, an_48, kd_49, an_49, h1, h2, h3, h5, h6, up_s, up_up, Nat.reduceLeDiff, Nat.reduceEqDiff, Nat.reduceAdd, if_true, if_false, b2i_T, b2i_F, and_self, and_false, false_and, true_and, and_true, true_or, or_true, false_or, or_false, or_self, not_true_eq_false, not_false_eq_true, eq_self, List.cons_append, List.nil_append]
    exact h4

theorem op_sheet {v w u : Int32} (h : Rel c A Z) : okOp G c A Z mX3_sheet mX4_sheet [.int v, .int w, .int u] := by
  obtain ⟨n, hB⟩ := h.1
  obtain ⟨hn, e1, e2⟩ := hB.1
  unfold okOp
  rw [sx_call_in (L := [some (.ref 0), some (.int v), some (.int w), some (.int u)]) rfl rfl]
  have hm : ∀ (A : sx_A) (Q : List Value → sx_A → sx_Z → Prop), sx_call G mX4_sheet [.ref 39, .int v, .int w, .int u] A Z Q ↔ sx_ev G mX4_sheet 0 [some (.ref 39), some (.int v), some (.int w), some (.int u), none] [] A Z Q := fun A Q => sx_call_in rfl rfl
  by_cases h1 : 0 ≤ v ∧ v ≤ 3
  · obtain ⟨s, hs, rfl⟩ := i_rng (M := 3) (n := 3) (by decide) h1
    have hs4 : s < 4 := by omega
    have a2 : ¬ nI s < 0 := nI_pos (by omega)
    have a5 : ¬ 4 ≤ s := by omega
    have a3 : (nI s).toNatClampNeg = s := nI_clamp (by omega)
    obtain ⟨hS, eS⟩ := frS29 hs4
    by_cases hb : w = 0 ∨ w = 8 ∨ w = 16 ∨ w = 64
    · sorry
    · sorry
  · simp only [eX3_sheet_0, eX3_sheet_1, eX3_sheet_4, eX3_sheet_7, eX3_sheet_8, eX3_sheet_11, eX3_sheet_12, eX3_sheet_14, eX3_sheet_17, eX3_sheet_18, eX3_sheet_20, eX3_sheet_23, eX3_sheet_24, eX3_sheet_26, eX3_sheet_29, eX3_sheet_30, eX3_sheet_32, eX3_sheet_35, eX3_sheet_36, eX3_sheet_37, eX3_sheet_40, eX3_sheet_41, eX3_sheet_43, eX3_sheet_46, eX3_sheet_47, eX3_sheet_48, eX3_sheet_50, eX3_sheet_53, eX3_sheet_54, eX3_sheet_56, eX3_sheet_59, eX3_sheet_60, eX3_sheet_61, eX3_sheet_64, eX3_sheet_65, eX3_sheet_66, eX3_sheet_67, eX3_sheet_68, eX3_sheet_71, eX3_sheet_72, eX3_sheet_75, eX3_sheet_76, eX3_sheet_79, eX4_sheet_0, eX4_sheet_1, eX4_sheet_4, eX4_sheet_7, eX4_sheet_8, eX4_sheet_11, eX4_sheet_12, eX4_sheet_14, eX4_sheet_17, eX4_sheet_18, eX4_sheet_20, eX4_sheet_23, eX4_sheet_24, eX4_sheet_26, eX4_sheet_29, eX4_sheet_30, eX4_sheet_32, eX4_sheet_35, eX4_sheet_36, eX4_sheet_37, eX4_sheet_40, eX4_sheet_41, eX4_sheet_43, eX4_sheet_46, eX4_sheet_47, eX4_sheet_48, eX4_sheet_50, eX4_sheet_53, eX4_sheet_54, eX4_sheet_56, eX4_sheet_59, eX4_sheet_60, eX4_sheet_61, eX4_sheet_64, eX4_sheet_65, eX4_sheet_66, eX4_sheet_67, eX4_sheet_68, eX4_sheet_71, eX4_sheet_72, eX4_sheet_73, eX4_sheet_76, eX4_sheet_77, eX4_sheet_80, eX4_sheet_81, eX4_sheet_82, eX4_sheet_83, eX4_sheet_87, eX4_sheet_89, eX4_sheet_92, eX4_sheet_93, eX4_sheet_96, eX4_sheet_98, eX4_sheet_99, eX4_sheet_100, eX4_sheet_102, eX4_sheet_103, eX4_sheet_104, eX4_sheet_105, eX4_sheet_108, eX4_sheet_111, eX4_sheet_112, eX4_sheet_115, eX4_sheet_116, eX4_sheet_117, hm, kd_0, fr_0_0, fr_0_1, fr_0_2, fr_0_3, fr_0_4, fr_0_5, fr_0_6, fr_0_7, fr_0_8, kd_1, fr_1_0, fr_1_1, fr_1_2, fr_1_3, fr_1_4, kd_2, an_2, rd_2, kd_3, an_3, rd_3, kd_4, an_4, rd_4, kd_5, an_5, rd_5, kd_6, an_6, rd_6, kd_7, kd_13, fr_13_0, fr_13_1, fr_13_2, fr_13_3, fr_13_4, kd_14, an_14, rd_14, kd_15, an_15, rd_15, kd_16, an_16, rd_16, kd_17, an_17, rd_17, kd_19, fr_19_3, kd_23, an_23, rd_23, kd_25, an_25, rd_25, kd_26, an_26, rd_26, kd_27, fr_27_0, kd_28, an_28, rd_28, kd_29, an_29, kd_38, an_38, rd_38, kd_39, fr_39_0, fr_39_1, fr_39_2, fr_39_3, fr_39_4, fr_39_6, fr_39_12, fr_39_13, fr_39_14, fr_39_15, kd_40, an_40, rd_40, kd_41, an_41, rd_41, kd_42, an_42, rd_42, kd_43, an_43, rd_43, kd_44, an_44, rd_44, kd_45, an_45, rd_45, kd_46, an_46, rd_46, kd_47, an_47, rd_47, kd_48, an_48, kd_49, an_49, tX3_isSheet, tX4_isOne, tX3_finding0, tX3_finding1, tX3_finding2, tX3_finding3, tX3_finding4, tX3_finding5, tX3_finding6, tX4_finds0, tX4_finds1, tX4_finds2, tX4_finds3, tX4_finds4, tX4_finds5, tX4_finds6, up_n, up_s, b2i_f h1, Nat.reduceLeDiff, Nat.reduceEqDiff, Nat.reduceAdd, if_true, if_false, b2i_T, b2i_F, and_self, and_false, false_and, true_and, and_true, true_or, or_true, false_or, or_false, or_self, not_true_eq_false, not_false_eq_true, eq_self, List.cons_append, List.nil_append]
    exact okQ.find h 0

end OP
