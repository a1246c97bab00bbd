/-! THE CALLS, ONE BY ONE: park -/
section OP
variable {G : sx_G} {c n : Nat} {A : sx_A} {Z : sx_Z} {Q : List Value → sx_A → sx_Z → Prop}

variable {A0 : sx_A} {b : Nat → Int32} {t : Nat}
theorem bA_59 {st : Nat} : bA b t st = 59 ↔ tk b t st = 3 := by
  rw [tk_3]
  unfold bA
  by_cases c : st < t
  · rw [if_pos c]; exact ⟨fun z => ⟨c, z⟩, fun z => z.2⟩
  · rw [if_neg c]
    exact ⟨fun z => absurd z (by decide), fun z => absurd z.1 c⟩
/-- the reference's end of a park -/
theorem lX4_parkEnd {r : pR} {m : Nat} (ht : t ≤ 120) (h : MP b t A0 A r) (hQ : ∀ A', (∀ k, ¬ k = 39 → ¬ k = 40 → A' k = A0 k) → (∀ q, (q < 7 ∨ 11 < q) → A' 39 q = A0 39 q) → A' 39 7 = 0 → (r.1 = true → r.2.2.2 = t → A' 40 = r.2.1 → Q [.int (nI m)] A' Z) ∧ (¬ (r.1 = true ∧ r.2.2.2 = t) → A' 40 = sp_cp (A0 42) r.2.1 37 → Q [.int (-1 - nI r.2.2.2)] A' Z)) : sx_ev G mX4_park 59 [some (.ref 39), some (.int (nI m))] [] A Z Q := by
  obtain ⟨vl, ⟨h1, h2, h3, h4, h5⟩, h6, h7, h8, h9, h10⟩ := h
  have y1 := fun (A' : sx_A) (Q : List Value → sx_A → sx_Z → Prop) => tX4_putsBack (G := G) (A := A') (Z := Z) (Q := Q)
  have e42 : A 42 = A0 42 := h9 42 (by omega) (by omega)
  by_cases hr : r.1 = true
  · rw [if_pos hr] at h5
    by_cases c : r.2.2.2 = t
    · have g1 : nI t ≤ nI r.2.2.2 := nI_le (by omega) (by omega)
      simp only [eX4_park_0, eX4_park_1, eX4_park_4, eX4_park_5, eX4_park_6, eX4_park_9, eX4_park_10, eX4_park_11, eX4_park_14, eX4_park_15, eX4_park_18, eX4_park_19, eX4_park_20, eX4_park_21, eX4_park_25, eX4_park_28, eX4_park_31, eX4_park_32, eX4_park_33, eX4_park_36, eX4_park_39, eX4_park_41, eX4_park_44, eX4_park_45, eX4_park_46, eX4_park_49, eX4_park_50, eX4_park_53, eX4_park_56, eX4_park_59, eX4_park_60, eX4_park_61, eX4_park_64, eX4_park_67, eX4_park_68, eX4_park_71, eX4_park_72, eX4_park_75, eX4_park_78, eX4_park_79, eX4_park_82, eX4_park_83, eX4_park_86, eX4_park_87, eX4_park_90, eX4_park_93, eX4_park_94, eX4_park_97, eX4_park_98, eX4_park_99, eX4_park_102, eX4_park_103, eX4_park_106, eX4_park_109, eX4_park_110, eX4_park_111, eX4_park_114, eX4_park_115, eX4_park_118, eX4_park_119, kd_39, fr_39_0, fr_39_1, fr_39_2, fr_39_3, fr_39_4, fr_39_6, fr_39_12, fr_39_13, fr_39_14, fr_39_15, kd_40, an_40, rd_40, kd_41, an_41, rd_41, kd_42, an_42, rd_42, kd_43, an_43, rd_43, kd_44, an_44, rd_44, kd_45, an_45, rd_45, kd_46, an_46, rd_46, kd_47, an_47, rd_47, kd_48, an_48, kd_49, an_49, h5, h1, h2, g1, up_s, ud_s, ud_n, Nat.reduceLeDiff, Nat.reduceEqDiff, Nat.reduceAdd, if_true, if_false, b2i_T, b2i_F, and_self, and_false, false_and, true_and, and_true, true_or, or_true, false_or, or_false, or_self, not_true_eq_false, not_false_eq_true, eq_self, List.cons_append, List.nil_append]
      refine (hQ _ (fun k k1 k2 => ?_) (fun q hq => ?_) ?_).1 hr c ?_
      · rw [up_n k1, up_n k1]; exact h9 k k1 k2
      · rw [up_s, ud_n (by omega), ud_n (by omega)]; exact h10 q hq
      · rw [up_s, ud_s]
      · rw [up_n (by omega), up_n (by omega)]; exact h7
    · have g1 : ¬ nI t ≤ nI r.2.2.2 := nI_ge (by omega) (by omega)
      simp only [eX4_park_0, eX4_park_1, eX4_park_4, eX4_park_5, eX4_park_6, eX4_park_9, eX4_park_10, eX4_park_11, eX4_park_14, eX4_park_15, eX4_park_18, eX4_park_19, eX4_park_20, eX4_park_21, eX4_park_25, eX4_park_28, eX4_park_31, eX4_park_32, eX4_park_33, eX4_park_36, eX4_park_39, eX4_park_41, eX4_park_44, eX4_park_45, eX4_park_46, eX4_park_49, eX4_park_50, eX4_park_53, eX4_park_56, eX4_park_59, eX4_park_60, eX4_park_61, eX4_park_64, eX4_park_67, eX4_park_68, eX4_park_71, eX4_park_72, eX4_park_75, eX4_park_78, eX4_park_79, eX4_park_82, eX4_park_83, eX4_park_86, eX4_park_87, eX4_park_90, eX4_park_93, eX4_park_94, eX4_park_97, eX4_park_98, eX4_park_99, eX4_park_102, eX4_park_103, eX4_park_106, eX4_park_109, eX4_park_110, eX4_park_111, eX4_park_114, eX4_park_115, eX4_park_118, eX4_park_119, kd_39, fr_39_0, fr_39_1, fr_39_2, fr_39_3, fr_39_4, fr_39_6, fr_39_12, fr_39_13, fr_39_14, fr_39_15, kd_40, an_40, rd_40, kd_41, an_41, rd_41, kd_42, an_42, rd_42, kd_43, an_43, rd_43, kd_44, an_44, rd_44, kd_45, an_45, rd_45, kd_46, an_46, rd_46, kd_47, an_47, rd_47, kd_48, an_48, kd_49, an_49, h5, h1, h2, g1, one_ne0, up_s, up_n, ud_s, ud_n, y1, e42, h7, Nat.reduceLeDiff, Nat.reduceEqDiff, Nat.reduceAdd, if_true, if_false, b2i_T, b2i_F, and_self, and_false, false_and, true_and, and_true, true_or, or_true, false_or, or_false, or_self, not_true_eq_false, not_false_eq_true, eq_self, List.cons_append, List.nil_append]
      refine (hQ _ (fun k k1 k2 => ?_) (fun q hq => ?_) ?_).2 (fun z => c z.2) ?_
      · rw [up_n k1, up_n k2, up_n k1]; exact h9 k k1 k2
      · rw [up_s, ud_n (by omega), ud_n (by omega)]; exact h10 q hq
      · rw [up_s, ud_s]
      · rw [up_n (by omega), up_s]
  · rw [if_neg hr] at h5
    simp only [eX4_park_0, eX4_park_1, eX4_park_4, eX4_park_5, eX4_park_6, eX4_park_9, eX4_park_10, eX4_park_11, eX4_park_14, eX4_park_15, eX4_park_18, eX4_park_19, eX4_park_20, eX4_park_21, eX4_park_25, eX4_park_28, eX4_park_31, eX4_park_32, eX4_park_33, eX4_park_36, eX4_park_39, eX4_park_41, eX4_park_44, eX4_park_45, eX4_park_46, eX4_park_49, eX4_park_50, eX4_park_53, eX4_park_56, eX4_park_59, eX4_park_60, eX4_park_61, eX4_park_64, eX4_park_67, eX4_park_68, eX4_park_71, eX4_park_72, eX4_park_75, eX4_park_78, eX4_park_79, eX4_park_82, eX4_park_83, eX4_park_86, eX4_park_87, eX4_park_90, eX4_park_93, eX4_park_94, eX4_park_97, eX4_park_98, eX4_park_99, eX4_park_102, eX4_park_103, eX4_park_106, eX4_park_109, eX4_park_110, eX4_park_111, eX4_park_114, eX4_park_115, eX4_park_118, eX4_park_119, kd_39, fr_39_0, fr_39_1, fr_39_2, fr_39_3, fr_39_4, fr_39_6, fr_39_12, fr_39_13, fr_39_14, fr_39_15, kd_40, an_40, rd_40, kd_41, an_41, rd_41, kd_42, an_42, rd_42, kd_43, an_43, rd_43, kd_44, an_44, rd_44, kd_45, an_45, rd_45, kd_46, an_46, rd_46, kd_47, an_47, rd_47, kd_48, an_48, kd_49, an_49, h5, h2, one_ne0, up_s, up_n, ud_s, ud_n, y1, e42, h7, Nat.reduceLeDiff, Nat.reduceEqDiff, Nat.reduceAdd, if_true, if_false, b2i_T, b2i_F, and_self, and_false, false_and, true_and, and_true, true_or, or_true, false_or, or_false, or_self, not_true_eq_false, not_false_eq_true, eq_self, List.cons_append, List.nil_append]
    refine (hQ _ (fun k k1 k2 => ?_) (fun q hq => ?_) ?_).2 (fun z => hr z.1) ?_
    · rw [up_n k1, up_n k2, up_n k1]; exact h9 k k1 k2
    · rw [up_s, ud_n (by omega), ud_n (by omega)]; exact h10 q hq
    · rw [up_s, ud_s]
    · rw [up_n (by omega), up_s]
theorem lX4_park (ht : t ≤ 120) : ∀ (f : Nat) (s : Nat → Int32) (n st m : Nat) (A : sx_A), t + 1 ≤ f + st → st ≤ t → s 0 = nI n → n ≤ 8 → MP b t A0 A (p_item b t s n st) → (∀ A', (∀ k, ¬ k = 39 → ¬ k = 40 → A' k = A0 k) → (∀ q, (q < 7 ∨ 11 < q) → A' 39 q = A0 39 q) → A' 39 7 = 0 → ((p_all b t f s n st m).1.1 = true → A' 40 = (p_all b t f s n st m).1.2.1 → Q [.int (nI (p_all b t f s n st m).2)] A' Z) ∧ ((p_all b t f s n st m).1.1 = false → A' 40 = sp_cp (A0 42) (p_all b t f s n st m).1.2.1 37 → Q [.int (-1 - nI (p_all b t f s n st m).1.2.2.2)] A' Z)) → sx_ev G mX4_park 24 [some (.ref 39), some (.int (nI m))] [] A Z Q
  | 0, s, n, st, m, A, hf, hst, hs, hn, h, hQ => absurd hst (by omega)
  | f + 1, s, n, st, m, A, hf, hst, hs, hn, h, hQ => by
    obtain ⟨ok, pg⟩ := p_item_ok (b := b) hs hn hst
    unfold p_all at hQ
    have hrec := lX4_park ht f (p_item b t s n st).2.1 (p_item b t s n st).2.2.1 (nx b t (p_item b t s n st).2.2.2) (m + 1)
    generalize p_item b t s n st = r at h hQ ok pg hrec
    obtain ⟨o1, o2, o3, o4, o5⟩ := ok
    rw [eX4_park_24]
    by_cases hr : r.1 = true
    · rw [if_pos hr] at hQ
      have pg := pg hr
      have hE := lX4_parkEnd (G := G) (Z := Z) (Q := Q) (m := m) ht h
      obtain ⟨vl, hB⟩ := h
      rw [if_pos hr] at hB
      have h8 : A 39 8 = nI r.2.2.2 := hB.1.2.1
      have h11 : A 39 11 = 0 := hB.1.2.2.2.2
      have hx := fun (Q : List Value → sx_A → sx_Z → Prop) => MB.byte (G := G) (Z := Z) (Q := Q) ht hB
      by_cases c3 : tk b t r.2.2.2 = 3
      · have c0 : ¬ tk b t r.2.2.2 = 0 := by omega
        rw [if_neg c0, if_pos c3] at hQ
        have e3 : bA b t r.2.2.2 = 59 := bA_59.mpr c3
        simp only [eX4_park_0, eX4_park_1, eX4_park_4, eX4_park_5, eX4_park_6, eX4_park_9, eX4_park_10, eX4_park_11, eX4_park_14, eX4_park_15, eX4_park_18, eX4_park_19, eX4_park_20, eX4_park_21, eX4_park_25, eX4_park_28, eX4_park_31, eX4_park_32, eX4_park_33, eX4_park_36, eX4_park_39, eX4_park_41, eX4_park_44, eX4_park_45, eX4_park_46, eX4_park_49, eX4_park_50, eX4_park_53, eX4_park_56, eX4_park_60, eX4_park_61, eX4_park_64, eX4_park_67, eX4_park_68, eX4_park_71, eX4_park_72, eX4_park_75, eX4_park_78, eX4_park_79, eX4_park_82, eX4_park_83, eX4_park_86, eX4_park_87, eX4_park_90, eX4_park_93, eX4_park_94, eX4_park_97, eX4_park_98, eX4_park_99, eX4_park_102, eX4_park_103, eX4_park_106, eX4_park_109, eX4_park_110, eX4_park_111, eX4_park_114, eX4_park_115, eX4_park_118, eX4_park_119, kd_39, fr_39_0, fr_39_1, fr_39_2, fr_39_3, fr_39_4, fr_39_6, fr_39_12, fr_39_13, fr_39_14, fr_39_15, kd_40, an_40, rd_40, kd_41, an_41, rd_41, kd_42, an_42, rd_42, kd_43, an_43, rd_43, kd_44, an_44, rd_44, kd_45, an_45, rd_45, kd_46, an_46, rd_46, kd_47, an_47, rd_47, kd_48, an_48, kd_49, an_49, h8, h11, hx, e3, Nat.reduceLeDiff, Nat.reduceEqDiff, Nat.reduceAdd, if_true, if_false, b2i_T, b2i_F, and_self, and_false, false_and, true_and, and_true, true_or, or_true, false_or, or_false, or_self, not_true_eq_false, not_false_eq_true, eq_self, List.cons_append, List.nil_append]
        refine MB.must1 ht hB (fun A1 h1 => ?_)
        have g3 := nx_gt (b := b) (tk_lt c0)
        have g4 := nx_le (b := b) o5
        simp only [eX4_park_0, eX4_park_1, eX4_park_4, eX4_park_5, eX4_park_6, eX4_park_9, eX4_park_10, eX4_park_11, eX4_park_14, eX4_park_15, eX4_park_18, eX4_park_19, eX4_park_20, eX4_park_21, eX4_park_25, eX4_park_28, eX4_park_31, eX4_park_32, eX4_park_33, eX4_park_36, eX4_park_39, eX4_park_41, eX4_park_44, eX4_park_45, eX4_park_46, eX4_park_49, eX4_park_50, eX4_park_53, eX4_park_56, eX4_park_60, eX4_park_61, eX4_park_64, eX4_park_67, eX4_park_68, eX4_park_71, eX4_park_72, eX4_park_75, eX4_park_78, eX4_park_79, eX4_park_82, eX4_park_83, eX4_park_86, eX4_park_87, eX4_park_90, eX4_park_93, eX4_park_94, eX4_park_97, eX4_park_98, eX4_park_99, eX4_park_102, eX4_park_103, eX4_park_106, eX4_park_109, eX4_park_110, eX4_park_111, eX4_park_114, eX4_park_115, eX4_park_118, eX4_park_119, kd_39, fr_39_0, fr_39_1, fr_39_2, fr_39_3, fr_39_4, fr_39_6, fr_39_12, fr_39_13, fr_39_14, fr_39_15, kd_40, an_40, rd_40, kd_41, an_41, rd_41, kd_42, an_42, rd_42, kd_43, an_43, rd_43, kd_44, an_44, rd_44, kd_45, an_45, rd_45, kd_46, an_46, rd_46, kd_47, an_47, rd_47, kd_48, an_48, kd_49, an_49, Nat.reduceLeDiff, Nat.reduceEqDiff, Nat.reduceAdd, if_true, if_false, b2i_T, b2i_F, and_self, and_false, false_and, true_and, and_true, true_or, or_true, false_or, or_false, or_self, not_true_eq_false, not_false_eq_true, eq_self, List.cons_append, List.nil_append]
        refine tX4_item ht o2 o1 h1 (fun A2 h2 => ?_)
        have h4 := hrec A2 (by omega) g4 o1 o2 h2 hQ
        rw [nI_succ] at h4
        simp only [eX4_park_0, eX4_park_1, eX4_park_4, eX4_park_5, eX4_park_6, eX4_park_9, eX4_park_10, eX4_park_11, eX4_park_14, eX4_park_15, eX4_park_18, eX4_park_19, eX4_park_20, eX4_park_21, eX4_park_25, eX4_park_28, eX4_park_31, eX4_park_32, eX4_park_33, eX4_park_36, eX4_park_39, eX4_park_41, eX4_park_44, eX4_park_45, eX4_park_46, eX4_park_49, eX4_park_50, eX4_park_53, eX4_park_56, eX4_park_60, eX4_park_61, eX4_park_64, eX4_park_67, eX4_park_68, eX4_park_71, eX4_park_72, eX4_park_75, eX4_park_78, eX4_park_79, eX4_park_82, eX4_park_83, eX4_park_86, eX4_park_87, eX4_park_90, eX4_park_93, eX4_park_94, eX4_park_97, eX4_park_98, eX4_park_99, eX4_park_102, eX4_park_103, eX4_park_106, eX4_park_109, eX4_park_110, eX4_park_111, eX4_park_114, eX4_park_115, eX4_park_118, eX4_park_119, Nat.reduceLeDiff, Nat.reduceEqDiff, Nat.reduceAdd, if_true, if_false, b2i_T, b2i_F, and_self, and_false, false_and, true_and, and_true, true_or, or_true, false_or, or_false, or_self, not_true_eq_false, not_false_eq_true, eq_self, List.cons_append, List.nil_append]
        exact h4
      · have e3 : ¬ bA b t r.2.2.2 = 59 := fun z => c3 (bA_59.mp z)
        simp only [eX4_park_0, eX4_park_1, eX4_park_4, eX4_park_5, eX4_park_6, eX4_park_9, eX4_park_10, eX4_park_11, eX4_park_14, eX4_park_15, eX4_park_18, eX4_park_19, eX4_park_20, eX4_park_21, eX4_park_25, eX4_park_28, eX4_park_31, eX4_park_32, eX4_park_33, eX4_park_36, eX4_park_39, eX4_park_41, eX4_park_44, eX4_park_45, eX4_park_46, eX4_park_49, eX4_park_50, eX4_park_53, eX4_park_56, eX4_park_60, eX4_park_61, eX4_park_64, eX4_park_67, eX4_park_68, eX4_park_71, eX4_park_72, eX4_park_75, eX4_park_78, eX4_park_79, eX4_park_82, eX4_park_83, eX4_park_86, eX4_park_87, eX4_park_90, eX4_park_93, eX4_park_94, eX4_park_97, eX4_park_98, eX4_park_99, eX4_park_102, eX4_park_103, eX4_park_106, eX4_park_109, eX4_park_110, eX4_park_111, eX4_park_114, eX4_park_115, eX4_park_118, eX4_park_119, kd_39, fr_39_0, fr_39_1, fr_39_2, fr_39_3, fr_39_4, fr_39_6, fr_39_12, fr_39_13, fr_39_14, fr_39_15, kd_40, an_40, rd_40, kd_41, an_41, rd_41, kd_42, an_42, rd_42, kd_43, an_43, rd_43, kd_44, an_44, rd_44, kd_45, an_45, rd_45, kd_46, an_46, rd_46, kd_47, an_47, rd_47, kd_48, an_48, kd_49, an_49, h8, h11, hx, e3, Nat.reduceLeDiff, Nat.reduceEqDiff, Nat.reduceAdd, if_true, if_false, b2i_T, b2i_F, and_self, and_false, false_and, true_and, and_true, true_or, or_true, false_or, or_false, or_self, not_true_eq_false, not_false_eq_true, eq_self, List.cons_append, List.nil_append]
        refine hE (fun A1 k1 k2 k3 => ?_)
        have hQ := hQ A1 k1 k2 k3
        by_cases c0 : tk b t r.2.2.2 = 0
        · rw [if_pos c0] at hQ
          have e0 := (tk_0 o5).mp c0
          exact ⟨fun z1 z2 z3 => hQ.1 hr z3, fun z => absurd ⟨hr, e0⟩ z⟩
        · rw [if_neg c0, if_neg c3] at hQ
          have e0 : ¬ r.2.2.2 = t := fun z => c0 ((tk_0 o5).mpr z)
          exact ⟨fun z1 z2 => absurd z2 e0, fun z1 z2 => hQ.2 rfl z2⟩
    · rw [if_neg hr] at hQ
      have hE := lX4_parkEnd (G := G) (Z := Z) (Q := Q) (m := m) ht h
      obtain ⟨vl, hB⟩ := h
      rw [if_neg hr] at hB
      have h11 : A 39 11 = 1 := hB.1.2.2.2.2
      simp only [eX4_park_0, eX4_park_1, eX4_park_4, eX4_park_5, eX4_park_6, eX4_park_9, eX4_park_10, eX4_park_11, eX4_park_14, eX4_park_15, eX4_park_18, eX4_park_19, eX4_park_20, eX4_park_21, eX4_park_25, eX4_park_28, eX4_park_31, eX4_park_32, eX4_park_33, eX4_park_36, eX4_park_39, eX4_park_41, eX4_park_44, eX4_park_45, eX4_park_46, eX4_park_49, eX4_park_50, eX4_park_53, eX4_park_56, eX4_park_60, eX4_park_61, eX4_park_64, eX4_park_67, eX4_park_68, eX4_park_71, eX4_park_72, eX4_park_75, eX4_park_78, eX4_park_79, eX4_park_82, eX4_park_83, eX4_park_86, eX4_park_87, eX4_park_90, eX4_park_93, eX4_park_94, eX4_park_97, eX4_park_98, eX4_park_99, eX4_park_102, eX4_park_103, eX4_park_106, eX4_park_109, eX4_park_110, eX4_park_111, eX4_park_114, eX4_park_115, eX4_park_118, eX4_park_119, kd_39, fr_39_0, fr_39_1, fr_39_2, fr_39_3, fr_39_4, fr_39_6, fr_39_12, fr_39_13, fr_39_14, fr_39_15, kd_40, an_40, rd_40, kd_41, an_41, rd_41, kd_42, an_42, rd_42, kd_43, an_43, rd_43, kd_44, an_44, rd_44, kd_45, an_45, rd_45, kd_46, an_46, rd_46, kd_47, an_47, rd_47, kd_48, an_48, kd_49, an_49, h11, one_ne0, Nat.reduceLeDiff, Nat.reduceEqDiff, Nat.reduceAdd, if_true, if_false, b2i_T, b2i_F, and_self, and_false, false_and, true_and, and_true, true_or, or_true, false_or, or_false, or_self, not_true_eq_false, not_false_eq_true, eq_self, List.cons_append, List.nil_append]
      refine hE (fun A1 k1 k2 k3 => ?_)
      have hQ := hQ A1 k1 k2 k3
      exact ⟨fun z => absurd z hr, fun z1 z2 => hQ.2 (Bool.eq_false_iff.mpr hr) z2⟩

theorem p_all_ok : ∀ (f : Nat) (s : Nat → Int32) (n st m : Nat), s 0 = nI n → n ≤ 8 → st ≤ t → (∀ q, 37 ≤ q → (p_all b t f s n st m).1.2.1 q = s q) ∧ (p_all b t f s n st m).1.2.2.2 ≤ t ∧ (p_all b t f s n st m).2 ≤ m + f
  | 0, s, n, st, m, hs, hn, hst => ⟨fun q _ => rfl, hst, Nat.le_refl _⟩
  | f + 1, s, n, st, m, hs, hn, hst => by
    obtain ⟨ok, -⟩ := p_item_ok (b := b) hs hn hst
    have hrec := p_all_ok f (p_item b t s n st).2.1 (p_item b t s n st).2.2.1 (nx b t (p_item b t s n st).2.2.2) (m + 1)
    unfold p_all
    generalize p_item b t s n st = r at ok hrec ⊢
    obtain ⟨o1, o2, o3, o4, o5⟩ := ok
    split
    · split
      · exact ⟨o3, o5, by show m ≤ _; omega⟩
      · split
        · obtain ⟨g1, g2, g3⟩ := hrec o1 o2 (nx_le o5)
          exact ⟨fun q hq => (g1 q hq).trans (o3 q hq), g2, by omega⟩
        · exact ⟨o3, o5, by show m ≤ _; omega⟩
    · exact ⟨o3, o5, by show m ≤ _; omega⟩
theorem tX4_park {s : Nat → Int32} (ht : t ≤ 120) (h7 : A 39 7 = nI t) (hb : ∀ j, j < t → A 45 j = b j) (hs : A 40 = s) (h0 : s 0 = nI n) (hn : n ≤ 8) (hQ : ∀ A', (∀ k, ¬ k = 39 → ¬ k = 40 → ¬ k = 42 → A' k = A k) → (∀ q, (q < 7 ∨ 11 < q) → A' 39 q = A 39 q) → A' 39 7 = 0 → ((p_all b t (t + 1) s n (sk b t 0) 1).1.1 = true → A' 40 = (p_all b t (t + 1) s n (sk b t 0) 1).1.2.1 → Q [.int (nI (p_all b t (t + 1) s n (sk b t 0) 1).2)] A' Z) ∧ ((p_all b t (t + 1) s n (sk b t 0) 1).1.1 = false → A' 40 = s → Q [.int (-1 - nI (p_all b t (t + 1) s n (sk b t 0) 1).1.2.2.2)] A' Z)) : sx_call G mX4_park [.ref 39] A Z Q := by
  rw [sx_call_in (L := [some (.ref 39), none]) rfl rfl]
  have y1 := fun (Q : List Value → sx_A → sx_Z → Prop) => tX4_saves (G := G) (A := A) (Z := Z) (Q := Q)
  rw [hs] at y1
  have y2 := fun (Q : List Value → sx_A → sx_Z → Prop) => tX4_token (G := G) (A := va_up (va_up A 42 (sp_cp s (A 42) 37)) 39 (upd (upd (A 39) 11 0) 9 0)) (Z := Z) (Q := Q) (b := b) (t := t) (i := 0) ht (by rw [up_s, ud_n (by omega), ud_n (by omega)]; exact h7) (fun j hj => by rw [up_n (by omega), up_n (by omega)]; exact hb j hj) (by omega) (by rw [up_s, ud_s]; rfl)
  have hle : sk b t 0 ≤ t := sk_le (by omega)
  obtain ⟨p1, p2, p3⟩ := p_all_ok (b := b) (t := t) (t + 1) s n (sk b t 0) 1 h0 hn hle
  simp only [up_s, up_up] at y2
  simp only [eX4_park_0, eX4_park_1, eX4_park_4, eX4_park_5, eX4_park_6, eX4_park_9, eX4_park_10, eX4_park_11, eX4_park_14, eX4_park_15, eX4_park_18, eX4_park_19, eX4_park_20, eX4_park_21, eX4_park_25, eX4_park_28, eX4_park_31, eX4_park_32, eX4_park_33, eX4_park_36, eX4_park_39, eX4_park_41, eX4_park_44, eX4_park_45, eX4_park_46, eX4_park_49, eX4_park_50, eX4_park_53, eX4_park_56, eX4_park_59, eX4_park_60, eX4_park_61, eX4_park_64, eX4_park_67, eX4_park_68, eX4_park_71, eX4_park_72, eX4_park_75, eX4_park_78, eX4_park_79, eX4_park_82, eX4_park_83, eX4_park_86, eX4_park_87, eX4_park_90, eX4_park_93, eX4_park_94, eX4_park_97, eX4_park_98, eX4_park_99, eX4_park_102, eX4_park_103, eX4_park_106, eX4_park_109, eX4_park_110, eX4_park_111, eX4_park_114, eX4_park_115, eX4_park_118, eX4_park_119, kd_39, fr_39_0, fr_39_1, fr_39_2, fr_39_3, fr_39_4, fr_39_6, fr_39_12, fr_39_13, fr_39_14, fr_39_15, kd_40, an_40, rd_40, kd_41, an_41, rd_41, kd_42, an_42, rd_42, kd_43, an_43, rd_43, kd_44, an_44, rd_44, kd_45, an_45, rd_45, kd_46, an_46, rd_46, kd_47, an_47, rd_47, kd_48, an_48, kd_49, an_49, y1, y2, up_s, up_n, up_up, Nat.reduceLeDiff, Nat.reduceEqDiff, Nat.reduceAdd, if_true, if_false, b2i_T, b2i_F, and_self, and_false, false_and, true_and, and_true, true_or, or_true, false_or, or_false, or_self, not_true_eq_false, not_false_eq_true, eq_self, List.cons_append, List.nil_append]
  have hM : MB b t (va_up A 42 (sp_cp s (A 42) 37)) (va_up (va_up A 42 (sp_cp s (A 42) 37)) 39 (upd (upd (upd (upd (A 39) 11 0) 9 0) 8 (nI (sk b t 0))) 9 (nI (en b t (sk b t 0))))) s (sk b t 0) 0 (A 39 10) := by
    refine ⟨⟨?_, ?_, ?_, ?_, ?_⟩, fun j hj => ?_, ?_, hle, fun k k1 k2 => ?_, fun q hq => ?_⟩
    · rw [up_s, ud_n (by omega), ud_n (by omega), ud_n (by omega), ud_n (by omega)]; exact h7
    · rw [up_s, ud_n (by omega), ud_s]
    · rw [up_s, ud_s]
    · rw [up_s, ud_n (by omega), ud_n (by omega), ud_n (by omega), ud_n (by omega)]
    · rw [up_s, ud_n (by omega), ud_n (by omega), ud_n (by omega), ud_s]
    · rw [up_n (by omega), up_n (by omega)]; exact hb j hj
    · rw [up_n (by omega), up_n (by omega)]; exact hs
    · rw [up_n k1]
    · rw [up_s, ud_n (by omega), ud_n (by omega), ud_n (by omega), ud_n (by omega), up_n (by omega)]
  refine tX4_item ht hn h0 hM (fun A2 h2 => ?_)
  have l := lX4_park (G := G) (Z := Z) (Q := Q) ht (t + 1) s n (sk b t 0) 1 A2 (by omega) hle h0 hn h2 (fun A3 k1 k2 k3 => by
    obtain ⟨q1, q2⟩ := hQ A3 (fun k j1 j2 j3 => by rw [k1 k j1 j2, up_n j3]) (fun q hq => by rw [k2 q hq, up_n (by omega)]) k3
    refine ⟨q1, fun z1 z2 => q2 z1 ?_⟩
    rw [z2, up_s]
    exact sp_back p1)
  rw [show nI 1 = 1 from rfl] at l
  simp only [eX4_park_0, eX4_park_1, eX4_park_4, eX4_park_5, eX4_park_6, eX4_park_9, eX4_park_10, eX4_park_11, eX4_park_14, eX4_park_15, eX4_park_18, eX4_park_19, eX4_park_20, eX4_park_21, eX4_park_25, eX4_park_28, eX4_park_31, eX4_park_32, eX4_park_33, eX4_park_36, eX4_park_39, eX4_park_41, eX4_park_44, eX4_park_45, eX4_park_46, eX4_park_49, eX4_park_50, eX4_park_53, eX4_park_56, eX4_park_59, eX4_park_60, eX4_park_61, eX4_park_64, eX4_park_67, eX4_park_68, eX4_park_71, eX4_park_72, eX4_park_75, eX4_park_78, eX4_park_79, eX4_park_82, eX4_park_83, eX4_park_86, eX4_park_87, eX4_park_90, eX4_park_93, eX4_park_94, eX4_park_97, eX4_park_98, eX4_park_99, eX4_park_102, eX4_park_103, eX4_park_106, eX4_park_109, eX4_park_110, eX4_park_111, eX4_park_114, eX4_park_115, eX4_park_118, eX4_park_119, Nat.reduceLeDiff, Nat.reduceEqDiff, Nat.reduceAdd, if_true, if_false, b2i_T, b2i_F, and_self, and_false, false_and, true_and, and_true, true_or, or_true, false_or, or_false, or_self, not_true_eq_false, not_false_eq_true, eq_self, List.cons_append, List.nil_append]
  exact l
theorem Rel.parked {A' : sx_A} (h : Rel c A Z) (hB : ∃ n, r_B c n (A' 1) (A' 2) (A' 3) (A' 4) (A' 5) (A' 6) (A' 40)) (hA : ∀ k, (k = 0 ∨ (7 ≤ k ∧ k ≤ 12) ∨ (29 ≤ k ∧ k ≤ 38) ∨ k = 41 ∨ k = 44 ∨ k = 46 ∨ k = 47) → A' k = A k) (h5 : A' 39 5 = A 39 5) (h1 : A' 27 1 = 0) (h7 : A' 39 7 = 0) : Rel c A' Z := by
  obtain ⟨-, g2, -, g4, g5⟩ := h
  unfold Rel
  rw [hA 0 (by omega), hA 7 (by omega), hA 8 (by omega), hA 9 (by omega), hA 10 (by omega), hA 11 (by omega), hA 12 (by omega), hA 30 (by omega), hA 32 (by omega), hA 34 (by omega), hA 36 (by omega), hA 38 (by omega), hA 41 (by omega), hA 44 (by omega), hA 46 (by omega), hA 47 (by omega), h5]
  exact ⟨hB, g2, ⟨0, by omega, h1, h7, fun j hj => absurd hj (by omega)⟩, g4, g5⟩

theorem op_park (h : Rel c A Z) : okOp G c A Z mX3_park mX4_park [] := by
  obtain ⟨n, hB⟩ := h.1
  obtain ⟨hn, e1, e2⟩ := hB.1
  unfold okOp
  rw [sx_call_in (L := [some (.ref 0), none]) rfl rfl]
  have hm : ∀ (A : sx_A) (Q : List Value → sx_A → sx_Z → Prop), sx_call G mX4_park [.ref 39] A Z Q ↔ sx_ev G mX4_park 0 [some (.ref 39), none] [] A Z Q := fun A Q => sx_call_in rfl rfl
  obtain ⟨t, ht, t1, t2, t3⟩ := h.2.2.1
  have hT := rB.bec (n := n) bo_13_1 hB
  have x1 := fun (Q : List Value → sx_A → sx_Z → Prop) => tX0_becomes (G := G) (A := A) (Z := Z) (Q := Q) isB13 bo_13_1 hn e1
  have ho : off 13 A (bm_bec A 13 1 n) := off_bec
  generalize bm_bec A 13 1 n = B at x1 hT ho
  have b27 : B 27 = A 27 := ho 27 (by omega)
  have b28 : B 28 = A 28 := ho 28 (by omega)
  have hs0 : sk (A 28) t 0 ≤ t := sk_le (by omega)
  have hm1 : (-1 : Int32).toInt = -1 := by decide
  have nf : ∀ st, st ≤ t → (-1 : Int32) - nI st < 0 := by
    intro st hst
    have e : (nI st).toInt = (st : Int) := nI_toInt (by omega)
    rw [ti_lt0, ti_sub (by rw [e, hm1]; omega) (by rw [e, hm1]; omega), e, hm1]
    omega
  obtain ⟨p1, p2, p3⟩ := p_all_ok (b := A 28) (t := t) (t + 1) (A 40) n (sk (A 28) t 0) 1 e2 hn hs0
  simp only [eX3_park_0, eX3_park_1, eX3_park_4, eX3_park_5, eX3_park_8, eX3_park_11, eX3_park_12, eX3_park_15, eX3_park_16, eX3_park_19, eX3_park_22, eX3_park_23, eX3_park_24, eX3_park_27, eX3_park_28, eX3_park_31, eX3_park_32, eX3_park_35, eX3_park_38, eX3_park_39, eX3_park_42, eX3_park_43, eX3_park_46, eX3_park_47, kd_0, fr_0_0, fr_0_1, fr_0_2, fr_0_3, fr_0_4, fr_0_5, fr_0_6, fr_0_7, fr_0_8, kd_1, fr_1_0, fr_1_1, fr_1_2, fr_1_3, fr_1_4, kd_2, an_2, rd_2, kd_3, an_3, rd_3, kd_4, an_4, rd_4, kd_5, an_5, rd_5, kd_6, an_6, rd_6, kd_7, kd_13, fr_13_0, fr_13_1, fr_13_2, fr_13_3, fr_13_4, kd_14, an_14, rd_14, kd_15, an_15, rd_15, kd_16, an_16, rd_16, kd_17, an_17, rd_17, kd_19, fr_19_3, kd_23, an_23, rd_23, kd_25, an_25, rd_25, kd_26, an_26, rd_26, kd_27, fr_27_0, kd_28, an_28, rd_28, kd_29, an_29, kd_38, an_38, rd_38, x1, Nat.reduceLeDiff, Nat.reduceEqDiff, Nat.reduceAdd, if_true, if_false, b2i_T, b2i_F, and_self, and_false, false_and, true_and, and_true, true_or, or_true, false_or, or_false, or_self, not_true_eq_false, not_false_eq_true, eq_self, List.cons_append, List.nil_append]
  rw [sx_call_in (L := [some (.ref 27), some (.ref 13), none]) rfl rfl]
  simp only [eX2_tellAll_0, eX2_tellAll_1, eX2_tellAll_2, eX2_tellAll_5, eX2_tellAll_6, eX2_tellAll_9, eX2_tellAll_10, eX2_tellAll_12, eX2_tellAll_14, eX2_tellAll_17, eX2_tellAll_18, eX2_tellAll_19, eX2_tellAll_22, eX2_tellAll_25, eX2_tellAll_26, eX2_tellAll_27, eX2_tellAll_30, eX2_tellAll_31, eX2_tellAll_32, eX2_tellAll_33, eX2_tellAll_36, eX2_tellAll_39, eX2_tellAll_40, eX2_tellAll_41, eX2_tellAll_42, eX2_tellAll_45, eX2_tellAll_46, eX2_tellAll_49, eX2_tellAll_50, eX2_tellAll_51, eX2_tellAll_54, eX2_tellAll_55, eX2_tellAll_56, eX2_tellAll_57, eX2_tellAll_60, eX2_tellAll_63, eX2_tellAll_66, eX2_tellAll_67, eX2_tellAll_68, eX2_tellAll_71, eX2_tellAll_72, kd_0, fr_0_0, fr_0_1, fr_0_2, fr_0_3, fr_0_4, fr_0_5, fr_0_6, fr_0_7, fr_0_8, kd_1, fr_1_0, fr_1_1, fr_1_2, fr_1_3, fr_1_4, kd_2, an_2, rd_2, kd_3, an_3, rd_3, kd_4, an_4, rd_4, kd_5, an_5, rd_5, kd_6, an_6, rd_6, kd_7, kd_13, fr_13_0, fr_13_1, fr_13_2, fr_13_3, fr_13_4, kd_14, an_14, rd_14, kd_15, an_15, rd_15, kd_16, an_16, rd_16, kd_17, an_17, rd_17, kd_19, fr_19_3, kd_23, an_23, rd_23, kd_25, an_25, rd_25, kd_26, an_26, rd_26, kd_27, fr_27_0, kd_28, an_28, rd_28, kd_29, an_29, kd_38, an_38, rd_38, Nat.reduceLeDiff, Nat.reduceEqDiff, Nat.reduceAdd, if_true, if_false, b2i_T, b2i_F, and_self, and_false, false_and, true_and, and_true, true_or, or_true, false_or, or_false, or_self, not_true_eq_false, not_false_eq_true, eq_self, List.cons_append, List.nil_append]
  refine tX2_advance (b := A 28) (t := t) (i := 0) (by rw [up_n (by omega)]; exact b28) ht (by omega) (by rw [up_s, ud_n (by omega), b27]; exact t1) (by rw [up_s, ud_s]; rfl) (fun R hR => ?_)
  have hX : XS (A 28) t c A (va_up (va_up B 27 (upd (B 27) 3 0)) 27 R) (A 40) n (sk (A 28) t 0) := by
    refine ⟨?_, ?_, rB_27 (rB_27 hT), hs0, fun k hk h27 => ?_⟩
    · rw [up_n (by omega), up_n (by omega)]; exact b28
    · rw [up_s]; exact hR
    · rw [up_n h27, up_n h27]; exact ho k (by omega)
  simp only [eX2_tellAll_0, eX2_tellAll_1, eX2_tellAll_2, eX2_tellAll_5, eX2_tellAll_6, eX2_tellAll_9, eX2_tellAll_10, eX2_tellAll_12, eX2_tellAll_14, eX2_tellAll_17, eX2_tellAll_18, eX2_tellAll_19, eX2_tellAll_22, eX2_tellAll_25, eX2_tellAll_26, eX2_tellAll_27, eX2_tellAll_30, eX2_tellAll_31, eX2_tellAll_32, eX2_tellAll_33, eX2_tellAll_36, eX2_tellAll_39, eX2_tellAll_40, eX2_tellAll_41, eX2_tellAll_42, eX2_tellAll_45, eX2_tellAll_46, eX2_tellAll_49, eX2_tellAll_50, eX2_tellAll_51, eX2_tellAll_54, eX2_tellAll_55, eX2_tellAll_56, eX2_tellAll_57, eX2_tellAll_60, eX2_tellAll_63, eX2_tellAll_66, eX2_tellAll_67, eX2_tellAll_68, eX2_tellAll_71, eX2_tellAll_72, Nat.reduceLeDiff, Nat.reduceEqDiff, Nat.reduceAdd, if_true, if_false, b2i_T, b2i_F, and_self, and_false, false_and, true_and, and_true, true_or, or_true, false_or, or_false, or_self, not_true_eq_false, not_false_eq_true, eq_self, List.cons_append, List.nil_append]
  rw [show (1 : Int32) = nI 1 from rfl]
  refine lX2_tellAll ht (t + 1) (A 40) n (sk (A 28) t 0) 1 _ (by omega) (by omega) hX (fun A1 => ⟨fun z1 h1 => ?_, fun z1 h1 => ?_⟩)
  · obtain ⟨g1, g2, hT1, g4, g5⟩ := h1
    have nn : ¬ nI (p_all (A 28) t (t + 1) (A 40) n (sk (A 28) t 0) 1).2 < 0 := nI_pos (by omega)
    have hn1 : (p_all (A 28) t (t + 1) (A 40) n (sk (A 28) t 0) 1).1.2.2.1 ≤ 8 := hT1.1.1
    have x2 := fun (Q : List Value → sx_A → sx_Z → Prop) => tX0_becomes (G := G) (A := A1) (Z := Z) (Q := Q) isB1 bo_1_13 hn1 hT1.1.2.1
    have hB1 := rB.bec (n := (p_all (A 28) t (t + 1) (A 40) n (sk (A 28) t 0) 1).1.2.2.1) bo_1_13 hT1
    have ho1 : off 1 A1 (bm_bec A1 1 13 (p_all (A 28) t (t + 1) (A 40) n (sk (A 28) t 0) 1).1.2.2.1) := off_bec
    generalize bm_bec A1 1 13 (p_all (A 28) t (t + 1) (A 40) n (sk (A 28) t 0) 1).1.2.2.1 = A2 at x2 hB1 ho1
    simp only [eX3_park_0, eX3_park_1, eX3_park_4, eX3_park_5, eX3_park_8, eX3_park_11, eX3_park_12, eX3_park_15, eX3_park_16, eX3_park_19, eX3_park_22, eX3_park_23, eX3_park_24, eX3_park_27, eX3_park_28, eX3_park_31, eX3_park_32, eX3_park_35, eX3_park_38, eX3_park_39, eX3_park_42, eX3_park_43, eX3_park_46, eX3_park_47, kd_0, fr_0_0, fr_0_1, fr_0_2, fr_0_3, fr_0_4, fr_0_5, fr_0_6, fr_0_7, fr_0_8, kd_1, fr_1_0, fr_1_1, fr_1_2, fr_1_3, fr_1_4, kd_2, an_2, rd_2, kd_3, an_3, rd_3, kd_4, an_4, rd_4, kd_5, an_5, rd_5, kd_6, an_6, rd_6, kd_7, kd_13, fr_13_0, fr_13_1, fr_13_2, fr_13_3, fr_13_4, kd_14, an_14, rd_14, kd_15, an_15, rd_15, kd_16, an_16, rd_16, kd_17, an_17, rd_17, kd_19, fr_19_3, kd_23, an_23, rd_23, kd_25, an_25, rd_25, kd_26, an_26, rd_26, kd_27, fr_27_0, kd_28, an_28, rd_28, kd_29, an_29, kd_38, an_38, rd_38, nn, x2, Nat.reduceLeDiff, Nat.reduceEqDiff, Nat.reduceAdd, if_true, if_false, b2i_T, b2i_F, and_self, and_false, false_and, true_and, and_true, true_or, or_true, false_or, or_false, or_self, not_true_eq_false, not_false_eq_true, eq_self, List.cons_append, List.nil_append]
    have f2 : ∀ k, ¬ (1 ≤ k ∧ k ≤ 6) → ¬ (13 ≤ k ∧ k ≤ 18) → ¬ k = 27 → A2 k = A k := fun k k1 k2 k3 => (ho1 k (by omega)).trans (g5 k (by omega) k3)
    refine tX4_park (b := A 28) (t := t) (n := n) ht (by rw [up_n (by omega), f2 39 (by omega) (by omega) (by omega)]; exact t2) (fun j hj => by rw [up_n (by omega), f2 45 (by omega) (by omega) (by omega)]; exact (t3 j hj).1.symm) (by rw [up_n (by omega), f2 40 (by omega) (by omega) (by omega)]) e2 hn (fun A3 k1 k2 k3 => ⟨fun _ w2 => ?_, fun w1 => absurd (z1.symm.trans w1) (by decide)⟩)
    refine ⟨rfl, ⟨_, rfl⟩, Rel.up (Nat.le_succ c) (h.parked ⟨(p_all (A 28) t (t + 1) (A 40) n (sk (A 28) t 0) 1).1.2.2.1, ?_⟩ (fun k hk => ?_) ?_ ?_ k3)⟩
    · rw [w2, k1 1 (by omega) (by omega) (by omega), k1 2 (by omega) (by omega) (by omega), k1 3 (by omega) (by omega) (by omega), k1 4 (by omega) (by omega) (by omega), k1 5 (by omega) (by omega) (by omega), k1 6 (by omega) (by omega) (by omega), up_n (by omega), up_n (by omega), up_n (by omega), up_n (by omega), up_n (by omega), up_n (by omega)]
      exact hB1
    · rw [k1 k (by omega) (by omega) (by omega), up_n (by omega)]
      exact f2 k (by omega) (by omega) (by omega)
    · rw [k2 5 (by omega), up_n (by omega), f2 39 (by omega) (by omega) (by omega)]
    · rw [k1 27 (by omega) (by omega) (by omega), up_s, ud_s]
  · have nn := nf _ p2
    obtain ⟨g1, g2, g5⟩ := h1
    simp only [eX3_park_0, eX3_park_1, eX3_park_4, eX3_park_5, eX3_park_8, eX3_park_11, eX3_park_12, eX3_park_15, eX3_park_16, eX3_park_19, eX3_park_22, eX3_park_23, eX3_park_24, eX3_park_27, eX3_park_28, eX3_park_31, eX3_park_32, eX3_park_35, eX3_park_38, eX3_park_39, eX3_park_42, eX3_park_43, eX3_park_46, eX3_park_47, kd_0, fr_0_0, fr_0_1, fr_0_2, fr_0_3, fr_0_4, fr_0_5, fr_0_6, fr_0_7, fr_0_8, kd_1, fr_1_0, fr_1_1, fr_1_2, fr_1_3, fr_1_4, kd_2, an_2, rd_2, kd_3, an_3, rd_3, kd_4, an_4, rd_4, kd_5, an_5, rd_5, kd_6, an_6, rd_6, kd_7, kd_13, fr_13_0, fr_13_1, fr_13_2, fr_13_3, fr_13_4, kd_14, an_14, rd_14, kd_15, an_15, rd_15, kd_16, an_16, rd_16, kd_17, an_17, rd_17, kd_19, fr_19_3, kd_23, an_23, rd_23, kd_25, an_25, rd_25, kd_26, an_26, rd_26, kd_27, fr_27_0, kd_28, an_28, rd_28, kd_29, an_29, kd_38, an_38, rd_38, nn, Nat.reduceLeDiff, Nat.reduceEqDiff, Nat.reduceAdd, if_true, if_false, b2i_T, b2i_F, and_self, and_false, false_and, true_and, and_true, true_or, or_true, false_or, or_false, or_self, not_true_eq_false, not_false_eq_true, eq_self, List.cons_append, List.nil_append]
    have f2 : ∀ k, ¬ (13 ≤ k ∧ k ≤ 18) → ¬ k = 27 → A1 k = A k := fun k k2 k3 => g5 k (by omega) k3
    refine tX4_park (b := A 28) (t := t) (n := n) ht (by rw [up_n (by omega), f2 39 (by omega) (by omega)]; exact t2) (fun j hj => by rw [up_n (by omega), f2 45 (by omega) (by omega)]; exact (t3 j hj).1.symm) (by rw [up_n (by omega), f2 40 (by omega) (by omega)]) e2 hn (fun A3 k1 k2 k3 => ⟨fun w1 => absurd (w1.symm.trans z1) (by decide), fun _ w2 => ?_⟩)
    refine ⟨rfl, ⟨_, rfl⟩, Rel.up (Nat.le_succ c) (h.parked ⟨n, ?_⟩ (fun k hk => ?_) ?_ ?_ k3)⟩
    · rw [w2, k1 1 (by omega) (by omega) (by omega), k1 2 (by omega) (by omega) (by omega), k1 3 (by omega) (by omega) (by omega), k1 4 (by omega) (by omega) (by omega), k1 5 (by omega) (by omega) (by omega), k1 6 (by omega) (by omega) (by omega), up_n (by omega), up_n (by omega), up_n (by omega), up_n (by omega), up_n (by omega), up_n (by omega), f2 1 (by omega) (by omega), f2 2 (by omega) (by omega), f2 3 (by omega) (by omega), f2 4 (by omega) (by omega), f2 5 (by omega) (by omega), f2 6 (by omega) (by omega)]
      exact hB
    · rw [k1 k (by omega) (by omega) (by omega), up_n (by omega)]
      exact f2 k (by omega) (by omega)
    · rw [k2 5 (by omega), up_n (by omega), f2 39 (by omega) (by omega)]
    · rw [k1 27 (by omega) (by omega) (by omega), up_s, ud_s]

end OP
