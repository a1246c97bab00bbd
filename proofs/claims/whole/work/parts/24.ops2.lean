/-! THE CALLS, ONE BY ONE: people -/
section RBS
variable {c n p : Nat} {ob K Gl So Pl Hu s : Nat → Int32} {v : Int32}
theorem r_B.setK (h : r_B c n ob K Gl So Pl Hu s) (hp : p < n) (hv : ∃ i, i < 6 ∧ v = nI i) : r_B c n ob (upd K p v) Gl So Pl Hu (upd s (5 + 4 * p) v) := by
  obtain ⟨⟨h1, h2, h3⟩, ⟨h4, h5, h6⟩, ⟨h7, h8, h9⟩, h11⟩ := h
  refine ⟨⟨h1, h2, by rw [ud_n (by omega)]; exact h3⟩, ⟨by rw [ud_n (by omega)]; exact h4, by rw [ud_n (by omega)]; exact h5, h6⟩, ⟨by rw [ud_n (by omega)]; exact h7, by rw [ud_n (by omega)]; exact h8, h9⟩, fun q hq => ?_⟩
  obtain ⟨⟨a1, a2, a3, a4⟩, q0, q1, q2, q3⟩ := h11 q hq
  by_cases hqp : q = p
  · subst hqp
    rw [ud_s]
    refine ⟨⟨hv, a2, a3, a4⟩, by rw [ud_s], by rw [ud_n (by omega)]; exact q1, by rw [ud_n (by omega)]; exact q2, by rw [ud_n (by omega)]; exact q3⟩
  · rw [ud_n hqp, ud_n (by omega), ud_n (by omega), ud_n (by omega), ud_n (by omega)]
    exact ⟨⟨a1, a2, a3, a4⟩, q0, q1, q2, q3⟩
theorem r_B.setG (h : r_B c n ob K Gl So Pl Hu s) (hp : p < n) (hv : ∃ i, i < 100 ∧ v = nI i) : r_B c n ob K (upd Gl p v) So Pl Hu (upd s (5 + 4 * p + 1) v) := by
  obtain ⟨⟨h1, h2, h3⟩, ⟨h4, h5, h6⟩, ⟨h7, h8, h9⟩, h11⟩ := h
  refine ⟨⟨h1, h2, by rw [ud_n (by omega)]; exact h3⟩, ⟨by rw [ud_n (by omega)]; exact h4, by rw [ud_n (by omega)]; exact h5, h6⟩, ⟨by rw [ud_n (by omega)]; exact h7, by rw [ud_n (by omega)]; exact h8, h9⟩, fun q hq => ?_⟩
  obtain ⟨⟨a1, a2, a3, a4⟩, q0, q1, q2, q3⟩ := h11 q hq
  by_cases hqp : q = p
  · subst hqp
    rw [ud_s]
    refine ⟨⟨a1, hv, a3, a4⟩, by rw [ud_n (by omega)]; exact q0, by rw [ud_s], by rw [ud_n (by omega)]; exact q2, by rw [ud_n (by omega)]; exact q3⟩
  · rw [ud_n hqp, ud_n (by omega), ud_n (by omega), ud_n (by omega), ud_n (by omega)]
    exact ⟨⟨a1, a2, a3, a4⟩, q0, q1, q2, q3⟩
theorem r_B.setS (h : r_B c n ob K Gl So Pl Hu s) (hp : p < n) (hv : ∃ i, i < 100 ∧ v = nI i) : r_B c n ob K Gl (upd So p v) Pl Hu (upd s (5 + 4 * p + 2) v) := by
  obtain ⟨⟨h1, h2, h3⟩, ⟨h4, h5, h6⟩, ⟨h7, h8, h9⟩, h11⟩ := h
  refine ⟨⟨h1, h2, by rw [ud_n (by omega)]; exact h3⟩, ⟨by rw [ud_n (by omega)]; exact h4, by rw [ud_n (by omega)]; exact h5, h6⟩, ⟨by rw [ud_n (by omega)]; exact h7, by rw [ud_n (by omega)]; exact h8, h9⟩, fun q hq => ?_⟩
  obtain ⟨⟨a1, a2, a3, a4⟩, q0, q1, q2, q3⟩ := h11 q hq
  by_cases hqp : q = p
  · subst hqp
    rw [ud_s]
    refine ⟨⟨a1, a2, hv, a4⟩, by rw [ud_n (by omega)]; exact q0, by rw [ud_n (by omega)]; exact q1, by rw [ud_s], by rw [ud_n (by omega)]; exact q3⟩
  · rw [ud_n hqp, ud_n (by omega), ud_n (by omega), ud_n (by omega), ud_n (by omega)]
    exact ⟨⟨a1, a2, a3, a4⟩, q0, q1, q2, q3⟩
theorem r_B.setP (h : r_B c n ob K Gl So Pl Hu s) (hp : p < n) (hv : v = -1 ∨ v = 0 ∨ v = 1) : r_B c n ob K Gl So (upd Pl p v) Hu (upd s (5 + 4 * p + 3) v) := by
  obtain ⟨⟨h1, h2, h3⟩, ⟨h4, h5, h6⟩, ⟨h7, h8, h9⟩, h11⟩ := h
  refine ⟨⟨h1, h2, by rw [ud_n (by omega)]; exact h3⟩, ⟨by rw [ud_n (by omega)]; exact h4, by rw [ud_n (by omega)]; exact h5, h6⟩, ⟨by rw [ud_n (by omega)]; exact h7, by rw [ud_n (by omega)]; exact h8, h9⟩, fun q hq => ?_⟩
  obtain ⟨⟨a1, a2, a3, a4⟩, q0, q1, q2, q3⟩ := h11 q hq
  by_cases hqp : q = p
  · subst hqp
    rw [ud_s]
    refine ⟨⟨a1, a2, a3, hv⟩, by rw [ud_n (by omega)]; exact q0, by rw [ud_n (by omega)]; exact q1, by rw [ud_n (by omega)]; exact q2, by rw [ud_s]⟩
  · rw [ud_n hqp, ud_n (by omega), ud_n (by omega), ud_n (by omega), ud_n (by omega)]
    exact ⟨⟨a1, a2, a3, a4⟩, q0, q1, q2, q3⟩
theorem r_B.join (h : r_B c n ob K Gl So Pl Hu s) (hn : n < 8) (hv : ∃ i, i < 6 ∧ v = nI i) : r_B c (n + 1) (upd ob 5 (nI (n + 1))) (upd K n v) (upd Gl n 0) (upd So n 0) (upd Pl n (-1)) Hu (upd (upd (upd (upd (upd s (5 + 4 * n) v) (5 + 4 * n + 1) 0) (5 + 4 * n + 2) 0) (5 + 4 * n + 3) (-1)) 0 (nI n + 1)) := by
  obtain ⟨⟨h1, h2, h3⟩, ⟨h4, h5, h6⟩, ⟨h7, h8, h9⟩, h11⟩ := h
  refine ⟨⟨by omega, by rw [ud_s], by rw [ud_s, nI_succ]⟩, ⟨?_, ?_, ?_⟩, ⟨?_, ?_, h9⟩, fun q hq => ?_⟩
  · rw [ud_n (by omega), ud_n (by omega), ud_n (by omega), ud_n (by omega), ud_n (by omega), ud_n (by omega)]; exact h4
  · rw [ud_n (by omega), ud_n (by omega), ud_n (by omega), ud_n (by omega), ud_n (by omega), ud_n (by omega)]; exact h5
  · rw [ud_n (by omega)]; exact h6
  · rw [ud_n (by omega), ud_n (by omega), ud_n (by omega), ud_n (by omega), ud_n (by omega)]; exact h7
  · rw [ud_n (by omega), ud_n (by omega), ud_n (by omega), ud_n (by omega), ud_n (by omega)]; exact h8
  · by_cases hqn : q = n
    · subst hqn
      rw [ud_s, ud_s, ud_s, ud_s]
      refine ⟨⟨hv, ⟨0, by omega, rfl⟩, ⟨0, by omega, rfl⟩, Or.inl rfl⟩, ?_, ?_, ?_, ?_⟩
      · rw [ud_n (by omega), ud_n (by omega), ud_n (by omega), ud_n (by omega), ud_s]
      · rw [ud_n (by omega), ud_n (by omega), ud_n (by omega), ud_s]
      · rw [ud_n (by omega), ud_n (by omega), ud_s]
      · rw [ud_n (by omega), ud_s]
    · obtain ⟨a, q0, q1, q2, q3⟩ := h11 q (by omega)
      rw [ud_n hqn, ud_n hqn, ud_n hqn, ud_n hqn]
      refine ⟨a, ?_, ?_, ?_, ?_⟩
      · rw [ud_n (by omega), ud_n (by omega), ud_n (by omega), ud_n (by omega), ud_n (by omega)]; exact q0
      · rw [ud_n (by omega), ud_n (by omega), ud_n (by omega), ud_n (by omega), ud_n (by omega)]; exact q1
      · rw [ud_n (by omega), ud_n (by omega), ud_n (by omega), ud_n (by omega), ud_n (by omega)]; exact q2
      · rw [ud_n (by omega), ud_n (by omega), ud_n (by omega), ud_n (by omega), ud_n (by omega)]; exact q3
end RBS
/-- the beam has changed on both sides -/
theorem Rel.beam {c : Nat} {A A' : sx_A} {Z : sx_Z} (h : Rel c A Z) (hB : ∃ n, r_B (c + 1) n (A' 1) (A' 2) (A' 3) (A' 4) (A' 5) (A' 6) (A' 40)) (hA : ∀ k, (k = 0 ∨ (7 ≤ k ∧ k ≤ 12) ∨ (28 ≤ k ∧ k ≤ 38) ∨ k = 41 ∨ (44 ≤ k ∧ k ≤ 47)) → A' k = A k) (h27 : A' 27 1 = A 27 1) (h5 : A' 39 5 = A 39 5) (h7 : A' 39 7 = A 39 7) : Rel (c + 1) A' Z := by
  obtain ⟨-, g2, g3, g4, g5⟩ := h.up (Nat.le_succ c)
  unfold Rel
  rw [hA 0 (by omega), hA 7 (by omega), hA 8 (by omega), hA 9 (by omega), hA 10 (by omega), hA 11 (by omega), hA 12 (by omega), hA 28 (by omega), hA 30 (by omega), hA 32 (by omega), hA 34 (by omega), hA 36 (by omega), hA 38 (by omega), hA 41 (by omega), hA 44 (by omega), hA 45 (by omega), hA 46 (by omega), hA 47 (by omega), h27, h5, h7]
  exact ⟨hB, g2, g3, g4, g5⟩
section OP
variable {G : sx_G} {c n : Nat} {A : sx_A} {Z : sx_Z} {Q : List Value → sx_A → sx_Z → Prop}
theorem okQ.beam {A' : sx_A} {v : Int32} (h : Rel c A Z) (hB : ∃ n, r_B (c + 1) n (A' 1) (A' 2) (A' 3) (A' 4) (A' 5) (A' 6) (A' 40)) (hA : ∀ k, (k = 0 ∨ (7 ≤ k ∧ k ≤ 12) ∨ (28 ≤ k ∧ k ≤ 38) ∨ k = 41 ∨ (44 ≤ k ∧ k ≤ 47)) → A' k = A k) (h27 : A' 27 1 = A 27 1) (h5 : A' 39 5 = A 39 5) (h7 : A' 39 7 = A 39 7) : okQ c [.int v] [.int v] A' Z := ⟨rfl, ⟨_, rfl⟩, h.beam hB hA h27 h5 h7⟩
theorem tX3_put {k : Nat} {i N : Nat} {v : Int32} (hk : sx_kd k = 5) (hN : sx_an G k = N) (hl : k < 50) (hi : i < N) (hN2 : N < 2 ^ 31) : sx_call G mX3_put [.ref k, .int (nI i), .int v] A Z Q ↔ Q [.int (A k i)] (va_up A k (upd (A k) i v)) Z := by
  rw [sx_call_in (L := [some (.ref k), some (.int (nI i)), some (.int v), none]) rfl rfl]
  have h2 : ¬ nI i < 0 := nI_pos (by omega)
  have h5 : ¬ N ≤ i := by omega
  have h3 : (nI i).toNatClampNeg = i := nI_clamp (by omega)
  have h6 : ∀ j, sx_rd G A k j = A k j := fun j => if_pos hl
  simp only [eX3_put_0, eX3_put_1, eX3_put_2, eX3_put_3, eX3_put_4, eX3_put_5, eX3_put_6, eX3_put_7, eX3_put_8, eX3_put_9, hk, hN, h2, h3, h5, h6, Nat.reduceLeDiff, Nat.reduceEqDiff, Nat.reduceAdd, if_true, if_false, b2i_T, b2i_F, and_self, and_false, false_and, true_and, and_true, true_or, or_true, false_or, or_false, or_self, not_true_eq_false, not_false_eq_true, eq_self, List.cons_append, List.nil_append]

theorem op_person {v : Int32} (h : Rel c A Z) : okOp G c A Z mX3_person mX4_person [.int v] := by
  obtain ⟨n, hB⟩ := h.1
  obtain ⟨hn, e1, e2⟩ := hB.1
  unfold okOp
  rw [sx_call_in (L := [some (.ref 0), some (.int v)]) rfl rfl]
  have hm : ∀ (A : sx_A) (Q : List Value → sx_A → sx_Z → Prop), sx_call G mX4_person [.ref 39, .int v] A Z Q ↔ sx_ev G mX4_person 0 [some (.ref 39), some (.int v)] [] A Z Q := fun A Q => sx_call_in rfl rfl
  by_cases h1 : 0 ≤ v ∧ v ≤ 5
  · by_cases h8 : n = 8
    · subst h8
      have k1 : (8 : Int32) ≤ nI 8 := by decide
      have k2 : (nI 8 = 8) = True := eq_true rfl
      simp only [eX3_person_0, eX3_person_1, eX3_person_4, eX3_person_7, eX3_person_8, eX3_person_10, eX3_person_13, eX3_person_14, eX3_person_15, eX3_person_18, eX3_person_21, eX3_person_23, eX3_person_26, eX3_person_27, eX3_person_29, eX3_person_32, eX3_person_33, eX3_person_34, eX3_person_37, eX3_person_38, eX3_person_41, eX4_person_0, eX4_person_1, eX4_person_4, eX4_person_7, eX4_person_8, eX4_person_10, eX4_person_13, eX4_person_14, eX4_person_15, eX4_person_18, eX4_person_19, eX4_person_20, eX4_person_22, eX4_person_25, eX4_person_26, eX4_person_28, eX4_person_31, eX4_person_34, eX4_person_35, eX4_person_36, eX4_person_39, hm, kd_0, fr_0_0, fr_0_1, fr_0_2, fr_0_3, fr_0_4, fr_0_5, fr_0_6, fr_0_7, fr_0_8, kd_1, fr_1_0, fr_1_1, fr_1_2, fr_1_3, fr_1_4, kd_2, an_2, rd_2, kd_3, an_3, rd_3, kd_4, an_4, rd_4, kd_5, an_5, rd_5, kd_6, an_6, rd_6, kd_7, kd_13, fr_13_0, fr_13_1, fr_13_2, fr_13_3, fr_13_4, kd_14, an_14, rd_14, kd_15, an_15, rd_15, kd_16, an_16, rd_16, kd_17, an_17, rd_17, kd_19, fr_19_3, kd_23, an_23, rd_23, kd_25, an_25, rd_25, kd_26, an_26, rd_26, kd_27, fr_27_0, kd_28, an_28, rd_28, kd_29, an_29, kd_38, an_38, rd_38, kd_39, fr_39_0, fr_39_1, fr_39_2, fr_39_3, fr_39_4, fr_39_6, fr_39_12, fr_39_13, fr_39_14, fr_39_15, kd_40, an_40, rd_40, kd_41, an_41, rd_41, kd_42, an_42, rd_42, kd_43, an_43, rd_43, kd_44, an_44, rd_44, kd_45, an_45, rd_45, kd_46, an_46, rd_46, kd_47, an_47, rd_47, kd_48, an_48, kd_49, an_49, z_0, z_1, z_2, z_3, z_4, zc_0, zc_1, zc_2, zc_3, zc_4, tX3_isKind, tX4_isKind, tX3_finding0, tX3_finding1, tX3_finding2, tX3_finding3, tX3_finding4, tX3_finding5, tX3_finding6, tX4_finds0, tX4_finds1, tX4_finds2, tX4_finds3, tX4_finds4, tX4_finds5, tX4_finds6, e1, e2, b2i_t h1, one_ne0, k1, k2, up_n, Nat.reduceLeDiff, Nat.reduceEqDiff, Nat.reduceAdd, if_true, if_false, b2i_T, b2i_F, and_self, and_false, false_and, true_and, and_true, true_or, or_true, false_or, or_false, or_self, not_true_eq_false, not_false_eq_true, eq_self, List.cons_append, List.nil_append]
      exact okQ.find h 1
    · have hn8 : n < 8 := by omega
      have k1 : nI n < 8 := nI_lt (a := n) (b := 8) (by omega) (by omega)
      have k2 : (nI n = 8) = False := eq_false (fun z => h8 ((nI_eq (a := n) (b := 8) (by omega) (by omega)).mp z))
      have hx := fun (Q : List Value → sx_A → sx_Z → Prop) => tX0_join (G := G) (A := A) (Z := Z) (Q := Q) (b := 1) (k := v) isB1 hn8 e1
      have hy := fun (A' : sx_A) (hA' : A' 40 0 = nI n) (Q : List Value → sx_A → sx_Z → Prop) => tX4_adds (G := G) (A := A') (Z := Z) (Q := Q) (n := n) (k := v) hn8 hA'
      simp only [eX3_person_0, eX3_person_1, eX3_person_4, eX3_person_7, eX3_person_8, eX3_person_10, eX3_person_13, eX3_person_14, eX3_person_15, eX3_person_18, eX3_person_21, eX3_person_23, eX3_person_26, eX3_person_27, eX3_person_29, eX3_person_32, eX3_person_33, eX3_person_34, eX3_person_37, eX3_person_38, eX3_person_41, eX4_person_0, eX4_person_1, eX4_person_4, eX4_person_7, eX4_person_8, eX4_person_10, eX4_person_13, eX4_person_14, eX4_person_15, eX4_person_18, eX4_person_19, eX4_person_20, eX4_person_22, eX4_person_25, eX4_person_26, eX4_person_28, eX4_person_31, eX4_person_34, eX4_person_35, eX4_person_36, eX4_person_39, hm, kd_0, fr_0_0, fr_0_1, fr_0_2, fr_0_3, fr_0_4, fr_0_5, fr_0_6, fr_0_7, fr_0_8, kd_1, fr_1_0, fr_1_1, fr_1_2, fr_1_3, fr_1_4, kd_2, an_2, rd_2, kd_3, an_3, rd_3, kd_4, an_4, rd_4, kd_5, an_5, rd_5, kd_6, an_6, rd_6, kd_7, kd_13, fr_13_0, fr_13_1, fr_13_2, fr_13_3, fr_13_4, kd_14, an_14, rd_14, kd_15, an_15, rd_15, kd_16, an_16, rd_16, kd_17, an_17, rd_17, kd_19, fr_19_3, kd_23, an_23, rd_23, kd_25, an_25, rd_25, kd_26, an_26, rd_26, kd_27, fr_27_0, kd_28, an_28, rd_28, kd_29, an_29, kd_38, an_38, rd_38, kd_39, fr_39_0, fr_39_1, fr_39_2, fr_39_3, fr_39_4, fr_39_6, fr_39_12, fr_39_13, fr_39_14, fr_39_15, kd_40, an_40, rd_40, kd_41, an_41, rd_41, kd_42, an_42, rd_42, kd_43, an_43, rd_43, kd_44, an_44, rd_44, kd_45, an_45, rd_45, kd_46, an_46, rd_46, kd_47, an_47, rd_47, kd_48, an_48, kd_49, an_49, z_0, z_1, z_2, z_3, z_4, zc_0, zc_1, zc_2, zc_3, zc_4, tX3_isKind, tX4_isKind, hx, e1, e2, b2i_t h1, one_ne0, k1, k2, up_n, Nat.reduceLeDiff, Nat.reduceEqDiff, Nat.reduceAdd, if_true, if_false, b2i_T, b2i_F, and_self, and_false, false_and, true_and, and_true, true_or, or_true, false_or, or_false, or_self, not_true_eq_false, not_false_eq_true, eq_self, List.cons_append, List.nil_append]
      rw [hy _ (by simp only [up_n, e2, Nat.reduceLeDiff, Nat.reduceEqDiff, Nat.reduceAdd, if_true, if_false, b2i_T, b2i_F, and_self, and_false, false_and, true_and, and_true, true_or, or_true, false_or, or_false, or_self, not_true_eq_false, not_false_eq_true, eq_self, List.cons_append, List.nil_append])]
      simp only [eX4_person_0, eX4_person_1, eX4_person_4, eX4_person_7, eX4_person_8, eX4_person_10, eX4_person_13, eX4_person_14, eX4_person_15, eX4_person_18, eX4_person_19, eX4_person_20, eX4_person_22, eX4_person_25, eX4_person_26, eX4_person_28, eX4_person_31, eX4_person_34, eX4_person_35, eX4_person_36, eX4_person_39, up_n, Nat.reduceLeDiff, Nat.reduceEqDiff, Nat.reduceAdd, if_true, if_false, b2i_T, b2i_F, and_self, and_false, false_and, true_and, and_true, true_or, or_true, false_or, or_false, or_self, not_true_eq_false, not_false_eq_true, eq_self, List.cons_append, List.nil_append]
      refine okQ.beam h ⟨n + 1, ?_⟩ (fun k hk => ?_) ?_ ?_ ?_
      · simp only [up_n, up_s, Nat.reduceLeDiff, Nat.reduceEqDiff, Nat.reduceAdd, if_true, if_false, b2i_T, b2i_F, and_self, and_false, false_and, true_and, and_true, true_or, or_true, false_or, or_false, or_self, not_true_eq_false, not_false_eq_true, eq_self, List.cons_append, List.nil_append]
        exact (hB.up (Nat.le_succ c)).join hn8 (by obtain ⟨q, hq, e⟩ := i_rng (M := 5) (n := 5) (by decide) h1; exact ⟨q, by omega, e⟩)
      · rw [up_n (by omega), up_n (by omega), up_n (by omega), up_n (by omega), up_n (by omega), up_n (by omega)]
      · simp only [up_n, Nat.reduceLeDiff, Nat.reduceEqDiff, Nat.reduceAdd, if_true, if_false, b2i_T, b2i_F, and_self, and_false, false_and, true_and, and_true, true_or, or_true, false_or, or_false, or_self, not_true_eq_false, not_false_eq_true, eq_self, List.cons_append, List.nil_append]
      · simp only [up_n, Nat.reduceLeDiff, Nat.reduceEqDiff, Nat.reduceAdd, if_true, if_false, b2i_T, b2i_F, and_self, and_false, false_and, true_and, and_true, true_or, or_true, false_or, or_false, or_self, not_true_eq_false, not_false_eq_true, eq_self, List.cons_append, List.nil_append]
      · simp only [up_n, Nat.reduceLeDiff, Nat.reduceEqDiff, Nat.reduceAdd, if_true, if_false, b2i_T, b2i_F, and_self, and_false, false_and, true_and, and_true, true_or, or_true, false_or, or_false, or_self, not_true_eq_false, not_false_eq_true, eq_self, List.cons_append, List.nil_append]
  · simp only [eX3_person_0, eX3_person_1, eX3_person_4, eX3_person_7, eX3_person_8, eX3_person_10, eX3_person_13, eX3_person_14, eX3_person_15, eX3_person_18, eX3_person_21, eX3_person_23, eX3_person_26, eX3_person_27, eX3_person_29, eX3_person_32, eX3_person_33, eX3_person_34, eX3_person_37, eX3_person_38, eX3_person_41, eX4_person_0, eX4_person_1, eX4_person_4, eX4_person_7, eX4_person_8, eX4_person_10, eX4_person_13, eX4_person_14, eX4_person_15, eX4_person_18, eX4_person_19, eX4_person_20, eX4_person_22, eX4_person_25, eX4_person_26, eX4_person_28, eX4_person_31, eX4_person_34, eX4_person_35, eX4_person_36, eX4_person_39, hm, kd_0, fr_0_0, fr_0_1, fr_0_2, fr_0_3, fr_0_4, fr_0_5, fr_0_6, fr_0_7, fr_0_8, kd_1, fr_1_0, fr_1_1, fr_1_2, fr_1_3, fr_1_4, kd_2, an_2, rd_2, kd_3, an_3, rd_3, kd_4, an_4, rd_4, kd_5, an_5, rd_5, kd_6, an_6, rd_6, kd_7, kd_13, fr_13_0, fr_13_1, fr_13_2, fr_13_3, fr_13_4, kd_14, an_14, rd_14, kd_15, an_15, rd_15, kd_16, an_16, rd_16, kd_17, an_17, rd_17, kd_19, fr_19_3, kd_23, an_23, rd_23, kd_25, an_25, rd_25, kd_26, an_26, rd_26, kd_27, fr_27_0, kd_28, an_28, rd_28, kd_29, an_29, kd_38, an_38, rd_38, kd_39, fr_39_0, fr_39_1, fr_39_2, fr_39_3, fr_39_4, fr_39_6, fr_39_12, fr_39_13, fr_39_14, fr_39_15, kd_40, an_40, rd_40, kd_41, an_41, rd_41, kd_42, an_42, rd_42, kd_43, an_43, rd_43, kd_44, an_44, rd_44, kd_45, an_45, rd_45, kd_46, an_46, rd_46, kd_47, an_47, rd_47, kd_48, an_48, kd_49, an_49, tX3_isKind, tX4_isKind, tX3_finding0, tX3_finding1, tX3_finding2, tX3_finding3, tX3_finding4, tX3_finding5, tX3_finding6, tX4_finds0, tX4_finds1, tX4_finds2, tX4_finds3, tX4_finds4, tX4_finds5, tX4_finds6, b2i_f h1, up_n, Nat.reduceLeDiff, Nat.reduceEqDiff, Nat.reduceAdd, if_true, if_false, b2i_T, b2i_F, and_self, and_false, false_and, true_and, and_true, true_or, or_true, false_or, or_false, or_self, not_true_eq_false, not_false_eq_true, eq_self, List.cons_append, List.nil_append]
    exact okQ.find h 0
theorem op_turn {v k : Int32} (h : Rel c A Z) : okOp G c A Z mX3_turn mX4_turn [.int v, .int k] := by
  obtain ⟨n, hB⟩ := h.1
  obtain ⟨hn, e1, e2⟩ := hB.1
  unfold okOp
  rw [sx_call_in (L := [some (.ref 0), some (.int v), some (.int k)]) rfl rfl]
  have hm : ∀ (A : sx_A) (Q : List Value → sx_A → sx_Z → Prop), sx_call G mX4_turn [.ref 39, .int v, .int k] A Z Q ↔ sx_ev G mX4_turn 0 [some (.ref 39), some (.int v), some (.int k)] [] A Z Q := fun A Q => sx_call_in rfl rfl
  by_cases h1 : 0 ≤ v ∧ v ≤ nI n - 1
  · by_cases h2 : 0 ≤ k ∧ k ≤ 5
    · obtain ⟨p, hp, rfl⟩ := i_pers hn h1
      have hx := fun (Q : List Value → sx_A → sx_Z → Prop) => tX3_put (G := G) (A := A) (Z := Z) (Q := Q) (k := 2) (i := p) (N := 8) (v := k) kd_2 an_2 (by omega) (by omega) (by omega)
      have i0 : (5 : Int32) + 4 * nI p + 0 = nI (5 + 4 * p) := ix_4 (w := 0)
      have hy := fun (A' : sx_A) (Q : List Value → sx_A → sx_Z → Prop) => tX4_becomes (G := G) (A := A') (Z := Z) (Q := Q) (w := 5 + 4 * p) (v := k) (by omega)
      simp only [eX3_turn_0, eX3_turn_1, eX3_turn_2, eX3_turn_5, eX3_turn_8, eX3_turn_9, eX3_turn_12, eX3_turn_15, eX3_turn_16, eX3_turn_18, eX3_turn_21, eX3_turn_22, eX3_turn_23, eX3_turn_26, eX3_turn_29, eX3_turn_30, eX3_turn_31, eX3_turn_34, eX4_turn_0, eX4_turn_1, eX4_turn_2, eX4_turn_5, eX4_turn_8, eX4_turn_9, eX4_turn_12, eX4_turn_15, eX4_turn_16, eX4_turn_17, eX4_turn_18, eX4_turn_21, eX4_turn_22, eX4_turn_25, eX4_turn_28, eX4_turn_29, eX4_turn_31, eX4_turn_34, hm, kd_0, fr_0_0, fr_0_1, fr_0_2, fr_0_3, fr_0_4, fr_0_5, fr_0_6, fr_0_7, fr_0_8, kd_1, fr_1_0, fr_1_1, fr_1_2, fr_1_3, fr_1_4, kd_2, an_2, rd_2, kd_3, an_3, rd_3, kd_4, an_4, rd_4, kd_5, an_5, rd_5, kd_6, an_6, rd_6, kd_7, kd_13, fr_13_0, fr_13_1, fr_13_2, fr_13_3, fr_13_4, kd_14, an_14, rd_14, kd_15, an_15, rd_15, kd_16, an_16, rd_16, kd_17, an_17, rd_17, kd_19, fr_19_3, kd_23, an_23, rd_23, kd_25, an_25, rd_25, kd_26, an_26, rd_26, kd_27, fr_27_0, kd_28, an_28, rd_28, kd_29, an_29, kd_38, an_38, rd_38, kd_39, fr_39_0, fr_39_1, fr_39_2, fr_39_3, fr_39_4, fr_39_6, fr_39_12, fr_39_13, fr_39_14, fr_39_15, kd_40, an_40, rd_40, kd_41, an_41, rd_41, kd_42, an_42, rd_42, kd_43, an_43, rd_43, kd_44, an_44, rd_44, kd_45, an_45, rd_45, kd_46, an_46, rd_46, kd_47, an_47, rd_47, kd_48, an_48, kd_49, an_49, tX3_isPerson, tX4_isPerson, tX3_isKind, tX4_isKind, tX4_spotOf, i0, hx, hy, e1, e2, b2i_t h1, b2i_t h2, one_ne0, up_n, up_s, (hB.2.2.2 p hp).2.1, Nat.reduceLeDiff, Nat.reduceEqDiff, Nat.reduceAdd, if_true, if_false, b2i_T, b2i_F, and_self, and_false, false_and, true_and, and_true, true_or, or_true, false_or, or_false, or_self, not_true_eq_false, not_false_eq_true, eq_self, List.cons_append, List.nil_append]
      refine okQ.beam h ⟨n, ?_⟩ (fun k hk => ?_) ?_ ?_ ?_
      · simp only [up_n, up_s, Nat.reduceLeDiff, Nat.reduceEqDiff, Nat.reduceAdd, if_true, if_false, b2i_T, b2i_F, and_self, and_false, false_and, true_and, and_true, true_or, or_true, false_or, or_false, or_self, not_true_eq_false, not_false_eq_true, eq_self, List.cons_append, List.nil_append]
        exact (hB.up (Nat.le_succ c)).setK hp (by obtain ⟨q, hq, e⟩ := i_rng (M := 5) (n := 5) (by decide) h2; exact ⟨q, by omega, e⟩)
      · rw [up_n (by omega), up_n (by omega)]
      · simp only [up_n, Nat.reduceLeDiff, Nat.reduceEqDiff, Nat.reduceAdd, if_true, if_false, b2i_T, b2i_F, and_self, and_false, false_and, true_and, and_true, true_or, or_true, false_or, or_false, or_self, not_true_eq_false, not_false_eq_true, eq_self, List.cons_append, List.nil_append]
      · simp only [up_n, Nat.reduceLeDiff, Nat.reduceEqDiff, Nat.reduceAdd, if_true, if_false, b2i_T, b2i_F, and_self, and_false, false_and, true_and, and_true, true_or, or_true, false_or, or_false, or_self, not_true_eq_false, not_false_eq_true, eq_self, List.cons_append, List.nil_append]
      · simp only [up_n, Nat.reduceLeDiff, Nat.reduceEqDiff, Nat.reduceAdd, if_true, if_false, b2i_T, b2i_F, and_self, and_false, false_and, true_and, and_true, true_or, or_true, false_or, or_false, or_self, not_true_eq_false, not_false_eq_true, eq_self, List.cons_append, List.nil_append]
    · simp only [eX3_turn_0, eX3_turn_1, eX3_turn_2, eX3_turn_5, eX3_turn_8, eX3_turn_9, eX3_turn_12, eX3_turn_15, eX3_turn_16, eX3_turn_18, eX3_turn_21, eX3_turn_22, eX3_turn_23, eX3_turn_26, eX3_turn_29, eX3_turn_30, eX3_turn_31, eX3_turn_34, eX4_turn_0, eX4_turn_1, eX4_turn_2, eX4_turn_5, eX4_turn_8, eX4_turn_9, eX4_turn_12, eX4_turn_15, eX4_turn_16, eX4_turn_17, eX4_turn_18, eX4_turn_21, eX4_turn_22, eX4_turn_25, eX4_turn_28, eX4_turn_29, eX4_turn_31, eX4_turn_34, hm, kd_0, fr_0_0, fr_0_1, fr_0_2, fr_0_3, fr_0_4, fr_0_5, fr_0_6, fr_0_7, fr_0_8, kd_1, fr_1_0, fr_1_1, fr_1_2, fr_1_3, fr_1_4, kd_2, an_2, rd_2, kd_3, an_3, rd_3, kd_4, an_4, rd_4, kd_5, an_5, rd_5, kd_6, an_6, rd_6, kd_7, kd_13, fr_13_0, fr_13_1, fr_13_2, fr_13_3, fr_13_4, kd_14, an_14, rd_14, kd_15, an_15, rd_15, kd_16, an_16, rd_16, kd_17, an_17, rd_17, kd_19, fr_19_3, kd_23, an_23, rd_23, kd_25, an_25, rd_25, kd_26, an_26, rd_26, kd_27, fr_27_0, kd_28, an_28, rd_28, kd_29, an_29, kd_38, an_38, rd_38, kd_39, fr_39_0, fr_39_1, fr_39_2, fr_39_3, fr_39_4, fr_39_6, fr_39_12, fr_39_13, fr_39_14, fr_39_15, kd_40, an_40, rd_40, kd_41, an_41, rd_41, kd_42, an_42, rd_42, kd_43, an_43, rd_43, kd_44, an_44, rd_44, kd_45, an_45, rd_45, kd_46, an_46, rd_46, kd_47, an_47, rd_47, kd_48, an_48, kd_49, an_49, tX3_isPerson, tX4_isPerson, tX3_isKind, tX4_isKind, tX3_finding0, tX3_finding1, tX3_finding2, tX3_finding3, tX3_finding4, tX3_finding5, tX3_finding6, tX4_finds0, tX4_finds1, tX4_finds2, tX4_finds3, tX4_finds4, tX4_finds5, tX4_finds6, e1, e2, b2i_t h1, b2i_f h2, one_ne0, up_n, Nat.reduceLeDiff, Nat.reduceEqDiff, Nat.reduceAdd, if_true, if_false, b2i_T, b2i_F, and_self, and_false, false_and, true_and, and_true, true_or, or_true, false_or, or_false, or_self, not_true_eq_false, not_false_eq_true, eq_self, List.cons_append, List.nil_append]
      exact okQ.find h 0
  · simp only [eX3_turn_0, eX3_turn_1, eX3_turn_2, eX3_turn_5, eX3_turn_8, eX3_turn_9, eX3_turn_12, eX3_turn_15, eX3_turn_16, eX3_turn_18, eX3_turn_21, eX3_turn_22, eX3_turn_23, eX3_turn_26, eX3_turn_29, eX3_turn_30, eX3_turn_31, eX3_turn_34, eX4_turn_0, eX4_turn_1, eX4_turn_2, eX4_turn_5, eX4_turn_8, eX4_turn_9, eX4_turn_12, eX4_turn_15, eX4_turn_16, eX4_turn_17, eX4_turn_18, eX4_turn_21, eX4_turn_22, eX4_turn_25, eX4_turn_28, eX4_turn_29, eX4_turn_31, eX4_turn_34, hm, kd_0, fr_0_0, fr_0_1, fr_0_2, fr_0_3, fr_0_4, fr_0_5, fr_0_6, fr_0_7, fr_0_8, kd_1, fr_1_0, fr_1_1, fr_1_2, fr_1_3, fr_1_4, kd_2, an_2, rd_2, kd_3, an_3, rd_3, kd_4, an_4, rd_4, kd_5, an_5, rd_5, kd_6, an_6, rd_6, kd_7, kd_13, fr_13_0, fr_13_1, fr_13_2, fr_13_3, fr_13_4, kd_14, an_14, rd_14, kd_15, an_15, rd_15, kd_16, an_16, rd_16, kd_17, an_17, rd_17, kd_19, fr_19_3, kd_23, an_23, rd_23, kd_25, an_25, rd_25, kd_26, an_26, rd_26, kd_27, fr_27_0, kd_28, an_28, rd_28, kd_29, an_29, kd_38, an_38, rd_38, kd_39, fr_39_0, fr_39_1, fr_39_2, fr_39_3, fr_39_4, fr_39_6, fr_39_12, fr_39_13, fr_39_14, fr_39_15, kd_40, an_40, rd_40, kd_41, an_41, rd_41, kd_42, an_42, rd_42, kd_43, an_43, rd_43, kd_44, an_44, rd_44, kd_45, an_45, rd_45, kd_46, an_46, rd_46, kd_47, an_47, rd_47, kd_48, an_48, kd_49, an_49, tX3_isPerson, tX4_isPerson, tX3_finding0, tX3_finding1, tX3_finding2, tX3_finding3, tX3_finding4, tX3_finding5, tX3_finding6, tX4_finds0, tX4_finds1, tX4_finds2, tX4_finds3, tX4_finds4, tX4_finds5, tX4_finds6, e1, e2, b2i_f h1, up_n, Nat.reduceLeDiff, Nat.reduceEqDiff, Nat.reduceAdd, if_true, if_false, b2i_T, b2i_F, and_self, and_false, false_and, true_and, and_true, true_or, or_true, false_or, or_false, or_self, not_true_eq_false, not_false_eq_true, eq_self, List.cons_append, List.nil_append]
    exact okQ.find h 0
end OP
