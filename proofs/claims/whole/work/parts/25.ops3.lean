/-! THE CALLS, ONE BY ONE: people, the beam -/
section OP
variable {G : sx_G} {c n : Nat} {A : sx_A} {Z : sx_Z} {Q : List Value → sx_A → sx_Z → Prop}
theorem nl_0 : nI 0 = 0 := rfl
theorem nl_1 : nI 1 = 1 := rfl
theorem nl_2 : nI 2 = 2 := rfl
theorem nl_3 : nI 3 = 3 := rfl
theorem nl_4 : nI 4 = 4 := rfl
theorem nl_5 : nI 5 = 5 := rfl
theorem un_l {k o : Int32} (hk : ∃ i, i < 6 ∧ k = nI i) (ho : ∃ i, i ≤ 5 ∧ o = nI i) : sx_call G mX3_isUnder [.int k, .int o] A Z Q ↔ Q [.int (b2i (o = 0 ∨ k = o ∨ (k = 4 ∧ o = 2) ∨ (k = 5 ∧ o = 1)))] A Z := by
  obtain ⟨i, hi, rfl⟩ := hk
  obtain ⟨j, hj, rfl⟩ := ho
  rw [sx_call_in (L := [some (.int (nI i)), some (.int (nI j)), none, none]) rfl rfl]
  have a1 : (-1 : Int32).toNatClampNeg = 0 := by decide
  have a5 : (5 : Int32).toNatClampNeg = 5 := by decide
  rcases (show i = 0 ∨ i = 1 ∨ i = 2 ∨ i = 3 ∨ i = 4 ∨ i = 5 by omega) with rfl | rfl | rfl | rfl | rfl | rfl <;> rcases (show j = 0 ∨ j = 1 ∨ j = 2 ∨ j = 3 ∨ j = 4 ∨ j = 5 by omega) with rfl | rfl | rfl | rfl | rfl | rfl <;> simp [eX3_isUnder_0, eX3_isUnder_1, eX3_isUnder_2, eX3_isUnder_3, eX3_isUnder_4, eX3_isUnder_5, eX3_isUnder_7, eX3_isUnder_10, eX3_isUnder_11, eX3_isUnder_14, eX3_isUnder_17, eX3_isUnder_18, eX3_isUnder_19, eX3_isUnder_22, eX3_isUnder_23, eX3_isUnder_24, eX3_isUnder_27, eX3_isUnder_28, eX3_isUnder_29, eX3_isUnder_30, eX3_isUnder_33, eX3_isUnder_36, eX3_isUnder_37, kd_62, an_62, rd_62, tX3_isKind, nl_0, nl_1, nl_2, nl_3, nl_4, nl_5, sx_kab, b2i, zc_0, zc_1, zc_2, zc_3, zc_4, a1, a5]

theorem i_end {v : Int32} (h : 0 ≤ v ∧ v ≤ 1) : ∃ i, i < 2 ∧ v = nI i := by
  obtain ⟨q, hq, e⟩ := i_rng (M := 1) (n := 1) (by decide) h
  exact ⟨q, by omega, e⟩
theorem op_load {v : Int32} (h : Rel c A Z) : okOp G c A Z mX3_load mX4_load [.int v] := by
  obtain ⟨n, hB⟩ := h.1
  obtain ⟨hn, e1, e2⟩ := hB.1
  unfold okOp
  rw [sx_call_in (L := [some (.ref 0), some (.int v)]) rfl rfl]
  have hm : ∀ (A : sx_A) (Q : List Value → sx_A → sx_Z → Prop), sx_call G mX4_load [.ref 39, .int v] A Z Q ↔ sx_ev G mX4_load 0 [some (.ref 39), some (.int v)] [] A Z Q := fun A Q => sx_call_in rfl rfl
  by_cases h1 : 0 ≤ v ∧ v ≤ 1
  · obtain ⟨i, hi, rfl⟩ := i_end h1
    have hx := fun (Q : List Value → sx_A → sx_Z → Prop) => tX0_loadOf (G := G) (A := A) (Z := Z) (Q := Q) (b := 1) (i := i) isB1 hn e1 hi
    have hy := fun (Q : List Value → sx_A → sx_Z → Prop) => tX4_loadOf (G := G) (A := A) (Z := Z) (Q := Q) (i := i) hn e2 hi
    have e3 : sp_load (A 2) (A 3) (A 4) (A 5) (A 1 6) (nI i) (A 6 i) n = sp_load (mK (A 40)) (mG (A 40)) (mS (A 40)) (mP (A 40)) (A 40 1) (nI i) (A 40 (3 + i)) n := by
      rw [hB.2.1.1, sp_load_c hB.rows]
      rcases (show i = 0 ∨ i = 1 by omega) with rfl | rfl
      · rw [hB.2.2.1.1]
      · rw [hB.2.2.1.2.1]
    simp only [eX3_load_0, eX3_load_1, eX3_load_4, eX3_load_7, eX3_load_8, eX3_load_10, eX3_load_13, eX3_load_14, eX3_load_17, eX3_load_18, eX3_load_21, eX3_load_22, eX3_load_25, eX3_load_26, eX4_load_0, eX4_load_1, eX4_load_4, eX4_load_7, eX4_load_10, eX4_load_11, eX4_load_12, eX4_load_15, eX4_load_16, eX4_load_19, eX4_load_20, eX4_load_22, eX4_load_25, hm, kd_0, fr_0_0, fr_0_1, fr_0_2, fr_0_3, fr_0_4, fr_0_5, fr_0_6, fr_0_7, fr_0_8, kd_1, fr_1_0, fr_1_1, fr_1_2, fr_1_3, fr_1_4, kd_2, an_2, rd_2, kd_3, an_3, rd_3, kd_4, an_4, rd_4, kd_5, an_5, rd_5, kd_6, an_6, rd_6, kd_7, kd_13, fr_13_0, fr_13_1, fr_13_2, fr_13_3, fr_13_4, kd_14, an_14, rd_14, kd_15, an_15, rd_15, kd_16, an_16, rd_16, kd_17, an_17, rd_17, kd_19, fr_19_3, kd_23, an_23, rd_23, kd_25, an_25, rd_25, kd_26, an_26, rd_26, kd_27, fr_27_0, kd_28, an_28, rd_28, kd_29, an_29, kd_38, an_38, rd_38, kd_39, fr_39_0, fr_39_1, fr_39_2, fr_39_3, fr_39_4, fr_39_6, fr_39_12, fr_39_13, fr_39_14, fr_39_15, kd_40, an_40, rd_40, kd_41, an_41, rd_41, kd_42, an_42, rd_42, kd_43, an_43, rd_43, kd_44, an_44, rd_44, kd_45, an_45, rd_45, kd_46, an_46, rd_46, kd_47, an_47, rd_47, kd_48, an_48, kd_49, an_49, z_0, z_1, z_2, z_3, z_4, zc_0, zc_1, zc_2, zc_3, zc_4, tX3_isPerson, tX4_isPerson, tX3_isKind, tX4_isKind, tX3_isEnd, tX4_isEnd, tX3_isFeeling, tX3_isWithin, tX4_in, tX3_finding0, tX3_finding1, tX3_finding2, tX3_finding3, tX3_finding4, tX3_finding5, tX3_finding6, tX4_finds0, tX4_finds1, tX4_finds2, tX4_finds3, tX4_finds4, tX4_finds5, tX4_finds6, e1, e2, one_ne0, up_n, up_s, Nat.reduceLeDiff, Nat.reduceEqDiff, Nat.reduceAdd, if_true, if_false, b2i_T, b2i_F, and_self, and_false, false_and, true_and, and_true, true_or, or_true, false_or, or_false, or_self, not_true_eq_false, not_false_eq_true, eq_self, List.cons_append, List.nil_append, hx, hy, b2i_t h1, e3]
    exact okQ.same h
  · simp only [eX3_load_0, eX3_load_1, eX3_load_4, eX3_load_7, eX3_load_8, eX3_load_10, eX3_load_13, eX3_load_14, eX3_load_17, eX3_load_18, eX3_load_21, eX3_load_22, eX3_load_25, eX3_load_26, eX4_load_0, eX4_load_1, eX4_load_4, eX4_load_7, eX4_load_10, eX4_load_11, eX4_load_12, eX4_load_15, eX4_load_16, eX4_load_19, eX4_load_20, eX4_load_22, eX4_load_25, hm, kd_0, fr_0_0, fr_0_1, fr_0_2, fr_0_3, fr_0_4, fr_0_5, fr_0_6, fr_0_7, fr_0_8, kd_1, fr_1_0, fr_1_1, fr_1_2, fr_1_3, fr_1_4, kd_2, an_2, rd_2, kd_3, an_3, rd_3, kd_4, an_4, rd_4, kd_5, an_5, rd_5, kd_6, an_6, rd_6, kd_7, kd_13, fr_13_0, fr_13_1, fr_13_2, fr_13_3, fr_13_4, kd_14, an_14, rd_14, kd_15, an_15, rd_15, kd_16, an_16, rd_16, kd_17, an_17, rd_17, kd_19, fr_19_3, kd_23, an_23, rd_23, kd_25, an_25, rd_25, kd_26, an_26, rd_26, kd_27, fr_27_0, kd_28, an_28, rd_28, kd_29, an_29, kd_38, an_38, rd_38, kd_39, fr_39_0, fr_39_1, fr_39_2, fr_39_3, fr_39_4, fr_39_6, fr_39_12, fr_39_13, fr_39_14, fr_39_15, kd_40, an_40, rd_40, kd_41, an_41, rd_41, kd_42, an_42, rd_42, kd_43, an_43, rd_43, kd_44, an_44, rd_44, kd_45, an_45, rd_45, kd_46, an_46, rd_46, kd_47, an_47, rd_47, kd_48, an_48, kd_49, an_49, z_0, z_1, z_2, z_3, z_4, zc_0, zc_1, zc_2, zc_3, zc_4, tX3_isPerson, tX4_isPerson, tX3_isKind, tX4_isKind, tX3_isEnd, tX4_isEnd, tX3_isFeeling, tX3_isWithin, tX4_in, tX3_finding0, tX3_finding1, tX3_finding2, tX3_finding3, tX3_finding4, tX3_finding5, tX3_finding6, tX4_finds0, tX4_finds1, tX4_finds2, tX4_finds3, tX4_finds4, tX4_finds5, tX4_finds6, e1, e2, one_ne0, up_n, up_s, Nat.reduceLeDiff, Nat.reduceEqDiff, Nat.reduceAdd, if_true, if_false, b2i_T, b2i_F, and_self, and_false, false_and, true_and, and_true, true_or, or_true, false_or, or_false, or_self, not_true_eq_false, not_false_eq_true, eq_self, List.cons_append, List.nil_append, b2i_f h1]
    exact okQ.find h 0

theorem op_at {v : Int32} (h : Rel c A Z) : okOp G c A Z mX3_at mX4_at [.int v] := by
  obtain ⟨n, hB⟩ := h.1
  obtain ⟨hn, e1, e2⟩ := hB.1
  unfold okOp
  rw [sx_call_in (L := [some (.ref 0), some (.int v)]) rfl rfl]
  have hm : ∀ (A : sx_A) (Q : List Value → sx_A → sx_Z → Prop), sx_call G mX4_at [.ref 39, .int v] A Z Q ↔ sx_ev G mX4_at 0 [some (.ref 39), some (.int v)] [] A Z Q := fun A Q => sx_call_in rfl rfl
  by_cases h1 : 0 ≤ v ∧ v ≤ 1
  · have hx := fun (Q : List Value → sx_A → sx_Z → Prop) => tX0_sitters (G := G) (A := A) (Z := Z) (Q := Q) (b := 1) (e := v) isB1 hn e1
    have e3 : sp_sit (A 5) v n = sp_sit (mP (A 40)) v n := hB.sit
    simp only [eX3_at_0, eX3_at_1, eX3_at_4, eX3_at_7, eX3_at_8, eX3_at_10, eX3_at_13, eX3_at_14, eX3_at_15, eX3_at_18, eX3_at_19, eX3_at_22, eX4_at_0, eX4_at_1, eX4_at_4, eX4_at_7, eX4_at_8, eX4_at_9, eX4_at_12, eX4_at_15, eX4_at_16, eX4_at_18, eX4_at_21, hm, kd_0, fr_0_0, fr_0_1, fr_0_2, fr_0_3, fr_0_4, fr_0_5, fr_0_6, fr_0_7, fr_0_8, kd_1, fr_1_0, fr_1_1, fr_1_2, fr_1_3, fr_1_4, kd_2, an_2, rd_2, kd_3, an_3, rd_3, kd_4, an_4, rd_4, kd_5, an_5, rd_5, kd_6, an_6, rd_6, kd_7, kd_13, fr_13_0, fr_13_1, fr_13_2, fr_13_3, fr_13_4, kd_14, an_14, rd_14, kd_15, an_15, rd_15, kd_16, an_16, rd_16, kd_17, an_17, rd_17, kd_19, fr_19_3, kd_23, an_23, rd_23, kd_25, an_25, rd_25, kd_26, an_26, rd_26, kd_27, fr_27_0, kd_28, an_28, rd_28, kd_29, an_29, kd_38, an_38, rd_38, kd_39, fr_39_0, fr_39_1, fr_39_2, fr_39_3, fr_39_4, fr_39_6, fr_39_12, fr_39_13, fr_39_14, fr_39_15, kd_40, an_40, rd_40, kd_41, an_41, rd_41, kd_42, an_42, rd_42, kd_43, an_43, rd_43, kd_44, an_44, rd_44, kd_45, an_45, rd_45, kd_46, an_46, rd_46, kd_47, an_47, rd_47, kd_48, an_48, kd_49, an_49, z_0, z_1, z_2, z_3, z_4, zc_0, zc_1, zc_2, zc_3, zc_4, tX3_isPerson, tX4_isPerson, tX3_isKind, tX4_isKind, tX3_isEnd, tX4_isEnd, tX3_isFeeling, tX3_isWithin, tX4_in, tX3_finding0, tX3_finding1, tX3_finding2, tX3_finding3, tX3_finding4, tX3_finding5, tX3_finding6, tX4_finds0, tX4_finds1, tX4_finds2, tX4_finds3, tX4_finds4, tX4_finds5, tX4_finds6, e1, e2, one_ne0, up_n, up_s, Nat.reduceLeDiff, Nat.reduceEqDiff, Nat.reduceAdd, if_true, if_false, b2i_T, b2i_F, and_self, and_false, false_and, true_and, and_true, true_or, or_true, false_or, or_false, or_self, not_true_eq_false, not_false_eq_true, eq_self, List.cons_append, List.nil_append, hx, tX4_thoseAt hn e2, b2i_t h1, e3]
    exact okQ.same h
  · simp only [eX3_at_0, eX3_at_1, eX3_at_4, eX3_at_7, eX3_at_8, eX3_at_10, eX3_at_13, eX3_at_14, eX3_at_15, eX3_at_18, eX3_at_19, eX3_at_22, eX4_at_0, eX4_at_1, eX4_at_4, eX4_at_7, eX4_at_8, eX4_at_9, eX4_at_12, eX4_at_15, eX4_at_16, eX4_at_18, eX4_at_21, hm, kd_0, fr_0_0, fr_0_1, fr_0_2, fr_0_3, fr_0_4, fr_0_5, fr_0_6, fr_0_7, fr_0_8, kd_1, fr_1_0, fr_1_1, fr_1_2, fr_1_3, fr_1_4, kd_2, an_2, rd_2, kd_3, an_3, rd_3, kd_4, an_4, rd_4, kd_5, an_5, rd_5, kd_6, an_6, rd_6, kd_7, kd_13, fr_13_0, fr_13_1, fr_13_2, fr_13_3, fr_13_4, kd_14, an_14, rd_14, kd_15, an_15, rd_15, kd_16, an_16, rd_16, kd_17, an_17, rd_17, kd_19, fr_19_3, kd_23, an_23, rd_23, kd_25, an_25, rd_25, kd_26, an_26, rd_26, kd_27, fr_27_0, kd_28, an_28, rd_28, kd_29, an_29, kd_38, an_38, rd_38, kd_39, fr_39_0, fr_39_1, fr_39_2, fr_39_3, fr_39_4, fr_39_6, fr_39_12, fr_39_13, fr_39_14, fr_39_15, kd_40, an_40, rd_40, kd_41, an_41, rd_41, kd_42, an_42, rd_42, kd_43, an_43, rd_43, kd_44, an_44, rd_44, kd_45, an_45, rd_45, kd_46, an_46, rd_46, kd_47, an_47, rd_47, kd_48, an_48, kd_49, an_49, z_0, z_1, z_2, z_3, z_4, zc_0, zc_1, zc_2, zc_3, zc_4, tX3_isPerson, tX4_isPerson, tX3_isKind, tX4_isKind, tX3_isEnd, tX4_isEnd, tX3_isFeeling, tX3_isWithin, tX4_in, tX3_finding0, tX3_finding1, tX3_finding2, tX3_finding3, tX3_finding4, tX3_finding5, tX3_finding6, tX4_finds0, tX4_finds1, tX4_finds2, tX4_finds3, tX4_finds4, tX4_finds5, tX4_finds6, e1, e2, one_ne0, up_n, up_s, Nat.reduceLeDiff, Nat.reduceEqDiff, Nat.reduceAdd, if_true, if_false, b2i_T, b2i_F, and_self, and_false, false_and, true_and, and_true, true_or, or_true, false_or, or_false, or_self, not_true_eq_false, not_false_eq_true, eq_self, List.cons_append, List.nil_append, b2i_f h1]
    exact okQ.find h 0

end OP
