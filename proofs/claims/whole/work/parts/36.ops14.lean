/-! THE CALLS, ONE BY ONE: weights -/
theorem nI_ij {a b : Nat} (ha : a < 2 ^ 31) (hb : b < 2 ^ 31) (h : nI a = nI b) : a = b := by
  have e := congrArg Int32.toNatClampNeg h
  rw [nI_clamp ha, nI_clamp hb] at e
  exact e
theorem fs_none {f : Nat → Bool} : ∀ {k i : Nat}, (∀ j, i ≤ j → j < i + k → f j = false) → fs f k i = i + k
  | 0, _, _ => rfl
  | k + 1, i, h => by
    rw [fs_f (h i (by omega) (by omega)), fs_none (k := k) (i := i + 1) (fun j h1 h2 => h j (by omega) (by omega))]
    omega
theorem fs_at {f : Nat → Bool} {d : Nat} : ∀ {k i : Nat}, i ≤ d → d < i + k → f d = true → (∀ j, i ≤ j → j < d → f j = false) → fs f k i = d
  | 0, i, h1, h2, _, _ => absurd h2 (by omega)
  | k + 1, i, h1, h2, h3, h4 => by
    by_cases e : i = d
    · subst e; exact fs_t h3
    · rw [fs_f (h4 i (by omega) (by omega))]
      exact fs_at (by omega) (by omega) h3 (fun j h5 h6 => h4 j (by omega) h6)

section OP
variable {G : sx_G} {c n : Nat} {A : sx_A} {Z : sx_Z} {Q : List Value → sx_A → sx_Z → Prop}

theorem lX3_weights {t : Int32} {f : Nat} (hf : f ≤ 20) (ef : A 1 7 = nI f) : ∀ (k i : Nat), i + k = f + 1 → (sx_ev G mX3_weights 27 [some (.ref 0), some (.int t), some (.int (nI i))] [] A Z Q ↔ if fs (fun j => decide (t = 2 * nI j)) k i ≤ f then Q [.int (nI (fs (fun j => decide (t = 2 * nI j)) k i))] A Z else Q [.int (-1000000004)] (va_up A 38 (upd (A 38) 3 (A 38 3 + 1))) Z) := by
  intro k
  induction k with
  | zero =>
    intro i hi
    obtain rfl : i = f + 1 := by omega
    rw [eX3_weights_27]
    have h1 : nI f < nI (f + 1) := nI_lt (by omega) (by omega)
    have h2 : ¬ f + 1 ≤ f := by omega
    simp only [eX3_weights_0, eX3_weights_1, eX3_weights_4, eX3_weights_7, eX3_weights_10, eX3_weights_11, eX3_weights_13, eX3_weights_16, eX3_weights_17, eX3_weights_18, eX3_weights_21, eX3_weights_24, eX3_weights_25, eX3_weights_26, eX3_weights_28, eX3_weights_29, eX3_weights_32, eX3_weights_35, eX3_weights_38, eX3_weights_39, eX3_weights_40, eX3_weights_41, eX3_weights_42, eX3_weights_45, eX3_weights_46, eX3_weights_47, eX3_weights_50, eX3_weights_53, eX3_weights_54, eX3_weights_56, eX3_weights_59, kd_0, fr_0_0, fr_0_1, fr_0_2, fr_0_3, fr_0_4, fr_0_5, fr_0_6, fr_0_7, fr_0_8, kd_1, fr_1_0, fr_1_1, fr_1_2, fr_1_3, fr_1_4, kd_2, an_2, rd_2, kd_3, an_3, rd_3, kd_4, an_4, rd_4, kd_5, an_5, rd_5, kd_6, an_6, rd_6, kd_7, kd_13, fr_13_0, fr_13_1, fr_13_2, fr_13_3, fr_13_4, kd_14, an_14, rd_14, kd_15, an_15, rd_15, kd_16, an_16, rd_16, kd_17, an_17, rd_17, kd_19, fr_19_3, kd_23, an_23, rd_23, kd_25, an_25, rd_25, kd_26, an_26, rd_26, kd_27, fr_27_0, kd_28, an_28, rd_28, kd_29, an_29, kd_38, an_38, rd_38, tX3_finding0, tX3_finding1, tX3_finding2, tX3_finding3, tX3_finding4, tX3_finding5, tX3_finding6, ef, h1, h2, fs, Nat.reduceLeDiff, Nat.reduceEqDiff, Nat.reduceAdd, if_true, if_false, b2i_T, b2i_F, and_self, and_false, false_and, true_and, and_true, true_or, or_true, false_or, or_false, or_self, not_true_eq_false, not_false_eq_true, eq_self, List.cons_append, List.nil_append]
  | succ k ih =>
    intro i hi
    rw [eX3_weights_27]
    have h1 : ¬ nI f < nI i := Int32.not_lt.mpr (nI_le (by omega) (by omega))
    have h4 := ih (i + 1) (by omega)
    rw [nI_succ] at h4
    by_cases hc : t = 2 * nI i
    · rw [fs_t (f := fun j => decide (t = 2 * nI j)) (decide_eq_true hc), if_pos (show i ≤ f by omega)]
      simp only [eX3_weights_0, eX3_weights_1, eX3_weights_4, eX3_weights_7, eX3_weights_10, eX3_weights_11, eX3_weights_13, eX3_weights_16, eX3_weights_17, eX3_weights_18, eX3_weights_21, eX3_weights_24, eX3_weights_25, eX3_weights_26, eX3_weights_28, eX3_weights_29, eX3_weights_32, eX3_weights_35, eX3_weights_38, eX3_weights_39, eX3_weights_40, eX3_weights_41, eX3_weights_42, eX3_weights_45, eX3_weights_46, eX3_weights_47, eX3_weights_50, eX3_weights_53, eX3_weights_54, eX3_weights_56, eX3_weights_59, kd_0, fr_0_0, fr_0_1, fr_0_2, fr_0_3, fr_0_4, fr_0_5, fr_0_6, fr_0_7, fr_0_8, kd_1, fr_1_0, fr_1_1, fr_1_2, fr_1_3, fr_1_4, kd_2, an_2, rd_2, kd_3, an_3, rd_3, kd_4, an_4, rd_4, kd_5, an_5, rd_5, kd_6, an_6, rd_6, kd_7, kd_13, fr_13_0, fr_13_1, fr_13_2, fr_13_3, fr_13_4, kd_14, an_14, rd_14, kd_15, an_15, rd_15, kd_16, an_16, rd_16, kd_17, an_17, rd_17, kd_19, fr_19_3, kd_23, an_23, rd_23, kd_25, an_25, rd_25, kd_26, an_26, rd_26, kd_27, fr_27_0, kd_28, an_28, rd_28, kd_29, an_29, kd_38, an_38, rd_38, tX3_finding0, tX3_finding1, tX3_finding2, tX3_finding3, tX3_finding4, tX3_finding5, tX3_finding6, ef, h1, ← hc, Nat.reduceLeDiff, Nat.reduceEqDiff, Nat.reduceAdd, if_true, if_false, b2i_T, b2i_F, and_self, and_false, false_and, true_and, and_true, true_or, or_true, false_or, or_false, or_self, not_true_eq_false, not_false_eq_true, eq_self, List.cons_append, List.nil_append]
    · rw [fs_f (f := fun j => decide (t = 2 * nI j)) (decide_eq_false hc)]
      simp only [eX3_weights_0, eX3_weights_1, eX3_weights_4, eX3_weights_7, eX3_weights_10, eX3_weights_11, eX3_weights_13, eX3_weights_16, eX3_weights_17, eX3_weights_18, eX3_weights_21, eX3_weights_24, eX3_weights_25, eX3_weights_26, eX3_weights_28, eX3_weights_29, eX3_weights_32, eX3_weights_35, eX3_weights_38, eX3_weights_39, eX3_weights_40, eX3_weights_41, eX3_weights_42, eX3_weights_45, eX3_weights_46, eX3_weights_47, eX3_weights_50, eX3_weights_53, eX3_weights_54, eX3_weights_56, eX3_weights_59, kd_0, fr_0_0, fr_0_1, fr_0_2, fr_0_3, fr_0_4, fr_0_5, fr_0_6, fr_0_7, fr_0_8, kd_1, fr_1_0, fr_1_1, fr_1_2, fr_1_3, fr_1_4, kd_2, an_2, rd_2, kd_3, an_3, rd_3, kd_4, an_4, rd_4, kd_5, an_5, rd_5, kd_6, an_6, rd_6, kd_7, kd_13, fr_13_0, fr_13_1, fr_13_2, fr_13_3, fr_13_4, kd_14, an_14, rd_14, kd_15, an_15, rd_15, kd_16, an_16, rd_16, kd_17, an_17, rd_17, kd_19, fr_19_3, kd_23, an_23, rd_23, kd_25, an_25, rd_25, kd_26, an_26, rd_26, kd_27, fr_27_0, kd_28, an_28, rd_28, kd_29, an_29, kd_38, an_38, rd_38, tX3_finding0, tX3_finding1, tX3_finding2, tX3_finding3, tX3_finding4, tX3_finding5, tX3_finding6, ef, h1, hc, Nat.reduceLeDiff, Nat.reduceEqDiff, Nat.reduceAdd, if_true, if_false, b2i_T, b2i_F, and_self, and_false, false_and, true_and, and_true, true_or, or_true, false_or, or_false, or_self, not_true_eq_false, not_false_eq_true, eq_self, List.cons_append, List.nil_append]
      exact h4

theorem op_weights (h : Rel c A Z) : okOp G c A Z mX3_weights mX4_weights [] := by
  obtain ⟨n, hB⟩ := h.1
  obtain ⟨hn, e1, e2⟩ := hB.1
  unfold okOp
  rw [sx_call_in (L := [some (.ref 0), none, none]) rfl rfl]
  have hm : ∀ (A : sx_A) (Q : List Value → sx_A → sx_Z → Prop), sx_call G mX4_weights [.ref 39] A Z Q ↔ sx_ev G mX4_weights 0 [some (.ref 39), none, none] [] A Z Q := fun A Q => sx_call_in rfl rfl
  obtain ⟨f, hf, ef⟩ := hB.2.1.2.2
  have ef2 : A 40 2 = nI f := by rw [hB.2.1.2.1]; exact ef
  have x1 := fun (Q : List Value → sx_A → sx_Z → Prop) => tX0_hangs (G := G) (A := A) (Z := Z) (Q := Q) (b := 1) isB1 hn e1
  have x2 := fun (Q : List Value → sx_A → sx_Z → Prop) => tX0_tiltNow (G := G) (A := A) (Z := Z) (Q := Q) (b := 1) isB1 hn e1
  have y1 := fun (A' : sx_A) (hA : A' 40 0 = nI n) (Q : List Value → sx_A → sx_Z → Prop) => tX4_isHanging (G := G) (A := A') (Z := Z) (Q := Q) hn hA
  have y2 := fun (A' : sx_A) (hA : A' 40 0 = nI n) (Q : List Value → sx_A → sx_Z → Prop) => tX4_tiltNow (G := G) (A := A') (Z := Z) (Q := Q) hn hA
  have et : sx_tilt A 1 n = sm_tilt (A 40) n := hB.tilt
  have u1 : (va_up A 38 (upd (A 38) 3 (A 38 3 + 1))) 40 0 = nI n := by rw [up_n (by omega)]; exact e2
  by_cases hh : sp_hangs (mP (A 40)) n
  · have hx : sp_hangs (A (1 + 4)) n := hB.hangs.mpr hh
    have x3 := fun (Q : List Value → sx_A → sx_Z → Prop) => lX3_weights (G := G) (A := A) (Z := Z) (Q := Q) (t := sm_tilt (A 40) n) hf ef (f + 1) 0 (by omega)
    simp only [nI_0] at x3
    simp only [eX3_weights_0, eX3_weights_1, eX3_weights_4, eX3_weights_7, eX3_weights_10, eX3_weights_11, eX3_weights_13, eX3_weights_16, eX3_weights_17, eX3_weights_18, eX3_weights_21, eX3_weights_24, eX3_weights_25, eX3_weights_26, eX3_weights_28, eX3_weights_29, eX3_weights_32, eX3_weights_35, eX3_weights_38, eX3_weights_39, eX3_weights_40, eX3_weights_41, eX3_weights_42, eX3_weights_45, eX3_weights_46, eX3_weights_47, eX3_weights_50, eX3_weights_53, eX3_weights_54, eX3_weights_56, eX3_weights_59, kd_0, fr_0_0, fr_0_1, fr_0_2, fr_0_3, fr_0_4, fr_0_5, fr_0_6, fr_0_7, fr_0_8, kd_1, fr_1_0, fr_1_1, fr_1_2, fr_1_3, fr_1_4, kd_2, an_2, rd_2, kd_3, an_3, rd_3, kd_4, an_4, rd_4, kd_5, an_5, rd_5, kd_6, an_6, rd_6, kd_7, kd_13, fr_13_0, fr_13_1, fr_13_2, fr_13_3, fr_13_4, kd_14, an_14, rd_14, kd_15, an_15, rd_15, kd_16, an_16, rd_16, kd_17, an_17, rd_17, kd_19, fr_19_3, kd_23, an_23, rd_23, kd_25, an_25, rd_25, kd_26, an_26, rd_26, kd_27, fr_27_0, kd_28, an_28, rd_28, kd_29, an_29, kd_38, an_38, rd_38, x1, x2, x3, et, b2i_t hx, one_ne0, Nat.reduceLeDiff, Nat.reduceEqDiff, Nat.reduceAdd, if_true, if_false, b2i_T, b2i_F, and_self, and_false, false_and, true_and, and_true, true_or, or_true, false_or, or_false, or_self, not_true_eq_false, not_false_eq_true, eq_self, List.cons_append, List.nil_append]
    generalize et2 : sm_tilt (A 40) n = t at x3
    have two : (2 : Int32) = nI 2 := rfl
    by_cases ht : t < 0
    · have e3 : fs (fun j => decide (t = 2 * nI j)) (f + 1) 0 = 0 + (f + 1) := fs_none (fun j _ h2 => decide_eq_false (fun e => by
        rw [e, two, pk_mul] at ht
        exact nI_pos (by omega) ht))
      rw [e3, if_neg (by omega)]
      simp only [eX4_weights_0, eX4_weights_1, eX4_weights_4, eX4_weights_5, eX4_weights_6, eX4_weights_9, eX4_weights_12, eX4_weights_13, eX4_weights_16, eX4_weights_17, eX4_weights_18, eX4_weights_19, eX4_weights_22, eX4_weights_23, eX4_weights_24, eX4_weights_25, eX4_weights_26, eX4_weights_29, eX4_weights_30, eX4_weights_31, eX4_weights_34, eX4_weights_35, eX4_weights_38, eX4_weights_39, eX4_weights_40, eX4_weights_41, eX4_weights_44, eX4_weights_45, eX4_weights_46, eX4_weights_47, eX4_weights_50, eX4_weights_51, eX4_weights_53, eX4_weights_56, hm, kd_39, fr_39_0, fr_39_1, fr_39_2, fr_39_3, fr_39_4, fr_39_6, fr_39_12, fr_39_13, fr_39_14, fr_39_15, kd_40, an_40, rd_40, kd_41, an_41, rd_41, kd_42, an_42, rd_42, kd_43, an_43, rd_43, kd_44, an_44, rd_44, kd_45, an_45, rd_45, kd_46, an_46, rd_46, kd_47, an_47, rd_47, kd_48, an_48, kd_49, an_49, z_0, z_1, z_2, z_3, z_4, zc_0, zc_1, zc_2, zc_3, zc_4, tX4_finds0, tX4_finds1, tX4_finds2, tX4_finds3, tX4_finds4, tX4_finds5, tX4_finds6, y1 _ u1, y2 _ u1, up_n, b2i_t hh, one_ne0, et2, ht, Nat.reduceLeDiff, Nat.reduceEqDiff, Nat.reduceAdd, if_true, if_false, b2i_T, b2i_F, and_self, and_false, false_and, true_and, and_true, true_or, or_true, false_or, or_false, or_self, not_true_eq_false, not_false_eq_true, eq_self, List.cons_append, List.nil_append]
      exact okQ.find h 3
    · obtain ⟨j, hj, rfl⟩ : ∃ j, j < 2 ^ 31 ∧ t = nI j := by
        rcases pk_ix t (n := 2147483647) (by omega) with z | z | ⟨j, hj, e⟩
        · exact absurd z ht
        · refine ⟨2147483647, by omega, Int32.le_antisymm ?_ z⟩
          rw [Int32.le_iff_toInt_le, show (nI 2147483647).toInt = 2147483647 from by decide]
          have := t.toInt_lt; omega
        · exact ⟨j, by omega, e⟩
      have d1 : nI j / 2 = nI (j / 2) := pk_div (d := 2) hj (by omega) (by omega)
      have d2 : nI j - nI (j / 2) * 2 = nI (j % 2) := by rw [← d1]; exact pk_rem (d := 2) hj (by omega) (by omega)
      by_cases hj2 : j % 2 = 0 ∧ j / 2 ≤ f
      · have e3 : fs (fun q => decide (nI j = 2 * nI q)) (f + 1) 0 = j / 2 := fs_at (by omega) (by omega) (decide_eq_true (by rw [two, pk_mul]; congr 1; omega)) (fun q _ h2 => decide_eq_false (fun e => by
          rw [two, pk_mul] at e
          have := nI_ij (by omega) (by omega) e
          omega))
        have k1 : ¬ nI f < nI (j / 2) := Int32.not_lt.mpr (nI_le (by omega) (by omega))
        have k2 : nI (j % 2) = 0 := by rw [hj2.1]; rfl
        rw [e3, if_pos hj2.2]
        simp only [eX4_weights_0, eX4_weights_1, eX4_weights_4, eX4_weights_5, eX4_weights_6, eX4_weights_9, eX4_weights_12, eX4_weights_13, eX4_weights_16, eX4_weights_17, eX4_weights_18, eX4_weights_19, eX4_weights_22, eX4_weights_23, eX4_weights_24, eX4_weights_25, eX4_weights_26, eX4_weights_29, eX4_weights_30, eX4_weights_31, eX4_weights_34, eX4_weights_35, eX4_weights_38, eX4_weights_39, eX4_weights_40, eX4_weights_41, eX4_weights_44, eX4_weights_45, eX4_weights_46, eX4_weights_47, eX4_weights_50, eX4_weights_51, eX4_weights_53, eX4_weights_56, hm, kd_39, fr_39_0, fr_39_1, fr_39_2, fr_39_3, fr_39_4, fr_39_6, fr_39_12, fr_39_13, fr_39_14, fr_39_15, kd_40, an_40, rd_40, kd_41, an_41, rd_41, kd_42, an_42, rd_42, kd_43, an_43, rd_43, kd_44, an_44, rd_44, kd_45, an_45, rd_45, kd_46, an_46, rd_46, kd_47, an_47, rd_47, kd_48, an_48, kd_49, an_49, z_0, z_1, z_2, z_3, z_4, zc_0, zc_1, zc_2, zc_3, zc_4, tX4_finds0, tX4_finds1, tX4_finds2, tX4_finds3, tX4_finds4, tX4_finds5, tX4_finds6, y1 _ e2, y2 _ e2, up_n, b2i_t hh, one_ne0, et2, ht, d1, d2, k1, k2, ef2, Nat.reduceLeDiff, Nat.reduceEqDiff, Nat.reduceAdd, if_true, if_false, b2i_T, b2i_F, and_self, and_false, false_and, true_and, and_true, true_or, or_true, false_or, or_false, or_self, not_true_eq_false, not_false_eq_true, eq_self, List.cons_append, List.nil_append]
        exact okQ.same h
      · have e3 : fs (fun q => decide (nI j = 2 * nI q)) (f + 1) 0 = 0 + (f + 1) := fs_none (fun q _ h2 => decide_eq_false (fun e => by
          rw [two, pk_mul] at e
          have := nI_ij (by omega) (by omega) e
          omega))
        rw [e3, if_neg (by omega)]
        by_cases k2 : j % 2 = 0
        · have k1 : nI f < nI (j / 2) := nI_lt (by omega) (by omega)
          have k3 : nI (j % 2) = 0 := by rw [k2]; rfl
          simp only [eX4_weights_0, eX4_weights_1, eX4_weights_4, eX4_weights_5, eX4_weights_6, eX4_weights_9, eX4_weights_12, eX4_weights_13, eX4_weights_16, eX4_weights_17, eX4_weights_18, eX4_weights_19, eX4_weights_22, eX4_weights_23, eX4_weights_24, eX4_weights_25, eX4_weights_26, eX4_weights_29, eX4_weights_30, eX4_weights_31, eX4_weights_34, eX4_weights_35, eX4_weights_38, eX4_weights_39, eX4_weights_40, eX4_weights_41, eX4_weights_44, eX4_weights_45, eX4_weights_46, eX4_weights_47, eX4_weights_50, eX4_weights_51, eX4_weights_53, eX4_weights_56, hm, kd_39, fr_39_0, fr_39_1, fr_39_2, fr_39_3, fr_39_4, fr_39_6, fr_39_12, fr_39_13, fr_39_14, fr_39_15, kd_40, an_40, rd_40, kd_41, an_41, rd_41, kd_42, an_42, rd_42, kd_43, an_43, rd_43, kd_44, an_44, rd_44, kd_45, an_45, rd_45, kd_46, an_46, rd_46, kd_47, an_47, rd_47, kd_48, an_48, kd_49, an_49, z_0, z_1, z_2, z_3, z_4, zc_0, zc_1, zc_2, zc_3, zc_4, tX4_finds0, tX4_finds1, tX4_finds2, tX4_finds3, tX4_finds4, tX4_finds5, tX4_finds6, y1 _ u1, y2 _ u1, up_n, b2i_t hh, one_ne0, et2, ht, d1, d2, k1, k3, ef2, Nat.reduceLeDiff, Nat.reduceEqDiff, Nat.reduceAdd, if_true, if_false, b2i_T, b2i_F, and_self, and_false, false_and, true_and, and_true, true_or, or_true, false_or, or_false, or_self, not_true_eq_false, not_false_eq_true, eq_self, List.cons_append, List.nil_append]
          exact okQ.find h 3
        · have k3 : ¬ nI (j % 2) = 0 := by rw [show j % 2 = 1 by omega]; decide
          simp only [eX4_weights_0, eX4_weights_1, eX4_weights_4, eX4_weights_5, eX4_weights_6, eX4_weights_9, eX4_weights_12, eX4_weights_13, eX4_weights_16, eX4_weights_17, eX4_weights_18, eX4_weights_19, eX4_weights_22, eX4_weights_23, eX4_weights_24, eX4_weights_25, eX4_weights_26, eX4_weights_29, eX4_weights_30, eX4_weights_31, eX4_weights_34, eX4_weights_35, eX4_weights_38, eX4_weights_39, eX4_weights_40, eX4_weights_41, eX4_weights_44, eX4_weights_45, eX4_weights_46, eX4_weights_47, eX4_weights_50, eX4_weights_51, eX4_weights_53, eX4_weights_56, hm, kd_39, fr_39_0, fr_39_1, fr_39_2, fr_39_3, fr_39_4, fr_39_6, fr_39_12, fr_39_13, fr_39_14, fr_39_15, kd_40, an_40, rd_40, kd_41, an_41, rd_41, kd_42, an_42, rd_42, kd_43, an_43, rd_43, kd_44, an_44, rd_44, kd_45, an_45, rd_45, kd_46, an_46, rd_46, kd_47, an_47, rd_47, kd_48, an_48, kd_49, an_49, z_0, z_1, z_2, z_3, z_4, zc_0, zc_1, zc_2, zc_3, zc_4, tX4_finds0, tX4_finds1, tX4_finds2, tX4_finds3, tX4_finds4, tX4_finds5, tX4_finds6, y1 _ u1, y2 _ u1, up_n, b2i_t hh, one_ne0, et2, ht, d1, d2, k3, ef2, Nat.reduceLeDiff, Nat.reduceEqDiff, Nat.reduceAdd, if_true, if_false, b2i_T, b2i_F, and_self, and_false, false_and, true_and, and_true, true_or, or_true, false_or, or_false, or_self, not_true_eq_false, not_false_eq_true, eq_self, List.cons_append, List.nil_append]
          exact okQ.find h 3
  · have hx : ¬ sp_hangs (A (1 + 4)) n := fun z => hh (hB.hangs.mp z)
    simp only [eX3_weights_0, eX3_weights_1, eX3_weights_4, eX3_weights_7, eX3_weights_10, eX3_weights_11, eX3_weights_13, eX3_weights_16, eX3_weights_17, eX3_weights_18, eX3_weights_21, eX3_weights_24, eX3_weights_25, eX3_weights_26, eX3_weights_28, eX3_weights_29, eX3_weights_32, eX3_weights_35, eX3_weights_38, eX3_weights_39, eX3_weights_40, eX3_weights_41, eX3_weights_42, eX3_weights_45, eX3_weights_46, eX3_weights_47, eX3_weights_50, eX3_weights_53, eX3_weights_54, eX3_weights_56, eX3_weights_59, eX4_weights_0, eX4_weights_1, eX4_weights_4, eX4_weights_5, eX4_weights_6, eX4_weights_9, eX4_weights_12, eX4_weights_13, eX4_weights_16, eX4_weights_17, eX4_weights_18, eX4_weights_19, eX4_weights_22, eX4_weights_23, eX4_weights_24, eX4_weights_25, eX4_weights_26, eX4_weights_29, eX4_weights_30, eX4_weights_31, eX4_weights_34, eX4_weights_35, eX4_weights_38, eX4_weights_39, eX4_weights_40, eX4_weights_41, eX4_weights_44, eX4_weights_45, eX4_weights_46, eX4_weights_47, eX4_weights_50, eX4_weights_51, eX4_weights_53, eX4_weights_56, hm, kd_0, fr_0_0, fr_0_1, fr_0_2, fr_0_3, fr_0_4, fr_0_5, fr_0_6, fr_0_7, fr_0_8, kd_1, fr_1_0, fr_1_1, fr_1_2, fr_1_3, fr_1_4, kd_2, an_2, rd_2, kd_3, an_3, rd_3, kd_4, an_4, rd_4, kd_5, an_5, rd_5, kd_6, an_6, rd_6, kd_7, kd_13, fr_13_0, fr_13_1, fr_13_2, fr_13_3, fr_13_4, kd_14, an_14, rd_14, kd_15, an_15, rd_15, kd_16, an_16, rd_16, kd_17, an_17, rd_17, kd_19, fr_19_3, kd_23, an_23, rd_23, kd_25, an_25, rd_25, kd_26, an_26, rd_26, kd_27, fr_27_0, kd_28, an_28, rd_28, kd_29, an_29, kd_38, an_38, rd_38, kd_39, fr_39_0, fr_39_1, fr_39_2, fr_39_3, fr_39_4, fr_39_6, fr_39_12, fr_39_13, fr_39_14, fr_39_15, kd_40, an_40, rd_40, kd_41, an_41, rd_41, kd_42, an_42, rd_42, kd_43, an_43, rd_43, kd_44, an_44, rd_44, kd_45, an_45, rd_45, kd_46, an_46, rd_46, kd_47, an_47, rd_47, kd_48, an_48, kd_49, an_49, tX3_finding0, tX3_finding1, tX3_finding2, tX3_finding3, tX3_finding4, tX3_finding5, tX3_finding6, tX4_finds0, tX4_finds1, tX4_finds2, tX4_finds3, tX4_finds4, tX4_finds5, tX4_finds6, x1, y1 _ u1, y2 _ u1, b2i_f hx, b2i_f hh, up_n, Nat.reduceLeDiff, Nat.reduceEqDiff, Nat.reduceAdd, if_true, if_false, b2i_T, b2i_F, and_self, and_false, false_and, true_and, and_true, true_or, or_true, false_or, or_false, or_self, not_true_eq_false, not_false_eq_true, eq_self, List.cons_append, List.nil_append]
    exact okQ.find h 3

end OP
