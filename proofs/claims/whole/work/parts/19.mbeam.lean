/-! PURE SPECS: the reference's beam -/
abbrev mK (s : Nat → Int32) : Nat → Int32 := fun p => s (5 + 4 * p)
abbrev mG (s : Nat → Int32) : Nat → Int32 := fun p => s (5 + 4 * p + 1)
abbrev mS (s : Nat → Int32) : Nat → Int32 := fun p => s (5 + 4 * p + 2)
abbrev mP (s : Nat → Int32) : Nat → Int32 := fun p => s (5 + 4 * p + 3)
/-- a row with its first 37 places out of another one -/
def sp_37 (f g : Nat → Int32) : Nat → Int32 := fun j => if j < 37 then f j else g j
section MB
variable {G : sx_G} {A : sx_A} {Z : sx_Z} {Q : List Value → sx_A → sx_Z → Prop} {n : Nat}
theorem z_0 : ¬ (0 : Int32) < 0 := by decide
theorem z_1 : ¬ (1 : Int32) < 0 := by decide
theorem z_2 : ¬ (2 : Int32) < 0 := by decide
theorem z_3 : ¬ (3 : Int32) < 0 := by decide
theorem z_4 : ¬ (4 : Int32) < 0 := by decide
theorem zc_0 : (0 : Int32).toNatClampNeg = 0 := by decide
theorem zc_1 : (1 : Int32).toNatClampNeg = 1 := by decide
theorem zc_2 : (2 : Int32).toNatClampNeg = 2 := by decide
theorem zc_3 : (3 : Int32).toNatClampNeg = 3 := by decide
theorem zc_4 : (4 : Int32).toNatClampNeg = 4 := by decide
theorem tX4_thoseAt_l {e : Int32} (hn : n ≤ 8) (hA : A 40 0 = nI n) : ∀ (k p : Nat), p + k = n → (sx_ev G mX4_thoseAt 4 [some (.ref 39), some (.int e), some (.int (sp_sit (mP (A 40)) e p)), some (.int (nI p))] [] A Z Q ↔ Q [.int (sp_sit (mP (A 40)) e n)] A Z) := by
  intro k
  induction k with
  | zero =>
    intro p hp
    have hp' : p = n := by omega
    subst hp'
    rw [eX4_thoseAt_4]
    have h1 : nI p ≤ nI p := nI_le (Nat.le_refl _) (by omega)
    simp only [eX4_thoseAt_0, eX4_thoseAt_1, eX4_thoseAt_2, eX4_thoseAt_3, eX4_thoseAt_5, eX4_thoseAt_6, eX4_thoseAt_9, eX4_thoseAt_10, eX4_thoseAt_11, eX4_thoseAt_14, eX4_thoseAt_15, eX4_thoseAt_16, eX4_thoseAt_17, eX4_thoseAt_18, eX4_thoseAt_21, eX4_thoseAt_22, eX4_thoseAt_25, eX4_thoseAt_26, eX4_thoseAt_27, eX4_thoseAt_28, eX4_thoseAt_31, eX4_thoseAt_32, eX4_thoseAt_33, eX4_thoseAt_34, eX4_thoseAt_37, eX4_thoseAt_40, eX4_thoseAt_41, kd_39, fr_39_0, fr_39_1, fr_39_2, fr_39_3, fr_39_4, fr_39_6, fr_39_12, fr_39_13, fr_39_14, fr_39_15, kd_40, an_40, rd_40, kd_41, an_41, rd_41, kd_42, an_42, rd_42, kd_43, an_43, rd_43, kd_44, an_44, rd_44, kd_45, an_45, rd_45, kd_46, an_46, rd_46, kd_47, an_47, rd_47, kd_48, an_48, kd_49, an_49, z_0, z_1, z_2, z_3, z_4, zc_0, zc_1, zc_2, zc_3, zc_4, hA, h1, Nat.reduceLeDiff, Nat.reduceEqDiff, Nat.reduceAdd, if_true, if_false, b2i_T, b2i_F, and_self, and_false, false_and, true_and, and_true, true_or, or_true, false_or, or_false, or_self, not_true_eq_false, not_false_eq_true, eq_self, List.cons_append, List.nil_append]
  | succ k ih =>
    intro p hp'
    rw [eX4_thoseAt_4]
    have hp : p < 8 := by omega
    have h1 : ¬ nI n ≤ nI p := nI_ge (by omega) (by omega)
    have h4 := ih (p + 1) (by omega)
    rw [sp_sit, nI_succ] at h4
    simp only [eX4_thoseAt_0, eX4_thoseAt_1, eX4_thoseAt_2, eX4_thoseAt_3, eX4_thoseAt_5, eX4_thoseAt_6, eX4_thoseAt_9, eX4_thoseAt_10, eX4_thoseAt_11, eX4_thoseAt_14, eX4_thoseAt_15, eX4_thoseAt_16, eX4_thoseAt_17, eX4_thoseAt_18, eX4_thoseAt_21, eX4_thoseAt_22, eX4_thoseAt_25, eX4_thoseAt_26, eX4_thoseAt_27, eX4_thoseAt_28, eX4_thoseAt_31, eX4_thoseAt_32, eX4_thoseAt_33, eX4_thoseAt_34, eX4_thoseAt_37, eX4_thoseAt_40, eX4_thoseAt_41, kd_39, fr_39_0, fr_39_1, fr_39_2, fr_39_3, fr_39_4, fr_39_6, fr_39_12, fr_39_13, fr_39_14, fr_39_15, kd_40, an_40, rd_40, kd_41, an_41, rd_41, kd_42, an_42, rd_42, kd_43, an_43, rd_43, kd_44, an_44, rd_44, kd_45, an_45, rd_45, kd_46, an_46, rd_46, kd_47, an_47, rd_47, kd_48, an_48, kd_49, an_49, z_0, z_1, z_2, z_3, z_4, zc_0, zc_1, zc_2, zc_3, zc_4, tX4_its0 hp, tX4_its1 hp, tX4_its2 hp, tX4_its3 hp, hA, h1, Nat.reduceLeDiff, Nat.reduceEqDiff, Nat.reduceAdd, if_true, if_false, b2i_T, b2i_F, and_self, and_false, false_and, true_and, and_true, true_or, or_true, false_or, or_false, or_self, not_true_eq_false, not_false_eq_true, eq_self, List.cons_append, List.nil_append]
    by_cases hc : mP (A 40) p = e
    · have hc' : A 40 (5 + 4 * p + 3) = e := hc
      simp only [hc, hc', Nat.reduceLeDiff, Nat.reduceEqDiff, Nat.reduceAdd, if_true, if_false, b2i_T, b2i_F, and_self, and_false, false_and, true_and, and_true, true_or, or_true, false_or, or_false, or_self, not_true_eq_false, not_false_eq_true, eq_self, List.cons_append, List.nil_append] at h4 ⊢
      exact h4
    · have hc' : ¬ A 40 (5 + 4 * p + 3) = e := hc
      simp only [hc, hc', Int32.or_zero, Nat.reduceLeDiff, Nat.reduceEqDiff, Nat.reduceAdd, if_true, if_false, b2i_T, b2i_F, and_self, and_false, false_and, true_and, and_true, true_or, or_true, false_or, or_false, or_self, not_true_eq_false, not_false_eq_true, eq_self, List.cons_append, List.nil_append] at h4 ⊢
      exact h4
theorem tX4_thoseAt {e : Int32} (hn : n ≤ 8) (hA : A 40 0 = nI n) : sx_call G mX4_thoseAt [.ref 39, .int e] A Z Q ↔ Q [.int (sp_sit (mP (A 40)) e n)] A Z := by
  rw [sx_call_in (L := [some (.ref 39), some (.int e), none, none]) rfl rfl]
  rw [← tX4_thoseAt_l (G := G) (Z := Z) (Q := Q) (e := e) hn hA n 0 (by omega)]
  simp only [eX4_thoseAt_0, eX4_thoseAt_1, eX4_thoseAt_2, eX4_thoseAt_3, eX4_thoseAt_5, eX4_thoseAt_6, eX4_thoseAt_9, eX4_thoseAt_10, eX4_thoseAt_11, eX4_thoseAt_14, eX4_thoseAt_15, eX4_thoseAt_16, eX4_thoseAt_17, eX4_thoseAt_18, eX4_thoseAt_21, eX4_thoseAt_22, eX4_thoseAt_25, eX4_thoseAt_26, eX4_thoseAt_27, eX4_thoseAt_28, eX4_thoseAt_31, eX4_thoseAt_32, eX4_thoseAt_33, eX4_thoseAt_34, eX4_thoseAt_37, eX4_thoseAt_40, eX4_thoseAt_41]
  rfl
theorem tX4_loadOf_l {i : Nat} (hn : n ≤ 8) (hA : A 40 0 = nI n) : ∀ (k p : Nat), p + k = n → (sx_ev G mX4_loadOf 14 [some (.ref 39), some (.int (nI i)), some (.int (sp_load (mK (A 40)) (mG (A 40)) (mS (A 40)) (mP (A 40)) (A 40 1) (nI i) (A 40 (3 + i)) p)), some (.int (nI p))] [] A Z Q ↔ Q [.int (sp_load (mK (A 40)) (mG (A 40)) (mS (A 40)) (mP (A 40)) (A 40 1) (nI i) (A 40 (3 + i)) n)] A Z) := by
  intro k
  induction k with
  | zero =>
    intro p hp
    have hp' : p = n := by omega
    subst hp'
    rw [eX4_loadOf_14]
    have h1 : nI p ≤ nI p := nI_le (Nat.le_refl _) (by omega)
    simp only [eX4_loadOf_0, eX4_loadOf_2, eX4_loadOf_3, eX4_loadOf_6, eX4_loadOf_7, eX4_loadOf_8, eX4_loadOf_9, eX4_loadOf_10, eX4_loadOf_11, eX4_loadOf_12, eX4_loadOf_13, eX4_loadOf_15, eX4_loadOf_16, eX4_loadOf_19, eX4_loadOf_20, eX4_loadOf_21, eX4_loadOf_24, eX4_loadOf_25, eX4_loadOf_26, eX4_loadOf_27, eX4_loadOf_28, eX4_loadOf_31, eX4_loadOf_32, eX4_loadOf_35, eX4_loadOf_36, eX4_loadOf_37, eX4_loadOf_40, eX4_loadOf_43, eX4_loadOf_44, eX4_loadOf_45, eX4_loadOf_46, eX4_loadOf_49, eX4_loadOf_52, eX4_loadOf_53, kd_39, fr_39_0, fr_39_1, fr_39_2, fr_39_3, fr_39_4, fr_39_6, fr_39_12, fr_39_13, fr_39_14, fr_39_15, kd_40, an_40, rd_40, kd_41, an_41, rd_41, kd_42, an_42, rd_42, kd_43, an_43, rd_43, kd_44, an_44, rd_44, kd_45, an_45, rd_45, kd_46, an_46, rd_46, kd_47, an_47, rd_47, kd_48, an_48, kd_49, an_49, z_0, z_1, z_2, z_3, z_4, zc_0, zc_1, zc_2, zc_3, zc_4, hA, h1, Nat.reduceLeDiff, Nat.reduceEqDiff, Nat.reduceAdd, if_true, if_false, b2i_T, b2i_F, and_self, and_false, false_and, true_and, and_true, true_or, or_true, false_or, or_false, or_self, not_true_eq_false, not_false_eq_true, eq_self, List.cons_append, List.nil_append]
  | succ k ih =>
    intro p hp'
    rw [eX4_loadOf_14]
    have hp : p < 8 := by omega
    have h1 : ¬ nI n ≤ nI p := nI_ge (by omega) (by omega)
    have h4 := ih (p + 1) (by omega)
    rw [sp_load, nI_succ] at h4
    simp only [eX4_loadOf_0, eX4_loadOf_2, eX4_loadOf_3, eX4_loadOf_6, eX4_loadOf_7, eX4_loadOf_8, eX4_loadOf_9, eX4_loadOf_10, eX4_loadOf_11, eX4_loadOf_12, eX4_loadOf_13, eX4_loadOf_15, eX4_loadOf_16, eX4_loadOf_19, eX4_loadOf_20, eX4_loadOf_21, eX4_loadOf_24, eX4_loadOf_25, eX4_loadOf_26, eX4_loadOf_27, eX4_loadOf_28, eX4_loadOf_31, eX4_loadOf_32, eX4_loadOf_35, eX4_loadOf_36, eX4_loadOf_37, eX4_loadOf_40, eX4_loadOf_43, eX4_loadOf_44, eX4_loadOf_45, eX4_loadOf_46, eX4_loadOf_49, eX4_loadOf_52, eX4_loadOf_53, kd_39, fr_39_0, fr_39_1, fr_39_2, fr_39_3, fr_39_4, fr_39_6, fr_39_12, fr_39_13, fr_39_14, fr_39_15, kd_40, an_40, rd_40, kd_41, an_41, rd_41, kd_42, an_42, rd_42, kd_43, an_43, rd_43, kd_44, an_44, rd_44, kd_45, an_45, rd_45, kd_46, an_46, rd_46, kd_47, an_47, rd_47, kd_48, an_48, kd_49, an_49, z_0, z_1, z_2, z_3, z_4, zc_0, zc_1, zc_2, zc_3, zc_4, tX4_its0 hp, tX4_its1 hp, tX4_its2 hp, tX4_its3 hp, tX4_heartOf hp, hA, h1, Nat.reduceLeDiff, Nat.reduceEqDiff, Nat.reduceAdd, if_true, if_false, b2i_T, b2i_F, and_self, and_false, false_and, true_and, and_true, true_or, or_true, false_or, or_false, or_self, not_true_eq_false, not_false_eq_true, eq_self, List.cons_append, List.nil_append]
    by_cases hc : mP (A 40) p = nI i
    · have hc' : A 40 (5 + 4 * p + 3) = nI i := hc
      simp only [hc, hc', Nat.reduceLeDiff, Nat.reduceEqDiff, Nat.reduceAdd, if_true, if_false, b2i_T, b2i_F, and_self, and_false, false_and, true_and, and_true, true_or, or_true, false_or, or_false, or_self, not_true_eq_false, not_false_eq_true, eq_self, List.cons_append, List.nil_append] at h4 ⊢
      exact h4
    · have hc' : ¬ A 40 (5 + 4 * p + 3) = nI i := hc
      simp only [hc, hc', Int32.add_zero, Nat.reduceLeDiff, Nat.reduceEqDiff, Nat.reduceAdd, if_true, if_false, b2i_T, b2i_F, and_self, and_false, false_and, true_and, and_true, true_or, or_true, false_or, or_false, or_self, not_true_eq_false, not_false_eq_true, eq_self, List.cons_append, List.nil_append] at h4 ⊢
      exact h4
theorem tX4_loadOf {i : Nat} (hn : n ≤ 8) (hA : A 40 0 = nI n) (hi : i < 2) : sx_call G mX4_loadOf [.ref 39, .int (nI i)] A Z Q ↔ Q [.int (sp_load (mK (A 40)) (mG (A 40)) (mS (A 40)) (mP (A 40)) (A 40 1) (nI i) (A 40 (3 + i)) n)] A Z := by
  rw [sx_call_in (L := [some (.ref 39), some (.int (nI i)), none, none]) rfl rfl]
  rw [← tX4_loadOf_l (G := G) (Z := Z) (Q := Q) (i := i) hn hA n 0 (by omega)]
  have e1 : (3 : Int32) + nI i = nI (3 + i) := nI_add 3 i
  have h2 : ¬ nI (3 + i) < 0 := nI_pos (by omega)
  have h5 : ¬ 37 ≤ 3 + i := by omega
  have h3 : (nI (3 + i)).toNatClampNeg = 3 + i := nI_clamp (by omega)
  simp only [eX4_loadOf_0, eX4_loadOf_2, eX4_loadOf_3, eX4_loadOf_6, eX4_loadOf_7, eX4_loadOf_8, eX4_loadOf_9, eX4_loadOf_10, eX4_loadOf_11, eX4_loadOf_12, eX4_loadOf_13, eX4_loadOf_15, eX4_loadOf_16, eX4_loadOf_19, eX4_loadOf_20, eX4_loadOf_21, eX4_loadOf_24, eX4_loadOf_25, eX4_loadOf_26, eX4_loadOf_27, eX4_loadOf_28, eX4_loadOf_31, eX4_loadOf_32, eX4_loadOf_35, eX4_loadOf_36, eX4_loadOf_37, eX4_loadOf_40, eX4_loadOf_43, eX4_loadOf_44, eX4_loadOf_45, eX4_loadOf_46, eX4_loadOf_49, eX4_loadOf_52, eX4_loadOf_53, kd_39, fr_39_0, fr_39_1, fr_39_2, fr_39_3, fr_39_4, fr_39_6, fr_39_12, fr_39_13, fr_39_14, fr_39_15, kd_40, an_40, rd_40, kd_41, an_41, rd_41, kd_42, an_42, rd_42, kd_43, an_43, rd_43, kd_44, an_44, rd_44, kd_45, an_45, rd_45, kd_46, an_46, rd_46, kd_47, an_47, rd_47, kd_48, an_48, kd_49, an_49, e1, h2, h3, h5, Nat.reduceLeDiff, Nat.reduceEqDiff, Nat.reduceAdd, if_true, if_false, b2i_T, b2i_F, and_self, and_false, false_and, true_and, and_true, true_or, or_true, false_or, or_false, or_self, not_true_eq_false, not_false_eq_true, eq_self, List.cons_append, List.nil_append]
  rfl
theorem tX4_isHanging (hn : n ≤ 8) (hA : A 40 0 = nI n) : sx_call G mX4_isHanging [.ref 39] A Z Q ↔ Q [.int (b2i (sp_hangs (mP (A 40)) n))] A Z := by
  rw [sx_call_in (L := [some (.ref 39)]) rfl rfl]
  simp only [eX4_isHanging_0, eX4_isHanging_1, eX4_isHanging_2, eX4_isHanging_5, eX4_isHanging_8, eX4_isHanging_9, eX4_isHanging_10, eX4_isHanging_13, eX4_isHanging_16, eX4_isHanging_17, eX4_isHanging_20, eX4_isHanging_21, kd_39, fr_39_0, fr_39_1, fr_39_2, fr_39_3, fr_39_4, fr_39_6, fr_39_12, fr_39_13, fr_39_14, fr_39_15, kd_40, an_40, rd_40, kd_41, an_41, rd_41, kd_42, an_42, rd_42, kd_43, an_43, rd_43, kd_44, an_44, rd_44, kd_45, an_45, rd_45, kd_46, an_46, rd_46, kd_47, an_47, rd_47, kd_48, an_48, kd_49, an_49, tX4_thoseAt hn hA, Nat.reduceLeDiff, Nat.reduceEqDiff, Nat.reduceAdd, if_true, if_false, b2i_T, b2i_F, and_self, and_false, false_and, true_and, and_true, true_or, or_true, false_or, or_false, or_self, not_true_eq_false, not_false_eq_true, eq_self, List.cons_append, List.nil_append]
  unfold sp_hangs
  by_cases h1 : sp_sit (mP (A 40)) 0 n = 0
  · simp only [h1, Nat.reduceLeDiff, Nat.reduceEqDiff, Nat.reduceAdd, if_true, if_false, b2i_T, b2i_F, and_self, and_false, false_and, true_and, and_true, true_or, or_true, false_or, or_false, or_self, not_true_eq_false, not_false_eq_true, eq_self, List.cons_append, List.nil_append]
  · by_cases h2 : sp_sit (mP (A 40)) 1 n = 0
    · simp only [h1, h2, Nat.reduceLeDiff, Nat.reduceEqDiff, Nat.reduceAdd, if_true, if_false, b2i_T, b2i_F, and_self, and_false, false_and, true_and, and_true, true_or, or_true, false_or, or_false, or_self, not_true_eq_false, not_false_eq_true, eq_self, List.cons_append, List.nil_append]
    · simp only [h1, h2, Nat.reduceLeDiff, Nat.reduceEqDiff, Nat.reduceAdd, if_true, if_false, b2i_T, b2i_F, and_self, and_false, false_and, true_and, and_true, true_or, or_true, false_or, or_false, or_self, not_true_eq_false, not_false_eq_true, eq_self, List.cons_append, List.nil_append]
/-- TILT of the reference's row -/
abbrev sm_tilt (s : Nat → Int32) (n : Nat) : Int32 := sp_tilt (mK s) (mG s) (mS s) (mP s) (s 1) (s 3) (s 4) n
theorem tX4_tiltNow (hn : n ≤ 8) (hA : A 40 0 = nI n) : sx_call G mX4_tiltNow [.ref 39] A Z Q ↔ Q [.int (sm_tilt (A 40) n)] A Z := by
  rw [sx_call_in (L := [some (.ref 39)]) rfl rfl]
  have l0 := fun (Q : List Value → sx_A → sx_Z → Prop) => tX4_loadOf (G := G) (Z := Z) (Q := Q) (i := 0) hn hA (by omega)
  have l1 := fun (Q : List Value → sx_A → sx_Z → Prop) => tX4_loadOf (G := G) (Z := Z) (Q := Q) (i := 1) hn hA (by omega)
  rw [show nI 0 = 0 from rfl] at l0
  rw [show nI 1 = 1 from rfl] at l1
  simp only [eX4_tiltNow_0, eX4_tiltNow_1, eX4_tiltNow_4, eX4_tiltNow_7, eX4_tiltNow_8, eX4_tiltNow_9, eX4_tiltNow_12, eX4_tiltNow_13, eX4_tiltNow_14, eX4_tiltNow_17, eX4_tiltNow_18, eX4_tiltNow_21, eX4_tiltNow_24, kd_39, fr_39_0, fr_39_1, fr_39_2, fr_39_3, fr_39_4, fr_39_6, fr_39_12, fr_39_13, fr_39_14, fr_39_15, kd_40, an_40, rd_40, kd_41, an_41, rd_41, kd_42, an_42, rd_42, kd_43, an_43, rd_43, kd_44, an_44, rd_44, kd_45, an_45, rd_45, kd_46, an_46, rd_46, kd_47, an_47, rd_47, kd_48, an_48, kd_49, an_49, tX4_isHanging hn hA, l0, l1, b2i_0, Nat.reduceLeDiff, Nat.reduceEqDiff, Nat.reduceAdd, if_true, if_false, b2i_T, b2i_F, and_self, and_false, false_and, true_and, and_true, true_or, or_true, false_or, or_false, or_self, not_true_eq_false, not_false_eq_true, eq_self, List.cons_append, List.nil_append]
  unfold sm_tilt sp_tilt
  by_cases h : sp_hangs (mP (A 40)) n
  · rw [if_neg (fun z => z h), if_pos h]
  · rw [if_pos h, if_neg h]
theorem tX4_far (hn : n ≤ 8) (hA : A 40 0 = nI n) : sx_call G mX4_far [.ref 39] A Z Q ↔ Q [.int (if 0 ≤ sm_tilt (A 40) n then sm_tilt (A 40) n else - sm_tilt (A 40) n)] A Z := by
  rw [sx_call_in (L := [some (.ref 39), none]) rfl rfl]
  simp only [eX4_far_0, eX4_far_1, eX4_far_4, eX4_far_5, eX4_far_6, eX4_far_9, eX4_far_10, eX4_far_11, eX4_far_14, eX4_far_15, kd_39, fr_39_0, fr_39_1, fr_39_2, fr_39_3, fr_39_4, fr_39_6, fr_39_12, fr_39_13, fr_39_14, fr_39_15, kd_40, an_40, rd_40, kd_41, an_41, rd_41, kd_42, an_42, rd_42, kd_43, an_43, rd_43, kd_44, an_44, rd_44, kd_45, an_45, rd_45, kd_46, an_46, rd_46, kd_47, an_47, rd_47, kd_48, an_48, kd_49, an_49, tX4_tiltNow hn hA, Nat.reduceLeDiff, Nat.reduceEqDiff, Nat.reduceAdd, if_true, if_false, b2i_T, b2i_F, and_self, and_false, false_and, true_and, and_true, true_or, or_true, false_or, or_false, or_self, not_true_eq_false, not_false_eq_true, eq_self, List.cons_append, List.nil_append]
  split <;> rfl
/-- what a MINUTE gives to GLAD, as the reference reckons it -/
def sm_half (g r : Int32) : Int32 := (if 0 ≤ g - r then g - r else - (g - r)) / 2
def sm_by (k g r : Int32) : Int32 := if sm_half g r ≤ sp_mixes k g then sm_half g r else sp_mixes k g
def sm_gl (k g r : Int32) : Int32 := if g - r ≤ 0 then sm_by k g r else - sm_by k g r
theorem tX4_isMixing {p : Nat} (hp : p < 8) : sx_call G mX4_isMixing [.ref 39, .int (nI p)] A Z Q ↔ Q [] (va_up A 40 (upd (upd (A 40) (5 + 4 * p + 1) (A 40 (5 + 4 * p + 1) + sm_gl (A 40 (5 + 4 * p)) (A 40 (5 + 4 * p + 1)) (A 40 (5 + 4 * p + 2)))) (5 + 4 * p + 2) (A 40 (5 + 4 * p + 2) - sm_gl (A 40 (5 + 4 * p)) (A 40 (5 + 4 * p + 1)) (A 40 (5 + 4 * p + 2))))) Z := by
  rw [sx_call_in (L := [some (.ref 39), some (.int (nI p)), none, none, none, none]) rfl rfl]
  have i1 : (5 : Int32) + 4 * nI p + 1 = nI (5 + 4 * p + 1) := ix_4 (w := 1)
  have i2 : (5 : Int32) + 4 * nI p + 2 = nI (5 + 4 * p + 2) := ix_4 (w := 2)
  have h21 : ¬ nI (5 + 4 * p + 1) < 0 := nI_pos (by omega)
  have h51 : ¬ 37 ≤ 5 + 4 * p + 1 := by omega
  have h31 : (nI (5 + 4 * p + 1)).toNatClampNeg = 5 + 4 * p + 1 := nI_clamp (by omega)
  have h22 : ¬ nI (5 + 4 * p + 2) < 0 := nI_pos (by omega)
  have h52 : ¬ 37 ≤ 5 + 4 * p + 2 := by omega
  have h32 : (nI (5 + 4 * p + 2)).toNatClampNeg = 5 + 4 * p + 2 := nI_clamp (by omega)
  have hne : ¬ 5 + 4 * p + 2 = 5 + 4 * p + 1 := by omega
  simp only [eX4_isMixing_0, eX4_isMixing_1, eX4_isMixing_2, eX4_isMixing_3, eX4_isMixing_6, eX4_isMixing_7, eX4_isMixing_8, eX4_isMixing_9, eX4_isMixing_12, eX4_isMixing_13, eX4_isMixing_14, eX4_isMixing_15, eX4_isMixing_18, eX4_isMixing_19, eX4_isMixing_20, eX4_isMixing_23, eX4_isMixing_24, eX4_isMixing_25, eX4_isMixing_26, eX4_isMixing_27, eX4_isMixing_28, eX4_isMixing_29, eX4_isMixing_32, eX4_isMixing_33, eX4_isMixing_36, eX4_isMixing_37, eX4_isMixing_38, eX4_isMixing_41, eX4_isMixing_44, eX4_isMixing_45, eX4_isMixing_47, eX4_isMixing_48, eX4_isMixing_51, eX4_isMixing_53, eX4_isMixing_54, eX4_isMixing_57, eX4_isMixing_59, eX4_isMixing_61, eX4_isMixing_62, eX4_isMixing_65, eX4_isMixing_66, eX4_isMixing_67, eX4_isMixing_70, eX4_isMixing_71, eX4_isMixing_72, eX4_isMixing_74, eX4_isMixing_75, eX4_isMixing_76, eX4_isMixing_77, eX4_isMixing_80, eX4_isMixing_81, eX4_isMixing_82, eX4_isMixing_85, eX4_isMixing_86, eX4_isMixing_87, eX4_isMixing_89, eX4_isMixing_90, eX4_isMixing_91, kd_39, fr_39_0, fr_39_1, fr_39_2, fr_39_3, fr_39_4, fr_39_6, fr_39_12, fr_39_13, fr_39_14, fr_39_15, kd_40, an_40, rd_40, kd_41, an_41, rd_41, kd_42, an_42, rd_42, kd_43, an_43, rd_43, kd_44, an_44, rd_44, kd_45, an_45, rd_45, kd_46, an_46, rd_46, kd_47, an_47, rd_47, kd_48, an_48, kd_49, an_49, tX4_its0 hp, tX4_its1 hp, tX4_its2 hp, tX4_its3 hp, tX4_mixesOf hp, tX4_spotOf, i1, i2, h21, h51, h31, h22, h52, h32, up_s, up_up, ud_n hne, Nat.reduceLeDiff, Nat.reduceEqDiff, Nat.reduceAdd, if_true, if_false, b2i_T, b2i_F, and_self, and_false, false_and, true_and, and_true, true_or, or_true, false_or, or_false, or_self, not_true_eq_false, not_false_eq_true, eq_self, List.cons_append, List.nil_append]
  unfold sm_gl sm_by sm_half
  repeat' split
  all_goals rfl
end MB
