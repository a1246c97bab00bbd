/-! THE CALLS, ONE BY ONE: on, level, mixed -/
/-- the first of k from i on where it is so -/
def fs (f : Nat → Bool) : Nat → Nat → Nat
  | 0, i => i
  | k + 1, i => if f i = true then i else fs f k (i + 1)
theorem fs_c {f g : Nat → Bool} (h : ∀ j, f j = g j) : ∀ k i, fs f k i = fs g k i
  | 0, _ => rfl
  | k + 1, i => by unfold fs; rw [h i, fs_c h k (i + 1)]
theorem fs_le {f : Nat → Bool} : ∀ k i, fs f k i ≤ i + k
  | 0, _ => Nat.le_refl _
  | k + 1, i => by
    unfold fs
    split
    · omega
    · have := fs_le (f := f) k (i + 1); omega

section OP
variable {G : sx_G} {c n : Nat} {A : sx_A} {Z : sx_Z} {Q : List Value → sx_A → sx_Z → Prop}

theorem lX3_level {B : sx_A} (hn : n ≤ 8) (hA : B 13 5 = nI n) : ∀ k i, i + k = 101 → (sx_ev G mX3_level 13 [some (.ref 0), some (.int (nI i))] [] (bm_go B 13 n i) Z Q ↔ if fs (fun j => decide (sx_tilt (bm_go B 13 n j) 13 n = 0)) k i ≤ 100 then Q [.int (nI (fs (fun j => decide (sx_tilt (bm_go B 13 n j) 13 n = 0)) k i))] (bm_go B 13 n (fs (fun j => decide (sx_tilt (bm_go B 13 n j) 13 n = 0)) k i)) Z else Q [.int (-1000000004)] (va_up (bm_go B 13 n (fs (fun j => decide (sx_tilt (bm_go B 13 n j) 13 n = 0)) k i)) 38 (upd (bm_go B 13 n (fs (fun j => decide (sx_tilt (bm_go B 13 n j) 13 n = 0)) k i) 38) 3 (bm_go B 13 n (fs (fun j => decide (sx_tilt (bm_go B 13 n j) 13 n = 0)) k i) 38 3 + 1))) Z) := by
  intro k
  induction k with
  | zero =>
    intro i hi
    obtain rfl : i = 101 := by omega
    rw [eX3_level_13]
    have h1 : (100 : Int32) < nI 101 := by decide
    simp only [eX3_level_0, eX3_level_1, eX3_level_4, eX3_level_5, eX3_level_8, eX3_level_11, eX3_level_12, eX3_level_14, eX3_level_16, eX3_level_19, eX3_level_20, eX3_level_23, eX3_level_26, eX3_level_29, eX3_level_30, eX3_level_31, eX3_level_32, eX3_level_35, eX3_level_36, eX3_level_39, eX3_level_42, eX3_level_45, eX3_level_46, eX3_level_48, eX3_level_51, kd_0, fr_0_0, fr_0_1, fr_0_2, fr_0_3, fr_0_4, fr_0_5, fr_0_6, fr_0_7, fr_0_8, kd_1, fr_1_0, fr_1_1, fr_1_2, fr_1_3, fr_1_4, kd_2, an_2, rd_2, kd_3, an_3, rd_3, kd_4, an_4, rd_4, kd_5, an_5, rd_5, kd_6, an_6, rd_6, kd_7, kd_13, fr_13_0, fr_13_1, fr_13_2, fr_13_3, fr_13_4, kd_14, an_14, rd_14, kd_15, an_15, rd_15, kd_16, an_16, rd_16, kd_17, an_17, rd_17, kd_19, fr_19_3, kd_23, an_23, rd_23, kd_25, an_25, rd_25, kd_26, an_26, rd_26, kd_27, fr_27_0, kd_28, an_28, rd_28, kd_29, an_29, kd_38, an_38, rd_38, tX3_finding0, tX3_finding1, tX3_finding2, tX3_finding3, tX3_finding4, tX3_finding5, tX3_finding6, h1, fs, Nat.reduceLeDiff, Nat.reduceEqDiff, Nat.reduceAdd, if_true, if_false, b2i_T, b2i_F, and_self, and_false, false_and, true_and, and_true, true_or, or_true, false_or, or_false, or_self, not_true_eq_false, not_false_eq_true, eq_self, List.cons_append, List.nil_append]
  | succ k ih =>
    intro i hi
    rw [eX3_level_13]
    have h1 : ¬ (100 : Int32) < nI i := Int32.not_lt.mpr (nI_le (a := i) (b := 100) (by omega) (by omega))
    have h4 := ih (i + 1) (by omega)
    rw [nI_succ, bm_go] at h4
    have x1 := fun (Q : List Value → sx_A → sx_Z → Prop) => tX0_goOn (G := G) (A := bm_go B 13 n i) (Z := Z) (Q := Q) (b := 13) (m := 1) isB13 hn (by rw [bm_go_5]; exact hA) (by omega)
    rw [show nI 1 = 1 from rfl] at x1
    have x2 := fun (Q : List Value → sx_A → sx_Z → Prop) => tX0_isLevel (G := G) (A := bm_go B 13 n i) (Z := Z) (Q := Q) (b := 13) isB13 hn (by rw [bm_go_5]; exact hA)
    unfold fs
    by_cases hc : sx_tilt (bm_go B 13 n i) 13 n = 0
    · have h5 : i ≤ 100 := by omega
      simp only [eX3_level_0, eX3_level_1, eX3_level_4, eX3_level_5, eX3_level_8, eX3_level_11, eX3_level_12, eX3_level_14, eX3_level_16, eX3_level_19, eX3_level_20, eX3_level_23, eX3_level_26, eX3_level_29, eX3_level_30, eX3_level_31, eX3_level_32, eX3_level_35, eX3_level_36, eX3_level_39, eX3_level_42, eX3_level_45, eX3_level_46, eX3_level_48, eX3_level_51, kd_0, fr_0_0, fr_0_1, fr_0_2, fr_0_3, fr_0_4, fr_0_5, fr_0_6, fr_0_7, fr_0_8, kd_1, fr_1_0, fr_1_1, fr_1_2, fr_1_3, fr_1_4, kd_2, an_2, rd_2, kd_3, an_3, rd_3, kd_4, an_4, rd_4, kd_5, an_5, rd_5, kd_6, an_6, rd_6, kd_7, kd_13, fr_13_0, fr_13_1, fr_13_2, fr_13_3, fr_13_4, kd_14, an_14, rd_14, kd_15, an_15, rd_15, kd_16, an_16, rd_16, kd_17, an_17, rd_17, kd_19, fr_19_3, kd_23, an_23, rd_23, kd_25, an_25, rd_25, kd_26, an_26, rd_26, kd_27, fr_27_0, kd_28, an_28, rd_28, kd_29, an_29, kd_38, an_38, rd_38, h1, x2, b2i_t hc, one_ne0, hc, decide_true, h5, Nat.reduceLeDiff, Nat.reduceEqDiff, Nat.reduceAdd, if_true, if_false, b2i_T, b2i_F, and_self, and_false, false_and, true_and, and_true, true_or, or_true, false_or, or_false, or_self, not_true_eq_false, not_false_eq_true, eq_self, List.cons_append, List.nil_append]
    · simp only [eX3_level_0, eX3_level_1, eX3_level_4, eX3_level_5, eX3_level_8, eX3_level_11, eX3_level_12, eX3_level_14, eX3_level_16, eX3_level_19, eX3_level_20, eX3_level_23, eX3_level_26, eX3_level_29, eX3_level_30, eX3_level_31, eX3_level_32, eX3_level_35, eX3_level_36, eX3_level_39, eX3_level_42, eX3_level_45, eX3_level_46, eX3_level_48, eX3_level_51, kd_0, fr_0_0, fr_0_1, fr_0_2, fr_0_3, fr_0_4, fr_0_5, fr_0_6, fr_0_7, fr_0_8, kd_1, fr_1_0, fr_1_1, fr_1_2, fr_1_3, fr_1_4, kd_2, an_2, rd_2, kd_3, an_3, rd_3, kd_4, an_4, rd_4, kd_5, an_5, rd_5, kd_6, an_6, rd_6, kd_7, kd_13, fr_13_0, fr_13_1, fr_13_2, fr_13_3, fr_13_4, kd_14, an_14, rd_14, kd_15, an_15, rd_15, kd_16, an_16, rd_16, kd_17, an_17, rd_17, kd_19, fr_19_3, kd_23, an_23, rd_23, kd_25, an_25, rd_25, kd_26, an_26, rd_26, kd_27, fr_27_0, kd_28, an_28, rd_28, kd_29, an_29, kd_38, an_38, rd_38, h1, x1, x2, b2i_f hc, hc, decide_false, Bool.false_eq_true, Nat.reduceLeDiff, Nat.reduceEqDiff, Nat.reduceAdd, if_true, if_false, b2i_T, b2i_F, and_self, and_false, false_and, true_and, and_true, true_or, or_true, false_or, or_false, or_self, not_true_eq_false, not_false_eq_true, eq_self, List.cons_append, List.nil_append]
      exact h4

theorem lX4_level {C : sx_A} {s : Nat → Int32} {l2 : Option Value} (hn : n ≤ 8) (hA : s 0 = nI n) : ∀ k i, i + k = 101 → (sx_ev G mX4_level 6 [some (.ref 39), some (.int (nI i)), l2] [] (va_up C 40 (mm_go s n i)) Z Q ↔ if fs (fun j => decide (sm_tilt (mm_go s n j) n = 0)) k i ≤ 100 then Q [.int (nI (fs (fun j => decide (sm_tilt (mm_go s n j) n = 0)) k i))] (va_up C 40 (sp_cp (C 43) (mm_go s n (fs (fun j => decide (sm_tilt (mm_go s n j) n = 0)) k i)) 37)) Z else Q [.int (-1000000004)] (va_up (va_up C 40 (sp_cp (C 43) (mm_go s n (fs (fun j => decide (sm_tilt (mm_go s n j) n = 0)) k i)) 37)) 44 (upd (C 44) 3 (C 44 3 + 1))) Z) := by
  intro k
  have y4 := fun (A' : sx_A) (u : Int32) (Q : List Value → sx_A → sx_Z → Prop) => tX4_takesBack (G := G) (A := A') (Z := Z) (Q := Q) (v := u)
  induction k with
  | zero =>
    intro i hi
    obtain rfl : i = 101 := by omega
    rw [eX4_level_6]
    have h1 : (100 : Int32) < nI 101 := by decide
    have h2 : ¬ nI 101 ≤ (100 : Int32) := by decide
    simp only [eX4_level_0, eX4_level_1, eX4_level_4, eX4_level_5, eX4_level_7, eX4_level_9, eX4_level_12, eX4_level_13, eX4_level_16, eX4_level_19, eX4_level_20, eX4_level_23, eX4_level_26, eX4_level_29, eX4_level_30, eX4_level_31, eX4_level_34, eX4_level_35, eX4_level_36, eX4_level_38, eX4_level_41, eX4_level_42, eX4_level_44, eX4_level_47, eX4_level_50, eX4_level_51, kd_39, fr_39_0, fr_39_1, fr_39_2, fr_39_3, fr_39_4, fr_39_6, fr_39_12, fr_39_13, fr_39_14, fr_39_15, kd_40, an_40, rd_40, kd_41, an_41, rd_41, kd_42, an_42, rd_42, kd_43, an_43, rd_43, kd_44, an_44, rd_44, kd_45, an_45, rd_45, kd_46, an_46, rd_46, kd_47, an_47, rd_47, kd_48, an_48, kd_49, an_49, tX4_finds0, tX4_finds1, tX4_finds2, tX4_finds3, tX4_finds4, tX4_finds5, tX4_finds6, h1, h2, fs, y4, up_n, up_s, up_up, Nat.reduceLeDiff, Nat.reduceEqDiff, Nat.reduceAdd, if_true, if_false, b2i_T, b2i_F, and_self, and_false, false_and, true_and, and_true, true_or, or_true, false_or, or_false, or_self, not_true_eq_false, not_false_eq_true, eq_self, List.cons_append, List.nil_append]
  | succ k ih =>
    intro i hi
    rw [eX4_level_6]
    have h2 : nI i ≤ (100 : Int32) := nI_le (a := i) (b := 100) (by omega) (by omega)
    have h1 : ¬ (100 : Int32) < nI i := Int32.not_lt.mpr h2
    have h4 := ih (i + 1) (by omega)
    rw [nI_succ, mm_go] at h4
    have x1 := fun (Q : List Value → sx_A → sx_Z → Prop) => tX4_minute (G := G) (A := va_up C 40 (mm_go s n i)) (Z := Z) (Q := Q) hn (by rw [up_s, mm_go_0]; exact hA)
    have x2 := fun (Q : List Value → sx_A → sx_Z → Prop) => tX4_tiltNow (G := G) (A := va_up C 40 (mm_go s n i)) (Z := Z) (Q := Q) hn (by rw [up_s, mm_go_0]; exact hA)
    unfold fs
    by_cases hc : sm_tilt (mm_go s n i) n = 0
    · have h5 : i ≤ 100 := by omega
      simp only [eX4_level_0, eX4_level_1, eX4_level_4, eX4_level_5, eX4_level_7, eX4_level_9, eX4_level_12, eX4_level_13, eX4_level_16, eX4_level_19, eX4_level_20, eX4_level_23, eX4_level_26, eX4_level_29, eX4_level_30, eX4_level_31, eX4_level_34, eX4_level_35, eX4_level_36, eX4_level_38, eX4_level_41, eX4_level_42, eX4_level_44, eX4_level_47, eX4_level_50, eX4_level_51, kd_39, fr_39_0, fr_39_1, fr_39_2, fr_39_3, fr_39_4, fr_39_6, fr_39_12, fr_39_13, fr_39_14, fr_39_15, kd_40, an_40, rd_40, kd_41, an_41, rd_41, kd_42, an_42, rd_42, kd_43, an_43, rd_43, kd_44, an_44, rd_44, kd_45, an_45, rd_45, kd_46, an_46, rd_46, kd_47, an_47, rd_47, kd_48, an_48, kd_49, an_49, h1, h2, x2, y4, hc, decide_true, h5, up_n, up_s, up_up, Nat.reduceLeDiff, Nat.reduceEqDiff, Nat.reduceAdd, if_true, if_false, b2i_T, b2i_F, and_self, and_false, false_and, true_and, and_true, true_or, or_true, false_or, or_false, or_self, not_true_eq_false, not_false_eq_true, eq_self, List.cons_append, List.nil_append]
    · simp only [eX4_level_0, eX4_level_1, eX4_level_4, eX4_level_5, eX4_level_7, eX4_level_9, eX4_level_12, eX4_level_13, eX4_level_16, eX4_level_19, eX4_level_20, eX4_level_23, eX4_level_26, eX4_level_29, eX4_level_30, eX4_level_31, eX4_level_34, eX4_level_35, eX4_level_36, eX4_level_38, eX4_level_41, eX4_level_42, eX4_level_44, eX4_level_47, eX4_level_50, eX4_level_51, kd_39, fr_39_0, fr_39_1, fr_39_2, fr_39_3, fr_39_4, fr_39_6, fr_39_12, fr_39_13, fr_39_14, fr_39_15, kd_40, an_40, rd_40, kd_41, an_41, rd_41, kd_42, an_42, rd_42, kd_43, an_43, rd_43, kd_44, an_44, rd_44, kd_45, an_45, rd_45, kd_46, an_46, rd_46, kd_47, an_47, rd_47, kd_48, an_48, kd_49, an_49, h1, x1, x2, hc, decide_false, Bool.false_eq_true, up_n, up_s, up_up, Nat.reduceLeDiff, Nat.reduceEqDiff, Nat.reduceAdd, if_true, if_false, b2i_T, b2i_F, and_self, and_false, false_and, true_and, and_true, true_or, or_true, false_or, or_false, or_self, not_true_eq_false, not_false_eq_true, eq_self, List.cons_append, List.nil_append]
      exact h4

theorem lX3_mixed {p : Nat} (hp : p < 8) {B : sx_A} (hn : n ≤ 8) (hA : B 13 5 = nI n) : ∀ k i, i + k = 101 → (sx_ev G mX3_mixed 28 [some (.ref 0), some (.int (nI p)), some (.int (nI i))] [] (bm_go B 13 n i) Z Q ↔ if fs (fun j => decide (bm_go B 13 n j 15 p = bm_go B 13 n j 16 p)) k i ≤ 100 then Q [.int (nI (fs (fun j => decide (bm_go B 13 n j 15 p = bm_go B 13 n j 16 p)) k i))] (bm_go B 13 n (fs (fun j => decide (bm_go B 13 n j 15 p = bm_go B 13 n j 16 p)) k i)) Z else Q [.int (-1000000004)] (va_up (bm_go B 13 n (fs (fun j => decide (bm_go B 13 n j 15 p = bm_go B 13 n j 16 p)) k i)) 38 (upd (bm_go B 13 n (fs (fun j => decide (bm_go B 13 n j 15 p = bm_go B 13 n j 16 p)) k i) 38) 3 (bm_go B 13 n (fs (fun j => decide (bm_go B 13 n j 15 p = bm_go B 13 n j 16 p)) k i) 38 3 + 1))) Z) := by
  intro k
  induction k with
  | zero =>
    intro i hi
    obtain rfl : i = 101 := by omega
    rw [eX3_mixed_28]
    have h1 : (100 : Int32) < nI 101 := by decide
    simp only [eX3_mixed_0, eX3_mixed_1, eX3_mixed_2, eX3_mixed_5, eX3_mixed_8, eX3_mixed_9, eX3_mixed_11, eX3_mixed_14, eX3_mixed_15, eX3_mixed_16, eX3_mixed_19, eX3_mixed_20, eX3_mixed_23, eX3_mixed_26, eX3_mixed_27, eX3_mixed_29, eX3_mixed_31, eX3_mixed_34, eX3_mixed_35, eX3_mixed_38, eX3_mixed_41, eX3_mixed_42, eX3_mixed_43, eX3_mixed_44, eX3_mixed_47, eX3_mixed_50, eX3_mixed_51, eX3_mixed_52, eX3_mixed_55, eX3_mixed_56, eX3_mixed_57, eX3_mixed_58, eX3_mixed_61, eX3_mixed_62, eX3_mixed_65, eX3_mixed_68, eX3_mixed_71, eX3_mixed_72, eX3_mixed_74, eX3_mixed_77, kd_0, fr_0_0, fr_0_1, fr_0_2, fr_0_3, fr_0_4, fr_0_5, fr_0_6, fr_0_7, fr_0_8, kd_1, fr_1_0, fr_1_1, fr_1_2, fr_1_3, fr_1_4, kd_2, an_2, rd_2, kd_3, an_3, rd_3, kd_4, an_4, rd_4, kd_5, an_5, rd_5, kd_6, an_6, rd_6, kd_7, kd_13, fr_13_0, fr_13_1, fr_13_2, fr_13_3, fr_13_4, kd_14, an_14, rd_14, kd_15, an_15, rd_15, kd_16, an_16, rd_16, kd_17, an_17, rd_17, kd_19, fr_19_3, kd_23, an_23, rd_23, kd_25, an_25, rd_25, kd_26, an_26, rd_26, kd_27, fr_27_0, kd_28, an_28, rd_28, kd_29, an_29, kd_38, an_38, rd_38, tX3_finding0, tX3_finding1, tX3_finding2, tX3_finding3, tX3_finding4, tX3_finding5, tX3_finding6, h1, fs, Nat.reduceLeDiff, Nat.reduceEqDiff, Nat.reduceAdd, if_true, if_false, b2i_T, b2i_F, and_self, and_false, false_and, true_and, and_true, true_or, or_true, false_or, or_false, or_self, not_true_eq_false, not_false_eq_true, eq_self, List.cons_append, List.nil_append]
  | succ k ih =>
    intro i hi
    rw [eX3_mixed_28]
    have h1 : ¬ (100 : Int32) < nI i := Int32.not_lt.mpr (nI_le (a := i) (b := 100) (by omega) (by omega))
    have h4 := ih (i + 1) (by omega)
    rw [nI_succ, bm_go] at h4
    have x1 := fun (Q : List Value → sx_A → sx_Z → Prop) => tX0_goOn (G := G) (A := bm_go B 13 n i) (Z := Z) (Q := Q) (b := 13) (m := 1) isB13 hn (by rw [bm_go_5]; exact hA) (by omega)
    rw [show nI 1 = 1 from rfl] at x1
    have h7 : ¬ nI p < 0 := nI_pos (by omega)
    have h8 : ¬ 8 ≤ p := by omega
    have h9 : (nI p).toNatClampNeg = p := nI_clamp (by omega)
    unfold fs
    by_cases hc : bm_go B 13 n i 15 p = bm_go B 13 n i 16 p
    · have h5 : i ≤ 100 := by omega
      simp only [eX3_mixed_0, eX3_mixed_1, eX3_mixed_2, eX3_mixed_5, eX3_mixed_8, eX3_mixed_9, eX3_mixed_11, eX3_mixed_14, eX3_mixed_15, eX3_mixed_16, eX3_mixed_19, eX3_mixed_20, eX3_mixed_23, eX3_mixed_26, eX3_mixed_27, eX3_mixed_29, eX3_mixed_31, eX3_mixed_34, eX3_mixed_35, eX3_mixed_38, eX3_mixed_41, eX3_mixed_42, eX3_mixed_43, eX3_mixed_44, eX3_mixed_47, eX3_mixed_50, eX3_mixed_51, eX3_mixed_52, eX3_mixed_55, eX3_mixed_56, eX3_mixed_57, eX3_mixed_58, eX3_mixed_61, eX3_mixed_62, eX3_mixed_65, eX3_mixed_68, eX3_mixed_71, eX3_mixed_72, eX3_mixed_74, eX3_mixed_77, kd_0, fr_0_0, fr_0_1, fr_0_2, fr_0_3, fr_0_4, fr_0_5, fr_0_6, fr_0_7, fr_0_8, kd_1, fr_1_0, fr_1_1, fr_1_2, fr_1_3, fr_1_4, kd_2, an_2, rd_2, kd_3, an_3, rd_3, kd_4, an_4, rd_4, kd_5, an_5, rd_5, kd_6, an_6, rd_6, kd_7, kd_13, fr_13_0, fr_13_1, fr_13_2, fr_13_3, fr_13_4, kd_14, an_14, rd_14, kd_15, an_15, rd_15, kd_16, an_16, rd_16, kd_17, an_17, rd_17, kd_19, fr_19_3, kd_23, an_23, rd_23, kd_25, an_25, rd_25, kd_26, an_26, rd_26, kd_27, fr_27_0, kd_28, an_28, rd_28, kd_29, an_29, kd_38, an_38, rd_38, h1, h7, h8, h9, hc, decide_true, h5, Nat.reduceLeDiff, Nat.reduceEqDiff, Nat.reduceAdd, if_true, if_false, b2i_T, b2i_F, and_self, and_false, false_and, true_and, and_true, true_or, or_true, false_or, or_false, or_self, not_true_eq_false, not_false_eq_true, eq_self, List.cons_append, List.nil_append]
    · simp only [eX3_mixed_0, eX3_mixed_1, eX3_mixed_2, eX3_mixed_5, eX3_mixed_8, eX3_mixed_9, eX3_mixed_11, eX3_mixed_14, eX3_mixed_15, eX3_mixed_16, eX3_mixed_19, eX3_mixed_20, eX3_mixed_23, eX3_mixed_26, eX3_mixed_27, eX3_mixed_29, eX3_mixed_31, eX3_mixed_34, eX3_mixed_35, eX3_mixed_38, eX3_mixed_41, eX3_mixed_42, eX3_mixed_43, eX3_mixed_44, eX3_mixed_47, eX3_mixed_50, eX3_mixed_51, eX3_mixed_52, eX3_mixed_55, eX3_mixed_56, eX3_mixed_57, eX3_mixed_58, eX3_mixed_61, eX3_mixed_62, eX3_mixed_65, eX3_mixed_68, eX3_mixed_71, eX3_mixed_72, eX3_mixed_74, eX3_mixed_77, kd_0, fr_0_0, fr_0_1, fr_0_2, fr_0_3, fr_0_4, fr_0_5, fr_0_6, fr_0_7, fr_0_8, kd_1, fr_1_0, fr_1_1, fr_1_2, fr_1_3, fr_1_4, kd_2, an_2, rd_2, kd_3, an_3, rd_3, kd_4, an_4, rd_4, kd_5, an_5, rd_5, kd_6, an_6, rd_6, kd_7, kd_13, fr_13_0, fr_13_1, fr_13_2, fr_13_3, fr_13_4, kd_14, an_14, rd_14, kd_15, an_15, rd_15, kd_16, an_16, rd_16, kd_17, an_17, rd_17, kd_19, fr_19_3, kd_23, an_23, rd_23, kd_25, an_25, rd_25, kd_26, an_26, rd_26, kd_27, fr_27_0, kd_28, an_28, rd_28, kd_29, an_29, kd_38, an_38, rd_38, h1, h7, h8, h9, x1, hc, decide_false, Bool.false_eq_true, Nat.reduceLeDiff, Nat.reduceEqDiff, Nat.reduceAdd, if_true, if_false, b2i_T, b2i_F, and_self, and_false, false_and, true_and, and_true, true_or, or_true, false_or, or_false, or_self, not_true_eq_false, not_false_eq_true, eq_self, List.cons_append, List.nil_append]
      exact h4

theorem lX4_mixed {p : Nat} (hp : p < 8) {C : sx_A} {s : Nat → Int32} {l2 : Option Value} (hn : n ≤ 8) (hA : s 0 = nI n) : ∀ k i, i + k = 101 → (sx_ev G mX4_mixed 21 [some (.ref 39), some (.int (nI p)), some (.int (nI i)), l2] [] (va_up C 40 (mm_go s n i)) Z Q ↔ if fs (fun j => decide (mm_go s n j (5 + 4 * p + 1) = mm_go s n j (5 + 4 * p + 2))) k i ≤ 100 then Q [.int (nI (fs (fun j => decide (mm_go s n j (5 + 4 * p + 1) = mm_go s n j (5 + 4 * p + 2))) k i))] (va_up C 40 (sp_cp (C 43) (mm_go s n (fs (fun j => decide (mm_go s n j (5 + 4 * p + 1) = mm_go s n j (5 + 4 * p + 2))) k i)) 37)) Z else Q [.int (-1000000004)] (va_up (va_up C 40 (sp_cp (C 43) (mm_go s n (fs (fun j => decide (mm_go s n j (5 + 4 * p + 1) = mm_go s n j (5 + 4 * p + 2))) k i)) 37)) 44 (upd (C 44) 3 (C 44 3 + 1))) Z) := by
  intro k
  have y4 := fun (A' : sx_A) (u : Int32) (Q : List Value → sx_A → sx_Z → Prop) => tX4_takesBack (G := G) (A := A') (Z := Z) (Q := Q) (v := u)
  induction k with
  | zero =>
    intro i hi
    obtain rfl : i = 101 := by omega
    rw [eX4_mixed_21]
    have h1 : (100 : Int32) < nI 101 := by decide
    have h2 : ¬ nI 101 ≤ (100 : Int32) := by decide
    simp only [eX4_mixed_0, eX4_mixed_1, eX4_mixed_2, eX4_mixed_5, eX4_mixed_8, eX4_mixed_9, eX4_mixed_11, eX4_mixed_14, eX4_mixed_15, eX4_mixed_16, eX4_mixed_19, eX4_mixed_20, eX4_mixed_22, eX4_mixed_24, eX4_mixed_27, eX4_mixed_28, eX4_mixed_29, eX4_mixed_30, eX4_mixed_33, eX4_mixed_34, eX4_mixed_35, eX4_mixed_36, eX4_mixed_39, eX4_mixed_42, eX4_mixed_43, eX4_mixed_46, eX4_mixed_49, eX4_mixed_52, eX4_mixed_53, eX4_mixed_54, eX4_mixed_57, eX4_mixed_58, eX4_mixed_59, eX4_mixed_61, eX4_mixed_64, eX4_mixed_65, eX4_mixed_67, eX4_mixed_70, eX4_mixed_73, eX4_mixed_74, kd_39, fr_39_0, fr_39_1, fr_39_2, fr_39_3, fr_39_4, fr_39_6, fr_39_12, fr_39_13, fr_39_14, fr_39_15, kd_40, an_40, rd_40, kd_41, an_41, rd_41, kd_42, an_42, rd_42, kd_43, an_43, rd_43, kd_44, an_44, rd_44, kd_45, an_45, rd_45, kd_46, an_46, rd_46, kd_47, an_47, rd_47, kd_48, an_48, kd_49, an_49, tX4_finds0, tX4_finds1, tX4_finds2, tX4_finds3, tX4_finds4, tX4_finds5, tX4_finds6, h1, h2, fs, y4, up_n, up_s, up_up, Nat.reduceLeDiff, Nat.reduceEqDiff, Nat.reduceAdd, if_true, if_false, b2i_T, b2i_F, and_self, and_false, false_and, true_and, and_true, true_or, or_true, false_or, or_false, or_self, not_true_eq_false, not_false_eq_true, eq_self, List.cons_append, List.nil_append]
  | succ k ih =>
    intro i hi
    rw [eX4_mixed_21]
    have h2 : nI i ≤ (100 : Int32) := nI_le (a := i) (b := 100) (by omega) (by omega)
    have h1 : ¬ (100 : Int32) < nI i := Int32.not_lt.mpr h2
    have h4 := ih (i + 1) (by omega)
    rw [nI_succ, mm_go] at h4
    have x1 := fun (Q : List Value → sx_A → sx_Z → Prop) => tX4_minute (G := G) (A := va_up C 40 (mm_go s n i)) (Z := Z) (Q := Q) hn (by rw [up_s, mm_go_0]; exact hA)
    unfold fs
    by_cases hc : mm_go s n i (5 + 4 * p + 1) = mm_go s n i (5 + 4 * p + 2)
    · have h5 : i ≤ 100 := by omega
      simp only [eX4_mixed_0, eX4_mixed_1, eX4_mixed_2, eX4_mixed_5, eX4_mixed_8, eX4_mixed_9, eX4_mixed_11, eX4_mixed_14, eX4_mixed_15, eX4_mixed_16, eX4_mixed_19, eX4_mixed_20, eX4_mixed_22, eX4_mixed_24, eX4_mixed_27, eX4_mixed_28, eX4_mixed_29, eX4_mixed_30, eX4_mixed_33, eX4_mixed_34, eX4_mixed_35, eX4_mixed_36, eX4_mixed_39, eX4_mixed_42, eX4_mixed_43, eX4_mixed_46, eX4_mixed_49, eX4_mixed_52, eX4_mixed_53, eX4_mixed_54, eX4_mixed_57, eX4_mixed_58, eX4_mixed_59, eX4_mixed_61, eX4_mixed_64, eX4_mixed_65, eX4_mixed_67, eX4_mixed_70, eX4_mixed_73, eX4_mixed_74, kd_39, fr_39_0, fr_39_1, fr_39_2, fr_39_3, fr_39_4, fr_39_6, fr_39_12, fr_39_13, fr_39_14, fr_39_15, kd_40, an_40, rd_40, kd_41, an_41, rd_41, kd_42, an_42, rd_42, kd_43, an_43, rd_43, kd_44, an_44, rd_44, kd_45, an_45, rd_45, kd_46, an_46, rd_46, kd_47, an_47, rd_47, kd_48, an_48, kd_49, an_49, tX4_its0 hp, tX4_its1 hp, tX4_its2 hp, tX4_its3 hp, h1, h2, y4, hc, decide_true, h5, up_n, up_s, up_up, Nat.reduceLeDiff, Nat.reduceEqDiff, Nat.reduceAdd, if_true, if_false, b2i_T, b2i_F, and_self, and_false, false_and, true_and, and_true, true_or, or_true, false_or, or_false, or_self, not_true_eq_false, not_false_eq_true, eq_self, List.cons_append, List.nil_append]
    · simp only [eX4_mixed_0, eX4_mixed_1, eX4_mixed_2, eX4_mixed_5, eX4_mixed_8, eX4_mixed_9, eX4_mixed_11, eX4_mixed_14, eX4_mixed_15, eX4_mixed_16, eX4_mixed_19, eX4_mixed_20, eX4_mixed_22, eX4_mixed_24, eX4_mixed_27, eX4_mixed_28, eX4_mixed_29, eX4_mixed_30, eX4_mixed_33, eX4_mixed_34, eX4_mixed_35, eX4_mixed_36, eX4_mixed_39, eX4_mixed_42, eX4_mixed_43, eX4_mixed_46, eX4_mixed_49, eX4_mixed_52, eX4_mixed_53, eX4_mixed_54, eX4_mixed_57, eX4_mixed_58, eX4_mixed_59, eX4_mixed_61, eX4_mixed_64, eX4_mixed_65, eX4_mixed_67, eX4_mixed_70, eX4_mixed_73, eX4_mixed_74, kd_39, fr_39_0, fr_39_1, fr_39_2, fr_39_3, fr_39_4, fr_39_6, fr_39_12, fr_39_13, fr_39_14, fr_39_15, kd_40, an_40, rd_40, kd_41, an_41, rd_41, kd_42, an_42, rd_42, kd_43, an_43, rd_43, kd_44, an_44, rd_44, kd_45, an_45, rd_45, kd_46, an_46, rd_46, kd_47, an_47, rd_47, kd_48, an_48, kd_49, an_49, tX4_its0 hp, tX4_its1 hp, tX4_its2 hp, tX4_its3 hp, h1, x1, hc, decide_false, Bool.false_eq_true, up_n, up_s, up_up, Nat.reduceLeDiff, Nat.reduceEqDiff, Nat.reduceAdd, if_true, if_false, b2i_T, b2i_F, and_self, and_false, false_and, true_and, and_true, true_or, or_true, false_or, or_false, or_self, not_true_eq_false, not_false_eq_true, eq_self, List.cons_append, List.nil_append]
      exact h4

end OP
