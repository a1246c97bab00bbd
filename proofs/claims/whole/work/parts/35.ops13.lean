/-! THE CALLS, ONE BY ONE: sorrow -/
theorem fs_t {f : Nat → Bool} {k i : Nat} (h : f i = true) : fs f (k + 1) i = i := by rw [fs, if_pos h]
theorem fs_f {f : Nat → Bool} {k i : Nat} (h : f i = false) : fs f (k + 1) i = fs f k (i + 1) := by rw [fs, if_neg (by rw [h]; exact Bool.false_ne_true)]
/-- news of sorrow alone -/
def mhs (s : Nat → Int32) (p j : Nat) : Nat → Int32 := upd (upd s (5 + 4 * p + 1) (sp_held (s (5 + 4 * p + 1) + 0))) (5 + 4 * p + 2) (sp_held (s (5 + 4 * p + 2) + nI j))
theorem rB.setG {c n b p : Nat} {A : sx_A} {s : Nat → Int32} {v : Int32} (h : rB c n A b s) (hp : p < n) (hv : ∃ i, i < 100 ∧ v = nI i) : rB c n (va_up A (b + 2) (upd (A (b + 2)) p v)) b (upd s (5 + 4 * p + 1) v) := by
  have z := r_B.setG h hp hv
  unfold rB
  rw [up_n (by omega), up_n (by omega), up_s, up_n (by omega), up_n (by omega), up_n (by omega)]
  exact z
theorem rB.setS {c n b p : Nat} {A : sx_A} {s : Nat → Int32} {v : Int32} (h : rB c n A b s) (hp : p < n) (hv : ∃ i, i < 100 ∧ v = nI i) : rB c n (va_up A (b + 3) (upd (A (b + 3)) p v)) b (upd s (5 + 4 * p + 2) v) := by
  have z := r_B.setS h hp hv
  unfold rB
  rw [up_n (by omega), up_n (by omega), up_n (by omega), up_s, up_n (by omega), up_n (by omega)]
  exact z

section OP
variable {G : sx_G} {c n : Nat} {A : sx_A} {Z : sx_Z} {Q : List Value → sx_A → sx_Z → Prop}

theorem lX3_sorrow {p : Nat} {s : Nat → Int32} (hp : p < n) (hB : rB c n A 1 s) : ∀ (k i : Nat), i + k = 100 → ∀ B, off 13 A B → (if fs (fun j => decide (sm_tilt (mhs s p j) n = 0)) k i ≤ 99 then (∀ A2, off 13 A A2 → Q [.int (nI (fs (fun j => decide (sm_tilt (mhs s p j) n = 0)) k i))] A2 Z) else (∀ A2, off 13 A A2 → Q [.int (-1000000004)] (va_up A2 38 (upd (A2 38) 3 (A2 38 3 + 1))) Z)) → sx_ev G mX3_sorrow 17 [some (.ref 0), some (.int (nI p)), some (.int (nI i))] [] B Z Q := by
  have hn := hB.1.1
  have hp8 : p < 8 := by omega
  intro k
  induction k with
  | zero =>
    intro i hi B ho hQ
    obtain rfl : i = 100 := by omega
    rw [fs, if_neg (by omega)] at hQ
    rw [eX3_sorrow_17]
    have h1 : (99 : Int32) < nI 100 := by decide
    simp only [eX3_sorrow_0, eX3_sorrow_1, eX3_sorrow_2, eX3_sorrow_5, eX3_sorrow_8, eX3_sorrow_9, eX3_sorrow_11, eX3_sorrow_14, eX3_sorrow_15, eX3_sorrow_16, eX3_sorrow_18, eX3_sorrow_20, eX3_sorrow_23, eX3_sorrow_24, eX3_sorrow_27, eX3_sorrow_28, eX3_sorrow_31, eX3_sorrow_34, eX3_sorrow_35, eX3_sorrow_38, eX3_sorrow_39, eX3_sorrow_40, eX3_sorrow_41, eX3_sorrow_44, eX3_sorrow_45, eX3_sorrow_48, eX3_sorrow_51, eX3_sorrow_54, eX3_sorrow_55, eX3_sorrow_56, eX3_sorrow_59, eX3_sorrow_62, eX3_sorrow_63, eX3_sorrow_65, eX3_sorrow_68, kd_0, fr_0_0, fr_0_1, fr_0_2, fr_0_3, fr_0_4, fr_0_5, fr_0_6, fr_0_7, fr_0_8, kd_1, fr_1_0, fr_1_1, fr_1_2, fr_1_3, fr_1_4, kd_2, an_2, rd_2, kd_3, an_3, rd_3, kd_4, an_4, rd_4, kd_5, an_5, rd_5, kd_6, an_6, rd_6, kd_7, kd_13, fr_13_0, fr_13_1, fr_13_2, fr_13_3, fr_13_4, kd_14, an_14, rd_14, kd_15, an_15, rd_15, kd_16, an_16, rd_16, kd_17, an_17, rd_17, kd_19, fr_19_3, kd_23, an_23, rd_23, kd_25, an_25, rd_25, kd_26, an_26, rd_26, kd_27, fr_27_0, kd_28, an_28, rd_28, kd_29, an_29, kd_38, an_38, rd_38, tX3_finding0, tX3_finding1, tX3_finding2, tX3_finding3, tX3_finding4, tX3_finding5, tX3_finding6, h1, Nat.reduceLeDiff, Nat.reduceEqDiff, Nat.reduceAdd, if_true, if_false, b2i_T, b2i_F, and_self, and_false, false_and, true_and, and_true, true_or, or_true, false_or, or_false, or_self, not_true_eq_false, not_false_eq_true, eq_self, List.cons_append, List.nil_append]
    exact hQ B ho
  | succ k ih =>
    intro i hi B ho hQ
    rw [eX3_sorrow_17]
    have h1 : ¬ (99 : Int32) < nI i := Int32.not_lt.mpr (nI_le (a := i) (b := 99) (by omega) (by omega))
    have hB2 := rB.off hB ho
    have hT := rB.bec (n := n) bo_13_1 hB2
    have ho2 : off 13 A (bm_bec B 13 1 n) := ho.tr off_bec
    have x1 := fun (Q : List Value → sx_A → sx_Z → Prop) => tX0_becomes (G := G) (A := B) (Z := Z) (Q := Q) isB13 bo_13_1 hn hB2.1.2.1
    generalize bm_bec B 13 1 n = B1 at x1 hT ho2
    obtain ⟨⟨-, ⟨a, ha, ea⟩, ⟨b, hb, eb⟩, -⟩, q0, q1, q2, q3⟩ := hT.2.2.2 p hp
    have x2 := fun (Q : List Value → sx_A → sx_Z → Prop) => tX0_hear (G := G) (A := B1) (Z := Z) (Q := Q) (b := 13) (p := p) (g := 0) (s := nI i) isB13 hp8
    have v1 : ∃ j, j < 100 ∧ sp_held (s (5 + 4 * p + 1) + 0) = nI j := by rw [← q1, ea]; exact sp_held_n ha (b := 0) (by omega)
    have v2 : ∃ j, j < 100 ∧ sp_held (s (5 + 4 * p + 2) + nI i) = nI j := by rw [← q2, eb]; exact sp_held_n hb (by omega)
    have hT2 := (hT.setG hp v1).setS hp v2
    have ho3 := (ho2.tr (off_up (b := 13) (j := 2) (row := upd (B1 (13 + 2)) p (sp_held (s (5 + 4 * p + 1) + 0))) (by omega))).tr (off_up (b := 13) (j := 3) (row := upd (va_up B1 (13 + 2) (upd (B1 (13 + 2)) p (sp_held (s (5 + 4 * p + 1) + 0))) (13 + 3)) p (sp_held (s (5 + 4 * p + 2) + nI i))) (by omega))
    rw [up_n (show ¬ 13 + 3 = 13 + 2 by omega)] at hT2 ho3
    simp only [sp_held_eq, q1, q2] at x2
    generalize va_up (va_up B1 (13 + 2) (upd (B1 (13 + 2)) p (sp_held (s (5 + 4 * p + 1) + 0)))) (13 + 3) (upd (B1 (13 + 3)) p (sp_held (s (5 + 4 * p + 2) + nI i))) = B2 at x2 hT2 ho3
    have x3 := fun (Q : List Value → sx_A → sx_Z → Prop) => tX0_isLevel (G := G) (A := B2) (Z := Z) (Q := Q) (b := 13) isB13 hn hT2.1.2.1
    have et : sx_tilt B2 13 n = sm_tilt (mhs s p i) n := hT2.tilt
    have h4 := ih (i + 1) (by omega) B2 ho3
    rw [nI_succ] at h4
    by_cases hc : sm_tilt (mhs s p i) n = 0
    · rw [fs_t (k := k) (i := i) (f := fun j => decide (sm_tilt (mhs s p j) n = 0)) (decide_eq_true hc), if_pos (by omega)] at hQ
      simp only [eX3_sorrow_0, eX3_sorrow_1, eX3_sorrow_2, eX3_sorrow_5, eX3_sorrow_8, eX3_sorrow_9, eX3_sorrow_11, eX3_sorrow_14, eX3_sorrow_15, eX3_sorrow_16, eX3_sorrow_18, eX3_sorrow_20, eX3_sorrow_23, eX3_sorrow_24, eX3_sorrow_27, eX3_sorrow_28, eX3_sorrow_31, eX3_sorrow_34, eX3_sorrow_35, eX3_sorrow_38, eX3_sorrow_39, eX3_sorrow_40, eX3_sorrow_41, eX3_sorrow_44, eX3_sorrow_45, eX3_sorrow_48, eX3_sorrow_51, eX3_sorrow_54, eX3_sorrow_55, eX3_sorrow_56, eX3_sorrow_59, eX3_sorrow_62, eX3_sorrow_63, eX3_sorrow_65, eX3_sorrow_68, kd_0, fr_0_0, fr_0_1, fr_0_2, fr_0_3, fr_0_4, fr_0_5, fr_0_6, fr_0_7, fr_0_8, kd_1, fr_1_0, fr_1_1, fr_1_2, fr_1_3, fr_1_4, kd_2, an_2, rd_2, kd_3, an_3, rd_3, kd_4, an_4, rd_4, kd_5, an_5, rd_5, kd_6, an_6, rd_6, kd_7, kd_13, fr_13_0, fr_13_1, fr_13_2, fr_13_3, fr_13_4, kd_14, an_14, rd_14, kd_15, an_15, rd_15, kd_16, an_16, rd_16, kd_17, an_17, rd_17, kd_19, fr_19_3, kd_23, an_23, rd_23, kd_25, an_25, rd_25, kd_26, an_26, rd_26, kd_27, fr_27_0, kd_28, an_28, rd_28, kd_29, an_29, kd_38, an_38, rd_38, h1, x1, x2, x3, et, b2i_t hc, one_ne0, Nat.reduceLeDiff, Nat.reduceEqDiff, Nat.reduceAdd, if_true, if_false, b2i_T, b2i_F, and_self, and_false, false_and, true_and, and_true, true_or, or_true, false_or, or_false, or_self, not_true_eq_false, not_false_eq_true, eq_self, List.cons_append, List.nil_append]
      exact hQ B2 ho3
    · rw [fs_f (k := k) (i := i) (f := fun j => decide (sm_tilt (mhs s p j) n = 0)) (decide_eq_false hc)] at hQ
      simp only [eX3_sorrow_0, eX3_sorrow_1, eX3_sorrow_2, eX3_sorrow_5, eX3_sorrow_8, eX3_sorrow_9, eX3_sorrow_11, eX3_sorrow_14, eX3_sorrow_15, eX3_sorrow_16, eX3_sorrow_18, eX3_sorrow_20, eX3_sorrow_23, eX3_sorrow_24, eX3_sorrow_27, eX3_sorrow_28, eX3_sorrow_31, eX3_sorrow_34, eX3_sorrow_35, eX3_sorrow_38, eX3_sorrow_39, eX3_sorrow_40, eX3_sorrow_41, eX3_sorrow_44, eX3_sorrow_45, eX3_sorrow_48, eX3_sorrow_51, eX3_sorrow_54, eX3_sorrow_55, eX3_sorrow_56, eX3_sorrow_59, eX3_sorrow_62, eX3_sorrow_63, eX3_sorrow_65, eX3_sorrow_68, kd_0, fr_0_0, fr_0_1, fr_0_2, fr_0_3, fr_0_4, fr_0_5, fr_0_6, fr_0_7, fr_0_8, kd_1, fr_1_0, fr_1_1, fr_1_2, fr_1_3, fr_1_4, kd_2, an_2, rd_2, kd_3, an_3, rd_3, kd_4, an_4, rd_4, kd_5, an_5, rd_5, kd_6, an_6, rd_6, kd_7, kd_13, fr_13_0, fr_13_1, fr_13_2, fr_13_3, fr_13_4, kd_14, an_14, rd_14, kd_15, an_15, rd_15, kd_16, an_16, rd_16, kd_17, an_17, rd_17, kd_19, fr_19_3, kd_23, an_23, rd_23, kd_25, an_25, rd_25, kd_26, an_26, rd_26, kd_27, fr_27_0, kd_28, an_28, rd_28, kd_29, an_29, kd_38, an_38, rd_38, h1, x1, x2, x3, et, b2i_f hc, Nat.reduceLeDiff, Nat.reduceEqDiff, Nat.reduceAdd, if_true, if_false, b2i_T, b2i_F, and_self, and_false, false_and, true_and, and_true, true_or, or_true, false_or, or_false, or_self, not_true_eq_false, not_false_eq_true, eq_self, List.cons_append, List.nil_append]
      exact h4 hQ
theorem lX4_sorrow {p : Nat} {s : Nat → Int32} {a : Nat → Int32} {C : sx_A} (hp : p < 8) (hn : n ≤ 8) (hs : C 40 = s) (h0 : s 0 = nI n) (h43 : C 43 = sp_cp s a 37) : ∀ (k i : Nat), i + k = 100 → (sx_ev G mX4_sorrow 23 [some (.ref 39), some (.int (nI p)), some (.int (-1)), some (.int (nI i))] [] C Z Q ↔ if fs (fun j => decide (sm_tilt (mhs s p j) n = 0)) k i ≤ 99 then Q [.int (nI (fs (fun j => decide (sm_tilt (mhs s p j) n = 0)) k i))] C Z else Q [.int (-1000000004)] (va_up C 44 (upd (C 44) 3 (C 44 3 + 1))) Z) := by
  have y4 := fun (A' : sx_A) (u : Int32) (Q : List Value → sx_A → sx_Z → Prop) => tX4_takesBack (G := G) (A := A') (Z := Z) (Q := Q) (v := u)
  have n1 : (-1 : Int32) < 0 := by decide
  have n2 : ¬ (0 : Int32) ≤ -1 := by decide
  intro k
  induction k with
  | zero =>
    intro i hi
    obtain rfl : i = 100 := by omega
    rw [eX4_sorrow_23]
    have h1 : (99 : Int32) < nI 100 := by decide
    simp only [eX4_sorrow_0, eX4_sorrow_1, eX4_sorrow_2, eX4_sorrow_5, eX4_sorrow_8, eX4_sorrow_9, eX4_sorrow_11, eX4_sorrow_14, eX4_sorrow_15, eX4_sorrow_16, eX4_sorrow_17, eX4_sorrow_18, eX4_sorrow_21, eX4_sorrow_22, eX4_sorrow_24, eX4_sorrow_26, eX4_sorrow_29, eX4_sorrow_30, eX4_sorrow_33, eX4_sorrow_34, eX4_sorrow_35, eX4_sorrow_36, eX4_sorrow_37, eX4_sorrow_40, eX4_sorrow_41, eX4_sorrow_42, eX4_sorrow_45, eX4_sorrow_48, eX4_sorrow_49, eX4_sorrow_52, eX4_sorrow_53, eX4_sorrow_56, eX4_sorrow_57, eX4_sorrow_60, eX4_sorrow_63, eX4_sorrow_64, eX4_sorrow_67, eX4_sorrow_68, eX4_sorrow_70, eX4_sorrow_73, eX4_sorrow_76, eX4_sorrow_77, kd_39, fr_39_0, fr_39_1, fr_39_2, fr_39_3, fr_39_4, fr_39_6, fr_39_12, fr_39_13, fr_39_14, fr_39_15, kd_40, an_40, rd_40, kd_41, an_41, rd_41, kd_42, an_42, rd_42, kd_43, an_43, rd_43, kd_44, an_44, rd_44, kd_45, an_45, rd_45, kd_46, an_46, rd_46, kd_47, an_47, rd_47, kd_48, an_48, kd_49, an_49, tX4_finds0, tX4_finds1, tX4_finds2, tX4_finds3, tX4_finds4, tX4_finds5, tX4_finds6, h1, n1, n2, fs, Nat.reduceLeDiff, Nat.reduceEqDiff, Nat.reduceAdd, if_true, if_false, b2i_T, b2i_F, and_self, and_false, false_and, true_and, and_true, true_or, or_true, false_or, or_false, or_self, not_true_eq_false, not_false_eq_true, eq_self, List.cons_append, List.nil_append]
  | succ k ih =>
    intro i hi
    rw [eX4_sorrow_23]
    have h1 : ¬ (99 : Int32) < nI i := Int32.not_lt.mpr (nI_le (a := i) (b := 99) (by omega) (by omega))
    have h2 : ¬ nI i < 0 := nI_pos (by omega)
    have h3 : 0 ≤ nI i := Int32.not_lt.mp h2
    have y1 := fun (Q : List Value → sx_A → sx_Z → Prop) => tX4_hears (G := G) (A := C) (Z := Z) (Q := Q) (g := 0) (r := nI i) hp
    rw [hs] at y1
    have y2 := fun (Q : List Value → sx_A → sx_Z → Prop) => tX4_tiltNow (G := G) (A := va_up C 40 (mhs s p i)) (Z := Z) (Q := Q) hn (by rw [up_s]; unfold mhs; rw [ud_n (by omega), ud_n (by omega)]; exact h0)
    have eb : sp_cp (sp_cp s a 37) (mhs s p i) 37 = s := sp_back (fun q hq => by unfold mhs; rw [ud_n (by omega), ud_n (by omega)])
    have ec : va_up C 40 s = C := by rw [← hs, up_id]
    have h4 := ih (i + 1) (by omega)
    rw [nI_succ] at h4
    rw [fs]
    by_cases hc : sm_tilt (mhs s p i) n = 0
    · have h5 : i ≤ 99 := by omega
      simp only [eX4_sorrow_0, eX4_sorrow_1, eX4_sorrow_2, eX4_sorrow_5, eX4_sorrow_8, eX4_sorrow_9, eX4_sorrow_11, eX4_sorrow_14, eX4_sorrow_15, eX4_sorrow_16, eX4_sorrow_17, eX4_sorrow_18, eX4_sorrow_21, eX4_sorrow_22, eX4_sorrow_24, eX4_sorrow_26, eX4_sorrow_29, eX4_sorrow_30, eX4_sorrow_33, eX4_sorrow_34, eX4_sorrow_35, eX4_sorrow_36, eX4_sorrow_37, eX4_sorrow_40, eX4_sorrow_41, eX4_sorrow_42, eX4_sorrow_45, eX4_sorrow_48, eX4_sorrow_49, eX4_sorrow_52, eX4_sorrow_53, eX4_sorrow_56, eX4_sorrow_57, eX4_sorrow_60, eX4_sorrow_63, eX4_sorrow_64, eX4_sorrow_67, eX4_sorrow_68, eX4_sorrow_70, eX4_sorrow_73, eX4_sorrow_76, eX4_sorrow_77, kd_39, fr_39_0, fr_39_1, fr_39_2, fr_39_3, fr_39_4, fr_39_6, fr_39_12, fr_39_13, fr_39_14, fr_39_15, kd_40, an_40, rd_40, kd_41, an_41, rd_41, kd_42, an_42, rd_42, kd_43, an_43, rd_43, kd_44, an_44, rd_44, kd_45, an_45, rd_45, kd_46, an_46, rd_46, kd_47, an_47, rd_47, kd_48, an_48, kd_49, an_49, h1, h2, n1, n2, y1, up_n, up_s, Nat.reduceLeDiff, Nat.reduceEqDiff, Nat.reduceAdd, if_true, if_false, b2i_T, b2i_F, and_self, and_false, false_and, true_and, and_true, true_or, or_true, false_or, or_false, or_self, not_true_eq_false, not_false_eq_true, eq_self, List.cons_append, List.nil_append]
      rw [show upd (upd s (5 + 4 * p + 1) (sp_held (s (5 + 4 * p + 1) + 0))) (5 + 4 * p + 2) (sp_held (s (5 + 4 * p + 2) + nI i)) = mhs s p i from rfl]
      simp only [eX4_sorrow_0, eX4_sorrow_1, eX4_sorrow_2, eX4_sorrow_5, eX4_sorrow_8, eX4_sorrow_9, eX4_sorrow_11, eX4_sorrow_14, eX4_sorrow_15, eX4_sorrow_16, eX4_sorrow_17, eX4_sorrow_18, eX4_sorrow_21, eX4_sorrow_22, eX4_sorrow_24, eX4_sorrow_26, eX4_sorrow_29, eX4_sorrow_30, eX4_sorrow_33, eX4_sorrow_34, eX4_sorrow_35, eX4_sorrow_36, eX4_sorrow_37, eX4_sorrow_40, eX4_sorrow_41, eX4_sorrow_42, eX4_sorrow_45, eX4_sorrow_48, eX4_sorrow_49, eX4_sorrow_52, eX4_sorrow_53, eX4_sorrow_56, eX4_sorrow_57, eX4_sorrow_60, eX4_sorrow_63, eX4_sorrow_64, eX4_sorrow_67, eX4_sorrow_68, eX4_sorrow_70, eX4_sorrow_73, eX4_sorrow_76, eX4_sorrow_77, kd_39, fr_39_0, fr_39_1, fr_39_2, fr_39_3, fr_39_4, fr_39_6, fr_39_12, fr_39_13, fr_39_14, fr_39_15, kd_40, an_40, rd_40, kd_41, an_41, rd_41, kd_42, an_42, rd_42, kd_43, an_43, rd_43, kd_44, an_44, rd_44, kd_45, an_45, rd_45, kd_46, an_46, rd_46, kd_47, an_47, rd_47, kd_48, an_48, kd_49, an_49, h1, h2, n1, n2, y2, y4, up_n, up_s, up_up, h43, eb, ec, hc, decide_true, Nat.reduceLeDiff, Nat.reduceEqDiff, Nat.reduceAdd, if_true, if_false, b2i_T, b2i_F, and_self, and_false, false_and, true_and, and_true, true_or, or_true, false_or, or_false, or_self, not_true_eq_false, not_false_eq_true, eq_self, List.cons_append, List.nil_append]
      rw [eX4_sorrow_23]
      simp only [eX4_sorrow_0, eX4_sorrow_1, eX4_sorrow_2, eX4_sorrow_5, eX4_sorrow_8, eX4_sorrow_9, eX4_sorrow_11, eX4_sorrow_14, eX4_sorrow_15, eX4_sorrow_16, eX4_sorrow_17, eX4_sorrow_18, eX4_sorrow_21, eX4_sorrow_22, eX4_sorrow_24, eX4_sorrow_26, eX4_sorrow_29, eX4_sorrow_30, eX4_sorrow_33, eX4_sorrow_34, eX4_sorrow_35, eX4_sorrow_36, eX4_sorrow_37, eX4_sorrow_40, eX4_sorrow_41, eX4_sorrow_42, eX4_sorrow_45, eX4_sorrow_48, eX4_sorrow_49, eX4_sorrow_52, eX4_sorrow_53, eX4_sorrow_56, eX4_sorrow_57, eX4_sorrow_60, eX4_sorrow_63, eX4_sorrow_64, eX4_sorrow_67, eX4_sorrow_68, eX4_sorrow_70, eX4_sorrow_73, eX4_sorrow_76, eX4_sorrow_77, kd_39, fr_39_0, fr_39_1, fr_39_2, fr_39_3, fr_39_4, fr_39_6, fr_39_12, fr_39_13, fr_39_14, fr_39_15, kd_40, an_40, rd_40, kd_41, an_41, rd_41, kd_42, an_42, rd_42, kd_43, an_43, rd_43, kd_44, an_44, rd_44, kd_45, an_45, rd_45, kd_46, an_46, rd_46, kd_47, an_47, rd_47, kd_48, an_48, kd_49, an_49, h2, h3, h5, ite_self, Nat.reduceLeDiff, Nat.reduceEqDiff, Nat.reduceAdd, if_true, if_false, b2i_T, b2i_F, and_self, and_false, false_and, true_and, and_true, true_or, or_true, false_or, or_false, or_self, not_true_eq_false, not_false_eq_true, eq_self, List.cons_append, List.nil_append]
    · simp only [eX4_sorrow_0, eX4_sorrow_1, eX4_sorrow_2, eX4_sorrow_5, eX4_sorrow_8, eX4_sorrow_9, eX4_sorrow_11, eX4_sorrow_14, eX4_sorrow_15, eX4_sorrow_16, eX4_sorrow_17, eX4_sorrow_18, eX4_sorrow_21, eX4_sorrow_22, eX4_sorrow_24, eX4_sorrow_26, eX4_sorrow_29, eX4_sorrow_30, eX4_sorrow_33, eX4_sorrow_34, eX4_sorrow_35, eX4_sorrow_36, eX4_sorrow_37, eX4_sorrow_40, eX4_sorrow_41, eX4_sorrow_42, eX4_sorrow_45, eX4_sorrow_48, eX4_sorrow_49, eX4_sorrow_52, eX4_sorrow_53, eX4_sorrow_56, eX4_sorrow_57, eX4_sorrow_60, eX4_sorrow_63, eX4_sorrow_64, eX4_sorrow_67, eX4_sorrow_68, eX4_sorrow_70, eX4_sorrow_73, eX4_sorrow_76, eX4_sorrow_77, kd_39, fr_39_0, fr_39_1, fr_39_2, fr_39_3, fr_39_4, fr_39_6, fr_39_12, fr_39_13, fr_39_14, fr_39_15, kd_40, an_40, rd_40, kd_41, an_41, rd_41, kd_42, an_42, rd_42, kd_43, an_43, rd_43, kd_44, an_44, rd_44, kd_45, an_45, rd_45, kd_46, an_46, rd_46, kd_47, an_47, rd_47, kd_48, an_48, kd_49, an_49, h1, h2, n1, n2, y1, up_n, up_s, Nat.reduceLeDiff, Nat.reduceEqDiff, Nat.reduceAdd, if_true, if_false, b2i_T, b2i_F, and_self, and_false, false_and, true_and, and_true, true_or, or_true, false_or, or_false, or_self, not_true_eq_false, not_false_eq_true, eq_self, List.cons_append, List.nil_append]
      rw [show upd (upd s (5 + 4 * p + 1) (sp_held (s (5 + 4 * p + 1) + 0))) (5 + 4 * p + 2) (sp_held (s (5 + 4 * p + 2) + nI i)) = mhs s p i from rfl]
      simp only [eX4_sorrow_0, eX4_sorrow_1, eX4_sorrow_2, eX4_sorrow_5, eX4_sorrow_8, eX4_sorrow_9, eX4_sorrow_11, eX4_sorrow_14, eX4_sorrow_15, eX4_sorrow_16, eX4_sorrow_17, eX4_sorrow_18, eX4_sorrow_21, eX4_sorrow_22, eX4_sorrow_24, eX4_sorrow_26, eX4_sorrow_29, eX4_sorrow_30, eX4_sorrow_33, eX4_sorrow_34, eX4_sorrow_35, eX4_sorrow_36, eX4_sorrow_37, eX4_sorrow_40, eX4_sorrow_41, eX4_sorrow_42, eX4_sorrow_45, eX4_sorrow_48, eX4_sorrow_49, eX4_sorrow_52, eX4_sorrow_53, eX4_sorrow_56, eX4_sorrow_57, eX4_sorrow_60, eX4_sorrow_63, eX4_sorrow_64, eX4_sorrow_67, eX4_sorrow_68, eX4_sorrow_70, eX4_sorrow_73, eX4_sorrow_76, eX4_sorrow_77, kd_39, fr_39_0, fr_39_1, fr_39_2, fr_39_3, fr_39_4, fr_39_6, fr_39_12, fr_39_13, fr_39_14, fr_39_15, kd_40, an_40, rd_40, kd_41, an_41, rd_41, kd_42, an_42, rd_42, kd_43, an_43, rd_43, kd_44, an_44, rd_44, kd_45, an_45, rd_45, kd_46, an_46, rd_46, kd_47, an_47, rd_47, kd_48, an_48, kd_49, an_49, h1, h2, n1, n2, y2, y4, up_n, up_s, up_up, h43, eb, ec, hc, decide_false, Bool.false_eq_true, Nat.reduceLeDiff, Nat.reduceEqDiff, Nat.reduceAdd, if_true, if_false, b2i_T, b2i_F, and_self, and_false, false_and, true_and, and_true, true_or, or_true, false_or, or_false, or_self, not_true_eq_false, not_false_eq_true, eq_self, List.cons_append, List.nil_append]
      exact h4

theorem op_sorrow {v : Int32} (h : Rel c A Z) : okOp G c A Z mX3_sorrow mX4_sorrow [.int v] := by
  obtain ⟨n, hB⟩ := h.1
  obtain ⟨hn, e1, e2⟩ := hB.1
  unfold okOp
  rw [sx_call_in (L := [some (.ref 0), some (.int v), none]) rfl rfl]
  have hm : ∀ (A : sx_A) (Q : List Value → sx_A → sx_Z → Prop), sx_call G mX4_sorrow [.ref 39, .int v] A Z Q ↔ sx_ev G mX4_sorrow 0 [some (.ref 39), some (.int v), none, none] [] A Z Q := fun A Q => sx_call_in rfl rfl
  have hT := rB.bec (n := n) bo_13_1 hB
  have x1 := fun (Q : List Value → sx_A → sx_Z → Prop) => tX0_becomes (G := G) (A := A) (Z := Z) (Q := Q) isB13 bo_13_1 hn e1
  have y1 := fun (A' : sx_A) (Q : List Value → sx_A → sx_Z → Prop) => tX4_laysAside (G := G) (A := A') (Z := Z) (Q := Q)
  have y4 := fun (A' : sx_A) (u : Int32) (Q : List Value → sx_A → sx_Z → Prop) => tX4_takesBack (G := G) (A := A') (Z := Z) (Q := Q) (v := u)
  by_cases h1 : 0 ≤ v ∧ v ≤ nI n - 1
  · obtain ⟨p, hp, rfl⟩ := i_pers hn h1
    have hp8 : p < 8 := by omega
    have y2 := fun (C : sx_A) (hC : C 40 = A 40) (a : Nat → Int32) (h43 : C 43 = sp_cp (A 40) a 37) (Q : List Value → sx_A → sx_Z → Prop) => lX4_sorrow (G := G) (Z := Z) (Q := Q) (n := n) (C := C) (s := A 40) hp8 hn hC e2 h43 100 0 rfl
    simp only [nI_0] at y2
    simp only [eX3_sorrow_0, eX3_sorrow_1, eX3_sorrow_2, eX3_sorrow_5, eX3_sorrow_8, eX3_sorrow_9, eX3_sorrow_11, eX3_sorrow_14, eX3_sorrow_15, eX3_sorrow_16, eX3_sorrow_18, eX3_sorrow_20, eX3_sorrow_23, eX3_sorrow_24, eX3_sorrow_27, eX3_sorrow_28, eX3_sorrow_31, eX3_sorrow_34, eX3_sorrow_35, eX3_sorrow_38, eX3_sorrow_39, eX3_sorrow_40, eX3_sorrow_41, eX3_sorrow_44, eX3_sorrow_45, eX3_sorrow_48, eX3_sorrow_51, eX3_sorrow_54, eX3_sorrow_55, eX3_sorrow_56, eX3_sorrow_59, eX3_sorrow_62, eX3_sorrow_63, eX3_sorrow_65, eX3_sorrow_68, kd_0, fr_0_0, fr_0_1, fr_0_2, fr_0_3, fr_0_4, fr_0_5, fr_0_6, fr_0_7, fr_0_8, kd_1, fr_1_0, fr_1_1, fr_1_2, fr_1_3, fr_1_4, kd_2, an_2, rd_2, kd_3, an_3, rd_3, kd_4, an_4, rd_4, kd_5, an_5, rd_5, kd_6, an_6, rd_6, kd_7, kd_13, fr_13_0, fr_13_1, fr_13_2, fr_13_3, fr_13_4, kd_14, an_14, rd_14, kd_15, an_15, rd_15, kd_16, an_16, rd_16, kd_17, an_17, rd_17, kd_19, fr_19_3, kd_23, an_23, rd_23, kd_25, an_25, rd_25, kd_26, an_26, rd_26, kd_27, fr_27_0, kd_28, an_28, rd_28, kd_29, an_29, kd_38, an_38, rd_38, tX3_isPerson, e1, one_ne0, b2i_t h1, Nat.reduceLeDiff, Nat.reduceEqDiff, Nat.reduceAdd, if_true, if_false, b2i_T, b2i_F, and_self, and_false, false_and, true_and, and_true, true_or, or_true, false_or, or_false, or_self, not_true_eq_false, not_false_eq_true, eq_self, List.cons_append, List.nil_append]
    refine lX3_sorrow (s := A 40) hp hB 100 0 rfl A off.rf ?_
    generalize fs (fun j => decide (sm_tilt (mhs (A 40) p j) n = 0)) 100 0 = d at y2
    by_cases hd : d ≤ 99
    · rw [if_pos hd]
      intro A2 ho
      have e40 : A2 40 = A 40 := ho 40 (by omega)
      have e43 : A2 43 = A 43 := ho 43 (by omega)
      simp only [hm, eX4_sorrow_0, eX4_sorrow_1, eX4_sorrow_2, eX4_sorrow_5, eX4_sorrow_8, eX4_sorrow_9, eX4_sorrow_11, eX4_sorrow_14, eX4_sorrow_15, eX4_sorrow_16, eX4_sorrow_17, eX4_sorrow_18, eX4_sorrow_21, eX4_sorrow_22, eX4_sorrow_24, eX4_sorrow_26, eX4_sorrow_29, eX4_sorrow_30, eX4_sorrow_33, eX4_sorrow_34, eX4_sorrow_35, eX4_sorrow_36, eX4_sorrow_37, eX4_sorrow_40, eX4_sorrow_41, eX4_sorrow_42, eX4_sorrow_45, eX4_sorrow_48, eX4_sorrow_49, eX4_sorrow_52, eX4_sorrow_53, eX4_sorrow_56, eX4_sorrow_57, eX4_sorrow_60, eX4_sorrow_63, eX4_sorrow_64, eX4_sorrow_67, eX4_sorrow_68, eX4_sorrow_70, eX4_sorrow_73, eX4_sorrow_76, eX4_sorrow_77, kd_39, fr_39_0, fr_39_1, fr_39_2, fr_39_3, fr_39_4, fr_39_6, fr_39_12, fr_39_13, fr_39_14, fr_39_15, kd_40, an_40, rd_40, kd_41, an_41, rd_41, kd_42, an_42, rd_42, kd_43, an_43, rd_43, kd_44, an_44, rd_44, kd_45, an_45, rd_45, kd_46, an_46, rd_46, kd_47, an_47, rd_47, kd_48, an_48, kd_49, an_49, tX4_isPerson, e2, one_ne0, b2i_t h1, e40, e43, y1, up_n, Nat.reduceLeDiff, Nat.reduceEqDiff, Nat.reduceAdd, if_true, if_false, b2i_T, b2i_F, and_self, and_false, false_and, true_and, and_true, true_or, or_true, false_or, or_false, or_self, not_true_eq_false, not_false_eq_true, eq_self, List.cons_append, List.nil_append]
      rw [y2 _ (by rw [up_n (by omega), e40]) (A 43) (by rw [up_s]), if_pos hd]
      have z := okQ.tr (a := sp_cp (A 40) (A 43) 37) (v := nI d) h ho rfl
      have e3 : va_up (va_up A2 43 (sp_cp (A 40) (A 43) 37)) 40 (A2 40) = va_up A2 43 (sp_cp (A 40) (A 43) 37) := by
        have e4 := up_id (f := va_up A2 43 (sp_cp (A 40) (A 43) 37)) (k := 40)
        rw [up_n (by omega)] at e4
        exact e4
      rw [e3] at z
      exact z
    · rw [if_neg hd]
      intro A2 ho
      have e40 : A2 40 = A 40 := ho 40 (by omega)
      have e43 : A2 43 = A 43 := ho 43 (by omega)
      simp only [hm, eX4_sorrow_0, eX4_sorrow_1, eX4_sorrow_2, eX4_sorrow_5, eX4_sorrow_8, eX4_sorrow_9, eX4_sorrow_11, eX4_sorrow_14, eX4_sorrow_15, eX4_sorrow_16, eX4_sorrow_17, eX4_sorrow_18, eX4_sorrow_21, eX4_sorrow_22, eX4_sorrow_24, eX4_sorrow_26, eX4_sorrow_29, eX4_sorrow_30, eX4_sorrow_33, eX4_sorrow_34, eX4_sorrow_35, eX4_sorrow_36, eX4_sorrow_37, eX4_sorrow_40, eX4_sorrow_41, eX4_sorrow_42, eX4_sorrow_45, eX4_sorrow_48, eX4_sorrow_49, eX4_sorrow_52, eX4_sorrow_53, eX4_sorrow_56, eX4_sorrow_57, eX4_sorrow_60, eX4_sorrow_63, eX4_sorrow_64, eX4_sorrow_67, eX4_sorrow_68, eX4_sorrow_70, eX4_sorrow_73, eX4_sorrow_76, eX4_sorrow_77, kd_39, fr_39_0, fr_39_1, fr_39_2, fr_39_3, fr_39_4, fr_39_6, fr_39_12, fr_39_13, fr_39_14, fr_39_15, kd_40, an_40, rd_40, kd_41, an_41, rd_41, kd_42, an_42, rd_42, kd_43, an_43, rd_43, kd_44, an_44, rd_44, kd_45, an_45, rd_45, kd_46, an_46, rd_46, kd_47, an_47, rd_47, kd_48, an_48, kd_49, an_49, tX4_isPerson, e2, one_ne0, b2i_t h1, e40, e43, y1, up_n, Nat.reduceLeDiff, Nat.reduceEqDiff, Nat.reduceAdd, if_true, if_false, b2i_T, b2i_F, and_self, and_false, false_and, true_and, and_true, true_or, or_true, false_or, or_false, or_self, not_true_eq_false, not_false_eq_true, eq_self, List.cons_append, List.nil_append]
      rw [y2 _ (by rw [up_n (by omega), up_n (by omega), e40]) (A 43) (by rw [up_s]), if_neg hd]
      simp only [up_n, Nat.reduceLeDiff, Nat.reduceEqDiff, Nat.reduceAdd, if_true, if_false, b2i_T, b2i_F, and_self, and_false, false_and, true_and, and_true, true_or, or_true, false_or, or_false, or_self, not_true_eq_false, not_false_eq_true, eq_self, List.cons_append, List.nil_append]
      have z := okQ.trf (a := sp_cp (A 40) (A 43) 37) (v := -1000000004) h ho rfl 3
      have e3 : va_up (va_up (va_up A2 38 (upd (A2 38) 3 (A2 38 3 + 1))) 43 (sp_cp (A 40) (A 43) 37)) 40 (A2 40) = va_up (va_up A2 38 (upd (A2 38) 3 (A2 38 3 + 1))) 43 (sp_cp (A 40) (A 43) 37) := by
        have e4 := up_id (f := va_up (va_up A2 38 (upd (A2 38) 3 (A2 38 3 + 1))) 43 (sp_cp (A 40) (A 43) 37)) (k := 40)
        rw [up_n (by omega), up_n (by omega)] at e4
        exact e4
      rw [e3] at z
      exact z
  · simp only [eX3_sorrow_0, eX3_sorrow_1, eX3_sorrow_2, eX3_sorrow_5, eX3_sorrow_8, eX3_sorrow_9, eX3_sorrow_11, eX3_sorrow_14, eX3_sorrow_15, eX3_sorrow_16, eX3_sorrow_18, eX3_sorrow_20, eX3_sorrow_23, eX3_sorrow_24, eX3_sorrow_27, eX3_sorrow_28, eX3_sorrow_31, eX3_sorrow_34, eX3_sorrow_35, eX3_sorrow_38, eX3_sorrow_39, eX3_sorrow_40, eX3_sorrow_41, eX3_sorrow_44, eX3_sorrow_45, eX3_sorrow_48, eX3_sorrow_51, eX3_sorrow_54, eX3_sorrow_55, eX3_sorrow_56, eX3_sorrow_59, eX3_sorrow_62, eX3_sorrow_63, eX3_sorrow_65, eX3_sorrow_68, eX4_sorrow_0, eX4_sorrow_1, eX4_sorrow_2, eX4_sorrow_5, eX4_sorrow_8, eX4_sorrow_9, eX4_sorrow_11, eX4_sorrow_14, eX4_sorrow_15, eX4_sorrow_16, eX4_sorrow_17, eX4_sorrow_18, eX4_sorrow_21, eX4_sorrow_22, eX4_sorrow_24, eX4_sorrow_26, eX4_sorrow_29, eX4_sorrow_30, eX4_sorrow_33, eX4_sorrow_34, eX4_sorrow_35, eX4_sorrow_36, eX4_sorrow_37, eX4_sorrow_40, eX4_sorrow_41, eX4_sorrow_42, eX4_sorrow_45, eX4_sorrow_48, eX4_sorrow_49, eX4_sorrow_52, eX4_sorrow_53, eX4_sorrow_56, eX4_sorrow_57, eX4_sorrow_60, eX4_sorrow_63, eX4_sorrow_64, eX4_sorrow_67, eX4_sorrow_68, eX4_sorrow_70, eX4_sorrow_73, eX4_sorrow_76, eX4_sorrow_77, hm, kd_0, fr_0_0, fr_0_1, fr_0_2, fr_0_3, fr_0_4, fr_0_5, fr_0_6, fr_0_7, fr_0_8, kd_1, fr_1_0, fr_1_1, fr_1_2, fr_1_3, fr_1_4, kd_2, an_2, rd_2, kd_3, an_3, rd_3, kd_4, an_4, rd_4, kd_5, an_5, rd_5, kd_6, an_6, rd_6, kd_7, kd_13, fr_13_0, fr_13_1, fr_13_2, fr_13_3, fr_13_4, kd_14, an_14, rd_14, kd_15, an_15, rd_15, kd_16, an_16, rd_16, kd_17, an_17, rd_17, kd_19, fr_19_3, kd_23, an_23, rd_23, kd_25, an_25, rd_25, kd_26, an_26, rd_26, kd_27, fr_27_0, kd_28, an_28, rd_28, kd_29, an_29, kd_38, an_38, rd_38, kd_39, fr_39_0, fr_39_1, fr_39_2, fr_39_3, fr_39_4, fr_39_6, fr_39_12, fr_39_13, fr_39_14, fr_39_15, kd_40, an_40, rd_40, kd_41, an_41, rd_41, kd_42, an_42, rd_42, kd_43, an_43, rd_43, kd_44, an_44, rd_44, kd_45, an_45, rd_45, kd_46, an_46, rd_46, kd_47, an_47, rd_47, kd_48, an_48, kd_49, an_49, tX3_isPerson, tX4_isPerson, e1, e2, tX3_finding0, tX3_finding1, tX3_finding2, tX3_finding3, tX3_finding4, tX3_finding5, tX3_finding6, tX4_finds0, tX4_finds1, tX4_finds2, tX4_finds3, tX4_finds4, tX4_finds5, tX4_finds6, up_n, up_s, b2i_f h1, Nat.reduceLeDiff, Nat.reduceEqDiff, Nat.reduceAdd, if_true, if_false, b2i_T, b2i_F, and_self, and_false, false_and, true_and, and_true, true_or, or_true, false_or, or_false, or_self, not_true_eq_false, not_false_eq_true, eq_self, List.cons_append, List.nil_append]
    exact okQ.find h 0

end OP
