/-! THE CALLS, ONE BY ONE: now, status, image, undo -/
theorem r_B.cg {c n : Nat} {ob K Gl So Pl Hu s s' : Nat → Int32} (h : r_B c n ob K Gl So Pl Hu s) (hs : ∀ q, q < 37 → s' q = s q) : r_B c n ob K Gl So Pl Hu s' := by
  obtain ⟨⟨h1, h2, h3⟩, ⟨h4, h5, h6⟩, ⟨h7, h8, h9⟩, h11⟩ := h
  refine ⟨⟨h1, h2, by rw [hs 0 (by omega)]; exact h3⟩, ⟨by rw [hs 1 (by omega)]; exact h4, by rw [hs 2 (by omega)]; exact h5, h6⟩, ⟨by rw [hs 3 (by omega)]; exact h7, by rw [hs 4 (by omega)]; exact h8, h9⟩, fun p hp => ?_⟩
  rw [hs (5 + 4 * p) (by omega), hs (5 + 4 * p + 1) (by omega), hs (5 + 4 * p + 2) (by omega), hs (5 + 4 * p + 3) (by omega)]
  exact h11 p hp
theorem sp_cp_0 {f g : Nat → Int32} : sp_cp f g 0 = g := rfl

section OP
variable {G : sx_G} {c n : Nat} {A : sx_A} {Z : sx_Z} {Q : List Value → sx_A → sx_Z → Prop}

theorem tX3_sum_l {k N m : Nat} (hk : sx_kd k = 5) (hN : sx_an G k = N) (hl : k < 50) (hm : m ≤ N) (hN2 : N < 2 ^ 31) : ∀ (j p : Nat), p + j = m → (sx_ev G mX3_sum 4 [some (.ref k), some (.int (nI m)), some (.int (sp_sum (A k) p)), some (.int (nI p))] [] A Z Q ↔ Q [.int (sp_sum (A k) m)] A Z) := by
  have h6 : ∀ j, sx_rd G A k j = A k j := fun j => if_pos hl
  intro j
  induction j with
  | zero =>
    intro p hp
    obtain rfl : p = m := by omega
    rw [eX3_sum_4]
    have h1 : nI p ≤ nI p := nI_le (Nat.le_refl _) (by omega)
    simp only [eX3_sum_0, eX3_sum_1, eX3_sum_2, eX3_sum_3, eX3_sum_5, eX3_sum_6, eX3_sum_9, eX3_sum_10, eX3_sum_11, eX3_sum_12, eX3_sum_15, eX3_sum_16, eX3_sum_17, eX3_sum_18, eX3_sum_19, eX3_sum_20, eX3_sum_21, eX3_sum_24, eX3_sum_27, eX3_sum_28, h1, Nat.reduceLeDiff, Nat.reduceEqDiff, Nat.reduceAdd, if_true, if_false, b2i_T, b2i_F, and_self, and_false, false_and, true_and, and_true, true_or, or_true, false_or, or_false, or_self, not_true_eq_false, not_false_eq_true, eq_self, List.cons_append, List.nil_append]
  | succ j ih =>
    intro p hp
    rw [eX3_sum_4]
    have h1 : ¬ nI m ≤ nI p := nI_ge (by omega) (by omega)
    have h7 : ¬ Int32.ofNat N ≤ nI p := nI_ge (by omega) (by omega)
    have h2 : ¬ nI p < 0 := nI_pos (by omega)
    have h5 : ¬ N ≤ p := by omega
    have h3 : (nI p).toNatClampNeg = p := nI_clamp (by omega)
    have h4 := ih (p + 1) (by omega)
    rw [sp_sum, nI_succ] at h4
    simp only [eX3_sum_0, eX3_sum_1, eX3_sum_2, eX3_sum_3, eX3_sum_5, eX3_sum_6, eX3_sum_9, eX3_sum_10, eX3_sum_11, eX3_sum_12, eX3_sum_15, eX3_sum_16, eX3_sum_17, eX3_sum_18, eX3_sum_19, eX3_sum_20, eX3_sum_21, eX3_sum_24, eX3_sum_27, eX3_sum_28, hk, hN, h1, h2, h3, h5, h6, h7, Nat.reduceLeDiff, Nat.reduceEqDiff, Nat.reduceAdd, if_true, if_false, b2i_T, b2i_F, and_self, and_false, false_and, true_and, and_true, true_or, or_true, false_or, or_false, or_self, not_true_eq_false, not_false_eq_true, eq_self, List.cons_append, List.nil_append]
    exact h4
theorem tX3_sum {k N m : Nat} (hk : sx_kd k = 5) (hN : sx_an G k = N) (hl : k < 50) (hm : m ≤ N) (hN2 : N < 2 ^ 31) : sx_call G mX3_sum [.ref k, .int (nI m)] A Z Q ↔ Q [.int (sp_sum (A k) m)] A Z := by
  rw [sx_call_in (L := [some (.ref k), some (.int (nI m)), none, none]) rfl rfl]
  rw [← tX3_sum_l (G := G) (Z := Z) (Q := Q) hk hN hl hm hN2 m 0 (by omega)]
  simp only [eX3_sum_0, eX3_sum_1, eX3_sum_2, eX3_sum_3, eX3_sum_5, eX3_sum_6, eX3_sum_9, eX3_sum_10, eX3_sum_11, eX3_sum_12, eX3_sum_15, eX3_sum_16, eX3_sum_17, eX3_sum_18, eX3_sum_19, eX3_sum_20, eX3_sum_21, eX3_sum_24, eX3_sum_27, eX3_sum_28]
  rfl
theorem lX4_status {v : Int32} : ∀ (k p : Nat), p + k = 7 → (sx_ev G mX4_status 25 [some (.ref 39), some (.int v), some (.int (sp_sum (fun q => if v < 0 ∨ nI q = v then A 44 q else 0) p)), some (.int (nI p))] [] A Z Q ↔ Q [.int (sp_sum (fun q => if v < 0 ∨ nI q = v then A 44 q else 0) 7)] A Z) := by
  intro k
  induction k with
  | zero =>
    intro p hp
    obtain rfl : p = 7 := by omega
    rw [eX4_status_25]
    have h1 : (7 : Int32) ≤ nI 7 := by decide
    simp only [eX4_status_0, eX4_status_1, eX4_status_2, eX4_status_5, eX4_status_8, eX4_status_11, eX4_status_14, eX4_status_15, eX4_status_17, eX4_status_20, eX4_status_21, eX4_status_22, eX4_status_23, eX4_status_24, eX4_status_26, eX4_status_28, eX4_status_31, eX4_status_32, eX4_status_33, eX4_status_36, eX4_status_37, eX4_status_38, eX4_status_41, eX4_status_42, eX4_status_45, eX4_status_46, eX4_status_47, eX4_status_50, eX4_status_51, eX4_status_52, eX4_status_53, eX4_status_56, eX4_status_59, eX4_status_60, h1, Nat.reduceLeDiff, Nat.reduceEqDiff, Nat.reduceAdd, if_true, if_false, b2i_T, b2i_F, and_self, and_false, false_and, true_and, and_true, true_or, or_true, false_or, or_false, or_self, not_true_eq_false, not_false_eq_true, eq_self, List.cons_append, List.nil_append]
  | succ k ih =>
    intro p hp
    rw [eX4_status_25]
    have h1 : ¬ (7 : Int32) ≤ nI p := nI_ge (a := p) (b := 7) (by omega) (by omega)
    have h2 : ¬ nI p < 0 := nI_pos (by omega)
    have h5 : ¬ 7 ≤ p := by omega
    have h3 : (nI p).toNatClampNeg = p := nI_clamp (by omega)
    have h4 := ih (p + 1) (by omega)
    rw [sp_sum, nI_succ] at h4
    by_cases c1 : v < 0
    · simp only [eX4_status_0, eX4_status_1, eX4_status_2, eX4_status_5, eX4_status_8, eX4_status_11, eX4_status_14, eX4_status_15, eX4_status_17, eX4_status_20, eX4_status_21, eX4_status_22, eX4_status_23, eX4_status_24, eX4_status_26, eX4_status_28, eX4_status_31, eX4_status_32, eX4_status_33, eX4_status_36, eX4_status_37, eX4_status_38, eX4_status_41, eX4_status_42, eX4_status_45, eX4_status_46, eX4_status_47, eX4_status_50, eX4_status_51, eX4_status_52, eX4_status_53, eX4_status_56, eX4_status_59, eX4_status_60, kd_39, fr_39_0, fr_39_1, fr_39_2, fr_39_3, fr_39_4, fr_39_6, fr_39_12, fr_39_13, fr_39_14, fr_39_15, kd_40, an_40, rd_40, kd_41, an_41, rd_41, kd_42, an_42, rd_42, kd_43, an_43, rd_43, kd_44, an_44, rd_44, kd_45, an_45, rd_45, kd_46, an_46, rd_46, kd_47, an_47, rd_47, kd_48, an_48, kd_49, an_49, h1, h2, h3, h5, c1, Nat.reduceLeDiff, Nat.reduceEqDiff, Nat.reduceAdd, if_true, if_false, b2i_T, b2i_F, and_self, and_false, false_and, true_and, and_true, true_or, or_true, false_or, or_false, or_self, not_true_eq_false, not_false_eq_true, eq_self, List.cons_append, List.nil_append] at h4 ⊢
      exact h4
    · by_cases c2 : nI p = v
      · subst c2
        simp only [eX4_status_0, eX4_status_1, eX4_status_2, eX4_status_5, eX4_status_8, eX4_status_11, eX4_status_14, eX4_status_15, eX4_status_17, eX4_status_20, eX4_status_21, eX4_status_22, eX4_status_23, eX4_status_24, eX4_status_26, eX4_status_28, eX4_status_31, eX4_status_32, eX4_status_33, eX4_status_36, eX4_status_37, eX4_status_38, eX4_status_41, eX4_status_42, eX4_status_45, eX4_status_46, eX4_status_47, eX4_status_50, eX4_status_51, eX4_status_52, eX4_status_53, eX4_status_56, eX4_status_59, eX4_status_60, kd_39, fr_39_0, fr_39_1, fr_39_2, fr_39_3, fr_39_4, fr_39_6, fr_39_12, fr_39_13, fr_39_14, fr_39_15, kd_40, an_40, rd_40, kd_41, an_41, rd_41, kd_42, an_42, rd_42, kd_43, an_43, rd_43, kd_44, an_44, rd_44, kd_45, an_45, rd_45, kd_46, an_46, rd_46, kd_47, an_47, rd_47, kd_48, an_48, kd_49, an_49, h1, h2, h3, h5, c1, Nat.reduceLeDiff, Nat.reduceEqDiff, Nat.reduceAdd, if_true, if_false, b2i_T, b2i_F, and_self, and_false, false_and, true_and, and_true, true_or, or_true, false_or, or_false, or_self, not_true_eq_false, not_false_eq_true, eq_self, List.cons_append, List.nil_append] at h4 ⊢
        exact h4
      · simp only [eX4_status_0, eX4_status_1, eX4_status_2, eX4_status_5, eX4_status_8, eX4_status_11, eX4_status_14, eX4_status_15, eX4_status_17, eX4_status_20, eX4_status_21, eX4_status_22, eX4_status_23, eX4_status_24, eX4_status_26, eX4_status_28, eX4_status_31, eX4_status_32, eX4_status_33, eX4_status_36, eX4_status_37, eX4_status_38, eX4_status_41, eX4_status_42, eX4_status_45, eX4_status_46, eX4_status_47, eX4_status_50, eX4_status_51, eX4_status_52, eX4_status_53, eX4_status_56, eX4_status_59, eX4_status_60, kd_39, fr_39_0, fr_39_1, fr_39_2, fr_39_3, fr_39_4, fr_39_6, fr_39_12, fr_39_13, fr_39_14, fr_39_15, kd_40, an_40, rd_40, kd_41, an_41, rd_41, kd_42, an_42, rd_42, kd_43, an_43, rd_43, kd_44, an_44, rd_44, kd_45, an_45, rd_45, kd_46, an_46, rd_46, kd_47, an_47, rd_47, kd_48, an_48, kd_49, an_49, h1, h2, h3, h5, c1, c2, Nat.reduceLeDiff, Nat.reduceEqDiff, Nat.reduceAdd, if_true, if_false, b2i_T, b2i_F, and_self, and_false, false_and, true_and, and_true, true_or, or_true, false_or, or_false, or_self, not_true_eq_false, not_false_eq_true, eq_self, List.cons_append, List.nil_append] at h4 ⊢
        exact h4
theorem tX4_image_l : ∀ (k p : Nat), p + k = 37 → (sx_ev G mX4_image 2 [some (.ref 39), some (.int (nI p))] [] (va_up A 41 (sp_cp (A 40) (A 41) p)) Z Q ↔ Q [.int 1] (va_up (va_up A 41 (sp_cp (A 40) (A 41) 37)) 39 (upd (A 39) 5 1)) Z) := by
  intro k
  induction k with
  | zero =>
    intro p hp
    obtain rfl : p = 37 := by omega
    rw [eX4_image_2]
    have h1 : (37 : Int32) ≤ nI 37 := by decide
    simp only [eX4_image_0, eX4_image_1, eX4_image_3, eX4_image_5, eX4_image_8, eX4_image_9, eX4_image_12, eX4_image_13, eX4_image_14, eX4_image_17, eX4_image_18, eX4_image_19, eX4_image_20, eX4_image_23, eX4_image_26, eX4_image_27, eX4_image_28, eX4_image_31, eX4_image_32, kd_39, fr_39_0, fr_39_1, fr_39_2, fr_39_3, fr_39_4, fr_39_6, fr_39_12, fr_39_13, fr_39_14, fr_39_15, kd_40, an_40, rd_40, kd_41, an_41, rd_41, kd_42, an_42, rd_42, kd_43, an_43, rd_43, kd_44, an_44, rd_44, kd_45, an_45, rd_45, kd_46, an_46, rd_46, kd_47, an_47, rd_47, kd_48, an_48, kd_49, an_49, h1, up_n, up_s, Nat.reduceLeDiff, Nat.reduceEqDiff, Nat.reduceAdd, if_true, if_false, b2i_T, b2i_F, and_self, and_false, false_and, true_and, and_true, true_or, or_true, false_or, or_false, or_self, not_true_eq_false, not_false_eq_true, eq_self, List.cons_append, List.nil_append]
  | succ k ih =>
    intro p hp
    rw [eX4_image_2]
    have h1 : ¬ (37 : Int32) ≤ nI p := nI_ge (a := p) (b := 37) (by omega) (by omega)
    have h2 : ¬ nI p < 0 := nI_pos (by omega)
    have h5 : ¬ 37 ≤ p := by omega
    have h3 : (nI p).toNatClampNeg = p := nI_clamp (by omega)
    have h4 := ih (p + 1) (by omega)
    rw [sp_cp, nI_succ] at h4
    simp only [eX4_image_0, eX4_image_1, eX4_image_3, eX4_image_5, eX4_image_8, eX4_image_9, eX4_image_12, eX4_image_13, eX4_image_14, eX4_image_17, eX4_image_18, eX4_image_19, eX4_image_20, eX4_image_23, eX4_image_26, eX4_image_27, eX4_image_28, eX4_image_31, eX4_image_32, kd_39, fr_39_0, fr_39_1, fr_39_2, fr_39_3, fr_39_4, fr_39_6, fr_39_12, fr_39_13, fr_39_14, fr_39_15, kd_40, an_40, rd_40, kd_41, an_41, rd_41, kd_42, an_42, rd_42, kd_43, an_43, rd_43, kd_44, an_44, rd_44, kd_45, an_45, rd_45, kd_46, an_46, rd_46, kd_47, an_47, rd_47, kd_48, an_48, kd_49, an_49, h1, h2, h3, h5, up_n, up_s, up_up, Nat.reduceLeDiff, Nat.reduceEqDiff, Nat.reduceAdd, if_true, if_false, b2i_T, b2i_F, and_self, and_false, false_and, true_and, and_true, true_or, or_true, false_or, or_false, or_self, not_true_eq_false, not_false_eq_true, eq_self, List.cons_append, List.nil_append]
    exact h4
theorem tX4_undo_l : ∀ (k p : Nat), p + k = 37 → (sx_ev G mX4_undo 16 [some (.ref 39), some (.int (nI p))] [] (va_up A 40 (sp_cp (A 41) (A 40) p)) Z Q ↔ Q [.int (A 41 0)] (va_up A 40 (sp_cp (A 41) (A 40) 37)) Z) := by
  intro k
  induction k with
  | zero =>
    intro p hp
    obtain rfl : p = 37 := by omega
    rw [eX4_undo_16]
    have h1 : (37 : Int32) ≤ nI 37 := by decide
    simp only [eX4_undo_0, eX4_undo_1, eX4_undo_4, eX4_undo_7, eX4_undo_8, eX4_undo_10, eX4_undo_13, eX4_undo_14, eX4_undo_15, eX4_undo_17, eX4_undo_19, eX4_undo_22, eX4_undo_23, eX4_undo_26, eX4_undo_27, eX4_undo_28, eX4_undo_31, eX4_undo_32, eX4_undo_33, eX4_undo_34, eX4_undo_37, eX4_undo_40, eX4_undo_41, eX4_undo_44, eX4_undo_45, eX4_undo_46, kd_39, fr_39_0, fr_39_1, fr_39_2, fr_39_3, fr_39_4, fr_39_6, fr_39_12, fr_39_13, fr_39_14, fr_39_15, kd_40, an_40, rd_40, kd_41, an_41, rd_41, kd_42, an_42, rd_42, kd_43, an_43, rd_43, kd_44, an_44, rd_44, kd_45, an_45, rd_45, kd_46, an_46, rd_46, kd_47, an_47, rd_47, kd_48, an_48, kd_49, an_49, z_0, z_1, z_2, z_3, z_4, zc_0, zc_1, zc_2, zc_3, zc_4, h1, up_n, up_s, sp_cp_lt _ _ 37 0 (by omega), Nat.reduceLeDiff, Nat.reduceEqDiff, Nat.reduceAdd, if_true, if_false, b2i_T, b2i_F, and_self, and_false, false_and, true_and, and_true, true_or, or_true, false_or, or_false, or_self, not_true_eq_false, not_false_eq_true, eq_self, List.cons_append, List.nil_append]
  | succ k ih =>
    intro p hp
    rw [eX4_undo_16]
    have h1 : ¬ (37 : Int32) ≤ nI p := nI_ge (a := p) (b := 37) (by omega) (by omega)
    have h2 : ¬ nI p < 0 := nI_pos (by omega)
    have h5 : ¬ 37 ≤ p := by omega
    have h3 : (nI p).toNatClampNeg = p := nI_clamp (by omega)
    have h4 := ih (p + 1) (by omega)
    rw [sp_cp, nI_succ] at h4
    simp only [eX4_undo_0, eX4_undo_1, eX4_undo_4, eX4_undo_7, eX4_undo_8, eX4_undo_10, eX4_undo_13, eX4_undo_14, eX4_undo_15, eX4_undo_17, eX4_undo_19, eX4_undo_22, eX4_undo_23, eX4_undo_26, eX4_undo_27, eX4_undo_28, eX4_undo_31, eX4_undo_32, eX4_undo_33, eX4_undo_34, eX4_undo_37, eX4_undo_40, eX4_undo_41, eX4_undo_44, eX4_undo_45, eX4_undo_46, kd_39, fr_39_0, fr_39_1, fr_39_2, fr_39_3, fr_39_4, fr_39_6, fr_39_12, fr_39_13, fr_39_14, fr_39_15, kd_40, an_40, rd_40, kd_41, an_41, rd_41, kd_42, an_42, rd_42, kd_43, an_43, rd_43, kd_44, an_44, rd_44, kd_45, an_45, rd_45, kd_46, an_46, rd_46, kd_47, an_47, rd_47, kd_48, an_48, kd_49, an_49, h1, h2, h3, h5, up_n, up_s, up_up, Nat.reduceLeDiff, Nat.reduceEqDiff, Nat.reduceAdd, if_true, if_false, b2i_T, b2i_F, and_self, and_false, false_and, true_and, and_true, true_or, or_true, false_or, or_false, or_self, not_true_eq_false, not_false_eq_true, eq_self, List.cons_append, List.nil_append]
    exact h4

theorem op_image (h : Rel c A Z) : okOp G c A Z mX3_image mX4_image [] := by
  obtain ⟨n, hB⟩ := h.1
  obtain ⟨hn, e1, e2⟩ := hB.1
  unfold okOp
  rw [sx_call_in (L := [some (.ref 0)]) rfl rfl]
  have hm : ∀ (A : sx_A) (Q : List Value → sx_A → sx_Z → Prop), sx_call G mX4_image [.ref 39] A Z Q ↔ sx_ev G mX4_image 0 [some (.ref 39), none] [] A Z Q := fun A Q => sx_call_in rfl rfl
  have x1 := fun (Q : List Value → sx_A → sx_Z → Prop) => tX0_becomes (G := G) (A := A) (Z := Z) (Q := Q) isB7 bo_7_1 hn e1
  have hT := rB.bec (n := n) bo_7_1 hB
  have ho : off 7 A (bm_bec A 7 1 n) := off_bec
  generalize bm_bec A 7 1 n = A1 at x1 hT ho
  have y1 := fun (A' : sx_A) (Q : List Value → sx_A → sx_Z → Prop) => tX4_image_l (G := G) (A := A') (Z := Z) (Q := Q) 37 0 rfl
  simp only [sp_cp_0, up_id, nI_0] at y1
  simp only [eX3_image_0, eX3_image_1, eX3_image_4, eX3_image_5, eX3_image_8, eX3_image_11, eX3_image_12, eX3_image_13, eX3_image_16, eX3_image_17, eX4_image_0, eX4_image_1, eX4_image_3, eX4_image_5, eX4_image_8, eX4_image_9, eX4_image_12, eX4_image_13, eX4_image_14, eX4_image_17, eX4_image_18, eX4_image_19, eX4_image_20, eX4_image_23, eX4_image_26, eX4_image_27, eX4_image_28, eX4_image_31, eX4_image_32, hm, x1, y1, kd_0, fr_0_0, fr_0_1, fr_0_2, fr_0_3, fr_0_4, fr_0_5, fr_0_6, fr_0_7, fr_0_8, kd_1, fr_1_0, fr_1_1, fr_1_2, fr_1_3, fr_1_4, kd_2, an_2, rd_2, kd_3, an_3, rd_3, kd_4, an_4, rd_4, kd_5, an_5, rd_5, kd_6, an_6, rd_6, kd_7, kd_13, fr_13_0, fr_13_1, fr_13_2, fr_13_3, fr_13_4, kd_14, an_14, rd_14, kd_15, an_15, rd_15, kd_16, an_16, rd_16, kd_17, an_17, rd_17, kd_19, fr_19_3, kd_23, an_23, rd_23, kd_25, an_25, rd_25, kd_26, an_26, rd_26, kd_27, fr_27_0, kd_28, an_28, rd_28, kd_29, an_29, kd_38, an_38, rd_38, kd_39, fr_39_0, fr_39_1, fr_39_2, fr_39_3, fr_39_4, fr_39_6, fr_39_12, fr_39_13, fr_39_14, fr_39_15, kd_40, an_40, rd_40, kd_41, an_41, rd_41, kd_42, an_42, rd_42, kd_43, an_43, rd_43, kd_44, an_44, rd_44, kd_45, an_45, rd_45, kd_46, an_46, rd_46, kd_47, an_47, rd_47, kd_48, an_48, kd_49, an_49, up_n, up_s, Nat.reduceLeDiff, Nat.reduceEqDiff, Nat.reduceAdd, if_true, if_false, b2i_T, b2i_F, and_self, and_false, false_and, true_and, and_true, true_or, or_true, false_or, or_false, or_self, not_true_eq_false, not_false_eq_true, eq_self, List.cons_append, List.nil_append]
  refine ⟨rfl, ⟨_, rfl⟩, Rel.up (Nat.le_succ c) ?_⟩
  obtain ⟨g1, ⟨g2, -⟩, g3, g4, g5⟩ := h
  simp only [Rel, up_n, up_s, ud_s, ud_n, Nat.reduceLeDiff, Nat.reduceEqDiff, Nat.reduceAdd, if_true, if_false, b2i_T, b2i_F, and_self, and_false, false_and, true_and, and_true, true_or, or_true, false_or, or_false, or_self, not_true_eq_false, not_false_eq_true, eq_self, List.cons_append, List.nil_append]
  have hq : r_B c n (A1 7) (A1 8) (A1 9) (A1 10) (A1 11) (A1 12) (sp_cp (A1 40) (A1 41) 37) := r_B.cg hT (fun q hq => by rw [sp_cp_lt _ _ _ _ hq, ho 40 (by omega)])
  rw [ho 1 (by omega), ho 2 (by omega), ho 3 (by omega), ho 4 (by omega), ho 5 (by omega), ho 6 (by omega), ho 40 (by omega), ho 27 (by omega), ho 28 (by omega), ho 45 (by omega), ho 39 (by omega), ho 30 (by omega), ho 32 (by omega), ho 34 (by omega), ho 36 (by omega), ho 46 (by omega), ho 47 (by omega), ho 38 (by omega), ho 44 (by omega)]
  rw [ho 40 (by omega)] at hq
  exact ⟨g1, Or.inr ⟨n, hq⟩, g3, g4, g5⟩

theorem op_undo (h : Rel c A Z) : okOp G c A Z mX3_undo mX4_undo [] := by
  obtain ⟨n, hB⟩ := h.1
  obtain ⟨hn, e1, e2⟩ := hB.1
  unfold okOp
  rw [sx_call_in (L := [some (.ref 0)]) rfl rfl]
  have hm : ∀ (A : sx_A) (Q : List Value → sx_A → sx_Z → Prop), sx_call G mX4_undo [.ref 39] A Z Q ↔ sx_ev G mX4_undo 0 [some (.ref 39), none] [] A Z Q := fun A Q => sx_call_in rfl rfl
  rcases h.2.1 with ⟨hk, hk2⟩
  rcases hk2 with hk2 | ⟨hk2, n', hK⟩
  · rw [hk2] at hk
    simp only [eX3_undo_0, eX3_undo_1, eX3_undo_4, eX3_undo_7, eX3_undo_8, eX3_undo_10, eX3_undo_13, eX3_undo_14, eX3_undo_15, eX3_undo_18, eX3_undo_19, eX3_undo_22, eX3_undo_25, eX3_undo_26, eX3_undo_29, eX3_undo_32, eX4_undo_0, eX4_undo_1, eX4_undo_4, eX4_undo_7, eX4_undo_8, eX4_undo_10, eX4_undo_13, eX4_undo_14, eX4_undo_15, eX4_undo_17, eX4_undo_19, eX4_undo_22, eX4_undo_23, eX4_undo_26, eX4_undo_27, eX4_undo_28, eX4_undo_31, eX4_undo_32, eX4_undo_33, eX4_undo_34, eX4_undo_37, eX4_undo_40, eX4_undo_41, eX4_undo_44, eX4_undo_45, eX4_undo_46, hm, kd_0, fr_0_0, fr_0_1, fr_0_2, fr_0_3, fr_0_4, fr_0_5, fr_0_6, fr_0_7, fr_0_8, kd_1, fr_1_0, fr_1_1, fr_1_2, fr_1_3, fr_1_4, kd_2, an_2, rd_2, kd_3, an_3, rd_3, kd_4, an_4, rd_4, kd_5, an_5, rd_5, kd_6, an_6, rd_6, kd_7, kd_13, fr_13_0, fr_13_1, fr_13_2, fr_13_3, fr_13_4, kd_14, an_14, rd_14, kd_15, an_15, rd_15, kd_16, an_16, rd_16, kd_17, an_17, rd_17, kd_19, fr_19_3, kd_23, an_23, rd_23, kd_25, an_25, rd_25, kd_26, an_26, rd_26, kd_27, fr_27_0, kd_28, an_28, rd_28, kd_29, an_29, kd_38, an_38, rd_38, kd_39, fr_39_0, fr_39_1, fr_39_2, fr_39_3, fr_39_4, fr_39_6, fr_39_12, fr_39_13, fr_39_14, fr_39_15, kd_40, an_40, rd_40, kd_41, an_41, rd_41, kd_42, an_42, rd_42, kd_43, an_43, rd_43, kd_44, an_44, rd_44, kd_45, an_45, rd_45, kd_46, an_46, rd_46, kd_47, an_47, rd_47, kd_48, an_48, kd_49, an_49, tX3_finding0, tX3_finding1, tX3_finding2, tX3_finding3, tX3_finding4, tX3_finding5, tX3_finding6, tX4_finds0, tX4_finds1, tX4_finds2, tX4_finds3, tX4_finds4, tX4_finds5, tX4_finds6, up_n, up_s, hk2, ← hk, Nat.reduceLeDiff, Nat.reduceEqDiff, Nat.reduceAdd, if_true, if_false, b2i_T, b2i_F, and_self, and_false, false_and, true_and, and_true, true_or, or_true, false_or, or_false, or_self, not_true_eq_false, not_false_eq_true, eq_self, List.cons_append, List.nil_append]
    exact okQ.find h 3
  · rw [hk2] at hk
    obtain ⟨hn', e1', e2'⟩ := hK.1
    have x1 := fun (Q : List Value → sx_A → sx_Z → Prop) => tX0_becomes (G := G) (A := A) (Z := Z) (Q := Q) isB1 bo_1_7 hn' e1'
    have hT := rB.bec (n := n') bo_1_7 (A := A) (s := A 41) hK
    have ho : off 1 A (bm_bec A 1 7 n') := off_bec
    generalize bm_bec A 1 7 n' = A1 at x1 hT ho
    have y1 := fun (A' : sx_A) (Q : List Value → sx_A → sx_Z → Prop) => tX4_undo_l (G := G) (A := A') (Z := Z) (Q := Q) 37 0 rfl
    simp only [sp_cp_0, up_id, nI_0] at y1
    have e5 : A1 1 5 = nI n' := hT.1.2.1
    have e39 : A1 39 5 = 1 := by rw [ho 39 (by omega)]; exact hk.symm
    have e41 : A1 41 0 = nI n' := by rw [ho 41 (by omega)]; exact e2'
    simp only [eX3_undo_0, eX3_undo_1, eX3_undo_4, eX3_undo_7, eX3_undo_8, eX3_undo_10, eX3_undo_13, eX3_undo_14, eX3_undo_15, eX3_undo_18, eX3_undo_19, eX3_undo_22, eX3_undo_25, eX3_undo_26, eX3_undo_29, eX3_undo_32, eX4_undo_0, eX4_undo_1, eX4_undo_4, eX4_undo_7, eX4_undo_8, eX4_undo_10, eX4_undo_13, eX4_undo_14, eX4_undo_15, eX4_undo_17, eX4_undo_19, eX4_undo_22, eX4_undo_23, eX4_undo_26, eX4_undo_27, eX4_undo_28, eX4_undo_31, eX4_undo_32, eX4_undo_33, eX4_undo_34, eX4_undo_37, eX4_undo_40, eX4_undo_41, eX4_undo_44, eX4_undo_45, eX4_undo_46, hm, kd_0, fr_0_0, fr_0_1, fr_0_2, fr_0_3, fr_0_4, fr_0_5, fr_0_6, fr_0_7, fr_0_8, kd_1, fr_1_0, fr_1_1, fr_1_2, fr_1_3, fr_1_4, kd_2, an_2, rd_2, kd_3, an_3, rd_3, kd_4, an_4, rd_4, kd_5, an_5, rd_5, kd_6, an_6, rd_6, kd_7, kd_13, fr_13_0, fr_13_1, fr_13_2, fr_13_3, fr_13_4, kd_14, an_14, rd_14, kd_15, an_15, rd_15, kd_16, an_16, rd_16, kd_17, an_17, rd_17, kd_19, fr_19_3, kd_23, an_23, rd_23, kd_25, an_25, rd_25, kd_26, an_26, rd_26, kd_27, fr_27_0, kd_28, an_28, rd_28, kd_29, an_29, kd_38, an_38, rd_38, kd_39, fr_39_0, fr_39_1, fr_39_2, fr_39_3, fr_39_4, fr_39_6, fr_39_12, fr_39_13, fr_39_14, fr_39_15, kd_40, an_40, rd_40, kd_41, an_41, rd_41, kd_42, an_42, rd_42, kd_43, an_43, rd_43, kd_44, an_44, rd_44, kd_45, an_45, rd_45, kd_46, an_46, rd_46, kd_47, an_47, rd_47, kd_48, an_48, kd_49, an_49, tX3_finding0, tX3_finding1, tX3_finding2, tX3_finding3, tX3_finding4, tX3_finding5, tX3_finding6, tX4_finds0, tX4_finds1, tX4_finds2, tX4_finds3, tX4_finds4, tX4_finds5, tX4_finds6, x1, y1, e5, e39, e41, one_ne0, hk2, Nat.reduceLeDiff, Nat.reduceEqDiff, Nat.reduceAdd, if_true, if_false, b2i_T, b2i_F, and_self, and_false, false_and, true_and, and_true, true_or, or_true, false_or, or_false, or_self, not_true_eq_false, not_false_eq_true, eq_self, List.cons_append, List.nil_append]
    refine okQ.beam h ⟨n', ?_⟩ (fun k hk => ?_) ?_ ?_ ?_
    · simp only [up_n, up_s, Nat.reduceLeDiff, Nat.reduceEqDiff, Nat.reduceAdd, if_true, if_false, b2i_T, b2i_F, and_self, and_false, false_and, true_and, and_true, true_or, or_true, false_or, or_false, or_self, not_true_eq_false, not_false_eq_true, eq_self, List.cons_append, List.nil_append]
      exact (r_B.cg hT (fun q hq => by rw [sp_cp_lt _ _ _ _ hq, ho 41 (by omega)])).up (Nat.le_succ c)
    · rw [up_n (by omega)]; exact ho k (by omega)
    · rw [up_n (by omega), ho 27 (by omega)]
    · rw [up_n (by omega), ho 39 (by omega)]
    · rw [up_n (by omega), ho 39 (by omega)]

end OP
