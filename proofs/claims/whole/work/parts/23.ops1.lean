/-! THE CALLS, ONE BY ONE -/
/-- what is to be shown of a call: both answer the same, and stay side by side -/
def okQ (c : Nat) (r : List Value) : List Value → sx_A → sx_Z → Prop := fun r' A2 Z2 => r' = r ∧ (∃ v, r = [.int v]) ∧ Rel (c + 1) A2 Z2
def okOp (G : sx_G) (c : Nat) (A : sx_A) (Z : sx_Z) (yx ym : sx_M) (xs : List Value) : Prop := sx_call G yx (.ref 0 :: xs) A Z (fun r A1 Z1 => sx_call G ym (.ref 39 :: xs) A1 Z1 (okQ c r))
theorem one_ne0 : ((1 : Int32) = 0) = False := eq_false (by decide)
theorem isB1 : sx_isB 1 := Or.inl rfl
theorem isB7 : sx_isB 7 := Or.inr (Or.inl rfl)
theorem isB13 : sx_isB 13 := Or.inr (Or.inr (Or.inl rfl))
theorem isB19 : sx_isB 19 := Or.inr (Or.inr (Or.inr rfl))
theorem bo_7_1 : sx_bo 7 1 := ⟨⟨isB7, isB1⟩, by decide⟩
theorem bo_1_7 : sx_bo 1 7 := ⟨⟨isB1, isB7⟩, by decide⟩
theorem bo_13_1 : sx_bo 13 1 := ⟨⟨isB13, isB1⟩, by decide⟩
theorem bo_1_13 : sx_bo 1 13 := ⟨⟨isB1, isB13⟩, by decide⟩
theorem bo_19_1 : sx_bo 19 1 := ⟨⟨isB19, isB1⟩, by decide⟩
theorem bo_13_19 : sx_bo 13 19 := ⟨⟨isB13, isB19⟩, by decide⟩
theorem i_pers {v : Int32} {n : Nat} (hn : n ≤ 8) (h : 0 ≤ v ∧ v ≤ nI n - 1) : ∃ p, p < n ∧ v = nI p := by
  cases n with
  | zero => exact absurd (Int32.le_trans h.1 h.2) (by decide)
  | succ n =>
    rw [nI_pred] at h
    obtain ⟨j, hj, e⟩ := nI_of2 (M := nI n) (n := n) (nI_toInt (by omega)) (Int32.not_lt.mpr h.1) h.2
    exact ⟨j, by omega, e⟩
theorem i_persI {p n : Nat} (hn : n ≤ 8) (hp : p < n) : (0 : Int32) ≤ nI p ∧ nI p ≤ nI n - 1 := by
  cases n with
  | zero => omega
  | succ n => rw [nI_pred]; exact ⟨nI_pos' (by omega), nI_le (by omega) (by omega)⟩
theorem i_rng {v M : Int32} {n : Nat} (hM : M.toInt = n) (h : 0 ≤ v ∧ v ≤ M) : ∃ p, p ≤ n ∧ v = nI p := nI_of2 hM (Int32.not_lt.mpr h.1) h.2
section OP
variable {G : sx_G} {c n : Nat} {A : sx_A} {Z : sx_Z} {Q : List Value → sx_A → sx_Z → Prop}
theorem tX3_isPerson {v : Int32} : sx_call G mX3_isPerson [.ref 0, .int v] A Z Q ↔ Q [.int (b2i (0 ≤ v ∧ v ≤ A 1 5 - 1))] A Z := by
  rw [sx_call_in (L := [some (.ref 0), some (.int v)]) rfl rfl]
  simp only [eX3_isPerson_0, eX3_isPerson_1, eX3_isPerson_2, eX3_isPerson_3, eX3_isPerson_6, eX3_isPerson_9, eX3_isPerson_10, eX3_isPerson_11, eX3_isPerson_14, kd_0, fr_0_0, fr_0_1, fr_0_2, fr_0_3, fr_0_4, fr_0_5, fr_0_6, fr_0_7, fr_0_8, kd_1, fr_1_0, fr_1_1, fr_1_2, fr_1_3, fr_1_4, kd_2, an_2, rd_2, kd_3, an_3, rd_3, kd_4, an_4, rd_4, kd_5, an_5, rd_5, kd_6, an_6, rd_6, kd_7, kd_13, fr_13_0, fr_13_1, fr_13_2, fr_13_3, fr_13_4, kd_14, an_14, rd_14, kd_15, an_15, rd_15, kd_16, an_16, rd_16, kd_17, an_17, rd_17, kd_19, fr_19_3, kd_23, an_23, rd_23, kd_25, an_25, rd_25, kd_26, an_26, rd_26, kd_27, fr_27_0, kd_28, an_28, rd_28, kd_29, an_29, kd_38, an_38, rd_38, tX3_isWithin, b2i_01, Nat.reduceLeDiff, Nat.reduceEqDiff, Nat.reduceAdd, if_true, if_false, b2i_T, b2i_F, and_self, and_false, false_and, true_and, and_true, true_or, or_true, false_or, or_false, or_self, not_true_eq_false, not_false_eq_true, eq_self, List.cons_append, List.nil_append]
/-- a finding on both sides -/
theorem Rel.find (h : Rel c A Z) (k : Nat) : Rel (c + 1) (va_up (va_up A 38 (upd (A 38) k (A 38 k + 1))) 44 (upd (A 44) k (A 44 k + 1))) Z := by
  have h := h.up (Nat.le_succ c)
  obtain ⟨h1, h2, h3, h4, h5⟩ := h
  simp only [Rel, up_n, up_s, Nat.reduceLeDiff, Nat.reduceEqDiff, Nat.reduceAdd, if_true, if_false, b2i_T, b2i_F, and_self, and_false, false_and, true_and, and_true, true_or, or_true, false_or, or_false, or_self, not_true_eq_false, not_false_eq_true, eq_self, List.cons_append, List.nil_append]
  refine ⟨h1, h2, h3, h4, fun j hj => ?_⟩
  by_cases hk : j = k
  · subst hk; rw [ud_s, ud_s, h5 j hj]
  · rw [ud_n hk, ud_n hk]; exact h5 j hj
theorem okQ.find (h : Rel c A Z) (k : Nat) {v : Int32} : okQ c [.int v] [.int v] (va_up (va_up A 38 (upd (A 38) k (A 38 k + 1))) 44 (upd (A 44) k (A 44 k + 1))) Z := ⟨rfl, ⟨_, rfl⟩, h.find k⟩
theorem okQ.same (h : Rel c A Z) {v : Int32} : okQ c [.int v] [.int v] A Z := ⟨rfl, ⟨_, rfl⟩, h.up (Nat.le_succ c)⟩
theorem op_heart {v : Int32} (h : Rel c A Z) : okOp G c A Z mX3_heart mX4_heart [.int v] := by
  obtain ⟨n, hB⟩ := h.1
  obtain ⟨hn, e1, e2⟩ := hB.1
  unfold okOp
  rw [sx_call_in (L := [some (.ref 0), some (.int v)]) rfl rfl]
  have hm : ∀ (A : sx_A) (Q : List Value → sx_A → sx_Z → Prop), sx_call G mX4_heart [.ref 39, .int v] A Z Q ↔ sx_ev G mX4_heart 0 [some (.ref 39), some (.int v)] [] A Z Q := fun A Q => sx_call_in rfl rfl
  by_cases h1 : 0 ≤ v ∧ v ≤ nI n - 1
  · obtain ⟨p, hp, rfl⟩ := i_pers hn h1
    have hp8 : p < 8 := by omega
    have hx := fun (Q : List Value → sx_A → sx_Z → Prop) => tX0_heartOf (G := G) (A := A) (Z := Z) (Q := Q) (b := 1) isB1 hp8
    obtain ⟨-, q0, q1, q2, -⟩ := hB.2.2.2 p hp
    simp only [eX3_heart_0, eX3_heart_1, eX3_heart_2, eX3_heart_5, eX3_heart_8, eX3_heart_9, eX3_heart_11, eX3_heart_14, eX3_heart_15, eX3_heart_18, eX3_heart_19, eX3_heart_22, eX3_heart_23, eX3_heart_26, eX3_heart_27, eX4_heart_0, eX4_heart_1, eX4_heart_2, eX4_heart_5, eX4_heart_8, eX4_heart_11, eX4_heart_12, eX4_heart_13, eX4_heart_16, eX4_heart_17, eX4_heart_20, eX4_heart_21, eX4_heart_23, eX4_heart_26, hm, kd_0, fr_0_0, fr_0_1, fr_0_2, fr_0_3, fr_0_4, fr_0_5, fr_0_6, fr_0_7, fr_0_8, kd_1, fr_1_0, fr_1_1, fr_1_2, fr_1_3, fr_1_4, kd_2, an_2, rd_2, kd_3, an_3, rd_3, kd_4, an_4, rd_4, kd_5, an_5, rd_5, kd_6, an_6, rd_6, kd_7, kd_13, fr_13_0, fr_13_1, fr_13_2, fr_13_3, fr_13_4, kd_14, an_14, rd_14, kd_15, an_15, rd_15, kd_16, an_16, rd_16, kd_17, an_17, rd_17, kd_19, fr_19_3, kd_23, an_23, rd_23, kd_25, an_25, rd_25, kd_26, an_26, rd_26, kd_27, fr_27_0, kd_28, an_28, rd_28, kd_29, an_29, kd_38, an_38, rd_38, kd_39, fr_39_0, fr_39_1, fr_39_2, fr_39_3, fr_39_4, fr_39_6, fr_39_12, fr_39_13, fr_39_14, fr_39_15, kd_40, an_40, rd_40, kd_41, an_41, rd_41, kd_42, an_42, rd_42, kd_43, an_43, rd_43, kd_44, an_44, rd_44, kd_45, an_45, rd_45, kd_46, an_46, rd_46, kd_47, an_47, rd_47, kd_48, an_48, kd_49, an_49, tX3_isPerson, tX4_isPerson, hx, tX4_heartOf hp8, e1, e2, b2i_t h1, Nat.reduceLeDiff, Nat.reduceEqDiff, Nat.reduceAdd, if_true, if_false, b2i_T, b2i_F, and_self, and_false, false_and, true_and, and_true, true_or, or_true, false_or, or_false, or_self, not_true_eq_false, not_false_eq_true, eq_self, List.cons_append, List.nil_append, ← q0, ← q1, ← q2, hB.2.1.1, one_ne0]
    exact okQ.same h
  · simp only [eX3_heart_0, eX3_heart_1, eX3_heart_2, eX3_heart_5, eX3_heart_8, eX3_heart_9, eX3_heart_11, eX3_heart_14, eX3_heart_15, eX3_heart_18, eX3_heart_19, eX3_heart_22, eX3_heart_23, eX3_heart_26, eX3_heart_27, eX4_heart_0, eX4_heart_1, eX4_heart_2, eX4_heart_5, eX4_heart_8, eX4_heart_11, eX4_heart_12, eX4_heart_13, eX4_heart_16, eX4_heart_17, eX4_heart_20, eX4_heart_21, eX4_heart_23, eX4_heart_26, hm, kd_0, fr_0_0, fr_0_1, fr_0_2, fr_0_3, fr_0_4, fr_0_5, fr_0_6, fr_0_7, fr_0_8, kd_1, fr_1_0, fr_1_1, fr_1_2, fr_1_3, fr_1_4, kd_2, an_2, rd_2, kd_3, an_3, rd_3, kd_4, an_4, rd_4, kd_5, an_5, rd_5, kd_6, an_6, rd_6, kd_7, kd_13, fr_13_0, fr_13_1, fr_13_2, fr_13_3, fr_13_4, kd_14, an_14, rd_14, kd_15, an_15, rd_15, kd_16, an_16, rd_16, kd_17, an_17, rd_17, kd_19, fr_19_3, kd_23, an_23, rd_23, kd_25, an_25, rd_25, kd_26, an_26, rd_26, kd_27, fr_27_0, kd_28, an_28, rd_28, kd_29, an_29, kd_38, an_38, rd_38, kd_39, fr_39_0, fr_39_1, fr_39_2, fr_39_3, fr_39_4, fr_39_6, fr_39_12, fr_39_13, fr_39_14, fr_39_15, kd_40, an_40, rd_40, kd_41, an_41, rd_41, kd_42, an_42, rd_42, kd_43, an_43, rd_43, kd_44, an_44, rd_44, kd_45, an_45, rd_45, kd_46, an_46, rd_46, kd_47, an_47, rd_47, kd_48, an_48, kd_49, an_49, tX3_isPerson, tX4_isPerson, tX3_finding0, tX3_finding1, tX3_finding2, tX3_finding3, tX3_finding4, tX3_finding5, tX3_finding6, tX4_finds0, tX4_finds1, tX4_finds2, tX4_finds3, tX4_finds4, tX4_finds5, tX4_finds6, e1, e2, b2i_f h1, up_n, Nat.reduceLeDiff, Nat.reduceEqDiff, Nat.reduceAdd, if_true, if_false, b2i_T, b2i_F, and_self, and_false, false_and, true_and, and_true, true_or, or_true, false_or, or_false, or_self, not_true_eq_false, not_false_eq_true, eq_self, List.cons_append, List.nil_append]
    exact okQ.find h 0
end OP
