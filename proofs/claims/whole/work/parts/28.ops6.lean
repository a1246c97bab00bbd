/-! THE CALLS, ONE BY ONE: minutes, and what is tried on the trial beam -/
theorem mm_min_ge {s : Nat → Int32} {n : Nat} (hn : n ≤ 8) {q : Nat} (hq : 37 ≤ q) : mm_min s n q = s q := by
  unfold mm_min
  rw [ud_n (by omega)]
  split
  · exact mm_mx_ge s n q (by omega)
  · rfl
theorem mm_go_ge {s : Nat → Int32} {n : Nat} (hn : n ≤ 8) {q : Nat} (hq : 37 ≤ q) : ∀ i, mm_go s n i q = s q
  | 0 => rfl
  | i + 1 => by
    unfold mm_go
    rw [mm_min_ge hn hq]
    exact mm_go_ge hn hq i
theorem sp_back {s a t : Nat → Int32} (h : ∀ q, 37 ≤ q → t q = s q) : sp_cp (sp_cp s a 37) t 37 = s := by
  funext q
  by_cases hq : q < 37
  · rw [sp_cp_lt _ _ _ _ hq, sp_cp_lt _ _ _ _ hq]
  · rw [sp_cp_ge _ _ _ _ (by omega), h q (by omega)]
theorem off.tr13 {A A2 : sx_A} (h : off 13 A A2) {k : Nat} (hk : k < 13 ∨ 18 < k) : A2 k = A k := h k (by omega)

section OP
variable {G : sx_G} {c n : Nat} {A : sx_A} {Z : sx_Z} {Q : List Value → sx_A → sx_Z → Prop}

theorem Rel.tr {A2 : sx_A} {a t : Nat → Int32} (h : Rel c A Z) (ht : off 13 A A2) (ha : t = A2 40) : Rel c (va_up (va_up A2 43 a) 40 t) Z := by
  subst ha
  refine h.congr (fun k hk => ?_) ?_ ?_ ?_ (fun _ _ => rfl)
  · by_cases h4 : k = 40
    · subst h4; rw [up_s]; exact ht 40 (by omega)
    · rw [up_n h4, up_n (by omega)]; exact ht k (by omega)
  · rw [up_n (by omega), up_n (by omega), ht 27 (by omega)]
  · rw [up_n (by omega), up_n (by omega), ht 39 (by omega)]
  · rw [up_n (by omega), up_n (by omega), ht 39 (by omega)]
theorem okQ.tr {A2 : sx_A} {a t : Nat → Int32} {v : Int32} (h : Rel c A Z) (ht : off 13 A A2) (ha : t = A2 40) : okQ c [.int v] [.int v] (va_up (va_up A2 43 a) 40 t) Z := ⟨rfl, ⟨_, rfl⟩, (h.tr ht ha).up (Nat.le_succ c)⟩
theorem okQ.trf {A2 : sx_A} {a t : Nat → Int32} {v : Int32} (h : Rel c A Z) (ht : off 13 A A2) (ha : t = A2 40) (k : Nat) : okQ c [.int v] [.int v] (va_up (va_up (va_up (va_up A2 38 (upd (A2 38) k (A2 38 k + 1))) 43 a) 40 t) 44 (upd (A2 44) k (A2 44 k + 1))) Z := by
  refine ⟨rfl, ⟨_, rfl⟩, ?_⟩
  have e := (h.tr ht ha (a := a)).find k
  rw [up_n (show ¬ 38 = 40 by omega), up_n (show ¬ 38 = 43 by omega), up_n (show ¬ 44 = 40 by omega), up_n (show ¬ 44 = 43 by omega)] at e
  have e2 : va_up (va_up (va_up (va_up A2 38 (upd (A2 38) k (A2 38 k + 1))) 43 a) 40 t) 44 (upd (A2 44) k (A2 44 k + 1)) = va_up (va_up (va_up (va_up A2 43 a) 40 t) 38 (upd (A2 38) k (A2 38 k + 1))) 44 (upd (A2 44) k (A2 44 k + 1)) := by
    funext q
    simp only [va_up]
    repeat' split
    all_goals first | rfl | omega
  rw [e2]
  exact e

theorem op_minutes {v : Int32} (h : Rel c A Z) : okOp G c A Z mX3_minutes mX4_minutes [.int v] := by
  obtain ⟨n, hB⟩ := h.1
  obtain ⟨hn, e1, e2⟩ := hB.1
  unfold okOp
  rw [sx_call_in (L := [some (.ref 0), some (.int v)]) rfl rfl]
  have hm : ∀ (A : sx_A) (Q : List Value → sx_A → sx_Z → Prop), sx_call G mX4_minutes [.ref 39, .int v] A Z Q ↔ sx_ev G mX4_minutes 0 [some (.ref 39), some (.int v)] [] A Z Q := fun A Q => sx_call_in rfl rfl
  have l2 : b2i ((1 : Int64) ≤ v.toInt64 ∧ v.toInt64 ≤ 100) = b2i (1 ≤ v ∧ v ≤ 100) := l_in rfl rfl
  by_cases h1 : 1 ≤ v ∧ v ≤ 100
  · obtain ⟨m, hm1, rfl⟩ := i_rng (M := 100) (n := 100) (by decide) ⟨Int32.le_trans (by decide) h1.1, h1.2⟩
    by_cases h2 : A 1 6 + nI m ≤ 99999
    · have x1 := fun (Q : List Value → sx_A → sx_Z → Prop) => tX0_goOn (G := G) (A := A) (Z := Z) (Q := Q) (b := 1) (m := m) isB1 hn e1 (by omega)
      have x2 := fun (Q : List Value → sx_A → sx_Z → Prop) => tX0_tiltNow (G := G) (A := bm_go A 1 n m) (Z := Z) (Q := Q) (b := 1) isB1 hn (by rw [bm_go_5]; exact e1)
      have e40 : bm_go A 1 n m 40 = A 40 := bm_go_o A 1 n 40 (by omega) (by omega) (by omega) m
      have y1 := fun (Q : List Value → sx_A → sx_Z → Prop) => tX4_minutesGo (G := G) (A := bm_go A 1 n m) (Z := Z) (Q := Q) (m := m) hn (by rw [e40]; exact e2) (by omega)
      have y2 := fun (Q : List Value → sx_A → sx_Z → Prop) => tX4_tiltNow (G := G) (A := va_up (bm_go A 1 n m) 40 (mm_go (A 40) n m)) (Z := Z) (Q := Q) hn (by rw [up_s, mm_go_0]; exact e2)
      have hB2 := rB.go (b := 1) (n := n) (hB.up (Nat.le_succ c)) m
      have et : sx_tilt (bm_go A 1 n m) 1 n = sm_tilt (mm_go (A 40) n m) n := hB2.tilt
      simp only [eX3_minutes_0, eX3_minutes_1, eX3_minutes_2, eX3_minutes_4, eX3_minutes_7, eX3_minutes_10, eX3_minutes_11, eX3_minutes_13, eX3_minutes_16, eX3_minutes_17, eX3_minutes_18, eX3_minutes_21, eX3_minutes_24, eX3_minutes_25, eX3_minutes_26, eX3_minutes_28, eX3_minutes_31, eX3_minutes_32, eX3_minutes_34, eX3_minutes_37, eX3_minutes_38, eX3_minutes_39, eX3_minutes_42, eX3_minutes_43, eX3_minutes_46, eX3_minutes_49, eX3_minutes_50, eX3_minutes_53, eX3_minutes_56, eX3_minutes_57, eX4_minutes_0, eX4_minutes_1, eX4_minutes_2, eX4_minutes_3, eX4_minutes_6, eX4_minutes_9, eX4_minutes_12, eX4_minutes_13, eX4_minutes_15, eX4_minutes_18, eX4_minutes_19, eX4_minutes_20, eX4_minutes_23, eX4_minutes_24, eX4_minutes_25, eX4_minutes_26, eX4_minutes_27, eX4_minutes_29, eX4_minutes_32, eX4_minutes_33, eX4_minutes_35, eX4_minutes_38, eX4_minutes_39, eX4_minutes_40, eX4_minutes_41, eX4_minutes_44, eX4_minutes_47, eX4_minutes_48, eX4_minutes_51, eX4_minutes_52, hm, kd_0, fr_0_0, fr_0_1, fr_0_2, fr_0_3, fr_0_4, fr_0_5, fr_0_6, fr_0_7, fr_0_8, kd_1, fr_1_0, fr_1_1, fr_1_2, fr_1_3, fr_1_4, kd_2, an_2, rd_2, kd_3, an_3, rd_3, kd_4, an_4, rd_4, kd_5, an_5, rd_5, kd_6, an_6, rd_6, kd_7, kd_13, fr_13_0, fr_13_1, fr_13_2, fr_13_3, fr_13_4, kd_14, an_14, rd_14, kd_15, an_15, rd_15, kd_16, an_16, rd_16, kd_17, an_17, rd_17, kd_19, fr_19_3, kd_23, an_23, rd_23, kd_25, an_25, rd_25, kd_26, an_26, rd_26, kd_27, fr_27_0, kd_28, an_28, rd_28, kd_29, an_29, kd_38, an_38, rd_38, kd_39, fr_39_0, fr_39_1, fr_39_2, fr_39_3, fr_39_4, fr_39_6, fr_39_12, fr_39_13, fr_39_14, fr_39_15, kd_40, an_40, rd_40, kd_41, an_41, rd_41, kd_42, an_42, rd_42, kd_43, an_43, rd_43, kd_44, an_44, rd_44, kd_45, an_45, rd_45, kd_46, an_46, rd_46, kd_47, an_47, rd_47, kd_48, an_48, kd_49, an_49, z_0, z_1, z_2, z_3, z_4, zc_0, zc_1, zc_2, zc_3, zc_4, tX3_isPerson, tX4_isPerson, tX3_isKind, tX4_isKind, tX3_isEnd, tX4_isEnd, tX3_isFeeling, tX3_isWithin, tX4_in, tX3_finding0, tX3_finding1, tX3_finding2, tX3_finding3, tX3_finding4, tX3_finding5, tX3_finding6, tX4_finds0, tX4_finds1, tX4_finds2, tX4_finds3, tX4_finds4, tX4_finds5, tX4_finds6, e1, e2, one_ne0, up_n, up_s, Nat.reduceLeDiff, Nat.reduceEqDiff, Nat.reduceAdd, if_true, if_false, b2i_T, b2i_F, and_self, and_false, false_and, true_and, and_true, true_or, or_true, false_or, or_false, or_self, not_true_eq_false, not_false_eq_true, eq_self, List.cons_append, List.nil_append, l2, b2i_t h1, h2, hB.2.1.1, x1, x2, e40, y1, y2, et]
      refine okQ.beam h ⟨n, ?_⟩ (fun k hk => ?_) ?_ ?_ ?_
      · simp only [up_n, up_s, Nat.reduceLeDiff, Nat.reduceEqDiff, Nat.reduceAdd, if_true, if_false, b2i_T, b2i_F, and_self, and_false, false_and, true_and, and_true, true_or, or_true, false_or, or_false, or_self, not_true_eq_false, not_false_eq_true, eq_self, List.cons_append, List.nil_append]
        exact hB2
      · rw [up_n (by omega)]; exact bm_go_o A 1 n k (by omega) (by omega) (by omega) m
      · rw [up_n (by omega), bm_go_o A 1 n 27 (by omega) (by omega) (by omega) m]
      · rw [up_n (by omega), bm_go_o A 1 n 39 (by omega) (by omega) (by omega) m]
      · rw [up_n (by omega), bm_go_o A 1 n 39 (by omega) (by omega) (by omega) m]
    · simp only [eX3_minutes_0, eX3_minutes_1, eX3_minutes_2, eX3_minutes_4, eX3_minutes_7, eX3_minutes_10, eX3_minutes_11, eX3_minutes_13, eX3_minutes_16, eX3_minutes_17, eX3_minutes_18, eX3_minutes_21, eX3_minutes_24, eX3_minutes_25, eX3_minutes_26, eX3_minutes_28, eX3_minutes_31, eX3_minutes_32, eX3_minutes_34, eX3_minutes_37, eX3_minutes_38, eX3_minutes_39, eX3_minutes_42, eX3_minutes_43, eX3_minutes_46, eX3_minutes_49, eX3_minutes_50, eX3_minutes_53, eX3_minutes_56, eX3_minutes_57, eX4_minutes_0, eX4_minutes_1, eX4_minutes_2, eX4_minutes_3, eX4_minutes_6, eX4_minutes_9, eX4_minutes_12, eX4_minutes_13, eX4_minutes_15, eX4_minutes_18, eX4_minutes_19, eX4_minutes_20, eX4_minutes_23, eX4_minutes_24, eX4_minutes_25, eX4_minutes_26, eX4_minutes_27, eX4_minutes_29, eX4_minutes_32, eX4_minutes_33, eX4_minutes_35, eX4_minutes_38, eX4_minutes_39, eX4_minutes_40, eX4_minutes_41, eX4_minutes_44, eX4_minutes_47, eX4_minutes_48, eX4_minutes_51, eX4_minutes_52, hm, kd_0, fr_0_0, fr_0_1, fr_0_2, fr_0_3, fr_0_4, fr_0_5, fr_0_6, fr_0_7, fr_0_8, kd_1, fr_1_0, fr_1_1, fr_1_2, fr_1_3, fr_1_4, kd_2, an_2, rd_2, kd_3, an_3, rd_3, kd_4, an_4, rd_4, kd_5, an_5, rd_5, kd_6, an_6, rd_6, kd_7, kd_13, fr_13_0, fr_13_1, fr_13_2, fr_13_3, fr_13_4, kd_14, an_14, rd_14, kd_15, an_15, rd_15, kd_16, an_16, rd_16, kd_17, an_17, rd_17, kd_19, fr_19_3, kd_23, an_23, rd_23, kd_25, an_25, rd_25, kd_26, an_26, rd_26, kd_27, fr_27_0, kd_28, an_28, rd_28, kd_29, an_29, kd_38, an_38, rd_38, kd_39, fr_39_0, fr_39_1, fr_39_2, fr_39_3, fr_39_4, fr_39_6, fr_39_12, fr_39_13, fr_39_14, fr_39_15, kd_40, an_40, rd_40, kd_41, an_41, rd_41, kd_42, an_42, rd_42, kd_43, an_43, rd_43, kd_44, an_44, rd_44, kd_45, an_45, rd_45, kd_46, an_46, rd_46, kd_47, an_47, rd_47, kd_48, an_48, kd_49, an_49, z_0, z_1, z_2, z_3, z_4, zc_0, zc_1, zc_2, zc_3, zc_4, tX3_isPerson, tX4_isPerson, tX3_isKind, tX4_isKind, tX3_isEnd, tX4_isEnd, tX3_isFeeling, tX3_isWithin, tX4_in, tX3_finding0, tX3_finding1, tX3_finding2, tX3_finding3, tX3_finding4, tX3_finding5, tX3_finding6, tX4_finds0, tX4_finds1, tX4_finds2, tX4_finds3, tX4_finds4, tX4_finds5, tX4_finds6, e1, e2, one_ne0, up_n, up_s, Nat.reduceLeDiff, Nat.reduceEqDiff, Nat.reduceAdd, if_true, if_false, b2i_T, b2i_F, and_self, and_false, false_and, true_and, and_true, true_or, or_true, false_or, or_false, or_self, not_true_eq_false, not_false_eq_true, eq_self, List.cons_append, List.nil_append, l2, b2i_t h1, h2, hB.2.1.1]
      exact okQ.find h 4
  · simp only [eX3_minutes_0, eX3_minutes_1, eX3_minutes_2, eX3_minutes_4, eX3_minutes_7, eX3_minutes_10, eX3_minutes_11, eX3_minutes_13, eX3_minutes_16, eX3_minutes_17, eX3_minutes_18, eX3_minutes_21, eX3_minutes_24, eX3_minutes_25, eX3_minutes_26, eX3_minutes_28, eX3_minutes_31, eX3_minutes_32, eX3_minutes_34, eX3_minutes_37, eX3_minutes_38, eX3_minutes_39, eX3_minutes_42, eX3_minutes_43, eX3_minutes_46, eX3_minutes_49, eX3_minutes_50, eX3_minutes_53, eX3_minutes_56, eX3_minutes_57, eX4_minutes_0, eX4_minutes_1, eX4_minutes_2, eX4_minutes_3, eX4_minutes_6, eX4_minutes_9, eX4_minutes_12, eX4_minutes_13, eX4_minutes_15, eX4_minutes_18, eX4_minutes_19, eX4_minutes_20, eX4_minutes_23, eX4_minutes_24, eX4_minutes_25, eX4_minutes_26, eX4_minutes_27, eX4_minutes_29, eX4_minutes_32, eX4_minutes_33, eX4_minutes_35, eX4_minutes_38, eX4_minutes_39, eX4_minutes_40, eX4_minutes_41, eX4_minutes_44, eX4_minutes_47, eX4_minutes_48, eX4_minutes_51, eX4_minutes_52, hm, kd_0, fr_0_0, fr_0_1, fr_0_2, fr_0_3, fr_0_4, fr_0_5, fr_0_6, fr_0_7, fr_0_8, kd_1, fr_1_0, fr_1_1, fr_1_2, fr_1_3, fr_1_4, kd_2, an_2, rd_2, kd_3, an_3, rd_3, kd_4, an_4, rd_4, kd_5, an_5, rd_5, kd_6, an_6, rd_6, kd_7, kd_13, fr_13_0, fr_13_1, fr_13_2, fr_13_3, fr_13_4, kd_14, an_14, rd_14, kd_15, an_15, rd_15, kd_16, an_16, rd_16, kd_17, an_17, rd_17, kd_19, fr_19_3, kd_23, an_23, rd_23, kd_25, an_25, rd_25, kd_26, an_26, rd_26, kd_27, fr_27_0, kd_28, an_28, rd_28, kd_29, an_29, kd_38, an_38, rd_38, kd_39, fr_39_0, fr_39_1, fr_39_2, fr_39_3, fr_39_4, fr_39_6, fr_39_12, fr_39_13, fr_39_14, fr_39_15, kd_40, an_40, rd_40, kd_41, an_41, rd_41, kd_42, an_42, rd_42, kd_43, an_43, rd_43, kd_44, an_44, rd_44, kd_45, an_45, rd_45, kd_46, an_46, rd_46, kd_47, an_47, rd_47, kd_48, an_48, kd_49, an_49, z_0, z_1, z_2, z_3, z_4, zc_0, zc_1, zc_2, zc_3, zc_4, tX3_isPerson, tX4_isPerson, tX3_isKind, tX4_isKind, tX3_isEnd, tX4_isEnd, tX3_isFeeling, tX3_isWithin, tX4_in, tX3_finding0, tX3_finding1, tX3_finding2, tX3_finding3, tX3_finding4, tX3_finding5, tX3_finding6, tX4_finds0, tX4_finds1, tX4_finds2, tX4_finds3, tX4_finds4, tX4_finds5, tX4_finds6, e1, e2, one_ne0, up_n, up_s, Nat.reduceLeDiff, Nat.reduceEqDiff, Nat.reduceAdd, if_true, if_false, b2i_T, b2i_F, and_self, and_false, false_and, true_and, and_true, true_or, or_true, false_or, or_false, or_self, not_true_eq_false, not_false_eq_true, eq_self, List.cons_append, List.nil_append, l2, b2i_f h1]
    exact okQ.find h 0

theorem op_tilt {v : Int32} (h : Rel c A Z) : okOp G c A Z mX3_tilt mX4_tilt [.int v] := by
  obtain ⟨n, hB⟩ := h.1
  obtain ⟨hn, e1, e2⟩ := hB.1
  unfold okOp
  rw [sx_call_in (L := [some (.ref 0), some (.int v)]) rfl rfl]
  have hm : ∀ (A : sx_A) (Q : List Value → sx_A → sx_Z → Prop), sx_call G mX4_tilt [.ref 39, .int v] A Z Q ↔ sx_ev G mX4_tilt 0 [some (.ref 39), some (.int v)] [] A Z Q := fun A Q => sx_call_in rfl rfl
  have l2 : b2i ((0 : Int64) ≤ v.toInt64 ∧ v.toInt64 ≤ 100) = b2i (0 ≤ v ∧ v ≤ 100) := l_in rfl rfl
  by_cases h1 : 0 ≤ v ∧ v ≤ 100
  · obtain ⟨m, hm1, rfl⟩ := i_rng (M := 100) (n := 100) (by decide) h1
    have hT := rB.bec (n := n) bo_13_1 hB
    have hT2 := hT.go m
    have x1 := fun (Q : List Value → sx_A → sx_Z → Prop) => tX0_becomes (G := G) (A := A) (Z := Z) (Q := Q) isB13 bo_13_1 hn e1
    have x2 := fun (Q : List Value → sx_A → sx_Z → Prop) => tX0_goOn (G := G) (A := bm_bec A 13 1 n) (Z := Z) (Q := Q) (b := 13) (m := m) isB13 hn hT.1.2.1 (by omega)
    have x3 := fun (Q : List Value → sx_A → sx_Z → Prop) => tX0_tiltNow (G := G) (A := bm_go (bm_bec A 13 1 n) 13 n m) (Z := Z) (Q := Q) (b := 13) isB13 hn hT2.1.2.1
    have ho : off 13 A (bm_go (bm_bec A 13 1 n) 13 n m) := off_bec.tr (off_go m)
    have e40 : bm_go (bm_bec A 13 1 n) 13 n m 40 = A 40 := ho 40 (by omega)
    have y1 := fun (A' : sx_A) (Q : List Value → sx_A → sx_Z → Prop) => tX4_laysAside (G := G) (A := A') (Z := Z) (Q := Q)
    have y2 := fun (a : Nat → Int32) (Q : List Value → sx_A → sx_Z → Prop) => tX4_minutesGo (G := G) (A := va_up (bm_go (bm_bec A 13 1 n) 13 n m) 43 a) (Z := Z) (Q := Q) (m := m) hn (by rw [up_n (by omega), e40]; exact e2) (by omega)
    have y3 := fun (a : Nat → Int32) (Q : List Value → sx_A → sx_Z → Prop) => tX4_tiltNow (G := G) (A := va_up (va_up (bm_go (bm_bec A 13 1 n) 13 n m) 43 a) 40 (mm_go (A 40) n m)) (Z := Z) (Q := Q) hn (by rw [up_s, mm_go_0]; exact e2)
    have y4 := fun (A' : sx_A) (u : Int32) (Q : List Value → sx_A → sx_Z → Prop) => tX4_takesBack (G := G) (A := A') (Z := Z) (Q := Q) (v := u)
    have et : sx_tilt (bm_go (bm_bec A 13 1 n) 13 n m) 13 n = sm_tilt (mm_go (A 40) n m) n := hT2.tilt
    simp only [eX3_tilt_0, eX3_tilt_1, eX3_tilt_2, eX3_tilt_4, eX3_tilt_7, eX3_tilt_10, eX3_tilt_11, eX3_tilt_13, eX3_tilt_16, eX3_tilt_17, eX3_tilt_18, eX3_tilt_21, eX3_tilt_22, eX3_tilt_25, eX3_tilt_28, eX3_tilt_29, eX3_tilt_32, eX3_tilt_33, eX3_tilt_36, eX3_tilt_39, eX3_tilt_40, eX3_tilt_43, eX3_tilt_46, eX3_tilt_47, eX4_tilt_0, eX4_tilt_1, eX4_tilt_2, eX4_tilt_3, eX4_tilt_6, eX4_tilt_9, eX4_tilt_12, eX4_tilt_13, eX4_tilt_15, eX4_tilt_18, eX4_tilt_19, eX4_tilt_20, eX4_tilt_23, eX4_tilt_24, eX4_tilt_25, eX4_tilt_28, eX4_tilt_29, eX4_tilt_32, eX4_tilt_33, eX4_tilt_36, eX4_tilt_37, eX4_tilt_40, hm, kd_0, fr_0_0, fr_0_1, fr_0_2, fr_0_3, fr_0_4, fr_0_5, fr_0_6, fr_0_7, fr_0_8, kd_1, fr_1_0, fr_1_1, fr_1_2, fr_1_3, fr_1_4, kd_2, an_2, rd_2, kd_3, an_3, rd_3, kd_4, an_4, rd_4, kd_5, an_5, rd_5, kd_6, an_6, rd_6, kd_7, kd_13, fr_13_0, fr_13_1, fr_13_2, fr_13_3, fr_13_4, kd_14, an_14, rd_14, kd_15, an_15, rd_15, kd_16, an_16, rd_16, kd_17, an_17, rd_17, kd_19, fr_19_3, kd_23, an_23, rd_23, kd_25, an_25, rd_25, kd_26, an_26, rd_26, kd_27, fr_27_0, kd_28, an_28, rd_28, kd_29, an_29, kd_38, an_38, rd_38, kd_39, fr_39_0, fr_39_1, fr_39_2, fr_39_3, fr_39_4, fr_39_6, fr_39_12, fr_39_13, fr_39_14, fr_39_15, kd_40, an_40, rd_40, kd_41, an_41, rd_41, kd_42, an_42, rd_42, kd_43, an_43, rd_43, kd_44, an_44, rd_44, kd_45, an_45, rd_45, kd_46, an_46, rd_46, kd_47, an_47, rd_47, kd_48, an_48, kd_49, an_49, z_0, z_1, z_2, z_3, z_4, zc_0, zc_1, zc_2, zc_3, zc_4, tX3_isPerson, tX4_isPerson, tX3_isKind, tX4_isKind, tX3_isEnd, tX4_isEnd, tX3_isFeeling, tX3_isWithin, tX4_in, tX3_finding0, tX3_finding1, tX3_finding2, tX3_finding3, tX3_finding4, tX3_finding5, tX3_finding6, tX4_finds0, tX4_finds1, tX4_finds2, tX4_finds3, tX4_finds4, tX4_finds5, tX4_finds6, e1, e2, one_ne0, up_n, up_s, Nat.reduceLeDiff, Nat.reduceEqDiff, Nat.reduceAdd, if_true, if_false, b2i_T, b2i_F, and_self, and_false, false_and, true_and, and_true, true_or, or_true, false_or, or_false, or_self, not_true_eq_false, not_false_eq_true, eq_self, List.cons_append, List.nil_append, l2, b2i_t h1, x1, x2, x3, e40, y1, y2, y3, y4, et, up_up]
    refine okQ.tr h ho ?_
    rw [e40]
    exact sp_back (fun q hq => mm_go_ge hn hq m)
  · simp only [eX3_tilt_0, eX3_tilt_1, eX3_tilt_2, eX3_tilt_4, eX3_tilt_7, eX3_tilt_10, eX3_tilt_11, eX3_tilt_13, eX3_tilt_16, eX3_tilt_17, eX3_tilt_18, eX3_tilt_21, eX3_tilt_22, eX3_tilt_25, eX3_tilt_28, eX3_tilt_29, eX3_tilt_32, eX3_tilt_33, eX3_tilt_36, eX3_tilt_39, eX3_tilt_40, eX3_tilt_43, eX3_tilt_46, eX3_tilt_47, eX4_tilt_0, eX4_tilt_1, eX4_tilt_2, eX4_tilt_3, eX4_tilt_6, eX4_tilt_9, eX4_tilt_12, eX4_tilt_13, eX4_tilt_15, eX4_tilt_18, eX4_tilt_19, eX4_tilt_20, eX4_tilt_23, eX4_tilt_24, eX4_tilt_25, eX4_tilt_28, eX4_tilt_29, eX4_tilt_32, eX4_tilt_33, eX4_tilt_36, eX4_tilt_37, eX4_tilt_40, hm, kd_0, fr_0_0, fr_0_1, fr_0_2, fr_0_3, fr_0_4, fr_0_5, fr_0_6, fr_0_7, fr_0_8, kd_1, fr_1_0, fr_1_1, fr_1_2, fr_1_3, fr_1_4, kd_2, an_2, rd_2, kd_3, an_3, rd_3, kd_4, an_4, rd_4, kd_5, an_5, rd_5, kd_6, an_6, rd_6, kd_7, kd_13, fr_13_0, fr_13_1, fr_13_2, fr_13_3, fr_13_4, kd_14, an_14, rd_14, kd_15, an_15, rd_15, kd_16, an_16, rd_16, kd_17, an_17, rd_17, kd_19, fr_19_3, kd_23, an_23, rd_23, kd_25, an_25, rd_25, kd_26, an_26, rd_26, kd_27, fr_27_0, kd_28, an_28, rd_28, kd_29, an_29, kd_38, an_38, rd_38, kd_39, fr_39_0, fr_39_1, fr_39_2, fr_39_3, fr_39_4, fr_39_6, fr_39_12, fr_39_13, fr_39_14, fr_39_15, kd_40, an_40, rd_40, kd_41, an_41, rd_41, kd_42, an_42, rd_42, kd_43, an_43, rd_43, kd_44, an_44, rd_44, kd_45, an_45, rd_45, kd_46, an_46, rd_46, kd_47, an_47, rd_47, kd_48, an_48, kd_49, an_49, z_0, z_1, z_2, z_3, z_4, zc_0, zc_1, zc_2, zc_3, zc_4, tX3_isPerson, tX4_isPerson, tX3_isKind, tX4_isKind, tX3_isEnd, tX4_isEnd, tX3_isFeeling, tX3_isWithin, tX4_in, tX3_finding0, tX3_finding1, tX3_finding2, tX3_finding3, tX3_finding4, tX3_finding5, tX3_finding6, tX4_finds0, tX4_finds1, tX4_finds2, tX4_finds3, tX4_finds4, tX4_finds5, tX4_finds6, e1, e2, one_ne0, up_n, up_s, Nat.reduceLeDiff, Nat.reduceEqDiff, Nat.reduceAdd, if_true, if_false, b2i_T, b2i_F, and_self, and_false, false_and, true_and, and_true, true_or, or_true, false_or, or_false, or_self, not_true_eq_false, not_false_eq_true, eq_self, List.cons_append, List.nil_append, l2, b2i_f h1]
    exact okQ.find h 0

end OP
