/-! PURE SPECS: the reference's minutes, rows, findings -/
def mm_mx (s : Nat → Int32) : Nat → (Nat → Int32)
  | 0 => s
  | p + 1 => if s (5 + 4 * p + 3) = -1 then mm_mx s p else upd (upd (mm_mx s p) (5 + 4 * p + 1) (s (5 + 4 * p + 1) + sm_gl (s (5 + 4 * p)) (s (5 + 4 * p + 1)) (s (5 + 4 * p + 2)))) (5 + 4 * p + 2) (s (5 + 4 * p + 2) - sm_gl (s (5 + 4 * p)) (s (5 + 4 * p + 1)) (s (5 + 4 * p + 2)))
theorem mm_mx_ge (s : Nat → Int32) : ∀ (p q : Nat), 5 + 4 * p ≤ q → mm_mx s p q = s q
  | 0, q, _ => rfl
  | p + 1, q, h => by
    unfold mm_mx
    split
    · exact mm_mx_ge s p q (by omega)
    · rw [ud_n (by omega), ud_n (by omega)]; exact mm_mx_ge s p q (by omega)
theorem mm_mx_lt (s : Nat → Int32) : ∀ (p q : Nat), q < 5 → mm_mx s p q = s q
  | 0, q, _ => rfl
  | p + 1, q, h => by
    unfold mm_mx
    split
    · exact mm_mx_lt s p q h
    · rw [ud_n (by omega), ud_n (by omega)]; exact mm_mx_lt s p q h
/-- KIND and END stay -/
theorem mm_mx_k (s : Nat → Int32) (r w : Nat) (hw : w = 0 ∨ w = 3) : ∀ (p : Nat), mm_mx s p (5 + 4 * r + w) = s (5 + 4 * r + w)
  | 0 => rfl
  | p + 1 => by
    unfold mm_mx
    split
    · exact mm_mx_k s r w hw p
    · rw [ud_n (by omega), ud_n (by omega)]; exact mm_mx_k s r w hw p
def mm_min (s : Nat → Int32) (n : Nat) : Nat → Int32 := upd (if sp_hangs (mP s) n then mm_mx s n else s) 1 (s 1 + 1)
def mm_go (s : Nat → Int32) (n : Nat) : Nat → (Nat → Int32)
  | 0 => s
  | i + 1 => mm_min (mm_go s n i) n
theorem mm_min_0 (s : Nat → Int32) (n : Nat) : mm_min s n 0 = s 0 := by
  unfold mm_min
  rw [ud_n (by omega)]
  split
  · exact mm_mx_lt s n 0 (by omega)
  · rfl
theorem mm_go_0 (s : Nat → Int32) (n : Nat) : ∀ i, mm_go s n i 0 = s 0
  | 0 => rfl
  | i + 1 => by
    unfold mm_go
    rw [mm_min_0]
    exact mm_go_0 s n i
section MB
variable {G : sx_G} {A : sx_A} {Z : sx_Z} {Q : List Value → sx_A → sx_Z → Prop} {n : Nat}
theorem tX4_minute_l (hn : n ≤ 8) (hA : A 40 0 = nI n) : ∀ (k p : Nat), p + k = n → (sx_ev G mX4_minute 9 [some (.ref 39), some (.int (nI p))] [] (va_up A 40 (mm_mx (A 40) p)) Z Q ↔ Q [] (va_up A 40 (upd (mm_mx (A 40) n) 1 (A 40 1 + 1))) Z) := by
  intro k
  induction k with
  | zero =>
    intro p hp
    have hp' : p = n := by omega
    subst hp'
    rw [eX4_minute_9]
    have h1 : nI p ≤ nI p := nI_le (Nat.le_refl _) (by omega)
    have h6 := mm_mx_lt (A 40) p 0 (by omega)
    have h7 := mm_mx_lt (A 40) p 1 (by omega)
    simp only [eX4_minute_0, eX4_minute_1, eX4_minute_4, eX4_minute_7, eX4_minute_8, eX4_minute_10, eX4_minute_11, eX4_minute_14, eX4_minute_15, eX4_minute_16, eX4_minute_19, eX4_minute_20, eX4_minute_21, eX4_minute_22, eX4_minute_25, eX4_minute_26, eX4_minute_29, eX4_minute_30, eX4_minute_31, eX4_minute_34, eX4_minute_37, eX4_minute_40, eX4_minute_41, eX4_minute_44, eX4_minute_45, eX4_minute_46, eX4_minute_47, eX4_minute_48, eX4_minute_49, eX4_minute_50, kd_39, fr_39_0, fr_39_1, fr_39_2, fr_39_3, fr_39_4, fr_39_6, fr_39_12, fr_39_13, fr_39_14, fr_39_15, kd_40, an_40, rd_40, kd_41, an_41, rd_41, kd_42, an_42, rd_42, kd_43, an_43, rd_43, kd_44, an_44, rd_44, kd_45, an_45, rd_45, kd_46, an_46, rd_46, kd_47, an_47, rd_47, kd_48, an_48, kd_49, an_49, z_0, z_1, z_2, z_3, z_4, zc_0, zc_1, zc_2, zc_3, zc_4, up_s, up_up, h6, h7, hA, h1, Nat.reduceLeDiff, Nat.reduceEqDiff, Nat.reduceAdd, if_true, if_false, b2i_T, b2i_F, and_self, and_false, false_and, true_and, and_true, true_or, or_true, false_or, or_false, or_self, not_true_eq_false, not_false_eq_true, eq_self, List.cons_append, List.nil_append]
  | succ k ih =>
    intro p hp'
    rw [eX4_minute_9]
    have hp : p < 8 := by omega
    have h1 : ¬ nI n ≤ nI p := nI_ge (by omega) (by omega)
    have h6 := mm_mx_lt (A 40) p 0 (by omega)
    have g0 := mm_mx_ge (A 40) p (5 + 4 * p) (by omega)
    have g1 := mm_mx_ge (A 40) p (5 + 4 * p + 1) (by omega)
    have g2 := mm_mx_ge (A 40) p (5 + 4 * p + 2) (by omega)
    have g3 := mm_mx_ge (A 40) p (5 + 4 * p + 3) (by omega)
    have h4 := ih (p + 1) (by omega)
    rw [mm_mx, nI_succ] at h4
    simp only [eX4_minute_0, eX4_minute_1, eX4_minute_4, eX4_minute_7, eX4_minute_8, eX4_minute_10, eX4_minute_11, eX4_minute_14, eX4_minute_15, eX4_minute_16, eX4_minute_19, eX4_minute_20, eX4_minute_21, eX4_minute_22, eX4_minute_25, eX4_minute_26, eX4_minute_29, eX4_minute_30, eX4_minute_31, eX4_minute_34, eX4_minute_37, eX4_minute_40, eX4_minute_41, eX4_minute_44, eX4_minute_45, eX4_minute_46, eX4_minute_47, eX4_minute_48, eX4_minute_49, eX4_minute_50, kd_39, fr_39_0, fr_39_1, fr_39_2, fr_39_3, fr_39_4, fr_39_6, fr_39_12, fr_39_13, fr_39_14, fr_39_15, kd_40, an_40, rd_40, kd_41, an_41, rd_41, kd_42, an_42, rd_42, kd_43, an_43, rd_43, kd_44, an_44, rd_44, kd_45, an_45, rd_45, kd_46, an_46, rd_46, kd_47, an_47, rd_47, kd_48, an_48, kd_49, an_49, z_0, z_1, z_2, z_3, z_4, zc_0, zc_1, zc_2, zc_3, zc_4, tX4_its0 hp, tX4_its1 hp, tX4_its2 hp, tX4_its3 hp, tX4_isMixing hp, up_s, up_up, h6, g0, g1, g2, g3, hA, h1, Nat.reduceLeDiff, Nat.reduceEqDiff, Nat.reduceAdd, if_true, if_false, b2i_T, b2i_F, and_self, and_false, false_and, true_and, and_true, true_or, or_true, false_or, or_false, or_self, not_true_eq_false, not_false_eq_true, eq_self, List.cons_append, List.nil_append]
    by_cases hc : A 40 (5 + 4 * p + 3) = -1
    · simp only [hc, Nat.reduceLeDiff, Nat.reduceEqDiff, Nat.reduceAdd, if_true, if_false, b2i_T, b2i_F, and_self, and_false, false_and, true_and, and_true, true_or, or_true, false_or, or_false, or_self, not_true_eq_false, not_false_eq_true, eq_self, List.cons_append, List.nil_append] at h4 ⊢
      exact h4
    · simp only [hc, Nat.reduceLeDiff, Nat.reduceEqDiff, Nat.reduceAdd, if_true, if_false, b2i_T, b2i_F, and_self, and_false, false_and, true_and, and_true, true_or, or_true, false_or, or_false, or_self, not_true_eq_false, not_false_eq_true, eq_self, List.cons_append, List.nil_append] at h4 ⊢
      exact h4
theorem tX4_minute (hn : n ≤ 8) (hA : A 40 0 = nI n) : sx_call G mX4_minute [.ref 39] A Z Q ↔ Q [] (va_up A 40 (mm_min (A 40) n)) Z := by
  rw [sx_call_in (L := [some (.ref 39), none]) rfl rfl]
  have h := tX4_minute_l (G := G) (Z := Z) (Q := Q) hn hA n 0 (by omega)
  rw [mm_mx, up_id] at h
  have h' : sx_ev G mX4_minute 9 [some (.ref 39), some (.int 0)] [] A Z Q ↔ Q [] (va_up A 40 (upd (mm_mx (A 40) n) 1 (A 40 1 + 1))) Z := h
  simp only [eX4_minute_0, eX4_minute_1, eX4_minute_4, eX4_minute_7, eX4_minute_8, eX4_minute_10, eX4_minute_11, eX4_minute_14, eX4_minute_15, eX4_minute_16, eX4_minute_19, eX4_minute_20, eX4_minute_21, eX4_minute_22, eX4_minute_25, eX4_minute_26, eX4_minute_29, eX4_minute_30, eX4_minute_31, eX4_minute_34, eX4_minute_37, eX4_minute_40, eX4_minute_41, eX4_minute_44, eX4_minute_45, eX4_minute_46, eX4_minute_47, eX4_minute_48, eX4_minute_49, eX4_minute_50, kd_39, fr_39_0, fr_39_1, fr_39_2, fr_39_3, fr_39_4, fr_39_6, fr_39_12, fr_39_13, fr_39_14, fr_39_15, kd_40, an_40, rd_40, kd_41, an_41, rd_41, kd_42, an_42, rd_42, kd_43, an_43, rd_43, kd_44, an_44, rd_44, kd_45, an_45, rd_45, kd_46, an_46, rd_46, kd_47, an_47, rd_47, kd_48, an_48, kd_49, an_49, z_0, z_1, z_2, z_3, z_4, zc_0, zc_1, zc_2, zc_3, zc_4, tX4_isHanging hn hA, b2i_0, Nat.reduceLeDiff, Nat.reduceEqDiff, Nat.reduceAdd, if_true, if_false, b2i_T, b2i_F, and_self, and_false, false_and, true_and, and_true, true_or, or_true, false_or, or_false, or_self, not_true_eq_false, not_false_eq_true, eq_self, List.cons_append, List.nil_append]
  unfold mm_min
  by_cases hc : sp_hangs (mP (A 40)) n
  · rw [if_neg (fun z => z hc), if_pos hc]
    exact h'
  · rw [if_pos hc, if_neg hc]
theorem tX4_minutesGo_l {m : Nat} (hn : n ≤ 8) (hA : A 40 0 = nI n) (hm : m < 2 ^ 31) : ∀ (k i : Nat), i + k = m → (sx_ev G mX4_minutesGo 2 [some (.ref 39), some (.int (nI m)), some (.int (nI i))] [] (va_up A 40 (mm_go (A 40) n i)) Z Q ↔ Q [] (va_up A 40 (mm_go (A 40) n m)) Z) := by
  intro k
  induction k with
  | zero =>
    intro i hi
    have hi' : i = m := by omega
    subst hi'
    rw [eX4_minutesGo_2]
    have h1 : nI i ≤ nI i := nI_le (Nat.le_refl _) hm
    simp only [eX4_minutesGo_0, eX4_minutesGo_1, eX4_minutesGo_3, eX4_minutesGo_4, eX4_minutesGo_7, eX4_minutesGo_8, eX4_minutesGo_11, eX4_minutesGo_14, eX4_minutesGo_17, h1, Nat.reduceLeDiff, Nat.reduceEqDiff, Nat.reduceAdd, if_true, if_false, b2i_T, b2i_F, and_self, and_false, false_and, true_and, and_true, true_or, or_true, false_or, or_false, or_self, not_true_eq_false, not_false_eq_true, eq_self, List.cons_append, List.nil_append]
  | succ k ih =>
    intro i hi
    rw [eX4_minutesGo_2]
    have h1 : ¬ nI m ≤ nI i := nI_ge (by omega) hm
    have h4 := ih (i + 1) (by omega)
    have h5 : (va_up A 40 (mm_go (A 40) n i)) 40 0 = nI n := by rw [up_s, mm_go_0]; exact hA
    rw [mm_go, nI_succ] at h4
    simp only [eX4_minutesGo_0, eX4_minutesGo_1, eX4_minutesGo_3, eX4_minutesGo_4, eX4_minutesGo_7, eX4_minutesGo_8, eX4_minutesGo_11, eX4_minutesGo_14, eX4_minutesGo_17, kd_39, fr_39_0, fr_39_1, fr_39_2, fr_39_3, fr_39_4, fr_39_6, fr_39_12, fr_39_13, fr_39_14, fr_39_15, kd_40, an_40, rd_40, kd_41, an_41, rd_41, kd_42, an_42, rd_42, kd_43, an_43, rd_43, kd_44, an_44, rd_44, kd_45, an_45, rd_45, kd_46, an_46, rd_46, kd_47, an_47, rd_47, kd_48, an_48, kd_49, an_49, h1, Nat.reduceLeDiff, Nat.reduceEqDiff, Nat.reduceAdd, if_true, if_false, b2i_T, b2i_F, and_self, and_false, false_and, true_and, and_true, true_or, or_true, false_or, or_false, or_self, not_true_eq_false, not_false_eq_true, eq_self, List.cons_append, List.nil_append]
    rw [tX4_minute hn h5]
    simp only [eX4_minutesGo_0, eX4_minutesGo_1, eX4_minutesGo_3, eX4_minutesGo_4, eX4_minutesGo_7, eX4_minutesGo_8, eX4_minutesGo_11, eX4_minutesGo_14, eX4_minutesGo_17, up_s, up_up, Nat.reduceLeDiff, Nat.reduceEqDiff, Nat.reduceAdd, if_true, if_false, b2i_T, b2i_F, and_self, and_false, false_and, true_and, and_true, true_or, or_true, false_or, or_false, or_self, not_true_eq_false, not_false_eq_true, eq_self, List.cons_append, List.nil_append]
    exact h4
theorem tX4_minutesGo {m : Nat} (hn : n ≤ 8) (hA : A 40 0 = nI n) (hm : m < 2 ^ 31) : sx_call G mX4_minutesGo [.ref 39, .int (nI m)] A Z Q ↔ Q [] (va_up A 40 (mm_go (A 40) n m)) Z := by
  rw [sx_call_in (L := [some (.ref 39), some (.int (nI m)), none]) rfl rfl]
  rw [← tX4_minutesGo_l (G := G) (Z := Z) (Q := Q) hn hA hm m 0 (by omega)]
  simp only [eX4_minutesGo_0, eX4_minutesGo_1, eX4_minutesGo_3, eX4_minutesGo_4, eX4_minutesGo_7, eX4_minutesGo_8, eX4_minutesGo_11, eX4_minutesGo_14, eX4_minutesGo_17, mm_go, up_id]
  rfl

theorem tX4_saves_l : ∀ (k p : Nat), p + k = 37 → (sx_ev G mX4_saves 2 [some (.ref 39), some (.int (nI p))] [] (va_up A 42 (sp_cp (A 40) (A 42) p)) Z Q ↔ Q [] (va_up A 42 (sp_cp (A 40) (A 42) 37)) Z) := by
  intro k
  induction k with
  | zero =>
    intro p hp
    have hp' : p = 37 := by omega
    subst hp'
    rw [eX4_saves_2]
    have h1 : (37 : Int32) ≤ nI 37 := by decide
    simp only [eX4_saves_0, eX4_saves_1, eX4_saves_3, eX4_saves_5, eX4_saves_8, eX4_saves_9, eX4_saves_12, eX4_saves_13, eX4_saves_14, eX4_saves_17, eX4_saves_18, eX4_saves_19, eX4_saves_20, eX4_saves_23, eX4_saves_26, h1, Nat.reduceLeDiff, Nat.reduceEqDiff, Nat.reduceAdd, if_true, if_false, b2i_T, b2i_F, and_self, and_false, false_and, true_and, and_true, true_or, or_true, false_or, or_false, or_self, not_true_eq_false, not_false_eq_true, eq_self, List.cons_append, List.nil_append]
  | succ k ih =>
    intro p hp
    rw [eX4_saves_2]
    have h1 : ¬ (37 : Int32) ≤ nI p := nI_ge (a := p) (b := 37) (by omega) (by omega)
    have h2 : ¬ nI p < 0 := nI_pos (by omega)
    have h5 : ¬ 37 ≤ p := by omega
    have h3 : (nI p).toNatClampNeg = p := nI_clamp (by omega)
    have h4 := ih (p + 1) (by omega)
    rw [sp_cp, nI_succ] at h4
    simp only [eX4_saves_0, eX4_saves_1, eX4_saves_3, eX4_saves_5, eX4_saves_8, eX4_saves_9, eX4_saves_12, eX4_saves_13, eX4_saves_14, eX4_saves_17, eX4_saves_18, eX4_saves_19, eX4_saves_20, eX4_saves_23, eX4_saves_26, kd_39, fr_39_0, fr_39_1, fr_39_2, fr_39_3, fr_39_4, fr_39_6, fr_39_12, fr_39_13, fr_39_14, fr_39_15, kd_40, an_40, rd_40, kd_41, an_41, rd_41, kd_42, an_42, rd_42, kd_43, an_43, rd_43, kd_44, an_44, rd_44, kd_45, an_45, rd_45, kd_46, an_46, rd_46, kd_47, an_47, rd_47, kd_48, an_48, kd_49, an_49, up_s, up_n, up_up, h1, h2, h3, h5, Nat.reduceLeDiff, Nat.reduceEqDiff, Nat.reduceAdd, if_true, if_false, b2i_T, b2i_F, and_self, and_false, false_and, true_and, and_true, true_or, or_true, false_or, or_false, or_self, not_true_eq_false, not_false_eq_true, eq_self, List.cons_append, List.nil_append]
    exact h4
theorem tX4_saves : sx_call G mX4_saves [.ref 39] A Z Q ↔ Q [] (va_up A 42 (sp_cp (A 40) (A 42) 37)) Z := by
  rw [sx_call_in (L := [some (.ref 39), none]) rfl rfl]
  rw [← tX4_saves_l (G := G) (Z := Z) (Q := Q) 37 0 (by omega)]
  simp only [eX4_saves_0, eX4_saves_1, eX4_saves_3, eX4_saves_5, eX4_saves_8, eX4_saves_9, eX4_saves_12, eX4_saves_13, eX4_saves_14, eX4_saves_17, eX4_saves_18, eX4_saves_19, eX4_saves_20, eX4_saves_23, eX4_saves_26, sp_cp, up_id]
  rfl

theorem tX4_putsBack_l : ∀ (k p : Nat), p + k = 37 → (sx_ev G mX4_putsBack 2 [some (.ref 39), some (.int (nI p))] [] (va_up A 40 (sp_cp (A 42) (A 40) p)) Z Q ↔ Q [] (va_up A 40 (sp_cp (A 42) (A 40) 37)) Z) := by
  intro k
  induction k with
  | zero =>
    intro p hp
    have hp' : p = 37 := by omega
    subst hp'
    rw [eX4_putsBack_2]
    have h1 : (37 : Int32) ≤ nI 37 := by decide
    simp only [eX4_putsBack_0, eX4_putsBack_1, eX4_putsBack_3, eX4_putsBack_5, eX4_putsBack_8, eX4_putsBack_9, eX4_putsBack_12, eX4_putsBack_13, eX4_putsBack_14, eX4_putsBack_17, eX4_putsBack_18, eX4_putsBack_19, eX4_putsBack_20, eX4_putsBack_23, eX4_putsBack_26, h1, Nat.reduceLeDiff, Nat.reduceEqDiff, Nat.reduceAdd, if_true, if_false, b2i_T, b2i_F, and_self, and_false, false_and, true_and, and_true, true_or, or_true, false_or, or_false, or_self, not_true_eq_false, not_false_eq_true, eq_self, List.cons_append, List.nil_append]
  | succ k ih =>
    intro p hp
    rw [eX4_putsBack_2]
    have h1 : ¬ (37 : Int32) ≤ nI p := nI_ge (a := p) (b := 37) (by omega) (by omega)
    have h2 : ¬ nI p < 0 := nI_pos (by omega)
    have h5 : ¬ 37 ≤ p := by omega
    have h3 : (nI p).toNatClampNeg = p := nI_clamp (by omega)
    have h4 := ih (p + 1) (by omega)
    rw [sp_cp, nI_succ] at h4
    simp only [eX4_putsBack_0, eX4_putsBack_1, eX4_putsBack_3, eX4_putsBack_5, eX4_putsBack_8, eX4_putsBack_9, eX4_putsBack_12, eX4_putsBack_13, eX4_putsBack_14, eX4_putsBack_17, eX4_putsBack_18, eX4_putsBack_19, eX4_putsBack_20, eX4_putsBack_23, eX4_putsBack_26, kd_39, fr_39_0, fr_39_1, fr_39_2, fr_39_3, fr_39_4, fr_39_6, fr_39_12, fr_39_13, fr_39_14, fr_39_15, kd_40, an_40, rd_40, kd_41, an_41, rd_41, kd_42, an_42, rd_42, kd_43, an_43, rd_43, kd_44, an_44, rd_44, kd_45, an_45, rd_45, kd_46, an_46, rd_46, kd_47, an_47, rd_47, kd_48, an_48, kd_49, an_49, up_s, up_n, up_up, h1, h2, h3, h5, Nat.reduceLeDiff, Nat.reduceEqDiff, Nat.reduceAdd, if_true, if_false, b2i_T, b2i_F, and_self, and_false, false_and, true_and, and_true, true_or, or_true, false_or, or_false, or_self, not_true_eq_false, not_false_eq_true, eq_self, List.cons_append, List.nil_append]
    exact h4
theorem tX4_putsBack : sx_call G mX4_putsBack [.ref 39] A Z Q ↔ Q [] (va_up A 40 (sp_cp (A 42) (A 40) 37)) Z := by
  rw [sx_call_in (L := [some (.ref 39), none]) rfl rfl]
  rw [← tX4_putsBack_l (G := G) (Z := Z) (Q := Q) 37 0 (by omega)]
  simp only [eX4_putsBack_0, eX4_putsBack_1, eX4_putsBack_3, eX4_putsBack_5, eX4_putsBack_8, eX4_putsBack_9, eX4_putsBack_12, eX4_putsBack_13, eX4_putsBack_14, eX4_putsBack_17, eX4_putsBack_18, eX4_putsBack_19, eX4_putsBack_20, eX4_putsBack_23, eX4_putsBack_26, sp_cp, up_id]
  rfl

theorem tX4_laysAside_l : ∀ (k p : Nat), p + k = 37 → (sx_ev G mX4_laysAside 2 [some (.ref 39), some (.int (nI p))] [] (va_up A 43 (sp_cp (A 40) (A 43) p)) Z Q ↔ Q [] (va_up A 43 (sp_cp (A 40) (A 43) 37)) Z) := by
  intro k
  induction k with
  | zero =>
    intro p hp
    have hp' : p = 37 := by omega
    subst hp'
    rw [eX4_laysAside_2]
    have h1 : (37 : Int32) ≤ nI 37 := by decide
    simp only [eX4_laysAside_0, eX4_laysAside_1, eX4_laysAside_3, eX4_laysAside_5, eX4_laysAside_8, eX4_laysAside_9, eX4_laysAside_12, eX4_laysAside_13, eX4_laysAside_14, eX4_laysAside_17, eX4_laysAside_18, eX4_laysAside_19, eX4_laysAside_20, eX4_laysAside_23, eX4_laysAside_26, h1, Nat.reduceLeDiff, Nat.reduceEqDiff, Nat.reduceAdd, if_true, if_false, b2i_T, b2i_F, and_self, and_false, false_and, true_and, and_true, true_or, or_true, false_or, or_false, or_self, not_true_eq_false, not_false_eq_true, eq_self, List.cons_append, List.nil_append]
  | succ k ih =>
    intro p hp
    rw [eX4_laysAside_2]
    have h1 : ¬ (37 : Int32) ≤ nI p := nI_ge (a := p) (b := 37) (by omega) (by omega)
    have h2 : ¬ nI p < 0 := nI_pos (by omega)
    have h5 : ¬ 37 ≤ p := by omega
    have h3 : (nI p).toNatClampNeg = p := nI_clamp (by omega)
    have h4 := ih (p + 1) (by omega)
    rw [sp_cp, nI_succ] at h4
    simp only [eX4_laysAside_0, eX4_laysAside_1, eX4_laysAside_3, eX4_laysAside_5, eX4_laysAside_8, eX4_laysAside_9, eX4_laysAside_12, eX4_laysAside_13, eX4_laysAside_14, eX4_laysAside_17, eX4_laysAside_18, eX4_laysAside_19, eX4_laysAside_20, eX4_laysAside_23, eX4_laysAside_26, kd_39, fr_39_0, fr_39_1, fr_39_2, fr_39_3, fr_39_4, fr_39_6, fr_39_12, fr_39_13, fr_39_14, fr_39_15, kd_40, an_40, rd_40, kd_41, an_41, rd_41, kd_42, an_42, rd_42, kd_43, an_43, rd_43, kd_44, an_44, rd_44, kd_45, an_45, rd_45, kd_46, an_46, rd_46, kd_47, an_47, rd_47, kd_48, an_48, kd_49, an_49, up_s, up_n, up_up, h1, h2, h3, h5, Nat.reduceLeDiff, Nat.reduceEqDiff, Nat.reduceAdd, if_true, if_false, b2i_T, b2i_F, and_self, and_false, false_and, true_and, and_true, true_or, or_true, false_or, or_false, or_self, not_true_eq_false, not_false_eq_true, eq_self, List.cons_append, List.nil_append]
    exact h4
theorem tX4_laysAside : sx_call G mX4_laysAside [.ref 39] A Z Q ↔ Q [] (va_up A 43 (sp_cp (A 40) (A 43) 37)) Z := by
  rw [sx_call_in (L := [some (.ref 39), none]) rfl rfl]
  rw [← tX4_laysAside_l (G := G) (Z := Z) (Q := Q) 37 0 (by omega)]
  simp only [eX4_laysAside_0, eX4_laysAside_1, eX4_laysAside_3, eX4_laysAside_5, eX4_laysAside_8, eX4_laysAside_9, eX4_laysAside_12, eX4_laysAside_13, eX4_laysAside_14, eX4_laysAside_17, eX4_laysAside_18, eX4_laysAside_19, eX4_laysAside_20, eX4_laysAside_23, eX4_laysAside_26, sp_cp, up_id]
  rfl

theorem tX4_takesBack_l {v : Int32} : ∀ (k p : Nat), p + k = 37 → (sx_ev G mX4_takesBack 2 [some (.ref 39), some (.int v), some (.int (nI p))] [] (va_up A 40 (sp_cp (A 43) (A 40) p)) Z Q ↔ Q [.int v] (va_up A 40 (sp_cp (A 43) (A 40) 37)) Z) := by
  intro k
  induction k with
  | zero =>
    intro p hp
    have hp' : p = 37 := by omega
    subst hp'
    rw [eX4_takesBack_2]
    have h1 : (37 : Int32) ≤ nI 37 := by decide
    simp only [eX4_takesBack_0, eX4_takesBack_1, eX4_takesBack_3, eX4_takesBack_5, eX4_takesBack_8, eX4_takesBack_9, eX4_takesBack_12, eX4_takesBack_13, eX4_takesBack_14, eX4_takesBack_17, eX4_takesBack_18, eX4_takesBack_19, eX4_takesBack_20, eX4_takesBack_23, eX4_takesBack_26, eX4_takesBack_27, h1, Nat.reduceLeDiff, Nat.reduceEqDiff, Nat.reduceAdd, if_true, if_false, b2i_T, b2i_F, and_self, and_false, false_and, true_and, and_true, true_or, or_true, false_or, or_false, or_self, not_true_eq_false, not_false_eq_true, eq_self, List.cons_append, List.nil_append]
  | succ k ih =>
    intro p hp
    rw [eX4_takesBack_2]
    have h1 : ¬ (37 : Int32) ≤ nI p := nI_ge (a := p) (b := 37) (by omega) (by omega)
    have h2 : ¬ nI p < 0 := nI_pos (by omega)
    have h5 : ¬ 37 ≤ p := by omega
    have h3 : (nI p).toNatClampNeg = p := nI_clamp (by omega)
    have h4 := ih (p + 1) (by omega)
    rw [sp_cp, nI_succ] at h4
    simp only [eX4_takesBack_0, eX4_takesBack_1, eX4_takesBack_3, eX4_takesBack_5, eX4_takesBack_8, eX4_takesBack_9, eX4_takesBack_12, eX4_takesBack_13, eX4_takesBack_14, eX4_takesBack_17, eX4_takesBack_18, eX4_takesBack_19, eX4_takesBack_20, eX4_takesBack_23, eX4_takesBack_26, eX4_takesBack_27, kd_39, fr_39_0, fr_39_1, fr_39_2, fr_39_3, fr_39_4, fr_39_6, fr_39_12, fr_39_13, fr_39_14, fr_39_15, kd_40, an_40, rd_40, kd_41, an_41, rd_41, kd_42, an_42, rd_42, kd_43, an_43, rd_43, kd_44, an_44, rd_44, kd_45, an_45, rd_45, kd_46, an_46, rd_46, kd_47, an_47, rd_47, kd_48, an_48, kd_49, an_49, up_s, up_n, up_up, h1, h2, h3, h5, Nat.reduceLeDiff, Nat.reduceEqDiff, Nat.reduceAdd, if_true, if_false, b2i_T, b2i_F, and_self, and_false, false_and, true_and, and_true, true_or, or_true, false_or, or_false, or_self, not_true_eq_false, not_false_eq_true, eq_self, List.cons_append, List.nil_append]
    exact h4
theorem tX4_takesBack {v : Int32} : sx_call G mX4_takesBack [.ref 39, .int v] A Z Q ↔ Q [.int v] (va_up A 40 (sp_cp (A 43) (A 40) 37)) Z := by
  rw [sx_call_in (L := [some (.ref 39), some (.int v), none]) rfl rfl]
  rw [← tX4_takesBack_l (G := G) (Z := Z) (Q := Q) 37 0 (by omega)]
  simp only [eX4_takesBack_0, eX4_takesBack_1, eX4_takesBack_3, eX4_takesBack_5, eX4_takesBack_8, eX4_takesBack_9, eX4_takesBack_12, eX4_takesBack_13, eX4_takesBack_14, eX4_takesBack_17, eX4_takesBack_18, eX4_takesBack_19, eX4_takesBack_20, eX4_takesBack_23, eX4_takesBack_26, eX4_takesBack_27, sp_cp, up_id]
  rfl

/-- sum of the first p of a row -/
def sp_sum (f : Nat → Int32) : Nat → Int32
  | 0 => 0
  | p + 1 => sp_sum f p + f p
theorem tX4_together_l {w : Nat} (hw : w < 4) (hn : n ≤ 8) (hA : A 40 0 = nI n) : ∀ (k p : Nat), p + k = n → (sx_ev G mX4_together 4 [some (.ref 39), some (.int (nI w)), some (.int (sp_sum (fun p => A 40 (5 + 4 * p + w)) p)), some (.int (nI p))] [] A Z Q ↔ Q [.int (sp_sum (fun p => A 40 (5 + 4 * p + w)) n)] A Z) := by
  intro k
  induction k with
  | zero =>
    intro p hp
    have hp' : p = n := by omega
    subst hp'
    rw [eX4_together_4]
    have h1 : nI p ≤ nI p := nI_le (Nat.le_refl _) (by omega)
    simp only [eX4_together_0, eX4_together_1, eX4_together_2, eX4_together_3, eX4_together_5, eX4_together_6, eX4_together_9, eX4_together_10, eX4_together_11, eX4_together_14, eX4_together_15, eX4_together_16, eX4_together_17, eX4_together_18, eX4_together_21, eX4_together_22, eX4_together_23, eX4_together_26, eX4_together_29, eX4_together_30, kd_39, fr_39_0, fr_39_1, fr_39_2, fr_39_3, fr_39_4, fr_39_6, fr_39_12, fr_39_13, fr_39_14, fr_39_15, kd_40, an_40, rd_40, kd_41, an_41, rd_41, kd_42, an_42, rd_42, kd_43, an_43, rd_43, kd_44, an_44, rd_44, kd_45, an_45, rd_45, kd_46, an_46, rd_46, kd_47, an_47, rd_47, kd_48, an_48, kd_49, an_49, z_0, z_1, z_2, z_3, z_4, zc_0, zc_1, zc_2, zc_3, zc_4, hA, h1, Nat.reduceLeDiff, Nat.reduceEqDiff, Nat.reduceAdd, if_true, if_false, b2i_T, b2i_F, and_self, and_false, false_and, true_and, and_true, true_or, or_true, false_or, or_false, or_self, not_true_eq_false, not_false_eq_true, eq_self, List.cons_append, List.nil_append]
  | succ k ih =>
    intro p hp'
    rw [eX4_together_4]
    have hp : p < 8 := by omega
    have h1 : ¬ nI n ≤ nI p := nI_ge (by omega) (by omega)
    have h4 := ih (p + 1) (by omega)
    rw [sp_sum, nI_succ] at h4
    simp only [eX4_together_0, eX4_together_1, eX4_together_2, eX4_together_3, eX4_together_5, eX4_together_6, eX4_together_9, eX4_together_10, eX4_together_11, eX4_together_14, eX4_together_15, eX4_together_16, eX4_together_17, eX4_together_18, eX4_together_21, eX4_together_22, eX4_together_23, eX4_together_26, eX4_together_29, eX4_together_30, kd_39, fr_39_0, fr_39_1, fr_39_2, fr_39_3, fr_39_4, fr_39_6, fr_39_12, fr_39_13, fr_39_14, fr_39_15, kd_40, an_40, rd_40, kd_41, an_41, rd_41, kd_42, an_42, rd_42, kd_43, an_43, rd_43, kd_44, an_44, rd_44, kd_45, an_45, rd_45, kd_46, an_46, rd_46, kd_47, an_47, rd_47, kd_48, an_48, kd_49, an_49, z_0, z_1, z_2, z_3, z_4, zc_0, zc_1, zc_2, zc_3, zc_4, tX4_its hp hw, hA, h1, Nat.reduceLeDiff, Nat.reduceEqDiff, Nat.reduceAdd, if_true, if_false, b2i_T, b2i_F, and_self, and_false, false_and, true_and, and_true, true_or, or_true, false_or, or_false, or_self, not_true_eq_false, not_false_eq_true, eq_self, List.cons_append, List.nil_append]
    exact h4
theorem tX4_together {w : Nat} (hw : w < 4) (hn : n ≤ 8) (hA : A 40 0 = nI n) : sx_call G mX4_together [.ref 39, .int (nI w)] A Z Q ↔ Q [.int (sp_sum (fun p => A 40 (5 + 4 * p + w)) n)] A Z := by
  rw [sx_call_in (L := [some (.ref 39), some (.int (nI w)), none, none]) rfl rfl]
  rw [← tX4_together_l (G := G) (Z := Z) (Q := Q) (w := w) hw hn hA n 0 (by omega)]
  simp only [eX4_together_0, eX4_together_1, eX4_together_2, eX4_together_3, eX4_together_5, eX4_together_6, eX4_together_9, eX4_together_10, eX4_together_11, eX4_together_14, eX4_together_15, eX4_together_16, eX4_together_17, eX4_together_18, eX4_together_21, eX4_together_22, eX4_together_23, eX4_together_26, eX4_together_29, eX4_together_30]
  rfl
theorem tX4_sitting (hn : n ≤ 8) (hA : A 40 0 = nI n) : sx_call G mX4_sitting [.ref 39] A Z Q ↔ Q [.int (sp_sit (mP (A 40)) 0 n ||| sp_sit (mP (A 40)) 1 n)] A Z := by
  rw [sx_call_in (L := [some (.ref 39)]) rfl rfl]
  simp only [eX4_sitting_0, eX4_sitting_1, eX4_sitting_2, eX4_sitting_5, eX4_sitting_6, eX4_sitting_7, eX4_sitting_10, eX4_sitting_11, kd_39, fr_39_0, fr_39_1, fr_39_2, fr_39_3, fr_39_4, fr_39_6, fr_39_12, fr_39_13, fr_39_14, fr_39_15, kd_40, an_40, rd_40, kd_41, an_41, rd_41, kd_42, an_42, rd_42, kd_43, an_43, rd_43, kd_44, an_44, rd_44, kd_45, an_45, rd_45, kd_46, an_46, rd_46, kd_47, an_47, rd_47, kd_48, an_48, kd_49, an_49, tX4_thoseAt hn hA, Nat.reduceLeDiff, Nat.reduceEqDiff, Nat.reduceAdd, if_true, if_false, b2i_T, b2i_F, and_self, and_false, false_and, true_and, and_true, true_or, or_true, false_or, or_false, or_self, not_true_eq_false, not_false_eq_true, eq_self, List.cons_append, List.nil_append]
theorem tX4_becomes {w : Nat} {v : Int32} (hw : w < 37) : sx_call G mX4_becomes [.ref 39, .int (nI w), .int v] A Z Q ↔ Q [.int (A 40 w)] (va_up A 40 (upd (A 40) w v)) Z := by
  rw [sx_call_in (L := [some (.ref 39), some (.int (nI w)), some (.int v), none]) rfl rfl]
  have h2 : ¬ nI w < 0 := nI_pos (by omega)
  have h5 : ¬ 37 ≤ w := by omega
  have h3 : (nI w).toNatClampNeg = w := nI_clamp (by omega)
  simp only [eX4_becomes_0, eX4_becomes_1, eX4_becomes_4, eX4_becomes_5, eX4_becomes_6, eX4_becomes_7, eX4_becomes_8, eX4_becomes_11, eX4_becomes_12, eX4_becomes_13, eX4_becomes_14, eX4_becomes_15, kd_39, fr_39_0, fr_39_1, fr_39_2, fr_39_3, fr_39_4, fr_39_6, fr_39_12, fr_39_13, fr_39_14, fr_39_15, kd_40, an_40, rd_40, kd_41, an_41, rd_41, kd_42, an_42, rd_42, kd_43, an_43, rd_43, kd_44, an_44, rd_44, kd_45, an_45, rd_45, kd_46, an_46, rd_46, kd_47, an_47, rd_47, kd_48, an_48, kd_49, an_49, h2, h3, h5, Nat.reduceLeDiff, Nat.reduceEqDiff, Nat.reduceAdd, if_true, if_false, b2i_T, b2i_F, and_self, and_false, false_and, true_and, and_true, true_or, or_true, false_or, or_false, or_self, not_true_eq_false, not_false_eq_true, eq_self, List.cons_append, List.nil_append]
def sp_held (v : Int32) : Int32 := if v ≤ 99 then v else 99
theorem tX4_hears {p : Nat} {g r : Int32} (hp : p < 8) : sx_call G mX4_hears [.ref 39, .int (nI p), .int g, .int r] A Z Q ↔ Q [] (va_up A 40 (upd (upd (A 40) (5 + 4 * p + 1) (sp_held (A 40 (5 + 4 * p + 1) + g))) (5 + 4 * p + 2) (sp_held (A 40 (5 + 4 * p + 2) + r)))) Z := by
  rw [sx_call_in (L := [some (.ref 39), some (.int (nI p)), some (.int g), some (.int r)]) rfl rfl]
  have i1 : (5 : Int32) + 4 * nI p + 1 = nI (5 + 4 * p + 1) := ix_4 (w := 1)
  have i2 : (5 : Int32) + 4 * nI p + 2 = nI (5 + 4 * p + 2) := ix_4 (w := 2)
  have h21 : ¬ nI (5 + 4 * p + 1) < 0 := nI_pos (by omega)
  have h51 : ¬ 37 ≤ 5 + 4 * p + 1 := by omega
  have h31 : (nI (5 + 4 * p + 1)).toNatClampNeg = 5 + 4 * p + 1 := nI_clamp (by omega)
  have h22 : ¬ nI (5 + 4 * p + 2) < 0 := nI_pos (by omega)
  have h52 : ¬ 37 ≤ 5 + 4 * p + 2 := by omega
  have h32 : (nI (5 + 4 * p + 2)).toNatClampNeg = 5 + 4 * p + 2 := nI_clamp (by omega)
  have hne : ¬ 5 + 4 * p + 2 = 5 + 4 * p + 1 := by omega
  simp only [eX4_hears_0, eX4_hears_1, eX4_hears_4, eX4_hears_5, eX4_hears_6, eX4_hears_9, eX4_hears_10, eX4_hears_11, eX4_hears_12, eX4_hears_15, eX4_hears_16, eX4_hears_17, eX4_hears_20, eX4_hears_21, eX4_hears_22, eX4_hears_25, eX4_hears_26, eX4_hears_27, eX4_hears_30, eX4_hears_31, eX4_hears_32, eX4_hears_33, eX4_hears_36, eX4_hears_37, eX4_hears_38, eX4_hears_41, eX4_hears_42, kd_39, fr_39_0, fr_39_1, fr_39_2, fr_39_3, fr_39_4, fr_39_6, fr_39_12, fr_39_13, fr_39_14, fr_39_15, kd_40, an_40, rd_40, kd_41, an_41, rd_41, kd_42, an_42, rd_42, kd_43, an_43, rd_43, kd_44, an_44, rd_44, kd_45, an_45, rd_45, kd_46, an_46, rd_46, kd_47, an_47, rd_47, kd_48, an_48, kd_49, an_49, tX4_its0 hp, tX4_its1 hp, tX4_its2 hp, tX4_its3 hp, tX4_heldTo, tX4_spotOf, i1, i2, h21, h51, h31, h22, h52, h32, up_s, up_up, ud_n hne, Nat.reduceLeDiff, Nat.reduceEqDiff, Nat.reduceAdd, if_true, if_false, b2i_T, b2i_F, and_self, and_false, false_and, true_and, and_true, true_or, or_true, false_or, or_false, or_self, not_true_eq_false, not_false_eq_true, eq_self, List.cons_append, List.nil_append]
  rfl
theorem tX4_adds {k : Int32} (hn : n < 8) (hA : A 40 0 = nI n) : sx_call G mX4_adds [.ref 39, .int k] A Z Q ↔ Q [.int (nI n)] (va_up A 40 (upd (upd (upd (upd (upd (A 40) (5 + 4 * n) k) (5 + 4 * n + 1) 0) (5 + 4 * n + 2) 0) (5 + 4 * n + 3) (-1)) 0 (nI n + 1))) Z := by
  rw [sx_call_in (L := [some (.ref 39), some (.int k), none]) rfl rfl]
  have i0 : (5 : Int32) + 4 * nI n + 0 = nI (5 + 4 * n) := ix_4 (w := 0)
  have i1 : (5 : Int32) + 4 * nI n + 1 = nI (5 + 4 * n + 1) := ix_4 (w := 1)
  have i2 : (5 : Int32) + 4 * nI n + 2 = nI (5 + 4 * n + 2) := ix_4 (w := 2)
  have i3 : (5 : Int32) + 4 * nI n + 3 = nI (5 + 4 * n + 3) := ix_4 (w := 3)
  have a0 : ¬ nI (5 + 4 * n) < 0 := nI_pos (by omega)
  have b0 : ¬ 37 ≤ 5 + 4 * n := by omega
  have c0 : (nI (5 + 4 * n)).toNatClampNeg = 5 + 4 * n := nI_clamp (by omega)
  have a1 : ¬ nI (5 + 4 * n + 1) < 0 := nI_pos (by omega)
  have b1 : ¬ 37 ≤ 5 + 4 * n + 1 := by omega
  have c1 : (nI (5 + 4 * n + 1)).toNatClampNeg = 5 + 4 * n + 1 := nI_clamp (by omega)
  have a2 : ¬ nI (5 + 4 * n + 2) < 0 := nI_pos (by omega)
  have b2 : ¬ 37 ≤ 5 + 4 * n + 2 := by omega
  have c2 : (nI (5 + 4 * n + 2)).toNatClampNeg = 5 + 4 * n + 2 := nI_clamp (by omega)
  have a3 : ¬ nI (5 + 4 * n + 3) < 0 := nI_pos (by omega)
  have b3 : ¬ 37 ≤ 5 + 4 * n + 3 := by omega
  have c3 : (nI (5 + 4 * n + 3)).toNatClampNeg = 5 + 4 * n + 3 := nI_clamp (by omega)
  have d0 : ¬ 0 = 5 + 4 * n := by omega
  have d1 : ¬ 0 = 5 + 4 * n + 1 := by omega
  have d2 : ¬ 0 = 5 + 4 * n + 2 := by omega
  have d3 : ¬ 0 = 5 + 4 * n + 3 := by omega
  simp only [eX4_adds_0, eX4_adds_1, eX4_adds_4, eX4_adds_5, eX4_adds_6, eX4_adds_7, eX4_adds_8, eX4_adds_11, eX4_adds_12, eX4_adds_13, eX4_adds_16, eX4_adds_17, eX4_adds_18, eX4_adds_19, eX4_adds_22, eX4_adds_23, eX4_adds_24, eX4_adds_27, eX4_adds_28, eX4_adds_29, eX4_adds_30, eX4_adds_33, eX4_adds_34, eX4_adds_35, eX4_adds_38, eX4_adds_39, eX4_adds_40, eX4_adds_41, eX4_adds_44, eX4_adds_45, eX4_adds_46, eX4_adds_49, eX4_adds_50, eX4_adds_51, eX4_adds_52, eX4_adds_55, eX4_adds_56, eX4_adds_57, eX4_adds_58, eX4_adds_59, eX4_adds_60, eX4_adds_61, eX4_adds_62, kd_39, fr_39_0, fr_39_1, fr_39_2, fr_39_3, fr_39_4, fr_39_6, fr_39_12, fr_39_13, fr_39_14, fr_39_15, kd_40, an_40, rd_40, kd_41, an_41, rd_41, kd_42, an_42, rd_42, kd_43, an_43, rd_43, kd_44, an_44, rd_44, kd_45, an_45, rd_45, kd_46, an_46, rd_46, kd_47, an_47, rd_47, kd_48, an_48, kd_49, an_49, z_0, z_1, z_2, z_3, z_4, zc_0, zc_1, zc_2, zc_3, zc_4, tX4_spotOf, i0, i1, i2, i3, a0, b0, c0, a1, b1, c1, a2, b2, c2, a3, b3, c3, up_s, up_up, ud_n d0, ud_n d1, ud_n d2, ud_n d3, hA, Nat.reduceLeDiff, Nat.reduceEqDiff, Nat.reduceAdd, if_true, if_false, b2i_T, b2i_F, and_self, and_false, false_and, true_and, and_true, true_or, or_true, false_or, or_false, or_self, not_true_eq_false, not_false_eq_true, eq_self, List.cons_append, List.nil_append]

theorem tX4_finds0 : sx_call G mX4_finds [.ref 39, .int (-1000000001)] A Z Q ↔ Q [.int (-1000000001)] (va_up A 44 (upd (A 44) 0 (A 44 0 + 1))) Z := by
  rw [sx_call_in (L := [some (.ref 39), some (.int (-1000000001))]) rfl rfl]
  have h0 : (-1000000001 : Int32) - (-1000000001) = 0 := by decide
  have h1 : ¬ (0 : Int32) < 0 := by decide
  have h2 : (0 : Int32).toNatClampNeg = 0 := by decide
  simp only [eX4_finds_0, eX4_finds_1, eX4_finds_4, eX4_finds_6, eX4_finds_7, eX4_finds_8, eX4_finds_9, eX4_finds_10, eX4_finds_11, eX4_finds_12, eX4_finds_13, eX4_finds_14, kd_39, fr_39_0, fr_39_1, fr_39_2, fr_39_3, fr_39_4, fr_39_6, fr_39_12, fr_39_13, fr_39_14, fr_39_15, kd_40, an_40, rd_40, kd_41, an_41, rd_41, kd_42, an_42, rd_42, kd_43, an_43, rd_43, kd_44, an_44, rd_44, kd_45, an_45, rd_45, kd_46, an_46, rd_46, kd_47, an_47, rd_47, kd_48, an_48, kd_49, an_49, h0, h1, h2, Nat.reduceLeDiff, Nat.reduceEqDiff, Nat.reduceAdd, if_true, if_false, b2i_T, b2i_F, and_self, and_false, false_and, true_and, and_true, true_or, or_true, false_or, or_false, or_self, not_true_eq_false, not_false_eq_true, eq_self, List.cons_append, List.nil_append]
theorem tX3_finding0 : sx_call G mX3_finding [.ref 0, .int (-1000000001)] A Z Q ↔ Q [.int (-1000000001)] (va_up A 38 (upd (A 38) 0 (A 38 0 + 1))) Z := by
  rw [sx_call_in (L := [some (.ref 0), some (.int (-1000000001)), none]) rfl rfl]
  have h0 : (-1000000001 : Int32) - (-1000000001) = 0 := by decide
  have h1 : ¬ (0 : Int32) < 0 := by decide
  have h2 : (0 : Int32).toNatClampNeg = 0 := by decide
  have h3 : b2i ((0 : Int32) ≤ 0 ∧ (0 : Int32) ≤ 6) = 1 := b2i_t (by decide)
  have h4 : ¬ (1 : Int32) = 0 := by decide
  simp only [eX3_finding_0, eX3_finding_2, eX3_finding_3, eX3_finding_4, eX3_finding_5, eX3_finding_6, eX3_finding_7, eX3_finding_9, eX3_finding_12, eX3_finding_15, eX3_finding_16, eX3_finding_19, eX3_finding_20, eX3_finding_21, eX3_finding_22, eX3_finding_23, eX3_finding_24, eX3_finding_25, eX3_finding_26, kd_0, fr_0_8, kd_38, an_38, rd_38, tX3_isWithin, h0, h1, h2, h3, h4, Nat.reduceLeDiff, Nat.reduceEqDiff, Nat.reduceAdd, if_true, if_false, b2i_T, b2i_F, and_self, and_false, false_and, true_and, and_true, true_or, or_true, false_or, or_false, or_self, not_true_eq_false, not_false_eq_true, eq_self, List.cons_append, List.nil_append]
theorem tX4_finds1 : sx_call G mX4_finds [.ref 39, .int (-1000000002)] A Z Q ↔ Q [.int (-1000000002)] (va_up A 44 (upd (A 44) 1 (A 44 1 + 1))) Z := by
  rw [sx_call_in (L := [some (.ref 39), some (.int (-1000000002))]) rfl rfl]
  have h0 : (-1000000001 : Int32) - (-1000000002) = 1 := by decide
  have h1 : ¬ (1 : Int32) < 0 := by decide
  have h2 : (1 : Int32).toNatClampNeg = 1 := by decide
  simp only [eX4_finds_0, eX4_finds_1, eX4_finds_4, eX4_finds_6, eX4_finds_7, eX4_finds_8, eX4_finds_9, eX4_finds_10, eX4_finds_11, eX4_finds_12, eX4_finds_13, eX4_finds_14, kd_39, fr_39_0, fr_39_1, fr_39_2, fr_39_3, fr_39_4, fr_39_6, fr_39_12, fr_39_13, fr_39_14, fr_39_15, kd_40, an_40, rd_40, kd_41, an_41, rd_41, kd_42, an_42, rd_42, kd_43, an_43, rd_43, kd_44, an_44, rd_44, kd_45, an_45, rd_45, kd_46, an_46, rd_46, kd_47, an_47, rd_47, kd_48, an_48, kd_49, an_49, h0, h1, h2, Nat.reduceLeDiff, Nat.reduceEqDiff, Nat.reduceAdd, if_true, if_false, b2i_T, b2i_F, and_self, and_false, false_and, true_and, and_true, true_or, or_true, false_or, or_false, or_self, not_true_eq_false, not_false_eq_true, eq_self, List.cons_append, List.nil_append]
theorem tX3_finding1 : sx_call G mX3_finding [.ref 0, .int (-1000000002)] A Z Q ↔ Q [.int (-1000000002)] (va_up A 38 (upd (A 38) 1 (A 38 1 + 1))) Z := by
  rw [sx_call_in (L := [some (.ref 0), some (.int (-1000000002)), none]) rfl rfl]
  have h0 : (-1000000001 : Int32) - (-1000000002) = 1 := by decide
  have h1 : ¬ (1 : Int32) < 0 := by decide
  have h2 : (1 : Int32).toNatClampNeg = 1 := by decide
  have h3 : b2i ((0 : Int32) ≤ 1 ∧ (1 : Int32) ≤ 6) = 1 := b2i_t (by decide)
  have h4 : ¬ (1 : Int32) = 0 := by decide
  simp only [eX3_finding_0, eX3_finding_2, eX3_finding_3, eX3_finding_4, eX3_finding_5, eX3_finding_6, eX3_finding_7, eX3_finding_9, eX3_finding_12, eX3_finding_15, eX3_finding_16, eX3_finding_19, eX3_finding_20, eX3_finding_21, eX3_finding_22, eX3_finding_23, eX3_finding_24, eX3_finding_25, eX3_finding_26, kd_0, fr_0_8, kd_38, an_38, rd_38, tX3_isWithin, h0, h1, h2, h3, h4, Nat.reduceLeDiff, Nat.reduceEqDiff, Nat.reduceAdd, if_true, if_false, b2i_T, b2i_F, and_self, and_false, false_and, true_and, and_true, true_or, or_true, false_or, or_false, or_self, not_true_eq_false, not_false_eq_true, eq_self, List.cons_append, List.nil_append]
theorem tX4_finds2 : sx_call G mX4_finds [.ref 39, .int (-1000000003)] A Z Q ↔ Q [.int (-1000000003)] (va_up A 44 (upd (A 44) 2 (A 44 2 + 1))) Z := by
  rw [sx_call_in (L := [some (.ref 39), some (.int (-1000000003))]) rfl rfl]
  have h0 : (-1000000001 : Int32) - (-1000000003) = 2 := by decide
  have h1 : ¬ (2 : Int32) < 0 := by decide
  have h2 : (2 : Int32).toNatClampNeg = 2 := by decide
  simp only [eX4_finds_0, eX4_finds_1, eX4_finds_4, eX4_finds_6, eX4_finds_7, eX4_finds_8, eX4_finds_9, eX4_finds_10, eX4_finds_11, eX4_finds_12, eX4_finds_13, eX4_finds_14, kd_39, fr_39_0, fr_39_1, fr_39_2, fr_39_3, fr_39_4, fr_39_6, fr_39_12, fr_39_13, fr_39_14, fr_39_15, kd_40, an_40, rd_40, kd_41, an_41, rd_41, kd_42, an_42, rd_42, kd_43, an_43, rd_43, kd_44, an_44, rd_44, kd_45, an_45, rd_45, kd_46, an_46, rd_46, kd_47, an_47, rd_47, kd_48, an_48, kd_49, an_49, h0, h1, h2, Nat.reduceLeDiff, Nat.reduceEqDiff, Nat.reduceAdd, if_true, if_false, b2i_T, b2i_F, and_self, and_false, false_and, true_and, and_true, true_or, or_true, false_or, or_false, or_self, not_true_eq_false, not_false_eq_true, eq_self, List.cons_append, List.nil_append]
theorem tX3_finding2 : sx_call G mX3_finding [.ref 0, .int (-1000000003)] A Z Q ↔ Q [.int (-1000000003)] (va_up A 38 (upd (A 38) 2 (A 38 2 + 1))) Z := by
  rw [sx_call_in (L := [some (.ref 0), some (.int (-1000000003)), none]) rfl rfl]
  have h0 : (-1000000001 : Int32) - (-1000000003) = 2 := by decide
  have h1 : ¬ (2 : Int32) < 0 := by decide
  have h2 : (2 : Int32).toNatClampNeg = 2 := by decide
  have h3 : b2i ((0 : Int32) ≤ 2 ∧ (2 : Int32) ≤ 6) = 1 := b2i_t (by decide)
  have h4 : ¬ (1 : Int32) = 0 := by decide
  simp only [eX3_finding_0, eX3_finding_2, eX3_finding_3, eX3_finding_4, eX3_finding_5, eX3_finding_6, eX3_finding_7, eX3_finding_9, eX3_finding_12, eX3_finding_15, eX3_finding_16, eX3_finding_19, eX3_finding_20, eX3_finding_21, eX3_finding_22, eX3_finding_23, eX3_finding_24, eX3_finding_25, eX3_finding_26, kd_0, fr_0_8, kd_38, an_38, rd_38, tX3_isWithin, h0, h1, h2, h3, h4, Nat.reduceLeDiff, Nat.reduceEqDiff, Nat.reduceAdd, if_true, if_false, b2i_T, b2i_F, and_self, and_false, false_and, true_and, and_true, true_or, or_true, false_or, or_false, or_self, not_true_eq_false, not_false_eq_true, eq_self, List.cons_append, List.nil_append]
theorem tX4_finds3 : sx_call G mX4_finds [.ref 39, .int (-1000000004)] A Z Q ↔ Q [.int (-1000000004)] (va_up A 44 (upd (A 44) 3 (A 44 3 + 1))) Z := by
  rw [sx_call_in (L := [some (.ref 39), some (.int (-1000000004))]) rfl rfl]
  have h0 : (-1000000001 : Int32) - (-1000000004) = 3 := by decide
  have h1 : ¬ (3 : Int32) < 0 := by decide
  have h2 : (3 : Int32).toNatClampNeg = 3 := by decide
  simp only [eX4_finds_0, eX4_finds_1, eX4_finds_4, eX4_finds_6, eX4_finds_7, eX4_finds_8, eX4_finds_9, eX4_finds_10, eX4_finds_11, eX4_finds_12, eX4_finds_13, eX4_finds_14, kd_39, fr_39_0, fr_39_1, fr_39_2, fr_39_3, fr_39_4, fr_39_6, fr_39_12, fr_39_13, fr_39_14, fr_39_15, kd_40, an_40, rd_40, kd_41, an_41, rd_41, kd_42, an_42, rd_42, kd_43, an_43, rd_43, kd_44, an_44, rd_44, kd_45, an_45, rd_45, kd_46, an_46, rd_46, kd_47, an_47, rd_47, kd_48, an_48, kd_49, an_49, h0, h1, h2, Nat.reduceLeDiff, Nat.reduceEqDiff, Nat.reduceAdd, if_true, if_false, b2i_T, b2i_F, and_self, and_false, false_and, true_and, and_true, true_or, or_true, false_or, or_false, or_self, not_true_eq_false, not_false_eq_true, eq_self, List.cons_append, List.nil_append]
theorem tX3_finding3 : sx_call G mX3_finding [.ref 0, .int (-1000000004)] A Z Q ↔ Q [.int (-1000000004)] (va_up A 38 (upd (A 38) 3 (A 38 3 + 1))) Z := by
  rw [sx_call_in (L := [some (.ref 0), some (.int (-1000000004)), none]) rfl rfl]
  have h0 : (-1000000001 : Int32) - (-1000000004) = 3 := by decide
  have h1 : ¬ (3 : Int32) < 0 := by decide
  have h2 : (3 : Int32).toNatClampNeg = 3 := by decide
  have h3 : b2i ((0 : Int32) ≤ 3 ∧ (3 : Int32) ≤ 6) = 1 := b2i_t (by decide)
  have h4 : ¬ (1 : Int32) = 0 := by decide
  simp only [eX3_finding_0, eX3_finding_2, eX3_finding_3, eX3_finding_4, eX3_finding_5, eX3_finding_6, eX3_finding_7, eX3_finding_9, eX3_finding_12, eX3_finding_15, eX3_finding_16, eX3_finding_19, eX3_finding_20, eX3_finding_21, eX3_finding_22, eX3_finding_23, eX3_finding_24, eX3_finding_25, eX3_finding_26, kd_0, fr_0_8, kd_38, an_38, rd_38, tX3_isWithin, h0, h1, h2, h3, h4, Nat.reduceLeDiff, Nat.reduceEqDiff, Nat.reduceAdd, if_true, if_false, b2i_T, b2i_F, and_self, and_false, false_and, true_and, and_true, true_or, or_true, false_or, or_false, or_self, not_true_eq_false, not_false_eq_true, eq_self, List.cons_append, List.nil_append]
theorem tX4_finds4 : sx_call G mX4_finds [.ref 39, .int (-1000000005)] A Z Q ↔ Q [.int (-1000000005)] (va_up A 44 (upd (A 44) 4 (A 44 4 + 1))) Z := by
  rw [sx_call_in (L := [some (.ref 39), some (.int (-1000000005))]) rfl rfl]
  have h0 : (-1000000001 : Int32) - (-1000000005) = 4 := by decide
  have h1 : ¬ (4 : Int32) < 0 := by decide
  have h2 : (4 : Int32).toNatClampNeg = 4 := by decide
  simp only [eX4_finds_0, eX4_finds_1, eX4_finds_4, eX4_finds_6, eX4_finds_7, eX4_finds_8, eX4_finds_9, eX4_finds_10, eX4_finds_11, eX4_finds_12, eX4_finds_13, eX4_finds_14, kd_39, fr_39_0, fr_39_1, fr_39_2, fr_39_3, fr_39_4, fr_39_6, fr_39_12, fr_39_13, fr_39_14, fr_39_15, kd_40, an_40, rd_40, kd_41, an_41, rd_41, kd_42, an_42, rd_42, kd_43, an_43, rd_43, kd_44, an_44, rd_44, kd_45, an_45, rd_45, kd_46, an_46, rd_46, kd_47, an_47, rd_47, kd_48, an_48, kd_49, an_49, h0, h1, h2, Nat.reduceLeDiff, Nat.reduceEqDiff, Nat.reduceAdd, if_true, if_false, b2i_T, b2i_F, and_self, and_false, false_and, true_and, and_true, true_or, or_true, false_or, or_false, or_self, not_true_eq_false, not_false_eq_true, eq_self, List.cons_append, List.nil_append]
theorem tX3_finding4 : sx_call G mX3_finding [.ref 0, .int (-1000000005)] A Z Q ↔ Q [.int (-1000000005)] (va_up A 38 (upd (A 38) 4 (A 38 4 + 1))) Z := by
  rw [sx_call_in (L := [some (.ref 0), some (.int (-1000000005)), none]) rfl rfl]
  have h0 : (-1000000001 : Int32) - (-1000000005) = 4 := by decide
  have h1 : ¬ (4 : Int32) < 0 := by decide
  have h2 : (4 : Int32).toNatClampNeg = 4 := by decide
  have h3 : b2i ((0 : Int32) ≤ 4 ∧ (4 : Int32) ≤ 6) = 1 := b2i_t (by decide)
  have h4 : ¬ (1 : Int32) = 0 := by decide
  simp only [eX3_finding_0, eX3_finding_2, eX3_finding_3, eX3_finding_4, eX3_finding_5, eX3_finding_6, eX3_finding_7, eX3_finding_9, eX3_finding_12, eX3_finding_15, eX3_finding_16, eX3_finding_19, eX3_finding_20, eX3_finding_21, eX3_finding_22, eX3_finding_23, eX3_finding_24, eX3_finding_25, eX3_finding_26, kd_0, fr_0_8, kd_38, an_38, rd_38, tX3_isWithin, h0, h1, h2, h3, h4, Nat.reduceLeDiff, Nat.reduceEqDiff, Nat.reduceAdd, if_true, if_false, b2i_T, b2i_F, and_self, and_false, false_and, true_and, and_true, true_or, or_true, false_or, or_false, or_self, not_true_eq_false, not_false_eq_true, eq_self, List.cons_append, List.nil_append]
theorem tX4_finds5 : sx_call G mX4_finds [.ref 39, .int (-1000000006)] A Z Q ↔ Q [.int (-1000000006)] (va_up A 44 (upd (A 44) 5 (A 44 5 + 1))) Z := by
  rw [sx_call_in (L := [some (.ref 39), some (.int (-1000000006))]) rfl rfl]
  have h0 : (-1000000001 : Int32) - (-1000000006) = 5 := by decide
  have h1 : ¬ (5 : Int32) < 0 := by decide
  have h2 : (5 : Int32).toNatClampNeg = 5 := by decide
  simp only [eX4_finds_0, eX4_finds_1, eX4_finds_4, eX4_finds_6, eX4_finds_7, eX4_finds_8, eX4_finds_9, eX4_finds_10, eX4_finds_11, eX4_finds_12, eX4_finds_13, eX4_finds_14, kd_39, fr_39_0, fr_39_1, fr_39_2, fr_39_3, fr_39_4, fr_39_6, fr_39_12, fr_39_13, fr_39_14, fr_39_15, kd_40, an_40, rd_40, kd_41, an_41, rd_41, kd_42, an_42, rd_42, kd_43, an_43, rd_43, kd_44, an_44, rd_44, kd_45, an_45, rd_45, kd_46, an_46, rd_46, kd_47, an_47, rd_47, kd_48, an_48, kd_49, an_49, h0, h1, h2, Nat.reduceLeDiff, Nat.reduceEqDiff, Nat.reduceAdd, if_true, if_false, b2i_T, b2i_F, and_self, and_false, false_and, true_and, and_true, true_or, or_true, false_or, or_false, or_self, not_true_eq_false, not_false_eq_true, eq_self, List.cons_append, List.nil_append]
theorem tX3_finding5 : sx_call G mX3_finding [.ref 0, .int (-1000000006)] A Z Q ↔ Q [.int (-1000000006)] (va_up A 38 (upd (A 38) 5 (A 38 5 + 1))) Z := by
  rw [sx_call_in (L := [some (.ref 0), some (.int (-1000000006)), none]) rfl rfl]
  have h0 : (-1000000001 : Int32) - (-1000000006) = 5 := by decide
  have h1 : ¬ (5 : Int32) < 0 := by decide
  have h2 : (5 : Int32).toNatClampNeg = 5 := by decide
  have h3 : b2i ((0 : Int32) ≤ 5 ∧ (5 : Int32) ≤ 6) = 1 := b2i_t (by decide)
  have h4 : ¬ (1 : Int32) = 0 := by decide
  simp only [eX3_finding_0, eX3_finding_2, eX3_finding_3, eX3_finding_4, eX3_finding_5, eX3_finding_6, eX3_finding_7, eX3_finding_9, eX3_finding_12, eX3_finding_15, eX3_finding_16, eX3_finding_19, eX3_finding_20, eX3_finding_21, eX3_finding_22, eX3_finding_23, eX3_finding_24, eX3_finding_25, eX3_finding_26, kd_0, fr_0_8, kd_38, an_38, rd_38, tX3_isWithin, h0, h1, h2, h3, h4, Nat.reduceLeDiff, Nat.reduceEqDiff, Nat.reduceAdd, if_true, if_false, b2i_T, b2i_F, and_self, and_false, false_and, true_and, and_true, true_or, or_true, false_or, or_false, or_self, not_true_eq_false, not_false_eq_true, eq_self, List.cons_append, List.nil_append]
theorem tX4_finds6 : sx_call G mX4_finds [.ref 39, .int (-1000000007)] A Z Q ↔ Q [.int (-1000000007)] (va_up A 44 (upd (A 44) 6 (A 44 6 + 1))) Z := by
  rw [sx_call_in (L := [some (.ref 39), some (.int (-1000000007))]) rfl rfl]
  have h0 : (-1000000001 : Int32) - (-1000000007) = 6 := by decide
  have h1 : ¬ (6 : Int32) < 0 := by decide
  have h2 : (6 : Int32).toNatClampNeg = 6 := by decide
  simp only [eX4_finds_0, eX4_finds_1, eX4_finds_4, eX4_finds_6, eX4_finds_7, eX4_finds_8, eX4_finds_9, eX4_finds_10, eX4_finds_11, eX4_finds_12, eX4_finds_13, eX4_finds_14, kd_39, fr_39_0, fr_39_1, fr_39_2, fr_39_3, fr_39_4, fr_39_6, fr_39_12, fr_39_13, fr_39_14, fr_39_15, kd_40, an_40, rd_40, kd_41, an_41, rd_41, kd_42, an_42, rd_42, kd_43, an_43, rd_43, kd_44, an_44, rd_44, kd_45, an_45, rd_45, kd_46, an_46, rd_46, kd_47, an_47, rd_47, kd_48, an_48, kd_49, an_49, h0, h1, h2, Nat.reduceLeDiff, Nat.reduceEqDiff, Nat.reduceAdd, if_true, if_false, b2i_T, b2i_F, and_self, and_false, false_and, true_and, and_true, true_or, or_true, false_or, or_false, or_self, not_true_eq_false, not_false_eq_true, eq_self, List.cons_append, List.nil_append]
theorem tX3_finding6 : sx_call G mX3_finding [.ref 0, .int (-1000000007)] A Z Q ↔ Q [.int (-1000000007)] (va_up A 38 (upd (A 38) 6 (A 38 6 + 1))) Z := by
  rw [sx_call_in (L := [some (.ref 0), some (.int (-1000000007)), none]) rfl rfl]
  have h0 : (-1000000001 : Int32) - (-1000000007) = 6 := by decide
  have h1 : ¬ (6 : Int32) < 0 := by decide
  have h2 : (6 : Int32).toNatClampNeg = 6 := by decide
  have h3 : b2i ((0 : Int32) ≤ 6 ∧ (6 : Int32) ≤ 6) = 1 := b2i_t (by decide)
  have h4 : ¬ (1 : Int32) = 0 := by decide
  simp only [eX3_finding_0, eX3_finding_2, eX3_finding_3, eX3_finding_4, eX3_finding_5, eX3_finding_6, eX3_finding_7, eX3_finding_9, eX3_finding_12, eX3_finding_15, eX3_finding_16, eX3_finding_19, eX3_finding_20, eX3_finding_21, eX3_finding_22, eX3_finding_23, eX3_finding_24, eX3_finding_25, eX3_finding_26, kd_0, fr_0_8, kd_38, an_38, rd_38, tX3_isWithin, h0, h1, h2, h3, h4, Nat.reduceLeDiff, Nat.reduceEqDiff, Nat.reduceAdd, if_true, if_false, b2i_T, b2i_F, and_self, and_false, false_and, true_and, and_true, true_or, or_true, false_or, or_false, or_self, not_true_eq_false, not_false_eq_true, eq_self, List.cons_append, List.nil_append]
end MB
