/-! PURE SPECS: the Beam's minutes, and a Beam that becomes another -/
def sp_mG (K Gl So pl : Nat → Int32) : Nat → (Nat → Int32)
  | 0 => Gl
  | p + 1 => if pl p = -1 then sp_mG K Gl So pl p else upd (sp_mG K Gl So pl p) p (Gl p - sp_mix (K p) (Gl p) (So p))
def sp_mS (K Gl So pl : Nat → Int32) : Nat → (Nat → Int32)
  | 0 => So
  | p + 1 => if pl p = -1 then sp_mS K Gl So pl p else upd (sp_mS K Gl So pl p) p (So p + sp_mix (K p) (Gl p) (So p))
theorem sp_mG_ge (K Gl So pl : Nat → Int32) : ∀ (p q : Nat), p ≤ q → sp_mG K Gl So pl p q = Gl q
  | 0, q, _ => rfl
  | p + 1, q, h => by
    unfold sp_mG
    split
    · exact sp_mG_ge K Gl So pl p q (by omega)
    · rw [ud_n (by omega)]; exact sp_mG_ge K Gl So pl p q (by omega)
theorem sp_mS_ge (K Gl So pl : Nat → Int32) : ∀ (p q : Nat), p ≤ q → sp_mS K Gl So pl p q = So q
  | 0, q, _ => rfl
  | p + 1, q, h => by
    unfold sp_mS
    split
    · exact sp_mS_ge K Gl So pl p q (by omega)
    · rw [ud_n (by omega)]; exact sp_mS_ge K Gl So pl p q (by omega)
/-- the beam at b, all that sit having mixed, of the first p -/
abbrev bm_mx (A : sx_A) (b p : Nat) : sx_A := va_up (va_up A (b + 2) (sp_mG (A (b + 1)) (A (b + 2)) (A (b + 3)) (A (b + 4)) p)) (b + 3) (sp_mS (A (b + 1)) (A (b + 2)) (A (b + 3)) (A (b + 4)) p)
section XB
variable {G : sx_G} {A : sx_A} {Z : sx_Z} {Q : List Value → sx_A → sx_Z → Prop} {b n : Nat}
theorem tX0_mixAll_l (hb : sx_isB b) (hn : n ≤ 8) (hA : A b 5 = nI n) : ∀ (k p : Nat) (l2 : Option Value), p + k = n → (sx_ev G mX0_mixAll 2 [some (.ref b), some (.int (nI p)), l2] [] (bm_mx A b p) Z Q ↔ Q [] (bm_mx A b n) Z) := by
  intro k
  induction k with
  | zero =>
    intro p l2 hp
    have hp' : p = n := by omega
    subst hp'
    rw [eX0_mixAll_2]
    have h1 : nI p ≤ nI p := nI_le (Nat.le_refl _) (by omega)
    simp only [eX0_mixAll_0, eX0_mixAll_1, eX0_mixAll_3, eX0_mixAll_4, eX0_mixAll_7, eX0_mixAll_10, eX0_mixAll_11, eX0_mixAll_14, eX0_mixAll_15, eX0_mixAll_16, eX0_mixAll_17, eX0_mixAll_20, eX0_mixAll_21, eX0_mixAll_24, eX0_mixAll_25, eX0_mixAll_26, eX0_mixAll_27, eX0_mixAll_30, eX0_mixAll_31, eX0_mixAll_32, eX0_mixAll_33, eX0_mixAll_36, eX0_mixAll_37, eX0_mixAll_38, eX0_mixAll_41, eX0_mixAll_42, eX0_mixAll_43, eX0_mixAll_46, eX0_mixAll_47, eX0_mixAll_48, eX0_mixAll_49, eX0_mixAll_50, eX0_mixAll_51, eX0_mixAll_52, eX0_mixAll_53, eX0_mixAll_56, eX0_mixAll_57, eX0_mixAll_58, eX0_mixAll_59, eX0_mixAll_60, eX0_mixAll_61, eX0_mixAll_62, eX0_mixAll_65, eX0_mixAll_68, kdB hb, kdB1 hb, frB1 hb, anB1 hb, rdB1 hb, kdB2 hb, frB2 hb, anB2 hb, rdB2 hb, kdB3 hb, frB3 hb, anB3 hb, rdB3 hb, kdB4 hb, frB4 hb, anB4 hb, rdB4 hb, kdB5 hb, frB5 hb, anB5 hb, rdB5 hb, nb_0_1, nb_0_2, nb_0_3, nb_0_4, nb_0_5, nb_1_0, nb_1_2, nb_1_3, nb_1_4, nb_1_5, nb_2_0, nb_2_1, nb_2_3, nb_2_4, nb_2_5, nb_3_0, nb_3_1, nb_3_2, nb_3_4, nb_3_5, nb_4_0, nb_4_1, nb_4_2, nb_4_3, nb_4_5, nb_5_0, nb_5_1, nb_5_2, nb_5_3, nb_5_4, up_n, hA, h1, Nat.reduceLeDiff, Nat.reduceEqDiff, Nat.reduceAdd, if_true, if_false, b2i_T, b2i_F, and_self, and_false, false_and, true_and, and_true, true_or, or_true, false_or, or_false, or_self, not_true_eq_false, not_false_eq_true, eq_self, List.cons_append, List.nil_append]
  | succ k ih =>
    intro p l2 hp
    rw [eX0_mixAll_2]
    have h1 : ¬ nI n ≤ nI p := nI_ge (by omega) (by omega)
    have h2 : ¬ nI p < 0 := nI_pos (by omega)
    have h5 : ¬ 8 ≤ p := by omega
    have h3 : (nI p).toNatClampNeg = p := nI_clamp (by omega)
    have h6 := sp_mG_ge (A (b + 1)) (A (b + 2)) (A (b + 3)) (A (b + 4)) p p (Nat.le_refl _)
    have h7 := sp_mS_ge (A (b + 1)) (A (b + 2)) (A (b + 3)) (A (b + 4)) p p (Nat.le_refl _)
    have h4 := fun l2 => ih (p + 1) l2 (by omega)
    simp only [bm_mx, sp_mG, sp_mS, nI_succ] at h4
    simp only [eX0_mixAll_0, eX0_mixAll_1, eX0_mixAll_3, eX0_mixAll_4, eX0_mixAll_7, eX0_mixAll_10, eX0_mixAll_11, eX0_mixAll_14, eX0_mixAll_15, eX0_mixAll_16, eX0_mixAll_17, eX0_mixAll_20, eX0_mixAll_21, eX0_mixAll_24, eX0_mixAll_25, eX0_mixAll_26, eX0_mixAll_27, eX0_mixAll_30, eX0_mixAll_31, eX0_mixAll_32, eX0_mixAll_33, eX0_mixAll_36, eX0_mixAll_37, eX0_mixAll_38, eX0_mixAll_41, eX0_mixAll_42, eX0_mixAll_43, eX0_mixAll_46, eX0_mixAll_47, eX0_mixAll_48, eX0_mixAll_49, eX0_mixAll_50, eX0_mixAll_51, eX0_mixAll_52, eX0_mixAll_53, eX0_mixAll_56, eX0_mixAll_57, eX0_mixAll_58, eX0_mixAll_59, eX0_mixAll_60, eX0_mixAll_61, eX0_mixAll_62, eX0_mixAll_65, eX0_mixAll_68, kdB hb, kdB1 hb, frB1 hb, anB1 hb, rdB1 hb, kdB2 hb, frB2 hb, anB2 hb, rdB2 hb, kdB3 hb, frB3 hb, anB3 hb, rdB3 hb, kdB4 hb, frB4 hb, anB4 hb, rdB4 hb, kdB5 hb, frB5 hb, anB5 hb, rdB5 hb, nb_0_1, nb_0_2, nb_0_3, nb_0_4, nb_0_5, nb_1_0, nb_1_2, nb_1_3, nb_1_4, nb_1_5, nb_2_0, nb_2_1, nb_2_3, nb_2_4, nb_2_5, nb_3_0, nb_3_1, nb_3_2, nb_3_4, nb_3_5, nb_4_0, nb_4_1, nb_4_2, nb_4_3, nb_4_5, nb_5_0, nb_5_1, nb_5_2, nb_5_3, nb_5_4, up_n, up_s, hA, h1, h2, h3, h5, Nat.reduceLeDiff, Nat.reduceEqDiff, Nat.reduceAdd, if_true, if_false, b2i_T, b2i_F, and_self, and_false, false_and, true_and, and_true, true_or, or_true, false_or, or_false, or_self, not_true_eq_false, not_false_eq_true, eq_self, List.cons_append, List.nil_append]
    by_cases hc : A (b + 4) p = -1
    · simp only [hc, Nat.reduceLeDiff, Nat.reduceEqDiff, Nat.reduceAdd, if_true, if_false, b2i_T, b2i_F, and_self, and_false, false_and, true_and, and_true, true_or, or_true, false_or, or_false, or_self, not_true_eq_false, not_false_eq_true, eq_self, List.cons_append, List.nil_append] at h4 ⊢
      exact h4 l2
    · simp only [hc, Nat.reduceLeDiff, Nat.reduceEqDiff, Nat.reduceAdd, if_true, if_false, b2i_T, b2i_F, and_self, and_false, false_and, true_and, and_true, true_or, or_true, false_or, or_false, or_self, not_true_eq_false, not_false_eq_true, eq_self, List.cons_append, List.nil_append] at h4 ⊢
      rw [tX3_mixing]
      simp only [eX0_mixAll_0, eX0_mixAll_1, eX0_mixAll_3, eX0_mixAll_4, eX0_mixAll_7, eX0_mixAll_10, eX0_mixAll_11, eX0_mixAll_14, eX0_mixAll_15, eX0_mixAll_16, eX0_mixAll_17, eX0_mixAll_20, eX0_mixAll_21, eX0_mixAll_24, eX0_mixAll_25, eX0_mixAll_26, eX0_mixAll_27, eX0_mixAll_30, eX0_mixAll_31, eX0_mixAll_32, eX0_mixAll_33, eX0_mixAll_36, eX0_mixAll_37, eX0_mixAll_38, eX0_mixAll_41, eX0_mixAll_42, eX0_mixAll_43, eX0_mixAll_46, eX0_mixAll_47, eX0_mixAll_48, eX0_mixAll_49, eX0_mixAll_50, eX0_mixAll_51, eX0_mixAll_52, eX0_mixAll_53, eX0_mixAll_56, eX0_mixAll_57, eX0_mixAll_58, eX0_mixAll_59, eX0_mixAll_60, eX0_mixAll_61, eX0_mixAll_62, eX0_mixAll_65, eX0_mixAll_68, kdB hb, kdB1 hb, frB1 hb, anB1 hb, rdB1 hb, kdB2 hb, frB2 hb, anB2 hb, rdB2 hb, kdB3 hb, frB3 hb, anB3 hb, rdB3 hb, kdB4 hb, frB4 hb, anB4 hb, rdB4 hb, kdB5 hb, frB5 hb, anB5 hb, rdB5 hb, nb_0_1, nb_0_2, nb_0_3, nb_0_4, nb_0_5, nb_1_0, nb_1_2, nb_1_3, nb_1_4, nb_1_5, nb_2_0, nb_2_1, nb_2_3, nb_2_4, nb_2_5, nb_3_0, nb_3_1, nb_3_2, nb_3_4, nb_3_5, nb_4_0, nb_4_1, nb_4_2, nb_4_3, nb_4_5, nb_5_0, nb_5_1, nb_5_2, nb_5_3, nb_5_4, up_n, up_s, up_sw, up_up, h2, h3, h5, h6, h7, Nat.reduceLeDiff, Nat.reduceEqDiff, Nat.reduceAdd, if_true, if_false, b2i_T, b2i_F, and_self, and_false, false_and, true_and, and_true, true_or, or_true, false_or, or_false, or_self, not_true_eq_false, not_false_eq_true, eq_self, List.cons_append, List.nil_append]
      exact h4 _
theorem tX0_mixAll (hb : sx_isB b) (hn : n ≤ 8) (hA : A b 5 = nI n) : sx_call G mX0_mixAll [.ref b] A Z Q ↔ Q [] (bm_mx A b n) Z := by
  rw [sx_call_in (L := [some (.ref b), none, none]) rfl rfl]
  rw [← tX0_mixAll_l (G := G) (Z := Z) (Q := Q) hb hn hA n 0 none (by omega)]
  simp only [eX0_mixAll_0, eX0_mixAll_1, eX0_mixAll_3, eX0_mixAll_4, eX0_mixAll_7, eX0_mixAll_10, eX0_mixAll_11, eX0_mixAll_14, eX0_mixAll_15, eX0_mixAll_16, eX0_mixAll_17, eX0_mixAll_20, eX0_mixAll_21, eX0_mixAll_24, eX0_mixAll_25, eX0_mixAll_26, eX0_mixAll_27, eX0_mixAll_30, eX0_mixAll_31, eX0_mixAll_32, eX0_mixAll_33, eX0_mixAll_36, eX0_mixAll_37, eX0_mixAll_38, eX0_mixAll_41, eX0_mixAll_42, eX0_mixAll_43, eX0_mixAll_46, eX0_mixAll_47, eX0_mixAll_48, eX0_mixAll_49, eX0_mixAll_50, eX0_mixAll_51, eX0_mixAll_52, eX0_mixAll_53, eX0_mixAll_56, eX0_mixAll_57, eX0_mixAll_58, eX0_mixAll_59, eX0_mixAll_60, eX0_mixAll_61, eX0_mixAll_62, eX0_mixAll_65, eX0_mixAll_68, bm_mx, sp_mG, sp_mS, up_id]
  rfl
/-- a MINUTE -/
def bm_min (A : sx_A) (b n : Nat) : sx_A := va_up (if sp_hangs (A (b + 4)) n then bm_mx A b n else A) b (upd (A b) 6 (A b 6 + 1))
def bm_go (A : sx_A) (b n : Nat) : Nat → sx_A
  | 0 => A
  | i + 1 => bm_min (bm_go A b n i) b n
theorem bm_min_b (A : sx_A) (b n : Nat) : bm_min A b n b = upd (A b) 6 (A b 6 + 1) := up_s
theorem bm_min_o (A : sx_A) (b n k : Nat) (h : ¬ k = b) (h2 : ¬ k = b + 2) (h3 : ¬ k = b + 3) : bm_min A b n k = A k := by
  unfold bm_min
  rw [up_n h]
  split
  · unfold bm_mx; rw [up_n h3, up_n h2]
  · rfl
theorem bm_go_5 (A : sx_A) (b n : Nat) : ∀ i, bm_go A b n i b 5 = A b 5
  | 0 => rfl
  | i + 1 => by
    unfold bm_go
    rw [bm_min_b, ud_n (by decide)]
    exact bm_go_5 A b n i
theorem bm_go_o (A : sx_A) (b n k : Nat) (h : ¬ k = b) (h2 : ¬ k = b + 2) (h3 : ¬ k = b + 3) : ∀ i, bm_go A b n i k = A k
  | 0 => rfl
  | i + 1 => by
    unfold bm_go
    rw [bm_min_o _ b n k h h2 h3]
    exact bm_go_o A b n k h h2 h3 i
theorem bm_mx_b (A : sx_A) (b n : Nat) : bm_mx A b n b = A b := by
  unfold bm_mx
  rw [up_n (by omega), up_n (by omega)]
theorem tX0_goOn_l {m : Nat} (hb : sx_isB b) (hn : n ≤ 8) (hA : A b 5 = nI n) (hm : m < 2 ^ 31) : ∀ (k i : Nat), i + k = m → (sx_ev G mX0_goOn 7 [some (.ref b), some (.int (nI m)), some (.int (b2i (sp_hangs (A (b + 4)) n))), some (.int (nI i))] [] (bm_go A b n i) Z Q ↔ Q [] (bm_go A b n m) Z) := by
  intro k
  induction k with
  | zero =>
    intro i hi
    have hi' : i = m := by omega
    subst hi'
    rw [eX0_goOn_7]
    have h1 : nI i ≤ nI i := nI_le (Nat.le_refl _) hm
    simp only [eX0_goOn_0, eX0_goOn_1, eX0_goOn_4, eX0_goOn_5, eX0_goOn_6, eX0_goOn_8, eX0_goOn_9, eX0_goOn_12, eX0_goOn_13, eX0_goOn_16, eX0_goOn_17, eX0_goOn_20, eX0_goOn_21, eX0_goOn_22, eX0_goOn_25, eX0_goOn_26, eX0_goOn_27, eX0_goOn_30, eX0_goOn_33, eX0_goOn_36, kdB hb, kdB1 hb, frB1 hb, anB1 hb, rdB1 hb, kdB2 hb, frB2 hb, anB2 hb, rdB2 hb, kdB3 hb, frB3 hb, anB3 hb, rdB3 hb, kdB4 hb, frB4 hb, anB4 hb, rdB4 hb, kdB5 hb, frB5 hb, anB5 hb, rdB5 hb, h1, Nat.reduceLeDiff, Nat.reduceEqDiff, Nat.reduceAdd, if_true, if_false, b2i_T, b2i_F, and_self, and_false, false_and, true_and, and_true, true_or, or_true, false_or, or_false, or_self, not_true_eq_false, not_false_eq_true, eq_self, List.cons_append, List.nil_append]
  | succ k ih =>
    intro i hi
    rw [eX0_goOn_7]
    have h1 : ¬ nI m ≤ nI i := nI_ge (by omega) hm
    have h4 := ih (i + 1) (by omega)
    have h5 : bm_go A b n i b 5 = nI n := by rw [bm_go_5]; exact hA
    have h6 : bm_go A b n i (b + 4) = A (b + 4) := bm_go_o A b n (b + 4) (by omega) (by omega) (by omega) i
    rw [bm_go, nI_succ] at h4
    unfold bm_min at h4
    rw [h6] at h4
    simp only [eX0_goOn_0, eX0_goOn_1, eX0_goOn_4, eX0_goOn_5, eX0_goOn_6, eX0_goOn_8, eX0_goOn_9, eX0_goOn_12, eX0_goOn_13, eX0_goOn_16, eX0_goOn_17, eX0_goOn_20, eX0_goOn_21, eX0_goOn_22, eX0_goOn_25, eX0_goOn_26, eX0_goOn_27, eX0_goOn_30, eX0_goOn_33, eX0_goOn_36, kdB hb, kdB1 hb, frB1 hb, anB1 hb, rdB1 hb, kdB2 hb, frB2 hb, anB2 hb, rdB2 hb, kdB3 hb, frB3 hb, anB3 hb, rdB3 hb, kdB4 hb, frB4 hb, anB4 hb, rdB4 hb, kdB5 hb, frB5 hb, anB5 hb, rdB5 hb, h1, b2i_0, Nat.reduceLeDiff, Nat.reduceEqDiff, Nat.reduceAdd, if_true, if_false, b2i_T, b2i_F, and_self, and_false, false_and, true_and, and_true, true_or, or_true, false_or, or_false, or_self, not_true_eq_false, not_false_eq_true, eq_self, List.cons_append, List.nil_append]
    by_cases hc : sp_hangs (A (b + 4)) n
    · rw [if_neg (fun z => z hc)]
      rw [tX0_mixAll hb hn h5]
      simp only [eX0_goOn_0, eX0_goOn_1, eX0_goOn_4, eX0_goOn_5, eX0_goOn_6, eX0_goOn_8, eX0_goOn_9, eX0_goOn_12, eX0_goOn_13, eX0_goOn_16, eX0_goOn_17, eX0_goOn_20, eX0_goOn_21, eX0_goOn_22, eX0_goOn_25, eX0_goOn_26, eX0_goOn_27, eX0_goOn_30, eX0_goOn_33, eX0_goOn_36, kdB hb, kdB1 hb, frB1 hb, anB1 hb, rdB1 hb, kdB2 hb, frB2 hb, anB2 hb, rdB2 hb, kdB3 hb, frB3 hb, anB3 hb, rdB3 hb, kdB4 hb, frB4 hb, anB4 hb, rdB4 hb, kdB5 hb, frB5 hb, anB5 hb, rdB5 hb, bm_mx_b, Nat.reduceLeDiff, Nat.reduceEqDiff, Nat.reduceAdd, if_true, if_false, b2i_T, b2i_F, and_self, and_false, false_and, true_and, and_true, true_or, or_true, false_or, or_false, or_self, not_true_eq_false, not_false_eq_true, eq_self, List.cons_append, List.nil_append]
      rw [if_pos hc] at h4
      exact h4
    · rw [if_pos hc]
      rw [if_neg hc] at h4
      exact h4
theorem tX0_goOn {m : Nat} (hb : sx_isB b) (hn : n ≤ 8) (hA : A b 5 = nI n) (hm : m < 2 ^ 31) : sx_call G mX0_goOn [.ref b, .int (nI m)] A Z Q ↔ Q [] (bm_go A b n m) Z := by
  rw [sx_call_in (L := [some (.ref b), some (.int (nI m)), none, none]) rfl rfl]
  rw [← tX0_goOn_l (G := G) (Z := Z) (Q := Q) hb hn hA hm m 0 (by omega)]
  simp only [eX0_goOn_0, eX0_goOn_1, eX0_goOn_4, eX0_goOn_5, eX0_goOn_6, eX0_goOn_8, eX0_goOn_9, eX0_goOn_12, eX0_goOn_13, eX0_goOn_16, eX0_goOn_17, eX0_goOn_20, eX0_goOn_21, eX0_goOn_22, eX0_goOn_25, eX0_goOn_26, eX0_goOn_27, eX0_goOn_30, eX0_goOn_33, eX0_goOn_36, kdB hb, kdB1 hb, frB1 hb, anB1 hb, rdB1 hb, kdB2 hb, frB2 hb, anB2 hb, rdB2 hb, kdB3 hb, frB3 hb, anB3 hb, rdB3 hb, kdB4 hb, frB4 hb, anB4 hb, rdB4 hb, kdB5 hb, frB5 hb, anB5 hb, rdB5 hb, tX0_hangs hb hn hA, Nat.reduceLeDiff, Nat.reduceEqDiff, Nat.reduceAdd, if_true, if_false, b2i_T, b2i_F, and_self, and_false, false_and, true_and, and_true, true_or, or_true, false_or, or_false, or_self, not_true_eq_false, not_false_eq_true, eq_self, List.cons_append, List.nil_append]
  rfl
/-- the first p of a row, over another one -/
def sp_cp (f g : Nat → Int32) : Nat → (Nat → Int32)
  | 0 => g
  | p + 1 => upd (sp_cp f g p) p (f p)
theorem sp_cp_lt (f g : Nat → Int32) : ∀ (p q : Nat), q < p → sp_cp f g p q = f q
  | p + 1, q, h => by
    unfold sp_cp
    by_cases hq : q = p
    · subst hq; rw [ud_s]
    · rw [ud_n hq]; exact sp_cp_lt f g p q (by omega)
theorem sp_cp_ge (f g : Nat → Int32) : ∀ (p q : Nat), p ≤ q → sp_cp f g p q = g q
  | 0, q, _ => rfl
  | p + 1, q, h => by
    unfold sp_cp
    rw [ud_n (by omega)]
    exact sp_cp_ge f g p q (by omega)
theorem sp_cp_id (f : Nat → Int32) : ∀ p, sp_cp f f p = f
  | 0 => rfl
  | p + 1 => by
    unfold sp_cp
    rw [sp_cp_id f p]
    funext q
    unfold upd
    split
    · rename_i h; rw [h]
    · rfl
/-- the beam at b becomes that at o, of the first p -/
abbrev bm_bec (A : sx_A) (b o p : Nat) : sx_A := va_up (va_up (va_up (va_up (va_up (va_up A b (upd (upd (upd (A b) 5 (A o 5)) 6 (A o 6)) 7 (A o 7))) (b + 5) (upd (upd (A (b + 5)) 0 (A (o + 5) 0)) 1 (A (o + 5) 1))) (b + 1) (sp_cp (A (o + 1)) (A (b + 1)) p)) (b + 2) (sp_cp (A (o + 2)) (A (b + 2)) p)) (b + 3) (sp_cp (A (o + 3)) (A (b + 3)) p)) (b + 4) (sp_cp (A (o + 4)) (A (b + 4)) p)
theorem tX0_becomes_l {o : Nat} (hb : sx_isB b) (ho : sx_bo b o) (hn : n ≤ 8) (hA : A o 5 = nI n) : ∀ (k p : Nat), p + k = n → (sx_ev G mX0_becomes 50 [some (.ref b), some (.ref o), some (.int (nI p))] [] (bm_bec A b o p) Z Q ↔ Q [] (bm_bec A b o n) Z) := by
  intro k
  induction k with
  | zero =>
    intro p hp
    have hp' : p = n := by omega
    subst hp'
    rw [eX0_becomes_50]
    have h1 : nI p ≤ nI p := nI_le (Nat.le_refl _) (by omega)
    simp only [eX0_becomes_0, eX0_becomes_1, eX0_becomes_2, eX0_becomes_5, eX0_becomes_8, eX0_becomes_9, eX0_becomes_10, eX0_becomes_13, eX0_becomes_16, eX0_becomes_17, eX0_becomes_18, eX0_becomes_21, eX0_becomes_24, eX0_becomes_25, eX0_becomes_28, eX0_becomes_29, eX0_becomes_30, eX0_becomes_33, eX0_becomes_34, eX0_becomes_35, eX0_becomes_36, eX0_becomes_37, eX0_becomes_40, eX0_becomes_41, eX0_becomes_42, eX0_becomes_45, eX0_becomes_46, eX0_becomes_47, eX0_becomes_48, eX0_becomes_49, eX0_becomes_51, eX0_becomes_52, eX0_becomes_55, eX0_becomes_58, eX0_becomes_59, eX0_becomes_62, eX0_becomes_63, eX0_becomes_64, eX0_becomes_67, eX0_becomes_68, eX0_becomes_69, eX0_becomes_70, eX0_becomes_71, eX0_becomes_74, eX0_becomes_75, eX0_becomes_76, eX0_becomes_79, eX0_becomes_80, eX0_becomes_81, eX0_becomes_82, eX0_becomes_83, eX0_becomes_86, eX0_becomes_87, eX0_becomes_88, eX0_becomes_91, eX0_becomes_92, eX0_becomes_93, eX0_becomes_94, eX0_becomes_95, eX0_becomes_98, eX0_becomes_99, eX0_becomes_100, eX0_becomes_103, eX0_becomes_104, eX0_becomes_105, eX0_becomes_106, eX0_becomes_109, eX0_becomes_112, kdB hb, kdB1 hb, frB1 hb, anB1 hb, rdB1 hb, kdB2 hb, frB2 hb, anB2 hb, rdB2 hb, kdB3 hb, frB3 hb, anB3 hb, rdB3 hb, kdB4 hb, frB4 hb, anB4 hb, rdB4 hb, kdB5 hb, frB5 hb, anB5 hb, rdB5 hb, nb_0_1, nb_0_2, nb_0_3, nb_0_4, nb_0_5, nb_1_0, nb_1_2, nb_1_3, nb_1_4, nb_1_5, nb_2_0, nb_2_1, nb_2_3, nb_2_4, nb_2_5, nb_3_0, nb_3_1, nb_3_2, nb_3_4, nb_3_5, nb_4_0, nb_4_1, nb_4_2, nb_4_3, nb_4_5, nb_5_0, nb_5_1, nb_5_2, nb_5_3, nb_5_4, up_n, up_s, ud_s, ud_n, hA, h1, Nat.reduceLeDiff, Nat.reduceEqDiff, Nat.reduceAdd, if_true, if_false, b2i_T, b2i_F, and_self, and_false, false_and, true_and, and_true, true_or, or_true, false_or, or_false, or_self, not_true_eq_false, not_false_eq_true, eq_self, List.cons_append, List.nil_append]
  | succ k ih =>
    intro p hp
    rw [eX0_becomes_50]
    have h1 : ¬ nI n ≤ nI p := nI_ge (by omega) (by omega)
    have h2 : ¬ nI p < 0 := nI_pos (by omega)
    have h5 : ¬ 8 ≤ p := by omega
    have h3 : (nI p).toNatClampNeg = p := nI_clamp (by omega)
    have h4 := ih (p + 1) (by omega)
    rw [nI_succ] at h4
    have e : va_up (va_up (va_up (va_up (bm_bec A b o p) (b + 1) (upd (sp_cp (A (o + 1)) (A (b + 1)) p) p (A (o + 1) p))) (b + 2) (upd (sp_cp (A (o + 2)) (A (b + 2)) p) p (A (o + 2) p))) (b + 3) (upd (sp_cp (A (o + 3)) (A (b + 3)) p) p (A (o + 3) p))) (b + 4) (upd (sp_cp (A (o + 4)) (A (b + 4)) p) p (A (o + 4) p)) = bm_bec A b o (p + 1) := by
      funext q
      simp only [bm_bec, va_up, sp_cp]
      repeat' split
      all_goals first | rfl | omega
    simp only [eX0_becomes_0, eX0_becomes_1, eX0_becomes_2, eX0_becomes_5, eX0_becomes_8, eX0_becomes_9, eX0_becomes_10, eX0_becomes_13, eX0_becomes_16, eX0_becomes_17, eX0_becomes_18, eX0_becomes_21, eX0_becomes_24, eX0_becomes_25, eX0_becomes_28, eX0_becomes_29, eX0_becomes_30, eX0_becomes_33, eX0_becomes_34, eX0_becomes_35, eX0_becomes_36, eX0_becomes_37, eX0_becomes_40, eX0_becomes_41, eX0_becomes_42, eX0_becomes_45, eX0_becomes_46, eX0_becomes_47, eX0_becomes_48, eX0_becomes_49, eX0_becomes_51, eX0_becomes_52, eX0_becomes_55, eX0_becomes_58, eX0_becomes_59, eX0_becomes_62, eX0_becomes_63, eX0_becomes_64, eX0_becomes_67, eX0_becomes_68, eX0_becomes_69, eX0_becomes_70, eX0_becomes_71, eX0_becomes_74, eX0_becomes_75, eX0_becomes_76, eX0_becomes_79, eX0_becomes_80, eX0_becomes_81, eX0_becomes_82, eX0_becomes_83, eX0_becomes_86, eX0_becomes_87, eX0_becomes_88, eX0_becomes_91, eX0_becomes_92, eX0_becomes_93, eX0_becomes_94, eX0_becomes_95, eX0_becomes_98, eX0_becomes_99, eX0_becomes_100, eX0_becomes_103, eX0_becomes_104, eX0_becomes_105, eX0_becomes_106, eX0_becomes_109, eX0_becomes_112, kdB hb, kdB1 hb, frB1 hb, anB1 hb, rdB1 hb, kdB2 hb, frB2 hb, anB2 hb, rdB2 hb, kdB3 hb, frB3 hb, anB3 hb, rdB3 hb, kdB4 hb, frB4 hb, anB4 hb, rdB4 hb, kdB5 hb, frB5 hb, anB5 hb, rdB5 hb, kdB ho.1.2, kdB1 ho.1.2, frB1 ho.1.2, anB1 ho.1.2, rdB1 ho.1.2, kdB2 ho.1.2, frB2 ho.1.2, anB2 ho.1.2, rdB2 ho.1.2, kdB3 ho.1.2, frB3 ho.1.2, anB3 ho.1.2, rdB3 ho.1.2, kdB4 ho.1.2, frB4 ho.1.2, anB4 ho.1.2, rdB4 ho.1.2, kdB5 ho.1.2, frB5 ho.1.2, anB5 ho.1.2, rdB5 ho.1.2, nb_0_1, nb_0_2, nb_0_3, nb_0_4, nb_0_5, nb_1_0, nb_1_2, nb_1_3, nb_1_4, nb_1_5, nb_2_0, nb_2_1, nb_2_3, nb_2_4, nb_2_5, nb_3_0, nb_3_1, nb_3_2, nb_3_4, nb_3_5, nb_4_0, nb_4_1, nb_4_2, nb_4_3, nb_4_5, nb_5_0, nb_5_1, nb_5_2, nb_5_3, nb_5_4, bo_0_0 ho, ob_0_0 ho, bo_0_1 ho, ob_0_1 ho, bo_0_2 ho, ob_0_2 ho, bo_0_3 ho, ob_0_3 ho, bo_0_4 ho, ob_0_4 ho, bo_0_5 ho, ob_0_5 ho, bo_1_0 ho, ob_1_0 ho, bo_1_1 ho, ob_1_1 ho, bo_1_2 ho, ob_1_2 ho, bo_1_3 ho, ob_1_3 ho, bo_1_4 ho, ob_1_4 ho, bo_1_5 ho, ob_1_5 ho, bo_2_0 ho, ob_2_0 ho, bo_2_1 ho, ob_2_1 ho, bo_2_2 ho, ob_2_2 ho, bo_2_3 ho, ob_2_3 ho, bo_2_4 ho, ob_2_4 ho, bo_2_5 ho, ob_2_5 ho, bo_3_0 ho, ob_3_0 ho, bo_3_1 ho, ob_3_1 ho, bo_3_2 ho, ob_3_2 ho, bo_3_3 ho, ob_3_3 ho, bo_3_4 ho, ob_3_4 ho, bo_3_5 ho, ob_3_5 ho, bo_4_0 ho, ob_4_0 ho, bo_4_1 ho, ob_4_1 ho, bo_4_2 ho, ob_4_2 ho, bo_4_3 ho, ob_4_3 ho, bo_4_4 ho, ob_4_4 ho, bo_4_5 ho, ob_4_5 ho, bo_5_0 ho, ob_5_0 ho, bo_5_1 ho, ob_5_1 ho, bo_5_2 ho, ob_5_2 ho, bo_5_3 ho, ob_5_3 ho, bo_5_4 ho, ob_5_4 ho, bo_5_5 ho, ob_5_5 ho, up_n, up_s, up_up, ud_s, ud_n, hA, h1, h2, h3, h5, Nat.reduceLeDiff, Nat.reduceEqDiff, Nat.reduceAdd, if_true, if_false, b2i_T, b2i_F, and_self, and_false, false_and, true_and, and_true, true_or, or_true, false_or, or_false, or_self, not_true_eq_false, not_false_eq_true, eq_self, List.cons_append, List.nil_append]
    rw [e]
    exact h4
theorem tX0_becomes {o : Nat} (hb : sx_isB b) (ho : sx_bo b o) (hn : n ≤ 8) (hA : A o 5 = nI n) : sx_call G mX0_becomes [.ref b, .ref o] A Z Q ↔ Q [] (bm_bec A b o n) Z := by
  rw [sx_call_in (L := [some (.ref b), some (.ref o), none]) rfl rfl]
  rw [← tX0_becomes_l (G := G) (Z := Z) (Q := Q) hb ho hn hA n 0 (by omega)]
  have e : va_up (va_up (va_up (va_up (va_up A b (upd (A b) 5 (A o 5))) b (upd (upd (A b) 5 (A o 5)) 6 (A o 6))) b (upd (upd (upd (A b) 5 (A o 5)) 6 (A o 6)) 7 (A o 7))) (b + 5) (upd (A (b + 5)) 0 (A (o + 5) 0))) (b + 5) (upd (upd (A (b + 5)) 0 (A (o + 5) 0)) 1 (A (o + 5) 1)) = bm_bec A b o 0 := by
    funext q
    simp only [bm_bec, va_up, sp_cp]
    repeat' split
    all_goals first | rfl | omega | (subst_vars; rfl)
  have z0 : ¬ (0 : Int32) < 0 := by decide
  have z1 : ¬ (1 : Int32) < 0 := by decide
  have z2 : ¬ 2 ≤ (0 : Int32).toNatClampNeg := by decide
  have z3 : ¬ 2 ≤ (1 : Int32).toNatClampNeg := by decide
  have z4 : (0 : Int32).toNatClampNeg = 0 := by decide
  have z5 : (1 : Int32).toNatClampNeg = 1 := by decide
  simp only [eX0_becomes_0, eX0_becomes_1, eX0_becomes_2, eX0_becomes_5, eX0_becomes_8, eX0_becomes_9, eX0_becomes_10, eX0_becomes_13, eX0_becomes_16, eX0_becomes_17, eX0_becomes_18, eX0_becomes_21, eX0_becomes_24, eX0_becomes_25, eX0_becomes_28, eX0_becomes_29, eX0_becomes_30, eX0_becomes_33, eX0_becomes_34, eX0_becomes_35, eX0_becomes_36, eX0_becomes_37, eX0_becomes_40, eX0_becomes_41, eX0_becomes_42, eX0_becomes_45, eX0_becomes_46, eX0_becomes_47, eX0_becomes_48, eX0_becomes_49, eX0_becomes_51, eX0_becomes_52, eX0_becomes_55, eX0_becomes_58, eX0_becomes_59, eX0_becomes_62, eX0_becomes_63, eX0_becomes_64, eX0_becomes_67, eX0_becomes_68, eX0_becomes_69, eX0_becomes_70, eX0_becomes_71, eX0_becomes_74, eX0_becomes_75, eX0_becomes_76, eX0_becomes_79, eX0_becomes_80, eX0_becomes_81, eX0_becomes_82, eX0_becomes_83, eX0_becomes_86, eX0_becomes_87, eX0_becomes_88, eX0_becomes_91, eX0_becomes_92, eX0_becomes_93, eX0_becomes_94, eX0_becomes_95, eX0_becomes_98, eX0_becomes_99, eX0_becomes_100, eX0_becomes_103, eX0_becomes_104, eX0_becomes_105, eX0_becomes_106, eX0_becomes_109, eX0_becomes_112, kdB hb, kdB1 hb, frB1 hb, anB1 hb, rdB1 hb, kdB2 hb, frB2 hb, anB2 hb, rdB2 hb, kdB3 hb, frB3 hb, anB3 hb, rdB3 hb, kdB4 hb, frB4 hb, anB4 hb, rdB4 hb, kdB5 hb, frB5 hb, anB5 hb, rdB5 hb, kdB ho.1.2, kdB1 ho.1.2, frB1 ho.1.2, anB1 ho.1.2, rdB1 ho.1.2, kdB2 ho.1.2, frB2 ho.1.2, anB2 ho.1.2, rdB2 ho.1.2, kdB3 ho.1.2, frB3 ho.1.2, anB3 ho.1.2, rdB3 ho.1.2, kdB4 ho.1.2, frB4 ho.1.2, anB4 ho.1.2, rdB4 ho.1.2, kdB5 ho.1.2, frB5 ho.1.2, anB5 ho.1.2, rdB5 ho.1.2, nb_0_1, nb_0_2, nb_0_3, nb_0_4, nb_0_5, nb_1_0, nb_1_2, nb_1_3, nb_1_4, nb_1_5, nb_2_0, nb_2_1, nb_2_3, nb_2_4, nb_2_5, nb_3_0, nb_3_1, nb_3_2, nb_3_4, nb_3_5, nb_4_0, nb_4_1, nb_4_2, nb_4_3, nb_4_5, nb_5_0, nb_5_1, nb_5_2, nb_5_3, nb_5_4, bo_0_0 ho, ob_0_0 ho, bo_0_1 ho, ob_0_1 ho, bo_0_2 ho, ob_0_2 ho, bo_0_3 ho, ob_0_3 ho, bo_0_4 ho, ob_0_4 ho, bo_0_5 ho, ob_0_5 ho, bo_1_0 ho, ob_1_0 ho, bo_1_1 ho, ob_1_1 ho, bo_1_2 ho, ob_1_2 ho, bo_1_3 ho, ob_1_3 ho, bo_1_4 ho, ob_1_4 ho, bo_1_5 ho, ob_1_5 ho, bo_2_0 ho, ob_2_0 ho, bo_2_1 ho, ob_2_1 ho, bo_2_2 ho, ob_2_2 ho, bo_2_3 ho, ob_2_3 ho, bo_2_4 ho, ob_2_4 ho, bo_2_5 ho, ob_2_5 ho, bo_3_0 ho, ob_3_0 ho, bo_3_1 ho, ob_3_1 ho, bo_3_2 ho, ob_3_2 ho, bo_3_3 ho, ob_3_3 ho, bo_3_4 ho, ob_3_4 ho, bo_3_5 ho, ob_3_5 ho, bo_4_0 ho, ob_4_0 ho, bo_4_1 ho, ob_4_1 ho, bo_4_2 ho, ob_4_2 ho, bo_4_3 ho, ob_4_3 ho, bo_4_4 ho, ob_4_4 ho, bo_4_5 ho, ob_4_5 ho, bo_5_0 ho, ob_5_0 ho, bo_5_1 ho, ob_5_1 ho, bo_5_2 ho, ob_5_2 ho, bo_5_3 ho, ob_5_3 ho, bo_5_4 ho, ob_5_4 ho, bo_5_5 ho, ob_5_5 ho, up_n, up_s, ud_s, ud_n, z0, z1, z2, z3, z4, z5, Nat.reduceLeDiff, Nat.reduceEqDiff, Nat.reduceAdd, if_true, if_false, b2i_T, b2i_F, and_self, and_false, false_and, true_and, and_true, true_or, or_true, false_or, or_false, or_self, not_true_eq_false, not_false_eq_true, eq_self, List.cons_append, List.nil_append]
  rw [← e]
  simp only [up_up]
  rfl
end XB
