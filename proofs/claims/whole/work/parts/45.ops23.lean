/-! THE CALLS, ONE BY ONE: book -/
def bkr (w : Int32) (T : Nat → Int32) (o : Nat) (g : Nat → Int64) : Nat → (Nat → Int64)
  | 0 => g
  | p + 1 => vp_updL (bkr w T o g p) (o + p) (lnar w (T p).toInt64)
theorem bkr_in (w : Int32) (T : Nat → Int32) (o : Nat) (g : Nat → Int64) : ∀ (p j : Nat), j < p → bkr w T o g p (o + j) = lnar w (T j).toInt64
  | p + 1, j, h => by
    unfold bkr
    by_cases e : j = p
    · subst e; rw [ul_s]
    · rw [ul_n (by omega)]; exact bkr_in w T o g p j (by omega)
theorem bkr_out (w : Int32) (T : Nat → Int32) (o : Nat) (g : Nat → Int64) : ∀ (p j : Nat), j < o ∨ o + p ≤ j → bkr w T o g p j = g j
  | 0, _, _ => rfl
  | p + 1, j, h => by
    unfold bkr
    rw [ul_n (by omega)]; exact bkr_out w T o g p j (by omega)

section OP
variable {G : sx_G} {c n : Nat} {A : sx_A} {Z : sx_Z} {Q : List Value → sx_A → sx_Z → Prop}

theorem lX3_book {s z : Nat} {t : Nat → Int32} {l1 l2 : Option Value} {B : sx_A} (hs : s < 4) (hz : z ≤ 40) (hn : n ≤ 8) (h2 : B (30 + 2 * s) 2 = nI z) (hT : rB c n B 13 t) : ∀ (k i : Nat), i + k = z → (sx_ev G mX3_book 37 [some (.ref 0), l1, l2, some (.ref (30 + 2 * s)), some (.int (nI i))] [] (bm_go B 13 n i) (va_up Z (30 + 2 * s + 1) (bkr (B (30 + 2 * s) 1) (fun j => sm_tilt (mm_go t n j) n) 0 (Z (30 + 2 * s + 1)) i)) Q ↔ Q [.int (nI z)] (bm_go B 13 n z) (va_up Z (30 + 2 * s + 1) (bkr (B (30 + 2 * s) 1) (fun j => sm_tilt (mm_go t n j) n) 0 (Z (30 + 2 * s + 1)) z))) := by
  intro k
  induction k with
  | zero =>
    intro i hi
    obtain rfl : i = z := by omega
    rw [eX3_book_37]
    have h1 : nI i ≤ nI i := nI_le (Nat.le_refl _) (by omega)
    have o1 : bm_go B 13 n i (30 + 2 * s) = B (30 + 2 * s) := off_go i _ (by omega)
    simp only [eX3_book_0, eX3_book_1, eX3_book_2, eX3_book_5, eX3_book_6, eX3_book_7, eX3_book_10, eX3_book_11, eX3_book_12, eX3_book_15, eX3_book_16, eX3_book_17, eX3_book_20, eX3_book_21, eX3_book_22, eX3_book_23, eX3_book_24, eX3_book_27, eX3_book_28, eX3_book_31, eX3_book_34, eX3_book_35, eX3_book_39, eX3_book_40, eX3_book_43, eX3_book_46, eX3_book_47, eX3_book_49, eX3_book_50, eX3_book_53, eX3_book_56, eX3_book_57, eX3_book_60, eX3_book_61, eX3_book_64, eX3_book_65, eX3_book_68, eX3_book_71, eX3_book_74, eX3_book_75, eX3_book_78, kd_0, fr_0_0, fr_0_1, fr_0_2, fr_0_3, fr_0_4, fr_0_5, fr_0_6, fr_0_7, fr_0_8, kd_1, fr_1_0, fr_1_1, fr_1_2, fr_1_3, fr_1_4, kd_2, an_2, rd_2, kd_3, an_3, rd_3, kd_4, an_4, rd_4, kd_5, an_5, rd_5, kd_6, an_6, rd_6, kd_7, kd_13, fr_13_0, fr_13_1, fr_13_2, fr_13_3, fr_13_4, kd_14, an_14, rd_14, kd_15, an_15, rd_15, kd_16, an_16, rd_16, kd_17, an_17, rd_17, kd_19, fr_19_3, kd_23, an_23, rd_23, kd_25, an_25, rd_25, kd_26, an_26, rd_26, kd_27, fr_27_0, kd_28, an_28, rd_28, kd_29, an_29, kd_38, an_38, rd_38, kdS (isS_k hs), o1, h2, h1, Nat.reduceLeDiff, Nat.reduceEqDiff, Nat.reduceAdd, if_true, if_false, b2i_T, b2i_F, and_self, and_false, false_and, true_and, and_true, true_or, or_true, false_or, or_false, or_self, not_true_eq_false, not_false_eq_true, eq_self, List.cons_append, List.nil_append]
  | succ k ih =>
    intro i hi
    rw [eX3_book_37]
    have h1 : ¬ nI z ≤ nI i := nI_ge (by omega) (by omega)
    have o1 : bm_go B 13 n i (30 + 2 * s) = B (30 + 2 * s) := off_go i _ (by omega)
    have hT2 := hT.go i
    have x1 := fun (Z : sx_Z) (Q : List Value → sx_A → sx_Z → Prop) => tX0_tiltNow (G := G) (A := bm_go B 13 n i) (Z := Z) (Q := Q) (b := 13) isB13 hn hT2.1.2.1
    have et : sx_tilt (bm_go B 13 n i) 13 n = sm_tilt (mm_go t n i) n := hT2.tilt
    have x2 := fun (Z : sx_Z) (v : Int64) (Q : List Value → sx_A → sx_Z → Prop) => tX1_enter (G := G) (A := bm_go B 13 n i) (Z := Z) (Q := Q) (v := v) (isS_k hs) (show i < 40 by omega)
    have x3 := fun (Z : sx_Z) (Q : List Value → sx_A → sx_Z → Prop) => tX0_goOn (G := G) (A := bm_go B 13 n i) (Z := Z) (Q := Q) (b := 13) (m := 1) isB13 hn hT2.1.2.1 (by omega)
    rw [show nI 1 = 1 from rfl] at x3
    have eg : bm_go (bm_go B 13 n i) 13 n 1 = bm_go B 13 n (i + 1) := rfl
    have h4 := ih (i + 1) (by omega)
    rw [bkr, nI_succ, Nat.zero_add] at h4
    simp only [eX3_book_0, eX3_book_1, eX3_book_2, eX3_book_5, eX3_book_6, eX3_book_7, eX3_book_10, eX3_book_11, eX3_book_12, eX3_book_15, eX3_book_16, eX3_book_17, eX3_book_20, eX3_book_21, eX3_book_22, eX3_book_23, eX3_book_24, eX3_book_27, eX3_book_28, eX3_book_31, eX3_book_34, eX3_book_35, eX3_book_39, eX3_book_40, eX3_book_43, eX3_book_46, eX3_book_47, eX3_book_49, eX3_book_50, eX3_book_53, eX3_book_56, eX3_book_57, eX3_book_60, eX3_book_61, eX3_book_64, eX3_book_65, eX3_book_68, eX3_book_71, eX3_book_74, eX3_book_75, eX3_book_78, kd_0, fr_0_0, fr_0_1, fr_0_2, fr_0_3, fr_0_4, fr_0_5, fr_0_6, fr_0_7, fr_0_8, kd_1, fr_1_0, fr_1_1, fr_1_2, fr_1_3, fr_1_4, kd_2, an_2, rd_2, kd_3, an_3, rd_3, kd_4, an_4, rd_4, kd_5, an_5, rd_5, kd_6, an_6, rd_6, kd_7, kd_13, fr_13_0, fr_13_1, fr_13_2, fr_13_3, fr_13_4, kd_14, an_14, rd_14, kd_15, an_15, rd_15, kd_16, an_16, rd_16, kd_17, an_17, rd_17, kd_19, fr_19_3, kd_23, an_23, rd_23, kd_25, an_25, rd_25, kd_26, an_26, rd_26, kd_27, fr_27_0, kd_28, an_28, rd_28, kd_29, an_29, kd_38, an_38, rd_38, kdS (isS_k hs), o1, h2, h1, x1, et, x2, x3, eg, up_s, up_up, Nat.reduceLeDiff, Nat.reduceEqDiff, Nat.reduceAdd, if_true, if_false, b2i_T, b2i_F, and_self, and_false, false_and, true_and, and_true, true_or, or_true, false_or, or_false, or_self, not_true_eq_false, not_false_eq_true, eq_self, List.cons_append, List.nil_append]
    exact h4
theorem lX4_book {s z : Nat} {t : Nat → Int32} {l2 : Option Value} {C : sx_A} (hs : s < 4) (hz : z ≤ 40) (hn : n ≤ 8) (h2 : C 47 s = nI z) (h0 : t 0 = nI n) : ∀ (k i : Nat), i + k = z → (sx_ev G mX4_book 22 [some (.ref 39), some (.int (nI s)), l2, some (.int (nI i))] [] (va_up C 40 (mm_go t n i)) (va_up Z 48 (bkr (C 46 s) (fun j => sm_tilt (mm_go t n j) n) (40 * s) (Z 48) i)) Q ↔ Q [.int (nI z)] (va_up C 40 (sp_cp (C 43) (mm_go t n z) 37)) (va_up Z 48 (bkr (C 46 s) (fun j => sm_tilt (mm_go t n j) n) (40 * s) (Z 48) z))) := by
  have a2 : ¬ nI s < 0 := nI_pos (by omega)
  have a5 : ¬ 4 ≤ s := by omega
  have a3 : (nI s).toNatClampNeg = s := nI_clamp (by omega)
  intro k
  induction k with
  | zero =>
    intro i hi
    obtain rfl : i = z := by omega
    rw [eX4_book_22]
    have h1 : nI i ≤ nI i := nI_le (Nat.le_refl _) (by omega)
    simp only [eX4_book_0, eX4_book_1, eX4_book_2, eX4_book_5, eX4_book_6, eX4_book_7, eX4_book_10, eX4_book_11, eX4_book_12, eX4_book_15, eX4_book_16, eX4_book_17, eX4_book_20, eX4_book_21, eX4_book_23, eX4_book_24, eX4_book_27, eX4_book_28, eX4_book_29, eX4_book_32, eX4_book_33, eX4_book_36, eX4_book_38, eX4_book_39, eX4_book_40, eX4_book_41, eX4_book_42, eX4_book_43, eX4_book_46, eX4_book_47, eX4_book_48, eX4_book_49, eX4_book_52, eX4_book_53, eX4_book_56, eX4_book_57, eX4_book_58, eX4_book_61, eX4_book_64, eX4_book_67, eX4_book_68, eX4_book_69, eX4_book_72, eX4_book_73, eX4_book_74, eX4_book_77, kd_39, fr_39_0, fr_39_1, fr_39_2, fr_39_3, fr_39_4, fr_39_6, fr_39_12, fr_39_13, fr_39_14, fr_39_15, kd_40, an_40, rd_40, kd_41, an_41, rd_41, kd_42, an_42, rd_42, kd_43, an_43, rd_43, kd_44, an_44, rd_44, kd_45, an_45, rd_45, kd_46, an_46, rd_46, kd_47, an_47, rd_47, kd_48, an_48, kd_49, an_49, a2, a3, a5, up_n, up_s, up_up, h2, h1, tX4_takesBack, Nat.reduceLeDiff, Nat.reduceEqDiff, Nat.reduceAdd, if_true, if_false, b2i_T, b2i_F, and_self, and_false, false_and, true_and, and_true, true_or, or_true, false_or, or_false, or_self, not_true_eq_false, not_false_eq_true, eq_self, List.cons_append, List.nil_append]
  | succ k ih =>
    intro i hi
    rw [eX4_book_22]
    have h1 : ¬ nI z ≤ nI i := nI_ge (by omega) (by omega)
    have j6 : (40 : Int32) * nI s + nI i = nI (40 * s + i) := by rw [show (40 : Int32) = nI 40 from rfl, pk_mul, nI_add]
    have j2 : ¬ nI (40 * s + i) < 0 := nI_pos (by omega)
    have j5 : ¬ 160 ≤ 40 * s + i := by omega
    have j3 : (nI (40 * s + i)).toNatClampNeg = 40 * s + i := nI_clamp (by omega)
    have hA : (va_up C 40 (mm_go t n i)) 40 0 = nI n := by rw [up_s, mm_go_0]; exact h0
    have y1 := fun (Z : sx_Z) (Q : List Value → sx_A → sx_Z → Prop) => tX4_tiltNow (G := G) (A := va_up C 40 (mm_go t n i)) (Z := Z) (Q := Q) hn hA
    have y2 := fun (Z : sx_Z) (Q : List Value → sx_A → sx_Z → Prop) => tX4_minute (G := G) (A := va_up C 40 (mm_go t n i)) (Z := Z) (Q := Q) hn hA
    simp only [up_s, up_up] at y1 y2
    have eg : mm_min (mm_go t n i) n = mm_go t n (i + 1) := rfl
    have h4 := ih (i + 1) (by omega)
    rw [bkr, nI_succ] at h4
    simp only [eX4_book_0, eX4_book_1, eX4_book_2, eX4_book_5, eX4_book_6, eX4_book_7, eX4_book_10, eX4_book_11, eX4_book_12, eX4_book_15, eX4_book_16, eX4_book_17, eX4_book_20, eX4_book_21, eX4_book_23, eX4_book_24, eX4_book_27, eX4_book_28, eX4_book_29, eX4_book_32, eX4_book_33, eX4_book_36, eX4_book_38, eX4_book_39, eX4_book_40, eX4_book_41, eX4_book_42, eX4_book_43, eX4_book_46, eX4_book_47, eX4_book_48, eX4_book_49, eX4_book_52, eX4_book_53, eX4_book_56, eX4_book_57, eX4_book_58, eX4_book_61, eX4_book_64, eX4_book_67, eX4_book_68, eX4_book_69, eX4_book_72, eX4_book_73, eX4_book_74, eX4_book_77, kd_39, fr_39_0, fr_39_1, fr_39_2, fr_39_3, fr_39_4, fr_39_6, fr_39_12, fr_39_13, fr_39_14, fr_39_15, kd_40, an_40, rd_40, kd_41, an_41, rd_41, kd_42, an_42, rd_42, kd_43, an_43, rd_43, kd_44, an_44, rd_44, kd_45, an_45, rd_45, kd_46, an_46, rd_46, kd_47, an_47, rd_47, kd_48, an_48, kd_49, an_49, a2, a3, a5, j2, j3, j5, j6, up_n, up_s, up_up, h2, h1, y1, y2, eg, tX4_narrowed, Nat.reduceLeDiff, Nat.reduceEqDiff, Nat.reduceAdd, if_true, if_false, b2i_T, b2i_F, and_self, and_false, false_and, true_and, and_true, true_or, or_true, false_or, or_false, or_self, not_true_eq_false, not_false_eq_true, eq_self, List.cons_append, List.nil_append]
    exact h4
theorem Rel.booked {s z : Nat} {w : Int32} {T : Nat → Int32} (h : Rel c A Z) (hs : s < 4) (hz : z ≤ 40) : Rel c A (va_up (va_up Z (30 + 2 * s + 1) (bkr w T 0 (Z (30 + 2 * s + 1)) z)) 48 (bkr w T (40 * s) (Z 48) z)) := by
  refine h.shs (fun q hq => rfl) rfl rfl rfl (fun k hk => ?_)
  obtain ⟨⟨x, hx, x1, x2, x3⟩, x4, x5⟩ := h.sh hk
  rw [up_s, up_n (show ¬ 30 + 2 * k + 1 = 48 by omega)]
  by_cases e : k = s
  · subst e
    rw [up_s]
    refine ⟨⟨x, hx, x1, x2, fun j hj => ?_⟩, x4, x5⟩
    by_cases e2 : j < z
    · have z0 := bkr_in w T 0 (Z (30 + 2 * k + 1)) z j e2
      rw [Nat.zero_add] at z0
      rw [z0, bkr_in _ _ _ _ _ _ e2]
    · rw [bkr_out _ _ _ _ _ _ (by omega), bkr_out _ _ _ _ _ _ (by omega)]
      exact x3 j hj
  · rw [up_n (show ¬ 30 + 2 * k + 1 = 30 + 2 * s + 1 by omega)]
    refine ⟨⟨x, hx, x1, x2, fun j hj => ?_⟩, x4, x5⟩
    rw [bkr_out _ _ _ _ _ _ (by omega)]
    exact x3 j hj

theorem op_book {v : Int32} (h : Rel c A Z) : okOp G c A Z mX3_book mX4_book [.int v] := by
  obtain ⟨n, hB⟩ := h.1
  obtain ⟨hn, e1, e2⟩ := hB.1
  unfold okOp
  rw [sx_call_in (L := [some (.ref 0), some (.int v), none, none, none]) rfl rfl]
  have hm : ∀ (A : sx_A) (Q : List Value → sx_A → sx_Z → Prop), sx_call G mX4_book [.ref 39, .int v] A Z Q ↔ sx_ev G mX4_book 0 [some (.ref 39), some (.int v), none, none] [] A Z Q := fun A Q => sx_call_in rfl rfl
  by_cases h1 : 0 ≤ v ∧ v ≤ 3
  · obtain ⟨s, hs, rfl⟩ := i_rng (M := 3) (n := 3) (by decide) h1
    have hs4 : s < 4 := by omega
    have a2 : ¬ nI s < 0 := nI_pos (by omega)
    have a5 : ¬ 4 ≤ s := by omega
    have a3 : (nI s).toNatClampNeg = s := nI_clamp (by omega)
    obtain ⟨⟨z, hz, z1, z2, z3⟩, z4, z5⟩ := h.sh hs4
    by_cases hb : A 46 s = 0
    · simp only [eX3_book_0, eX3_book_1, eX3_book_2, eX3_book_5, eX3_book_6, eX3_book_7, eX3_book_10, eX3_book_11, eX3_book_12, eX3_book_15, eX3_book_16, eX3_book_17, eX3_book_20, eX3_book_21, eX3_book_22, eX3_book_23, eX3_book_24, eX3_book_27, eX3_book_28, eX3_book_31, eX3_book_34, eX3_book_35, eX3_book_39, eX3_book_40, eX3_book_43, eX3_book_46, eX3_book_47, eX3_book_49, eX3_book_50, eX3_book_53, eX3_book_56, eX3_book_57, eX3_book_60, eX3_book_61, eX3_book_64, eX3_book_65, eX3_book_68, eX3_book_71, eX3_book_74, eX3_book_75, eX3_book_78, eX4_book_0, eX4_book_1, eX4_book_2, eX4_book_5, eX4_book_6, eX4_book_7, eX4_book_10, eX4_book_11, eX4_book_12, eX4_book_15, eX4_book_16, eX4_book_17, eX4_book_20, eX4_book_21, eX4_book_23, eX4_book_24, eX4_book_27, eX4_book_28, eX4_book_29, eX4_book_32, eX4_book_33, eX4_book_36, eX4_book_38, eX4_book_39, eX4_book_40, eX4_book_41, eX4_book_42, eX4_book_43, eX4_book_46, eX4_book_47, eX4_book_48, eX4_book_49, eX4_book_52, eX4_book_53, eX4_book_56, eX4_book_57, eX4_book_58, eX4_book_61, eX4_book_64, eX4_book_67, eX4_book_68, eX4_book_69, eX4_book_72, eX4_book_73, eX4_book_74, eX4_book_77, hm, kd_0, fr_0_0, fr_0_1, fr_0_2, fr_0_3, fr_0_4, fr_0_5, fr_0_6, fr_0_7, fr_0_8, kd_1, fr_1_0, fr_1_1, fr_1_2, fr_1_3, fr_1_4, kd_2, an_2, rd_2, kd_3, an_3, rd_3, kd_4, an_4, rd_4, kd_5, an_5, rd_5, kd_6, an_6, rd_6, kd_7, kd_13, fr_13_0, fr_13_1, fr_13_2, fr_13_3, fr_13_4, kd_14, an_14, rd_14, kd_15, an_15, rd_15, kd_16, an_16, rd_16, kd_17, an_17, rd_17, kd_19, fr_19_3, kd_23, an_23, rd_23, kd_25, an_25, rd_25, kd_26, an_26, rd_26, kd_27, fr_27_0, kd_28, an_28, rd_28, kd_29, an_29, kd_38, an_38, rd_38, kd_39, fr_39_0, fr_39_1, fr_39_2, fr_39_3, fr_39_4, fr_39_6, fr_39_12, fr_39_13, fr_39_14, fr_39_15, kd_40, an_40, rd_40, kd_41, an_41, rd_41, kd_42, an_42, rd_42, kd_43, an_43, rd_43, kd_44, an_44, rd_44, kd_45, an_45, rd_45, kd_46, an_46, rd_46, kd_47, an_47, rd_47, kd_48, an_48, kd_49, an_49, tX3_look hs4, tX4_wrong hs4, tX3_finding0, tX3_finding1, tX3_finding2, tX3_finding3, tX3_finding4, tX3_finding5, tX3_finding6, tX4_finds0, tX4_finds1, tX4_finds2, tX4_finds3, tX4_finds4, tX4_finds5, tX4_finds6, z4, hb, b6_0, up_n, Nat.reduceLeDiff, Nat.reduceEqDiff, Nat.reduceAdd, if_true, if_false, b2i_T, b2i_F, and_self, and_false, false_and, true_and, and_true, true_or, or_true, false_or, or_false, or_self, not_true_eq_false, not_false_eq_true, eq_self, List.cons_append, List.nil_append]
      exact okQ.find h 5
    · have hT := rB.bec (n := n) bo_13_1 hB
      have x1 := fun (Q : List Value → sx_A → sx_Z → Prop) => tX0_becomes (G := G) (A := A) (Z := Z) (Q := Q) isB13 bo_13_1 hn e1
      have ho : off 13 A (bm_bec A 13 1 n) := off_bec
      generalize bm_bec A 13 1 n = B at x1 hT ho
      have o30 : B (30 + 2 * s) = A (30 + 2 * s) := ho _ (by omega)
      have x2 := fun (l1 l2 : Option Value) (Q : List Value → sx_A → sx_Z → Prop) => lX3_book (G := G) (Z := Z) (Q := Q) (l1 := l1) (l2 := l2) (B := B) hs4 hz hn (by rw [o30]; exact z1) hT z 0 (by omega)
      simp only [bkr, bm_go, up_id, nI_0, o30, z4] at x2
      have ho2 : off 13 A (bm_go B 13 n z) := ho.tr (off_go z)
      simp only [eX3_book_0, eX3_book_1, eX3_book_2, eX3_book_5, eX3_book_6, eX3_book_7, eX3_book_10, eX3_book_11, eX3_book_12, eX3_book_15, eX3_book_16, eX3_book_17, eX3_book_20, eX3_book_21, eX3_book_22, eX3_book_23, eX3_book_24, eX3_book_27, eX3_book_28, eX3_book_31, eX3_book_34, eX3_book_35, eX3_book_39, eX3_book_40, eX3_book_43, eX3_book_46, eX3_book_47, eX3_book_49, eX3_book_50, eX3_book_53, eX3_book_56, eX3_book_57, eX3_book_60, eX3_book_61, eX3_book_64, eX3_book_65, eX3_book_68, eX3_book_71, eX3_book_74, eX3_book_75, eX3_book_78, kd_0, fr_0_0, fr_0_1, fr_0_2, fr_0_3, fr_0_4, fr_0_5, fr_0_6, fr_0_7, fr_0_8, kd_1, fr_1_0, fr_1_1, fr_1_2, fr_1_3, fr_1_4, kd_2, an_2, rd_2, kd_3, an_3, rd_3, kd_4, an_4, rd_4, kd_5, an_5, rd_5, kd_6, an_6, rd_6, kd_7, kd_13, fr_13_0, fr_13_1, fr_13_2, fr_13_3, fr_13_4, kd_14, an_14, rd_14, kd_15, an_15, rd_15, kd_16, an_16, rd_16, kd_17, an_17, rd_17, kd_19, fr_19_3, kd_23, an_23, rd_23, kd_25, an_25, rd_25, kd_26, an_26, rd_26, kd_27, fr_27_0, kd_28, an_28, rd_28, kd_29, an_29, kd_38, an_38, rd_38, tX3_look hs4, z4, hb, a2, a3, a5, fr29 hs4, x1, x2, Nat.reduceLeDiff, Nat.reduceEqDiff, Nat.reduceAdd, if_true, if_false, b2i_T, b2i_F, and_self, and_false, false_and, true_and, and_true, true_or, or_true, false_or, or_false, or_self, not_true_eq_false, not_false_eq_true, eq_self, List.cons_append, List.nil_append]
      rw [sx_call_in (L := [some (.ref 39), some (.int (nI s)), none, none]) rfl rfl]
      have h2 := h.scr ho2.scr13
      generalize bm_go B 13 n z = A2 at ho2 h2
      have e40 : A2 40 = A 40 := ho2 40 (by omega)
      have e46 : A2 46 = A 46 := ho2 46 (by omega)
      have e47 : A2 47 = A 47 := ho2 47 (by omega)
      have y1 := fun (A' : sx_A) (Z : sx_Z) (Q : List Value → sx_A → sx_Z → Prop) => tX4_laysAside (G := G) (A := A') (Z := Z) (Q := Q)
      have y2 := fun (Z : sx_Z) (l2 : Option Value) (Q : List Value → sx_A → sx_Z → Prop) => lX4_book (G := G) (Z := Z) (Q := Q) (l2 := l2) (C := va_up A2 43 (sp_cp (A 40) (A2 43) 37)) hs4 hz hn (by rw [up_n (by omega), e47]; exact z2) e2 z 0 (by omega)
      have e3 : va_up (va_up A2 43 (sp_cp (A 40) (A2 43) 37)) 40 (A 40) = va_up A2 43 (sp_cp (A 40) (A2 43) 37) := by
        have e4 := up_id (f := va_up A2 43 (sp_cp (A 40) (A2 43) 37)) (k := 40)
        rw [up_n (by omega), e40] at e4
        exact e4
      have u3 : ¬ 48 = 30 + 2 * s + 1 := by omega
      have eb : sp_cp (sp_cp (A 40) (A2 43) 37) (mm_go (A 40) n z) 37 = A 40 := sp_back (fun q hq => mm_go_ge hn hq z)
      simp only [bkr, mm_go, up_id, nI_0, e3, up_n, up_s, e46, eb, Nat.reduceLeDiff, Nat.reduceEqDiff, Nat.reduceAdd, if_true, if_false, b2i_T, b2i_F, and_self, and_false, false_and, true_and, and_true, true_or, or_true, false_or, or_false, or_self, not_true_eq_false, not_false_eq_true, eq_self, List.cons_append, List.nil_append] at y2
      simp only [eX4_book_0, eX4_book_1, eX4_book_2, eX4_book_5, eX4_book_6, eX4_book_7, eX4_book_10, eX4_book_11, eX4_book_12, eX4_book_15, eX4_book_16, eX4_book_17, eX4_book_20, eX4_book_21, eX4_book_23, eX4_book_24, eX4_book_27, eX4_book_28, eX4_book_29, eX4_book_32, eX4_book_33, eX4_book_36, eX4_book_38, eX4_book_39, eX4_book_40, eX4_book_41, eX4_book_42, eX4_book_43, eX4_book_46, eX4_book_47, eX4_book_48, eX4_book_49, eX4_book_52, eX4_book_53, eX4_book_56, eX4_book_57, eX4_book_58, eX4_book_61, eX4_book_64, eX4_book_67, eX4_book_68, eX4_book_69, eX4_book_72, eX4_book_73, eX4_book_74, eX4_book_77, kd_39, fr_39_0, fr_39_1, fr_39_2, fr_39_3, fr_39_4, fr_39_6, fr_39_12, fr_39_13, fr_39_14, fr_39_15, kd_40, an_40, rd_40, kd_41, an_41, rd_41, kd_42, an_42, rd_42, kd_43, an_43, rd_43, kd_44, an_44, rd_44, kd_45, an_45, rd_45, kd_46, an_46, rd_46, kd_47, an_47, rd_47, kd_48, an_48, kd_49, an_49, tX4_wrong hs4, e40, e46, hb, y1, y2, up_n u3, Nat.reduceLeDiff, Nat.reduceEqDiff, Nat.reduceAdd, if_true, if_false, b2i_T, b2i_F, and_self, and_false, false_and, true_and, and_true, true_or, or_true, false_or, or_false, or_self, not_true_eq_false, not_false_eq_true, eq_self, List.cons_append, List.nil_append]
      have h3 := (h2.booked (s := s) (z := z) (w := A 46 s) (T := fun j => sm_tilt (mm_go (A 40) n j) n) hs4 hz).tr (a := sp_cp (A 40) (A2 43) 37) off.rf rfl
      rw [e40, e3] at h3
      exact ⟨rfl, ⟨_, rfl⟩, h3.up (Nat.le_succ c)⟩
  · simp only [eX3_book_0, eX3_book_1, eX3_book_2, eX3_book_5, eX3_book_6, eX3_book_7, eX3_book_10, eX3_book_11, eX3_book_12, eX3_book_15, eX3_book_16, eX3_book_17, eX3_book_20, eX3_book_21, eX3_book_22, eX3_book_23, eX3_book_24, eX3_book_27, eX3_book_28, eX3_book_31, eX3_book_34, eX3_book_35, eX3_book_39, eX3_book_40, eX3_book_43, eX3_book_46, eX3_book_47, eX3_book_49, eX3_book_50, eX3_book_53, eX3_book_56, eX3_book_57, eX3_book_60, eX3_book_61, eX3_book_64, eX3_book_65, eX3_book_68, eX3_book_71, eX3_book_74, eX3_book_75, eX3_book_78, eX4_book_0, eX4_book_1, eX4_book_2, eX4_book_5, eX4_book_6, eX4_book_7, eX4_book_10, eX4_book_11, eX4_book_12, eX4_book_15, eX4_book_16, eX4_book_17, eX4_book_20, eX4_book_21, eX4_book_23, eX4_book_24, eX4_book_27, eX4_book_28, eX4_book_29, eX4_book_32, eX4_book_33, eX4_book_36, eX4_book_38, eX4_book_39, eX4_book_40, eX4_book_41, eX4_book_42, eX4_book_43, eX4_book_46, eX4_book_47, eX4_book_48, eX4_book_49, eX4_book_52, eX4_book_53, eX4_book_56, eX4_book_57, eX4_book_58, eX4_book_61, eX4_book_64, eX4_book_67, eX4_book_68, eX4_book_69, eX4_book_72, eX4_book_73, eX4_book_74, eX4_book_77, hm, kd_0, fr_0_0, fr_0_1, fr_0_2, fr_0_3, fr_0_4, fr_0_5, fr_0_6, fr_0_7, fr_0_8, kd_1, fr_1_0, fr_1_1, fr_1_2, fr_1_3, fr_1_4, kd_2, an_2, rd_2, kd_3, an_3, rd_3, kd_4, an_4, rd_4, kd_5, an_5, rd_5, kd_6, an_6, rd_6, kd_7, kd_13, fr_13_0, fr_13_1, fr_13_2, fr_13_3, fr_13_4, kd_14, an_14, rd_14, kd_15, an_15, rd_15, kd_16, an_16, rd_16, kd_17, an_17, rd_17, kd_19, fr_19_3, kd_23, an_23, rd_23, kd_25, an_25, rd_25, kd_26, an_26, rd_26, kd_27, fr_27_0, kd_28, an_28, rd_28, kd_29, an_29, kd_38, an_38, rd_38, kd_39, fr_39_0, fr_39_1, fr_39_2, fr_39_3, fr_39_4, fr_39_6, fr_39_12, fr_39_13, fr_39_14, fr_39_15, kd_40, an_40, rd_40, kd_41, an_41, rd_41, kd_42, an_42, rd_42, kd_43, an_43, rd_43, kd_44, an_44, rd_44, kd_45, an_45, rd_45, kd_46, an_46, rd_46, kd_47, an_47, rd_47, kd_48, an_48, kd_49, an_49, tX3_look0 h1, tX4_wrong0 h1, tX3_finding0, tX3_finding1, tX3_finding2, tX3_finding3, tX3_finding4, tX3_finding5, tX3_finding6, tX4_finds0, tX4_finds1, tX4_finds2, tX4_finds3, tX4_finds4, tX4_finds5, tX4_finds6, b1_0, up_n, Nat.reduceLeDiff, Nat.reduceEqDiff, Nat.reduceAdd, if_true, if_false, b2i_T, b2i_F, and_self, and_false, false_and, true_and, and_true, true_or, or_true, false_or, or_false, or_self, not_true_eq_false, not_false_eq_true, eq_self, List.cons_append, List.nil_append]
    exact okQ.find h 0

end OP
