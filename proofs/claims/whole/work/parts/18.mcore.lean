/-! PURE SPECS: the reference's small methods -/
theorem lgc_lt {x y : Int64} : lg_cmp x y < 0 ↔ x < y := by
  unfold lg_cmp
  by_cases h1 : y < x
  · simp only [h1, if_true]
    constructor
    · intro h; exact absurd h (by decide)
    · intro h; exact absurd h (Int64.not_lt.mpr (Int64.le_of_lt h1))
  · by_cases h2 : x = y
    · subst h2
      simp only [h1, if_false, if_true]
      decide
    · simp only [h1, h2, if_false]
      constructor
      · intro _
        rcases Int64.lt_or_eq_of_le (Int64.not_lt.mp h1) with h | h
        · exact h
        · exact absurd h h2
      · intro _; decide
theorem lgc_gt {x y : Int64} : 0 < lg_cmp x y ↔ y < x := by
  unfold lg_cmp
  by_cases h1 : y < x
  · simp only [h1, if_true]
    decide
  · by_cases h2 : x = y
    · subst h2
      simp only [h1, if_false, if_true]
      decide
    · simp only [h1, h2, if_false]
      decide
theorem lgc_0 {x y : Int64} : lg_cmp x y = 0 ↔ x = y := by
  unfold lg_cmp
  by_cases h1 : y < x
  · simp only [h1, if_true]
    constructor
    · intro h; exact absurd h (by decide)
    · intro h; subst h; exact absurd h1 (Int64.lt_irrefl)
  · by_cases h2 : x = y
    · subst h2
      simp only [h1, if_false, if_true]
    · simp only [h1, h2, if_false]
      decide
theorem l_le {a b : Int32} : a.toInt64 ≤ b.toInt64 ↔ a ≤ b := by
  rw [Int64.le_iff_toInt_le, Int32.le_iff_toInt_le, Int32.toInt_toInt64, Int32.toInt_toInt64]
theorem l_lt {a b : Int32} : a.toInt64 < b.toInt64 ↔ a < b := by
  rw [Int64.lt_iff_toInt_lt, Int32.lt_iff_toInt_lt, Int32.toInt_toInt64, Int32.toInt_toInt64]
theorem l_eq {a b : Int32} : a.toInt64 = b.toInt64 ↔ a = b := by
  rw [← Int64.toInt_inj, ← Int32.toInt_inj, Int32.toInt_toInt64, Int32.toInt_toInt64]
section MC
variable {G : sx_G} {A : sx_A} {Z : sx_Z} {Q : List Value → sx_A → sx_Z → Prop}
theorem tX4_in {v a b : Int64} : sx_call G mX4_in [.long v, .long a, .long b] A Z Q ↔ Q [.int (b2i (a ≤ v ∧ v ≤ b))] A Z := by
  rw [sx_call_in (L := [some (.long v), none, some (.long a), none, some (.long b), none]) rfl rfl]
  simp only [eX4_in_0, eX4_in_1, eX4_in_2, eX4_in_3, eX4_in_6, eX4_in_7, eX4_in_9, eX4_in_10, eX4_in_13, eX4_in_14, eX4_in_17, eX4_in_18, lgc_lt, lgc_gt, Nat.reduceLeDiff, Nat.reduceEqDiff, Nat.reduceAdd, if_true, if_false, b2i_T, b2i_F, and_self, and_false, false_and, true_and, and_true, true_or, or_true, false_or, or_false, or_self, not_true_eq_false, not_false_eq_true, eq_self, List.cons_append, List.nil_append]
  by_cases h1 : v < a
  · rw [if_pos h1, b2i_f (fun h => absurd h.1 (Int64.not_le.mpr h1))]
  · rw [if_neg h1]
    by_cases h2 : b < v
    · rw [if_pos h2, b2i_f (fun h => absurd h.2 (Int64.not_le.mpr h2))]
    · rw [if_neg h2, b2i_t ⟨Int64.not_lt.mp h1, Int64.not_lt.mp h2⟩]
theorem l_in {v a b : Int32} {a' b' : Int64} (ha : a.toInt64 = a') (hb : b.toInt64 = b') : b2i (a' ≤ v.toInt64 ∧ v.toInt64 ≤ b') = b2i (a ≤ v ∧ v ≤ b) := by
  subst ha; subst hb
  exact b2i_c (by rw [l_le, l_le])
theorem tX4_isPerson {v : Int32} : sx_call G mX4_isPerson [.ref 39, .int v] A Z Q ↔ Q [.int (b2i (0 ≤ v ∧ v ≤ A 40 0 - 1))] A Z := by
  rw [sx_call_in (L := [some (.ref 39), some (.int v)]) rfl rfl]
  have z0 : ¬ (0 : Int32) < 0 := by decide
  have z4 : (0 : Int32).toNatClampNeg = 0 := by decide
  simp only [eX4_isPerson_0, eX4_isPerson_1, eX4_isPerson_2, eX4_isPerson_3, eX4_isPerson_4, eX4_isPerson_7, eX4_isPerson_8, eX4_isPerson_9, eX4_isPerson_10, eX4_isPerson_11, eX4_isPerson_12, eX4_isPerson_15, kd_39, fr_39_0, fr_39_1, fr_39_2, fr_39_3, fr_39_4, fr_39_6, fr_39_12, fr_39_13, fr_39_14, fr_39_15, kd_40, an_40, rd_40, kd_41, an_41, rd_41, kd_42, an_42, rd_42, kd_43, an_43, rd_43, kd_44, an_44, rd_44, kd_45, an_45, rd_45, kd_46, an_46, rd_46, kd_47, an_47, rd_47, kd_48, an_48, kd_49, an_49, tX4_in, z0, z4, l_in (v := v) (a := 0) (b := A 40 0 - 1) (a' := 0) rfl rfl, b2i_01, Nat.reduceLeDiff, Nat.reduceEqDiff, Nat.reduceAdd, if_true, if_false, b2i_T, b2i_F, and_self, and_false, false_and, true_and, and_true, true_or, or_true, false_or, or_false, or_self, not_true_eq_false, not_false_eq_true, eq_self, List.cons_append, List.nil_append]
theorem tX4_isKind {v : Int32} : sx_call G mX4_isKind [.int v] A Z Q ↔ Q [.int (b2i (0 ≤ v ∧ v ≤ 5))] A Z := by
  rw [sx_call_in (L := [some (.int v)]) rfl rfl]
  simp only [eX4_isKind_0, eX4_isKind_1, eX4_isKind_2, eX4_isKind_3, eX4_isKind_6, eX4_isKind_9, tX4_in, l_in (v := v) (a := 0) (b := 5) (a' := 0) (b' := 5) rfl rfl, b2i_01, Nat.reduceLeDiff, Nat.reduceEqDiff, Nat.reduceAdd, if_true, if_false, b2i_T, b2i_F, and_self, and_false, false_and, true_and, and_true, true_or, or_true, false_or, or_false, or_self, not_true_eq_false, not_false_eq_true, eq_self, List.cons_append, List.nil_append]
theorem tX4_isEnd {v : Int32} : sx_call G mX4_isEnd [.int v] A Z Q ↔ Q [.int (b2i (0 ≤ v ∧ v ≤ 1))] A Z := by
  rw [sx_call_in (L := [some (.int v)]) rfl rfl]
  simp only [eX4_isEnd_0, eX4_isEnd_1, eX4_isEnd_2, eX4_isEnd_3, eX4_isEnd_4, eX4_isEnd_7, tX4_in, l_in (v := v) (a := 0) (b := 1) (a' := 0) (b' := 1) rfl rfl, b2i_01, Nat.reduceLeDiff, Nat.reduceEqDiff, Nat.reduceAdd, if_true, if_false, b2i_T, b2i_F, and_self, and_false, false_and, true_and, and_true, true_or, or_true, false_or, or_false, or_self, not_true_eq_false, not_false_eq_true, eq_self, List.cons_append, List.nil_append]
theorem tX4_isOne {v : Int32} : sx_call G mX4_isOne [.int v] A Z Q ↔ Q [.int (b2i (0 ≤ v ∧ v ≤ 3))] A Z := by
  rw [sx_call_in (L := [some (.int v)]) rfl rfl]
  simp only [eX4_isOne_0, eX4_isOne_1, eX4_isOne_2, eX4_isOne_3, eX4_isOne_6, eX4_isOne_9, tX4_in, l_in (v := v) (a := 0) (b := 3) (a' := 0) (b' := 3) rfl rfl, b2i_01, Nat.reduceLeDiff, Nat.reduceEqDiff, Nat.reduceAdd, if_true, if_false, b2i_T, b2i_F, and_self, and_false, false_and, true_and, and_true, true_or, or_true, false_or, or_false, or_self, not_true_eq_false, not_false_eq_true, eq_self, List.cons_append, List.nil_append]
theorem tX4_isSoon {v a : Int32} : sx_call G mX4_isSoon [.int v, .int a] A Z Q ↔ Q [.int (b2i (a ≤ v ∧ v ≤ 60))] A Z := by
  rw [sx_call_in (L := [some (.int v), some (.int a)]) rfl rfl]
  simp only [eX4_isSoon_0, eX4_isSoon_1, eX4_isSoon_2, eX4_isSoon_3, eX4_isSoon_4, eX4_isSoon_7, eX4_isSoon_10, tX4_in, l_in (v := v) (a := a) (b := 60) (b' := 60) rfl rfl, b2i_01, Nat.reduceLeDiff, Nat.reduceEqDiff, Nat.reduceAdd, if_true, if_false, b2i_T, b2i_F, and_self, and_false, false_and, true_and, and_true, true_or, or_true, false_or, or_false, or_self, not_true_eq_false, not_false_eq_true, eq_self, List.cons_append, List.nil_append]
theorem tX4_isLetter {v : Int32} : sx_call G mX4_isLetter [.int v] A Z Q ↔ Q [.int (b2i (97 ≤ v ∧ v ≤ 122))] A Z := by
  rw [sx_call_in (L := [some (.int v)]) rfl rfl]
  simp only [eX4_isLetter_0, eX4_isLetter_1, eX4_isLetter_2, eX4_isLetter_5, eX4_isLetter_8, eX4_isLetter_11, tX4_in, l_in (v := v) (a := 97) (b := 122) (a' := 97) (b' := 122) rfl rfl, b2i_01, Nat.reduceLeDiff, Nat.reduceEqDiff, Nat.reduceAdd, if_true, if_false, b2i_T, b2i_F, and_self, and_false, false_and, true_and, and_true, true_or, or_true, false_or, or_false, or_self, not_true_eq_false, not_false_eq_true, eq_self, List.cons_append, List.nil_append]
theorem tX4_isDigit {v : Int32} : sx_call G mX4_isDigit [.int v] A Z Q ↔ Q [.int (b2i (48 ≤ v ∧ v ≤ 57))] A Z := by
  rw [sx_call_in (L := [some (.int v)]) rfl rfl]
  simp only [eX4_isDigit_0, eX4_isDigit_1, eX4_isDigit_2, eX4_isDigit_5, eX4_isDigit_8, eX4_isDigit_11, tX4_in, l_in (v := v) (a := 48) (b := 57) (a' := 48) (b' := 57) rfl rfl, b2i_01, Nat.reduceLeDiff, Nat.reduceEqDiff, Nat.reduceAdd, if_true, if_false, b2i_T, b2i_F, and_self, and_false, false_and, true_and, and_true, true_or, or_true, false_or, or_false, or_self, not_true_eq_false, not_false_eq_true, eq_self, List.cons_append, List.nil_append]
theorem tX4_spotOf {p w : Int32} : sx_call G mX4_spotOf [.int p, .int w] A Z Q ↔ Q [.int (5 + 4 * p + w)] A Z := by
  rw [sx_call_in (L := [some (.int p), some (.int w)]) rfl rfl]
  simp only [eX4_spotOf_0, eX4_spotOf_1, eX4_spotOf_2, eX4_spotOf_3, eX4_spotOf_4, eX4_spotOf_5, eX4_spotOf_6, eX4_spotOf_7, Nat.reduceLeDiff, Nat.reduceEqDiff, Nat.reduceAdd, if_true, if_false, b2i_T, b2i_F, and_self, and_false, false_and, true_and, and_true, true_or, or_true, false_or, or_false, or_self, not_true_eq_false, not_false_eq_true, eq_self, List.cons_append, List.nil_append]
theorem ix_4 {p w : Nat} : (5 : Int32) + 4 * nI p + nI w = nI (5 + 4 * p + w) := by
  rw [show (5 : Int32) = nI 5 from rfl, show (4 : Int32) = nI 4 from rfl, pk_mul, nI_add, nI_add]
theorem tX4_its {p w : Nat} (hp : p < 8) (hw : w < 4) : sx_call G mX4_its [.ref 39, .int (nI p), .int (nI w)] A Z Q ↔ Q [.int (A 40 (5 + 4 * p + w))] A Z := by
  rw [sx_call_in (L := [some (.ref 39), some (.int (nI p)), some (.int (nI w))]) rfl rfl]
  have h2 : ¬ nI (5 + 4 * p + w) < 0 := nI_pos (by omega)
  have h5 : ¬ 37 ≤ 5 + 4 * p + w := by omega
  have h3 : (nI (5 + 4 * p + w)).toNatClampNeg = 5 + 4 * p + w := nI_clamp (by omega)
  simp only [eX4_its_0, eX4_its_1, eX4_its_4, eX4_its_5, eX4_its_6, eX4_its_9, eX4_its_10, kd_39, fr_39_0, fr_39_1, fr_39_2, fr_39_3, fr_39_4, fr_39_6, fr_39_12, fr_39_13, fr_39_14, fr_39_15, kd_40, an_40, rd_40, kd_41, an_41, rd_41, kd_42, an_42, rd_42, kd_43, an_43, rd_43, kd_44, an_44, rd_44, kd_45, an_45, rd_45, kd_46, an_46, rd_46, kd_47, an_47, rd_47, kd_48, an_48, kd_49, an_49, tX4_spotOf, ix_4, h2, h3, h5, Nat.reduceLeDiff, Nat.reduceEqDiff, Nat.reduceAdd, if_true, if_false, b2i_T, b2i_F, and_self, and_false, false_and, true_and, and_true, true_or, or_true, false_or, or_false, or_self, not_true_eq_false, not_false_eq_true, eq_self, List.cons_append, List.nil_append]
theorem tX4_its0 {p : Nat} (hp : p < 8) : sx_call G mX4_its [.ref 39, .int (nI p), .int 0] A Z Q ↔ Q [.int (A 40 (5 + 4 * p))] A Z := tX4_its (w := 0) hp (by omega)
theorem tX4_its1 {p : Nat} (hp : p < 8) : sx_call G mX4_its [.ref 39, .int (nI p), .int 1] A Z Q ↔ Q [.int (A 40 (5 + 4 * p + 1))] A Z := tX4_its (w := 1) hp (by omega)
theorem tX4_its2 {p : Nat} (hp : p < 8) : sx_call G mX4_its [.ref 39, .int (nI p), .int 2] A Z Q ↔ Q [.int (A 40 (5 + 4 * p + 2))] A Z := tX4_its (w := 2) hp (by omega)
theorem tX4_its3 {p : Nat} (hp : p < 8) : sx_call G mX4_its [.ref 39, .int (nI p), .int 3] A Z Q ↔ Q [.int (A 40 (5 + 4 * p + 3))] A Z := tX4_its (w := 3) hp (by omega)
theorem tX4_heldTo {v : Int32} : sx_call G mX4_heldTo [.int v] A Z Q ↔ Q [.int (if v ≤ 99 then v else 99)] A Z := by
  rw [sx_call_in (L := [some (.int v)]) rfl rfl]
  simp only [eX4_heldTo_0, eX4_heldTo_1, eX4_heldTo_3, eX4_heldTo_6, eX4_heldTo_8, eX4_heldTo_11, eX4_heldTo_12, Nat.reduceLeDiff, Nat.reduceEqDiff, Nat.reduceAdd, if_true, if_false, b2i_T, b2i_F, and_self, and_false, false_and, true_and, and_true, true_or, or_true, false_or, or_false, or_self, not_true_eq_false, not_false_eq_true, eq_self, List.cons_append, List.nil_append]
  split <;> rfl
theorem tX4_heartOf {p : Nat} (hp : p < 8) : sx_call G mX4_heartOf [.ref 39, .int (nI p)] A Z Q ↔ Q [.int (sp_heart (A 40 (5 + 4 * p)) (A 40 (5 + 4 * p + 1)) (A 40 (5 + 4 * p + 2)) (A 40 1))] A Z := by
  rw [sx_call_in (L := [some (.ref 39), some (.int (nI p)), none, none]) rfl rfl]
  have z0 : ¬ (1 : Int32) < 0 := by decide
  have z4 : (1 : Int32).toNatClampNeg = 1 := by decide
  simp only [eX4_heartOf_0, eX4_heartOf_1, eX4_heartOf_2, eX4_heartOf_3, eX4_heartOf_6, eX4_heartOf_7, eX4_heartOf_8, eX4_heartOf_9, eX4_heartOf_12, eX4_heartOf_13, eX4_heartOf_14, eX4_heartOf_15, eX4_heartOf_16, eX4_heartOf_17, eX4_heartOf_18, eX4_heartOf_21, eX4_heartOf_22, eX4_heartOf_23, eX4_heartOf_24, eX4_heartOf_25, eX4_heartOf_26, eX4_heartOf_27, eX4_heartOf_28, eX4_heartOf_31, eX4_heartOf_64, eX4_heartOf_65, eX4_heartOf_66, eX4_heartOf_67, eX4_heartOf_68, eX4_heartOf_69, eX4_heartOf_70, eX4_heartOf_71, eX4_heartOf_72, eX4_heartOf_73, eX4_heartOf_74, eX4_heartOf_75, eX4_heartOf_76, eX4_heartOf_77, eX4_heartOf_78, eX4_heartOf_79, eX4_heartOf_80, eX4_heartOf_81, eX4_heartOf_84, eX4_heartOf_85, eX4_heartOf_86, eX4_heartOf_88, eX4_heartOf_91, eX4_heartOf_92, eX4_heartOf_95, eX4_heartOf_96, eX4_heartOf_97, eX4_heartOf_98, kd_39, fr_39_0, fr_39_1, fr_39_2, fr_39_3, fr_39_4, fr_39_6, fr_39_12, fr_39_13, fr_39_14, fr_39_15, kd_40, an_40, rd_40, kd_41, an_41, rd_41, kd_42, an_42, rd_42, kd_43, an_43, rd_43, kd_44, an_44, rd_44, kd_45, an_45, rd_45, kd_46, an_46, rd_46, kd_47, an_47, rd_47, kd_48, an_48, kd_49, an_49, tX4_its0 hp, tX4_its1 hp, tX4_its2 hp, tX4_its3 hp, z0, z4, Nat.reduceLeDiff, Nat.reduceEqDiff, Nat.reduceAdd, if_true, if_false, b2i_T, b2i_F, and_self, and_false, false_and, true_and, and_true, true_or, or_true, false_or, or_false, or_self, not_true_eq_false, not_false_eq_true, eq_self, List.cons_append, List.nil_append]
  unfold sp_heart
  repeat' split
  all_goals rfl
theorem tX4_mixesOf {p : Nat} (hp : p < 8) : sx_call G mX4_mixesOf [.ref 39, .int (nI p)] A Z Q ↔ Q [.int (sp_mixes (A 40 (5 + 4 * p)) (A 40 (5 + 4 * p + 1)))] A Z := by
  rw [sx_call_in (L := [some (.ref 39), some (.int (nI p))]) rfl rfl]
  simp only [eX4_mixesOf_0, eX4_mixesOf_1, eX4_mixesOf_2, eX4_mixesOf_3, eX4_mixesOf_6, eX4_mixesOf_36, eX4_mixesOf_37, eX4_mixesOf_38, eX4_mixesOf_39, eX4_mixesOf_40, eX4_mixesOf_41, eX4_mixesOf_42, eX4_mixesOf_43, eX4_mixesOf_44, eX4_mixesOf_45, eX4_mixesOf_48, eX4_mixesOf_51, eX4_mixesOf_52, eX4_mixesOf_55, eX4_mixesOf_56, eX4_mixesOf_57, eX4_mixesOf_58, kd_39, fr_39_0, fr_39_1, fr_39_2, fr_39_3, fr_39_4, fr_39_6, fr_39_12, fr_39_13, fr_39_14, fr_39_15, kd_40, an_40, rd_40, kd_41, an_41, rd_41, kd_42, an_42, rd_42, kd_43, an_43, rd_43, kd_44, an_44, rd_44, kd_45, an_45, rd_45, kd_46, an_46, rd_46, kd_47, an_47, rd_47, kd_48, an_48, kd_49, an_49, tX4_its0 hp, tX4_its1 hp, tX4_its2 hp, tX4_its3 hp, Nat.reduceLeDiff, Nat.reduceEqDiff, Nat.reduceAdd, if_true, if_false, b2i_T, b2i_F, and_self, and_false, false_and, true_and, and_true, true_or, or_true, false_or, or_false, or_self, not_true_eq_false, not_false_eq_true, eq_self, List.cons_append, List.nil_append]
  unfold sp_mixes
  repeat' split
  all_goals rfl
theorem tX4_isUnder {k o : Int32} : sx_call G mX4_isUnder [.int k, .int o] A Z Q ↔ Q [.int (b2i (o = 0 ∨ k = o ∨ (k = 4 ∧ o = 2) ∨ (k = 5 ∧ o = 1)))] A Z := by
  rw [sx_call_in (L := [some (.int k), some (.int o)]) rfl rfl]
  simp only [eX4_isUnder_0, eX4_isUnder_1, eX4_isUnder_4, eX4_isUnder_5, eX4_isUnder_6, eX4_isUnder_9, eX4_isUnder_10, eX4_isUnder_11, eX4_isUnder_14, eX4_isUnder_15, eX4_isUnder_16, eX4_isUnder_19, eX4_isUnder_20, eX4_isUnder_21, eX4_isUnder_24, eX4_isUnder_25, eX4_isUnder_26, eX4_isUnder_29, eX4_isUnder_30, eX4_isUnder_33, eX4_isUnder_34, Nat.reduceLeDiff, Nat.reduceEqDiff, Nat.reduceAdd, if_true, if_false, b2i_T, b2i_F, and_self, and_false, false_and, true_and, and_true, true_or, or_true, false_or, or_false, or_self, not_true_eq_false, not_false_eq_true, eq_self, List.cons_append, List.nil_append]
  by_cases h1 : o = 0
  · simp only [h1, Nat.reduceLeDiff, Nat.reduceEqDiff, Nat.reduceAdd, if_true, if_false, b2i_T, b2i_F, and_self, and_false, false_and, true_and, and_true, true_or, or_true, false_or, or_false, or_self, not_true_eq_false, not_false_eq_true, eq_self, List.cons_append, List.nil_append]
  · by_cases h2 : k = o
    · simp only [h1, h2, Nat.reduceLeDiff, Nat.reduceEqDiff, Nat.reduceAdd, if_true, if_false, b2i_T, b2i_F, and_self, and_false, false_and, true_and, and_true, true_or, or_true, false_or, or_false, or_self, not_true_eq_false, not_false_eq_true, eq_self, List.cons_append, List.nil_append]
    · by_cases h3 : k = 4 <;> by_cases h4 : o = 2 <;> by_cases h5 : k = 5 <;> by_cases h6 : o = 1 <;> simp only [h1, h2, h3, h4, h5, h6, Nat.reduceLeDiff, Nat.reduceEqDiff, Nat.reduceAdd, if_true, if_false, b2i_T, b2i_F, and_self, and_false, false_and, true_and, and_true, true_or, or_true, false_or, or_false, or_self, not_true_eq_false, not_false_eq_true, eq_self, List.cons_append, List.nil_append] <;> simp_all [b2i_F, b2i_T]
end MC
