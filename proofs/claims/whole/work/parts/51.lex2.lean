/-! THE TEXT: the class's Text -/
def eqw (b : Nat → Int32) (w : List Int32) (st : Nat) : Nat → Nat → Bool
  | 0, _ => true
  | k + 1, q => if b (st + q) = w.getD q 0 then eqw b w st k (q + 1) else false
theorem eqw_iff {b : Nat → Int32} {w : List Int32} {st : Nat} : ∀ k q, eqw b w st k q = true ↔ ∀ j, q ≤ j → j < q + k → b (st + j) = w.getD j 0
  | 0, q => ⟨fun _ j h1 h2 => absurd h2 (by omega), fun _ => rfl⟩
  | k + 1, q => by
    unfold eqw
    by_cases e : b (st + q) = w.getD q 0
    · rw [if_pos e, eqw_iff k (q + 1)]
      constructor
      · intro h j h1 h2
        by_cases e2 : j = q
        · subst e2; exact e
        · exact h j (by omega) (by omega)
      · intro h j h1 h2
        exact h j (by omega) (by omega)
    · rw [if_neg e]
      exact ⟨fun z => absurd z Bool.false_ne_true, fun h => absurd (h q (by omega) (by omega)) e⟩
/-- the token at st is the i-th word -/
def isW (b : Nat → Int32) (t i st : Nat) : Bool := decide (tk b t st = 1 ∧ en b t st = st + sx_sn.getD i 0 ∧ eqw b (sx_sb.getD i []) st (sx_sn.getD i 0) 0 = true)
def sw (i q : Nat) : Nat := ((sx_sb.getD i []).getD q 0).toNatClampNeg - 96
def wcs : List Nat := [2087, 464627, 239180, 3417476, 13690354, 522723374, 24416759, 13358, 241700, 20433497, 494]
theorem sw_ok : ∀ i, i < 11 → ∀ q, q < sx_sn.getD i 0 → (1 ≤ sw i q ∧ sw i q ≤ 26) ∧ (sx_sb.getD i []).getD q 0 = nI (96 + sw i q) := by decide +kernel
theorem sw_cd : ∀ i, i < 11 → cdn (sw i) (sx_sn.getD i 0) = wcs.getD i 0 ∧ 0 < wcs.getD i 0 ∧ wcs.getD i 0 < 36028797018963967 := by decide +kernel
/-- the reference's code of a word -/
theorem wv_w {b : Nat → Int32} {t st i : Nat} (hi : i < 11) : wv b t st = lN (wcs.getD i 0) ↔ isW b t i st = true := by
  obtain ⟨c1, c2, c3⟩ := sw_cd i hi
  unfold wv isW
  rw [decide_eq_true_iff]
  by_cases h : tk b t st = 1
  · rw [if_pos h]
    have hd : ∀ j, j < en b t st - st → (1 ≤ (b (st + j)).toNatClampNeg - 96 ∧ (b (st + j)).toNatClampNeg - 96 ≤ 26) ∧ b (st + j) = nI (96 + ((b (st + j)).toNatClampNeg - 96)) := by
      intro j hj
      obtain ⟨d, h1, h2, e⟩ := isL_n (all_L h (st + j) (by omega) (by omega))
      rw [e, nI_clamp (by omega)]
      exact ⟨by omega, by congr 1; omega⟩
    rw [wvn_n (d := fun j => (b (st + j)).toNatClampNeg - 96) _ (fun j hj => ⟨(hd j hj).1.2, (hd j hj).2⟩)]
    have hl := evn_lt (d := fun j => (b (st + j)).toNatClampNeg - 96) (en b t st - st) (fun j hj => (hd j hj).1.2)
    rw [pk_lEQ (by omega) (by omega), ← c1, evn_cd _ _ (fun j hj => (hd j hj).1) (fun j hj => (sw_ok i hi j hj).1) (by rw [c1]; exact c3), eqw_iff]
    have hlo := en_lo (b := b) (t := t) (st := st)
    constructor
    · rintro ⟨e1, e2⟩
      refine ⟨h, by omega, fun j _ hj => ?_⟩
      rw [(hd j (by omega)).2, (sw_ok i hi j (by omega)).2, e2 j (by omega)]
    · rintro ⟨-, e1, e2⟩
      refine ⟨by omega, fun j hj => ?_⟩
      show (b (st + j)).toNatClampNeg - 96 = sw i j
      rw [e2 j (by omega) (by omega)]
      rfl
  · rw [if_neg h]
    constructor
    · intro z
      have := (pk_lEQ (a := 0) (b := wcs.getD i 0) (by omega) (by omega)).mp z
      omega
    · intro z; exact absurd z.1 h
theorem sKd : ∀ i, i < 11 → sx_kd (100 + i) = 20 := by decide
theorem sFr : ∀ i, i < 11 → sx_fr (100 + i) 0 = 200 + i := by decide
theorem sKd2 : ∀ i, i < 11 → sx_kd (200 + i) = 9 := by decide
theorem sAn {G : sx_G} {i : Nat} : sx_an G (200 + i) = sx_sn.getD i 0 := by
  unfold sx_an
  rw [if_neg (by omega), if_neg (by omega), if_neg (by omega), Nat.add_sub_cancel_left]
theorem sRd {G : sx_G} {A : sx_A} {i j : Nat} : sx_rd G A (200 + i) j = (sx_sb.getD i []).getD j 0 := by
  unfold sx_rd
  rw [if_neg (by omega), if_neg (by omega), if_neg (by omega), Nat.add_sub_cancel_left]
theorem sRf {A : sx_A} {i : Nat} : sx_rf A (100 + i) 1 = 0 := if_neg (by omega)
theorem sLen : ∀ i, i < 11 → Int32.ofNat (sx_sn.getD i 0) >>> ((0 : Int32) &&& 31) = nI (sx_sn.getD i 0) ∧ sx_sn.getD i 0 ≤ 6 := by decide +kernel
theorem sCh : ∀ i, i < 11 → ∀ j, j < sx_sn.getD i 0 → (((sx_sb.getD i []).getD j 0 &&& 255).toUInt32 % 65536).toInt32 = (sx_sb.getD i []).getD j 0 := by decide +kernel
theorem nb_0 : (narrow .byte (.int 0) = .int 0) = True := eq_true rfl
section TX
variable {G : sx_G} {c n : Nat} {A : sx_A} {Z : sx_Z} {Q : List Value → sx_A → sx_Z → Prop} {b : Nat → Int32} {t st : Nat}
theorem tJ_coder {i : Nat} (hi : i < 11) : sx_call G mJ0_coder_7d493 [.ref (100 + i)] A Z Q ↔ Q [.int 0] A Z := by
  rw [sx_call_in (L := [some (.ref (100 + i))]) rfl rfl]
  simp only [eJ0_coder_7d493_0, eJ0_coder_7d493_3, eJ0_coder_7d493_6, eJ0_coder_7d493_7, eJ0_coder_7d493_10, eJ0_coder_7d493_13, eJ0_coder_7d493_14, sKd i hi, sRf, nb_0, one_ne0, Nat.reduceLeDiff, Nat.reduceEqDiff, Nat.reduceAdd, if_true, if_false, b2i_T, b2i_F, and_self, and_false, false_and, true_and, and_true, true_or, or_true, false_or, or_false, or_self, not_true_eq_false, not_false_eq_true, eq_self, List.cons_append, List.nil_append]
theorem tJ_latin {i : Nat} (hi : i < 11) : sx_call G mJ0_isLatin1_aae02 [.ref (100 + i)] A Z Q ↔ Q [.int 1] A Z := by
  rw [sx_call_in (L := [some (.ref (100 + i))]) rfl rfl]
  simp only [eJ0_isLatin1_aae02_0, eJ0_isLatin1_aae02_3, eJ0_isLatin1_aae02_6, eJ0_isLatin1_aae02_7, eJ0_isLatin1_aae02_10, eJ0_isLatin1_aae02_13, eJ0_isLatin1_aae02_14, eJ0_isLatin1_aae02_17, eJ0_isLatin1_aae02_18, sKd i hi, sRf, one_ne0, Nat.reduceLeDiff, Nat.reduceEqDiff, Nat.reduceAdd, if_true, if_false, b2i_T, b2i_F, and_self, and_false, false_and, true_and, and_true, true_or, or_true, false_or, or_false, or_self, not_true_eq_false, not_false_eq_true, eq_self, List.cons_append, List.nil_append]
theorem tJ_length {i : Nat} (hi : i < 11) : sx_call G mJ0_length_8abf5 [.ref (100 + i)] A Z Q ↔ Q [.int (nI (sx_sn.getD i 0))] A Z := by
  rw [sx_call_in (L := [some (.ref (100 + i))]) rfl rfl]
  simp only [eJ0_length_8abf5_0, eJ0_length_8abf5_1, eJ0_length_8abf5_4, eJ0_length_8abf5_5, eJ0_length_8abf5_6, eJ0_length_8abf5_9, eJ0_length_8abf5_10, sKd i hi, sFr i hi, sKd2 i hi, sAn, tJ_coder hi, (sLen i hi).1, Nat.reduceLeDiff, Nat.reduceEqDiff, Nat.reduceAdd, if_true, if_false, b2i_T, b2i_F, and_self, and_false, false_and, true_and, and_true, true_or, or_true, false_or, or_false, or_self, not_true_eq_false, not_false_eq_true, eq_self, List.cons_append, List.nil_append]
theorem tJ3_ci {x y : Int32} (h0 : ¬ x < 0) (h : x < y) : sx_call G mJ3_checkIndex_8e157 [.int x, .int y, .retAddr 0] A Z Q ↔ Q [.int x] A Z := by
  rw [sx_call_in (L := [some (.int x), some (.int y), some (.retAddr 0)]) rfl rfl]
  simp only [eJ3_checkIndex_8e157_0, eJ3_checkIndex_8e157_1, eJ3_checkIndex_8e157_4, eJ3_checkIndex_8e157_5, eJ3_checkIndex_8e157_6, eJ3_checkIndex_8e157_9, eJ3_checkIndex_8e157_10, eJ3_checkIndex_8e157_11, eJ3_checkIndex_8e157_16, eJ3_checkIndex_8e157_17, h0, h, Nat.reduceLeDiff, Nat.reduceEqDiff, Nat.reduceAdd, if_true, if_false, b2i_T, b2i_F, and_self, and_false, false_and, true_and, and_true, true_or, or_true, false_or, or_false, or_self, not_true_eq_false, not_false_eq_true, eq_self, List.cons_append, List.nil_append]
theorem tJ0_ci {x y : Int32} (h0 : ¬ x < 0) (h : x < y) : sx_call G mJ0_checkIndex_df160 [.int x, .int y] A Z Q ↔ Q [] A Z := by
  rw [sx_call_in (L := [some (.int x), some (.int y)]) rfl rfl]
  simp only [eJ0_checkIndex_df160_0, eJ0_checkIndex_df160_1, eJ0_checkIndex_df160_2, eJ0_checkIndex_df160_5, eJ0_checkIndex_df160_8, eJ0_checkIndex_df160_9, tJ3_ci h0 h, Nat.reduceLeDiff, Nat.reduceEqDiff, Nat.reduceAdd, if_true, if_false, b2i_T, b2i_F, and_self, and_false, false_and, true_and, and_true, true_or, or_true, false_or, or_false, or_self, not_true_eq_false, not_false_eq_true, eq_self, List.cons_append, List.nil_append]
theorem tJ1_ca {i j : Nat} (hi : i < 11) (hj : j < sx_sn.getD i 0) : sx_call G mJ1_charAt_3b067 [.ref (200 + i), .int (nI j)] A Z Q ↔ Q [.int ((sx_sb.getD i []).getD j 0)] A Z := by
  rw [sx_call_in (L := [some (.ref (200 + i)), some (.int (nI j))]) rfl rfl]
  have hl := (sLen i hi).2
  have h0 : ¬ nI j < 0 := nI_pos (by omega)
  have h1 : nI j < Int32.ofNat (sx_sn.getD i 0) := nI_lt hj (by omega)
  have h3 : (nI j).toNatClampNeg = j := nI_clamp (by omega)
  have h5 : ¬ sx_sn.getD i 0 ≤ j := by omega
  have hn := pk_nc ((sx_sb.getD i []).getD j 0 &&& 255)
  rw [sCh i hi j hj] at hn
  simp only [eJ1_charAt_3b067_0, eJ1_charAt_3b067_1, eJ1_charAt_3b067_2, eJ1_charAt_3b067_3, eJ1_charAt_3b067_6, eJ1_charAt_3b067_7, eJ1_charAt_3b067_8, eJ1_charAt_3b067_9, eJ1_charAt_3b067_12, eJ1_charAt_3b067_13, eJ1_charAt_3b067_14, sKd2 i hi, sAn, sRd, tJ0_ci h0 h1, h0, h3, h5, sCh i hi j hj, hn, Nat.reduceLeDiff, Nat.reduceEqDiff, Nat.reduceAdd, if_true, if_false, b2i_T, b2i_F, and_self, and_false, false_and, true_and, and_true, true_or, or_true, false_or, or_false, or_self, not_true_eq_false, not_false_eq_true, eq_self, List.cons_append, List.nil_append]
theorem tJ0_ca {i j : Nat} (hi : i < 11) (hj : j < sx_sn.getD i 0) : sx_call G mJ0_charAt_5068e [.ref (100 + i), .int (nI j)] A Z Q ↔ Q [.int ((sx_sb.getD i []).getD j 0)] A Z := by
  rw [sx_call_in (L := [some (.ref (100 + i)), some (.int (nI j))]) rfl rfl]
  have hn := pk_nc ((sx_sb.getD i []).getD j 0 &&& 255)
  rw [sCh i hi j hj] at hn
  simp only [eJ0_charAt_5068e_0, eJ0_charAt_5068e_1, eJ0_charAt_5068e_4, eJ0_charAt_5068e_7, eJ0_charAt_5068e_8, eJ0_charAt_5068e_11, eJ0_charAt_5068e_12, eJ0_charAt_5068e_15, eJ0_charAt_5068e_16, eJ0_charAt_5068e_17, eJ0_charAt_5068e_20, eJ0_charAt_5068e_24, sKd i hi, sFr i hi, tJ_latin hi, tJ1_ca hi hj, hn, one_ne0, Nat.reduceLeDiff, Nat.reduceEqDiff, Nat.reduceAdd, if_true, if_false, b2i_T, b2i_F, and_self, and_false, false_and, true_and, and_true, true_or, or_true, false_or, or_false, or_self, not_true_eq_false, not_false_eq_true, eq_self, List.cons_append, List.nil_append]
theorem tX2_isLetter {x : Int32} : sx_call G mX2_isLetter [.int x] A Z Q ↔ Q [.int (b2i (isL x = true))] A Z := by
  rw [sx_call_in (L := [some (.int x)]) rfl rfl]
  have e : (isL x = true) = (97 ≤ x ∧ x ≤ 122) := decide_eq_true_eq
  simp only [eX2_isLetter_0, eX2_isLetter_1, eX2_isLetter_3, eX2_isLetter_6, eX2_isLetter_7, eX2_isLetter_9, eX2_isLetter_12, eX2_isLetter_13, eX2_isLetter_16, eX2_isLetter_17, e, Nat.reduceLeDiff, Nat.reduceEqDiff, Nat.reduceAdd, if_true, if_false, b2i_T, b2i_F, and_self, and_false, false_and, true_and, and_true, true_or, or_true, false_or, or_false, or_self, not_true_eq_false, not_false_eq_true, eq_self, List.cons_append, List.nil_append]
  by_cases h1 : x < 97
  · rw [if_pos h1, b2i_f (fun h => absurd h.1 (Int32.not_le.mpr h1))]
  · rw [if_neg h1]
    by_cases h2 : 122 < x
    · rw [if_pos h2, b2i_f (fun h => absurd h.2 (Int32.not_le.mpr h2))]
    · rw [if_neg h2, b2i_t ⟨Int32.not_lt.mp h1, Int32.not_lt.mp h2⟩]
theorem tX2_isDigit {x : Int32} : sx_call G mX2_isDigit [.int x] A Z Q ↔ Q [.int (b2i (isD x = true))] A Z := by
  rw [sx_call_in (L := [some (.int x)]) rfl rfl]
  have e : (isD x = true) = (48 ≤ x ∧ x ≤ 57) := decide_eq_true_eq
  simp only [eX2_isDigit_0, eX2_isDigit_1, eX2_isDigit_3, eX2_isDigit_6, eX2_isDigit_7, eX2_isDigit_9, eX2_isDigit_12, eX2_isDigit_13, eX2_isDigit_16, eX2_isDigit_17, e, Nat.reduceLeDiff, Nat.reduceEqDiff, Nat.reduceAdd, if_true, if_false, b2i_T, b2i_F, and_self, and_false, false_and, true_and, and_true, true_or, or_true, false_or, or_false, or_self, not_true_eq_false, not_false_eq_true, eq_self, List.cons_append, List.nil_append]
  by_cases h1 : x < 48
  · rw [if_pos h1, b2i_f (fun h => absurd h.1 (Int32.not_le.mpr h1))]
  · rw [if_neg h1]
    by_cases h2 : 57 < x
    · rw [if_pos h2, b2i_f (fun h => absurd h.2 (Int32.not_le.mpr h2))]
    · rw [if_neg h2, b2i_t ⟨Int32.not_lt.mp h1, Int32.not_lt.mp h2⟩]
/-- Text stands at the token at st -/
def atT (b : Nat → Int32) (t st : Nat) (R : Nat → Int32) : Prop := R 1 = nI t ∧ R 2 = nI st ∧ R 3 = nI (en b t st) ∧ R 4 = nI (tk b t st) ∧ (tk b t st = 2 → R 5 = vx b t st)
theorem lX2_skip {R : Nat → Int32} (hb : A 28 = b) (ht : t ≤ 120) (h1 : R 1 = nI t) : ∀ (k i : Nat), i + k = t → (sx_ev G mX2_advance 8 [some (.ref 27)] [] (va_up A 27 (upd R 2 (nI i))) Z Q ↔ sx_ev G mX2_advance 46 [some (.ref 27)] [] (va_up A 27 (upd R 2 (nI (fs (fun j => decide (¬ b j = 32)) k i)))) Z Q) := by
  intro k
  induction k with
  | zero =>
    intro i hi
    obtain rfl : i = t := by omega
    rw [eX2_advance_8]
    have g1 : nI i ≤ nI i := nI_le (Nat.le_refl _) (by omega)
    simp only [eX2_advance_0, eX2_advance_1, eX2_advance_2, eX2_advance_5, eX2_advance_9, eX2_advance_12, eX2_advance_13, eX2_advance_16, eX2_advance_19, eX2_advance_20, eX2_advance_23, eX2_advance_24, eX2_advance_27, eX2_advance_28, eX2_advance_30, eX2_advance_33, eX2_advance_34, eX2_advance_35, eX2_advance_38, eX2_advance_39, eX2_advance_40, eX2_advance_43, eX2_advance_47, eX2_advance_48, eX2_advance_51, eX2_advance_54, eX2_advance_55, eX2_advance_58, eX2_advance_59, eX2_advance_62, eX2_advance_65, eX2_advance_66, eX2_advance_67, eX2_advance_70, eX2_advance_73, eX2_advance_74, eX2_advance_77, eX2_advance_78, eX2_advance_81, eX2_advance_82, eX2_advance_85, eX2_advance_88, eX2_advance_89, eX2_advance_90, eX2_advance_93, eX2_advance_94, eX2_advance_97, eX2_advance_100, eX2_advance_101, eX2_advance_104, eX2_advance_105, eX2_advance_108, eX2_advance_109, eX2_advance_112, eX2_advance_115, eX2_advance_116, eX2_advance_117, eX2_advance_120, eX2_advance_121, eX2_advance_124, eX2_advance_127, eX2_advance_128, eX2_advance_129, eX2_advance_132, eX2_advance_133, eX2_advance_136, eX2_advance_137, eX2_advance_139, eX2_advance_142, eX2_advance_143, eX2_advance_146, eX2_advance_147, eX2_advance_150, eX2_advance_151, eX2_advance_152, eX2_advance_155, eX2_advance_156, eX2_advance_157, eX2_advance_160, kd_0, fr_0_0, fr_0_1, fr_0_2, fr_0_3, fr_0_4, fr_0_5, fr_0_6, fr_0_7, fr_0_8, kd_1, fr_1_0, fr_1_1, fr_1_2, fr_1_3, fr_1_4, kd_2, an_2, rd_2, kd_3, an_3, rd_3, kd_4, an_4, rd_4, kd_5, an_5, rd_5, kd_6, an_6, rd_6, kd_7, kd_13, fr_13_0, fr_13_1, fr_13_2, fr_13_3, fr_13_4, kd_14, an_14, rd_14, kd_15, an_15, rd_15, kd_16, an_16, rd_16, kd_17, an_17, rd_17, kd_19, fr_19_3, kd_23, an_23, rd_23, kd_25, an_25, rd_25, kd_26, an_26, rd_26, kd_27, fr_27_0, kd_28, an_28, rd_28, kd_29, an_29, kd_38, an_38, rd_38, up_s, ud_s, ud_n, h1, g1, fs, Nat.reduceLeDiff, Nat.reduceEqDiff, Nat.reduceAdd, if_true, if_false, b2i_T, b2i_F, and_self, and_false, false_and, true_and, and_true, true_or, or_true, false_or, or_false, or_self, not_true_eq_false, not_false_eq_true, eq_self, List.cons_append, List.nil_append]
  | succ k ih =>
    intro i hi
    rw [eX2_advance_8]
    have g1 : ¬ nI t ≤ nI i := nI_ge (by omega) (by omega)
    have i2 : ¬ nI i < 0 := nI_pos (by omega)
    have i5 : ¬ 120 ≤ i := by omega
    have i3 : (nI i).toNatClampNeg = i := nI_clamp (by omega)
    have h4 := ih (i + 1) (by omega)
    rw [nI_succ] at h4
    by_cases e : b i = 32
    · rw [fs_f (f := fun j => decide (¬ b j = 32)) (by rw [decide_eq_false_iff_not]; exact fun z => z e)]
      simp only [eX2_advance_0, eX2_advance_1, eX2_advance_2, eX2_advance_5, eX2_advance_9, eX2_advance_12, eX2_advance_13, eX2_advance_16, eX2_advance_19, eX2_advance_20, eX2_advance_23, eX2_advance_24, eX2_advance_27, eX2_advance_28, eX2_advance_30, eX2_advance_33, eX2_advance_34, eX2_advance_35, eX2_advance_38, eX2_advance_39, eX2_advance_40, eX2_advance_43, eX2_advance_47, eX2_advance_48, eX2_advance_51, eX2_advance_54, eX2_advance_55, eX2_advance_58, eX2_advance_59, eX2_advance_62, eX2_advance_65, eX2_advance_66, eX2_advance_67, eX2_advance_70, eX2_advance_73, eX2_advance_74, eX2_advance_77, eX2_advance_78, eX2_advance_81, eX2_advance_82, eX2_advance_85, eX2_advance_88, eX2_advance_89, eX2_advance_90, eX2_advance_93, eX2_advance_94, eX2_advance_97, eX2_advance_100, eX2_advance_101, eX2_advance_104, eX2_advance_105, eX2_advance_108, eX2_advance_109, eX2_advance_112, eX2_advance_115, eX2_advance_116, eX2_advance_117, eX2_advance_120, eX2_advance_121, eX2_advance_124, eX2_advance_127, eX2_advance_128, eX2_advance_129, eX2_advance_132, eX2_advance_133, eX2_advance_136, eX2_advance_137, eX2_advance_139, eX2_advance_142, eX2_advance_143, eX2_advance_146, eX2_advance_147, eX2_advance_150, eX2_advance_151, eX2_advance_152, eX2_advance_155, eX2_advance_156, eX2_advance_157, eX2_advance_160, kd_0, fr_0_0, fr_0_1, fr_0_2, fr_0_3, fr_0_4, fr_0_5, fr_0_6, fr_0_7, fr_0_8, kd_1, fr_1_0, fr_1_1, fr_1_2, fr_1_3, fr_1_4, kd_2, an_2, rd_2, kd_3, an_3, rd_3, kd_4, an_4, rd_4, kd_5, an_5, rd_5, kd_6, an_6, rd_6, kd_7, kd_13, fr_13_0, fr_13_1, fr_13_2, fr_13_3, fr_13_4, kd_14, an_14, rd_14, kd_15, an_15, rd_15, kd_16, an_16, rd_16, kd_17, an_17, rd_17, kd_19, fr_19_3, kd_23, an_23, rd_23, kd_25, an_25, rd_25, kd_26, an_26, rd_26, kd_27, fr_27_0, kd_28, an_28, rd_28, kd_29, an_29, kd_38, an_38, rd_38, up_s, up_n, up_up, ud_s, ud_n, ud_ud, h1, g1, i2, i3, i5, hb, e, Nat.reduceLeDiff, Nat.reduceEqDiff, Nat.reduceAdd, if_true, if_false, b2i_T, b2i_F, and_self, and_false, false_and, true_and, and_true, true_or, or_true, false_or, or_false, or_self, not_true_eq_false, not_false_eq_true, eq_self, List.cons_append, List.nil_append]
      exact h4
    · rw [fs_t (f := fun j => decide (¬ b j = 32)) (decide_eq_true e)]
      simp only [eX2_advance_0, eX2_advance_1, eX2_advance_2, eX2_advance_5, eX2_advance_9, eX2_advance_12, eX2_advance_13, eX2_advance_16, eX2_advance_19, eX2_advance_20, eX2_advance_23, eX2_advance_24, eX2_advance_27, eX2_advance_28, eX2_advance_30, eX2_advance_33, eX2_advance_34, eX2_advance_35, eX2_advance_38, eX2_advance_39, eX2_advance_40, eX2_advance_43, eX2_advance_47, eX2_advance_48, eX2_advance_51, eX2_advance_54, eX2_advance_55, eX2_advance_58, eX2_advance_59, eX2_advance_62, eX2_advance_65, eX2_advance_66, eX2_advance_67, eX2_advance_70, eX2_advance_73, eX2_advance_74, eX2_advance_77, eX2_advance_78, eX2_advance_81, eX2_advance_82, eX2_advance_85, eX2_advance_88, eX2_advance_89, eX2_advance_90, eX2_advance_93, eX2_advance_94, eX2_advance_97, eX2_advance_100, eX2_advance_101, eX2_advance_104, eX2_advance_105, eX2_advance_108, eX2_advance_109, eX2_advance_112, eX2_advance_115, eX2_advance_116, eX2_advance_117, eX2_advance_120, eX2_advance_121, eX2_advance_124, eX2_advance_127, eX2_advance_128, eX2_advance_129, eX2_advance_132, eX2_advance_133, eX2_advance_136, eX2_advance_137, eX2_advance_139, eX2_advance_142, eX2_advance_143, eX2_advance_146, eX2_advance_147, eX2_advance_150, eX2_advance_151, eX2_advance_152, eX2_advance_155, eX2_advance_156, eX2_advance_157, eX2_advance_160, kd_0, fr_0_0, fr_0_1, fr_0_2, fr_0_3, fr_0_4, fr_0_5, fr_0_6, fr_0_7, fr_0_8, kd_1, fr_1_0, fr_1_1, fr_1_2, fr_1_3, fr_1_4, kd_2, an_2, rd_2, kd_3, an_3, rd_3, kd_4, an_4, rd_4, kd_5, an_5, rd_5, kd_6, an_6, rd_6, kd_7, kd_13, fr_13_0, fr_13_1, fr_13_2, fr_13_3, fr_13_4, kd_14, an_14, rd_14, kd_15, an_15, rd_15, kd_16, an_16, rd_16, kd_17, an_17, rd_17, kd_19, fr_19_3, kd_23, an_23, rd_23, kd_25, an_25, rd_25, kd_26, an_26, rd_26, kd_27, fr_27_0, kd_28, an_28, rd_28, kd_29, an_29, kd_38, an_38, rd_38, up_s, up_n, up_up, ud_s, ud_n, ud_ud, h1, g1, i2, i3, i5, hb, e, Nat.reduceLeDiff, Nat.reduceEqDiff, Nat.reduceAdd, if_true, if_false, b2i_T, b2i_F, and_self, and_false, false_and, true_and, and_true, true_or, or_true, false_or, or_false, or_self, not_true_eq_false, not_false_eq_true, eq_self, List.cons_append, List.nil_append]
theorem lX2_takeWord {R : Nat → Int32} (hb : A 28 = b) (ht : t ≤ 120) (h1 : R 1 = nI t) : ∀ (k i : Nat), i + k = t → (sx_ev G mX2_takeWord 0 [some (.ref 27)] [] (va_up A 27 (upd R 3 (nI i))) Z Q ↔ Q [] (va_up A 27 (upd R 3 (nI (fs (fun j => !isL (b j)) k i)))) Z) := by
  intro k
  induction k with
  | zero =>
    intro i hi
    obtain rfl : i = t := by omega
    rw [eX2_takeWord_0]
    have g1 : nI i ≤ nI i := nI_le (Nat.le_refl _) (by omega)
    simp only [eX2_takeWord_1, eX2_takeWord_4, eX2_takeWord_5, eX2_takeWord_8, eX2_takeWord_11, eX2_takeWord_12, eX2_takeWord_15, eX2_takeWord_16, eX2_takeWord_19, eX2_takeWord_20, eX2_takeWord_23, eX2_takeWord_26, eX2_takeWord_27, eX2_takeWord_28, eX2_takeWord_31, eX2_takeWord_32, eX2_takeWord_33, eX2_takeWord_36, eX2_takeWord_39, kd_0, fr_0_0, fr_0_1, fr_0_2, fr_0_3, fr_0_4, fr_0_5, fr_0_6, fr_0_7, fr_0_8, kd_1, fr_1_0, fr_1_1, fr_1_2, fr_1_3, fr_1_4, kd_2, an_2, rd_2, kd_3, an_3, rd_3, kd_4, an_4, rd_4, kd_5, an_5, rd_5, kd_6, an_6, rd_6, kd_7, kd_13, fr_13_0, fr_13_1, fr_13_2, fr_13_3, fr_13_4, kd_14, an_14, rd_14, kd_15, an_15, rd_15, kd_16, an_16, rd_16, kd_17, an_17, rd_17, kd_19, fr_19_3, kd_23, an_23, rd_23, kd_25, an_25, rd_25, kd_26, an_26, rd_26, kd_27, fr_27_0, kd_28, an_28, rd_28, kd_29, an_29, kd_38, an_38, rd_38, up_s, ud_s, ud_n, h1, g1, fs, Nat.reduceLeDiff, Nat.reduceEqDiff, Nat.reduceAdd, if_true, if_false, b2i_T, b2i_F, and_self, and_false, false_and, true_and, and_true, true_or, or_true, false_or, or_false, or_self, not_true_eq_false, not_false_eq_true, eq_self, List.cons_append, List.nil_append]
  | succ k ih =>
    intro i hi
    rw [eX2_takeWord_0]
    have g1 : ¬ nI t ≤ nI i := nI_ge (by omega) (by omega)
    have i2 : ¬ nI i < 0 := nI_pos (by omega)
    have i5 : ¬ 120 ≤ i := by omega
    have i3 : (nI i).toNatClampNeg = i := nI_clamp (by omega)
    have h4 := ih (i + 1) (by omega)
    rw [nI_succ] at h4
    by_cases e : isL (b i) = true
    · rw [fs_f (f := fun j => !isL (b j)) (by rw [e]; rfl)]
      simp only [eX2_takeWord_1, eX2_takeWord_4, eX2_takeWord_5, eX2_takeWord_8, eX2_takeWord_11, eX2_takeWord_12, eX2_takeWord_15, eX2_takeWord_16, eX2_takeWord_19, eX2_takeWord_20, eX2_takeWord_23, eX2_takeWord_26, eX2_takeWord_27, eX2_takeWord_28, eX2_takeWord_31, eX2_takeWord_32, eX2_takeWord_33, eX2_takeWord_36, eX2_takeWord_39, kd_0, fr_0_0, fr_0_1, fr_0_2, fr_0_3, fr_0_4, fr_0_5, fr_0_6, fr_0_7, fr_0_8, kd_1, fr_1_0, fr_1_1, fr_1_2, fr_1_3, fr_1_4, kd_2, an_2, rd_2, kd_3, an_3, rd_3, kd_4, an_4, rd_4, kd_5, an_5, rd_5, kd_6, an_6, rd_6, kd_7, kd_13, fr_13_0, fr_13_1, fr_13_2, fr_13_3, fr_13_4, kd_14, an_14, rd_14, kd_15, an_15, rd_15, kd_16, an_16, rd_16, kd_17, an_17, rd_17, kd_19, fr_19_3, kd_23, an_23, rd_23, kd_25, an_25, rd_25, kd_26, an_26, rd_26, kd_27, fr_27_0, kd_28, an_28, rd_28, kd_29, an_29, kd_38, an_38, rd_38, up_s, up_n, up_up, ud_s, ud_n, ud_ud, h1, g1, i2, i3, i5, hb, tX2_isLetter, b2i_t e, one_ne0, Nat.reduceLeDiff, Nat.reduceEqDiff, Nat.reduceAdd, if_true, if_false, b2i_T, b2i_F, and_self, and_false, false_and, true_and, and_true, true_or, or_true, false_or, or_false, or_self, not_true_eq_false, not_false_eq_true, eq_self, List.cons_append, List.nil_append]
      exact h4
    · rw [fs_t (f := fun j => !isL (b j)) (by rw [Bool.eq_false_iff.mpr e]; rfl)]
      simp only [eX2_takeWord_1, eX2_takeWord_4, eX2_takeWord_5, eX2_takeWord_8, eX2_takeWord_11, eX2_takeWord_12, eX2_takeWord_15, eX2_takeWord_16, eX2_takeWord_19, eX2_takeWord_20, eX2_takeWord_23, eX2_takeWord_26, eX2_takeWord_27, eX2_takeWord_28, eX2_takeWord_31, eX2_takeWord_32, eX2_takeWord_33, eX2_takeWord_36, eX2_takeWord_39, kd_0, fr_0_0, fr_0_1, fr_0_2, fr_0_3, fr_0_4, fr_0_5, fr_0_6, fr_0_7, fr_0_8, kd_1, fr_1_0, fr_1_1, fr_1_2, fr_1_3, fr_1_4, kd_2, an_2, rd_2, kd_3, an_3, rd_3, kd_4, an_4, rd_4, kd_5, an_5, rd_5, kd_6, an_6, rd_6, kd_7, kd_13, fr_13_0, fr_13_1, fr_13_2, fr_13_3, fr_13_4, kd_14, an_14, rd_14, kd_15, an_15, rd_15, kd_16, an_16, rd_16, kd_17, an_17, rd_17, kd_19, fr_19_3, kd_23, an_23, rd_23, kd_25, an_25, rd_25, kd_26, an_26, rd_26, kd_27, fr_27_0, kd_28, an_28, rd_28, kd_29, an_29, kd_38, an_38, rd_38, up_s, up_n, up_up, ud_s, ud_n, ud_ud, h1, g1, i2, i3, i5, hb, tX2_isLetter, b2i_f e, Nat.reduceLeDiff, Nat.reduceEqDiff, Nat.reduceAdd, if_true, if_false, b2i_T, b2i_F, and_self, and_false, false_and, true_and, and_true, true_or, or_true, false_or, or_false, or_self, not_true_eq_false, not_false_eq_true, eq_self, List.cons_append, List.nil_append]
theorem lX2_takeNumber {R : Nat → Int32} {st : Nat} (hb : A 28 = b) (ht : t ≤ 120) (h1 : R 1 = nI t) : ∀ (k i : Nat), st + i + k = t → (sx_ev G mX2_takeNumber 5 [some (.ref 27)] [] (va_up A 27 (upd (upd R 5 (vxn b st i)) 3 (nI (st + i)))) Z Q ↔ Q [] (va_up A 27 (upd (upd R 5 (vxn b st (fs (fun j => !isD (b j)) k (st + i) - st))) 3 (nI (fs (fun j => !isD (b j)) k (st + i))))) Z) := by
  intro k
  induction k with
  | zero =>
    intro i hi
    have hi' : st + i = t := by omega
    rw [eX2_takeNumber_5]
    have g1 : nI t ≤ nI (st + i) := nI_le (by omega) (by omega)
    simp only [eX2_takeNumber_0, eX2_takeNumber_1, eX2_takeNumber_2, eX2_takeNumber_6, eX2_takeNumber_9, eX2_takeNumber_10, eX2_takeNumber_13, eX2_takeNumber_16, eX2_takeNumber_17, eX2_takeNumber_20, eX2_takeNumber_21, eX2_takeNumber_24, eX2_takeNumber_25, eX2_takeNumber_28, eX2_takeNumber_31, eX2_takeNumber_32, eX2_takeNumber_35, eX2_takeNumber_37, eX2_takeNumber_38, eX2_takeNumber_41, eX2_takeNumber_42, eX2_takeNumber_43, eX2_takeNumber_46, eX2_takeNumber_47, eX2_takeNumber_50, eX2_takeNumber_51, eX2_takeNumber_52, eX2_takeNumber_54, eX2_takeNumber_55, eX2_takeNumber_58, eX2_takeNumber_61, eX2_takeNumber_62, eX2_takeNumber_63, eX2_takeNumber_66, eX2_takeNumber_67, eX2_takeNumber_68, eX2_takeNumber_71, eX2_takeNumber_74, kd_0, fr_0_0, fr_0_1, fr_0_2, fr_0_3, fr_0_4, fr_0_5, fr_0_6, fr_0_7, fr_0_8, kd_1, fr_1_0, fr_1_1, fr_1_2, fr_1_3, fr_1_4, kd_2, an_2, rd_2, kd_3, an_3, rd_3, kd_4, an_4, rd_4, kd_5, an_5, rd_5, kd_6, an_6, rd_6, kd_7, kd_13, fr_13_0, fr_13_1, fr_13_2, fr_13_3, fr_13_4, kd_14, an_14, rd_14, kd_15, an_15, rd_15, kd_16, an_16, rd_16, kd_17, an_17, rd_17, kd_19, fr_19_3, kd_23, an_23, rd_23, kd_25, an_25, rd_25, kd_26, an_26, rd_26, kd_27, fr_27_0, kd_28, an_28, rd_28, kd_29, an_29, kd_38, an_38, rd_38, up_s, ud_s, ud_n, h1, g1, fs, Nat.add_sub_cancel_left, Nat.reduceLeDiff, Nat.reduceEqDiff, Nat.reduceAdd, if_true, if_false, b2i_T, b2i_F, and_self, and_false, false_and, true_and, and_true, true_or, or_true, false_or, or_false, or_self, not_true_eq_false, not_false_eq_true, eq_self, List.cons_append, List.nil_append]
  | succ k ih =>
    intro i hi
    rw [eX2_takeNumber_5]
    have g1 : ¬ nI t ≤ nI (st + i) := nI_ge (by omega) (by omega)
    have i2 : ¬ nI (st + i) < 0 := nI_pos (by omega)
    have i5 : ¬ 120 ≤ st + i := by omega
    have i3 : (nI (st + i)).toNatClampNeg = st + i := nI_clamp (by omega)
    have h4 := ih (i + 1) (by omega)
    rw [← Nat.add_assoc, nI_succ] at h4
    rw [show vxn b st (i + 1) = (if 10 * vxn b st i + b (st + i) - 48 < 1000 then 10 * vxn b st i + b (st + i) - 48 else 1000) from rfl] at h4
    by_cases e : isD (b (st + i)) = true
    · rw [fs_f (f := fun j => !isD (b j)) (by rw [e]; rfl)]
      have esw : ∀ v w : Int32, upd (upd (upd (upd R 5 v) 3 (nI (st + i))) 5 w) 3 (nI (st + i) + 1) = upd (upd R 5 w) 3 (nI (st + i) + 1) := by
        intro v w
        funext q
        simp only [upd]
        repeat' split
        all_goals first | rfl | omega
      simp only [eX2_takeNumber_0, eX2_takeNumber_1, eX2_takeNumber_2, eX2_takeNumber_6, eX2_takeNumber_9, eX2_takeNumber_10, eX2_takeNumber_13, eX2_takeNumber_16, eX2_takeNumber_17, eX2_takeNumber_20, eX2_takeNumber_21, eX2_takeNumber_24, eX2_takeNumber_25, eX2_takeNumber_28, eX2_takeNumber_31, eX2_takeNumber_32, eX2_takeNumber_35, eX2_takeNumber_37, eX2_takeNumber_38, eX2_takeNumber_41, eX2_takeNumber_42, eX2_takeNumber_43, eX2_takeNumber_46, eX2_takeNumber_47, eX2_takeNumber_50, eX2_takeNumber_51, eX2_takeNumber_52, eX2_takeNumber_54, eX2_takeNumber_55, eX2_takeNumber_58, eX2_takeNumber_61, eX2_takeNumber_62, eX2_takeNumber_63, eX2_takeNumber_66, eX2_takeNumber_67, eX2_takeNumber_68, eX2_takeNumber_71, eX2_takeNumber_74, kd_0, fr_0_0, fr_0_1, fr_0_2, fr_0_3, fr_0_4, fr_0_5, fr_0_6, fr_0_7, fr_0_8, kd_1, fr_1_0, fr_1_1, fr_1_2, fr_1_3, fr_1_4, kd_2, an_2, rd_2, kd_3, an_3, rd_3, kd_4, an_4, rd_4, kd_5, an_5, rd_5, kd_6, an_6, rd_6, kd_7, kd_13, fr_13_0, fr_13_1, fr_13_2, fr_13_3, fr_13_4, kd_14, an_14, rd_14, kd_15, an_15, rd_15, kd_16, an_16, rd_16, kd_17, an_17, rd_17, kd_19, fr_19_3, kd_23, an_23, rd_23, kd_25, an_25, rd_25, kd_26, an_26, rd_26, kd_27, fr_27_0, kd_28, an_28, rd_28, kd_29, an_29, kd_38, an_38, rd_38, up_s, up_n, up_up, ud_s, ud_n, h1, g1, i2, i3, i5, hb, tX2_isDigit, b2i_t e, one_ne0, esw, Nat.reduceLeDiff, Nat.reduceEqDiff, Nat.reduceAdd, if_true, if_false, b2i_T, b2i_F, and_self, and_false, false_and, true_and, and_true, true_or, or_true, false_or, or_false, or_self, not_true_eq_false, not_false_eq_true, eq_self, List.cons_append, List.nil_append]
      exact h4
    · rw [fs_t (f := fun j => !isD (b j)) (by rw [Bool.eq_false_iff.mpr e]; rfl), Nat.add_sub_cancel_left]
      simp only [eX2_takeNumber_0, eX2_takeNumber_1, eX2_takeNumber_2, eX2_takeNumber_6, eX2_takeNumber_9, eX2_takeNumber_10, eX2_takeNumber_13, eX2_takeNumber_16, eX2_takeNumber_17, eX2_takeNumber_20, eX2_takeNumber_21, eX2_takeNumber_24, eX2_takeNumber_25, eX2_takeNumber_28, eX2_takeNumber_31, eX2_takeNumber_32, eX2_takeNumber_35, eX2_takeNumber_37, eX2_takeNumber_38, eX2_takeNumber_41, eX2_takeNumber_42, eX2_takeNumber_43, eX2_takeNumber_46, eX2_takeNumber_47, eX2_takeNumber_50, eX2_takeNumber_51, eX2_takeNumber_52, eX2_takeNumber_54, eX2_takeNumber_55, eX2_takeNumber_58, eX2_takeNumber_61, eX2_takeNumber_62, eX2_takeNumber_63, eX2_takeNumber_66, eX2_takeNumber_67, eX2_takeNumber_68, eX2_takeNumber_71, eX2_takeNumber_74, kd_0, fr_0_0, fr_0_1, fr_0_2, fr_0_3, fr_0_4, fr_0_5, fr_0_6, fr_0_7, fr_0_8, kd_1, fr_1_0, fr_1_1, fr_1_2, fr_1_3, fr_1_4, kd_2, an_2, rd_2, kd_3, an_3, rd_3, kd_4, an_4, rd_4, kd_5, an_5, rd_5, kd_6, an_6, rd_6, kd_7, kd_13, fr_13_0, fr_13_1, fr_13_2, fr_13_3, fr_13_4, kd_14, an_14, rd_14, kd_15, an_15, rd_15, kd_16, an_16, rd_16, kd_17, an_17, rd_17, kd_19, fr_19_3, kd_23, an_23, rd_23, kd_25, an_25, rd_25, kd_26, an_26, rd_26, kd_27, fr_27_0, kd_28, an_28, rd_28, kd_29, an_29, kd_38, an_38, rd_38, up_s, up_n, up_up, ud_s, ud_n, h1, g1, i2, i3, i5, hb, tX2_isDigit, b2i_f e, Nat.reduceLeDiff, Nat.reduceEqDiff, Nat.reduceAdd, if_true, if_false, b2i_T, b2i_F, and_self, and_false, false_and, true_and, and_true, true_or, or_true, false_or, or_false, or_self, not_true_eq_false, not_false_eq_true, eq_self, List.cons_append, List.nil_append]
end TX
