/-! SETS AS BITS; THE CALLS, ONE BY ONE: count -/
def pcn (k : Nat) : Nat := k % 2 + k / 2 % 2 + k / 4 % 2 + k / 8 % 2 + k / 16 % 2 + k / 32 % 2 + k / 64 % 2 + k / 128 % 2
theorem pcn_le (k : Nat) : pcn k ≤ 8 := by unfold pcn; omega
theorem pcn_step : ∀ k, k < 256 → ¬ k = 0 → pcn (k &&& (k - 1)) + 1 = pcn k := by decide +kernel
theorem pcn_z : ∀ k, k < 256 → pcn k = 0 → k = 0 := by decide +kernel
theorem i_clr : ∀ k, k < 256 → nI k &&& (nI k - 1) = nI (k &&& (k - 1)) := by decide +kernel
def i_b1 (x : Int32) : Int32 := x - ((x.toUInt32 >>> (Int32.toUInt32 1 &&& Int32.toUInt32 31)).toInt32 &&& 1431655765)
def i_b2 (x : Int32) : Int32 := (x &&& 858993459) + ((x.toUInt32 >>> (Int32.toUInt32 2 &&& Int32.toUInt32 31)).toInt32 &&& 858993459)
def i_b3 (x : Int32) : Int32 := (x + (x.toUInt32 >>> (Int32.toUInt32 4 &&& Int32.toUInt32 31)).toInt32) &&& 252645135
def i_b4 (x : Int32) : Int32 := x + (x.toUInt32 >>> (Int32.toUInt32 8 &&& Int32.toUInt32 31)).toInt32
def i_b5 (x : Int32) : Int32 := x + (x.toUInt32 >>> (Int32.toUInt32 16 &&& Int32.toUInt32 31)).toInt32
def i_bc (x : Int32) : Int32 := i_b5 (i_b4 (i_b3 (i_b2 (i_b1 x)))) &&& 63
theorem i_bc_n : ∀ k, k < 256 → i_bc (nI k) = nI (pcn k) := by decide +kernel
def bs (f : Nat → Bool) : Nat → Nat
  | 0 => 0
  | p + 1 => if f p = true then bs f p + 2 ^ p else bs f p
def bn (f : Nat → Bool) : Nat → Nat
  | 0 => 0
  | p + 1 => if f p = true then bn f p + 1 else bn f p
theorem bs_lt (f : Nat → Bool) : ∀ p, bs f p < 2 ^ p
  | 0 => by unfold bs; omega
  | p + 1 => by
    have h := bs_lt f p
    unfold bs
    rw [Nat.pow_succ]
    split <;> omega
theorem bs_256 {f : Nat → Bool} {p : Nat} (hp : p ≤ 8) : bs f p < 256 := Nat.lt_of_lt_of_le (bs_lt f p) (Nat.pow_le_pow_right (n := 2) (by omega) hp)
theorem i_bit : ∀ p, p < 8 → ∀ a, a < 2 ^ p → nI a ||| 1 <<< (nI p &&& 31) = nI (a + 2 ^ p) := by decide +kernel
theorem pcn_bit : ∀ p, p < 8 → ∀ a, a < 2 ^ p → pcn (a + 2 ^ p) = pcn a + 1 := by decide +kernel
theorem pcn_bs (f : Nat → Bool) : ∀ p, p ≤ 8 → pcn (bs f p) = bn f p
  | 0, _ => by unfold bs bn; decide
  | p + 1, hp => by
    unfold bs bn
    split
    · rw [pcn_bit p (by omega) _ (bs_lt f p), pcn_bs f p (by omega)]
    · exact pcn_bs f p (by omega)
theorem sit_bs {pl : Nat → Int32} {e : Int32} : ∀ p, p ≤ 8 → sp_sit pl e p = nI (bs (fun q => decide (pl q = e)) p)
  | 0, _ => rfl
  | p + 1, hp => by
    unfold sp_sit bs
    by_cases h : pl p = e
    · rw [if_pos h, if_pos (decide_eq_true h), sit_bs p (by omega), i_bit p (by omega) _ (bs_lt _ p)]
    · rw [if_neg h, if_neg (by rw [decide_eq_false h]; exact Bool.false_ne_true), sit_bs p (by omega)]
theorem sit_or {pl : Nat → Int32} : ∀ p, p ≤ 8 → sp_sit pl 0 p ||| sp_sit pl 1 p = nI (bs (fun q => decide (pl q = 0 ∨ pl q = 1)) p)
  | 0, _ => by unfold sp_sit bs; decide
  | p + 1, hp => by
    have ih := sit_or (pl := pl) p (by omega)
    unfold sp_sit bs
    by_cases h0 : pl p = 0
    · have h1 : ¬ pl p = 1 := by rw [h0]; decide
      rw [if_pos h0, if_neg h1, if_pos (decide_eq_true (Or.inl h0)), Int32.or_assoc, Int32.or_comm (1 <<< (nI p &&& 31)), ← Int32.or_assoc, ih, i_bit p (by omega) _ (bs_lt _ p)]
    · by_cases h1 : pl p = 1
      · rw [if_neg h0, if_pos h1, if_pos (decide_eq_true (Or.inr h1)), ← Int32.or_assoc, ih, i_bit p (by omega) _ (bs_lt _ p)]
      · rw [if_neg h0, if_neg h1, if_neg (by rw [decide_eq_false (fun z => z.elim h0 h1)]; exact Bool.false_ne_true), ih]
theorem bn_or {pl : Nat → Int32} : ∀ p, bn (fun q => decide (pl q = 0 ∨ pl q = 1)) p = bn (fun q => decide (pl q = 0)) p + bn (fun q => decide (pl q = 1)) p
  | 0 => rfl
  | p + 1 => by
    have ih := bn_or (pl := pl) p
    unfold bn
    by_cases h0 : pl p = 0
    · have h1 : ¬ pl p = 1 := by rw [h0]; decide
      rw [if_pos (decide_eq_true (Or.inl h0)), if_pos (decide_eq_true h0), if_neg (by rw [decide_eq_false h1]; exact Bool.false_ne_true), ih]
      omega
    · by_cases h1 : pl p = 1
      · rw [if_pos (decide_eq_true (Or.inr h1)), if_pos (decide_eq_true h1), if_neg (by rw [decide_eq_false h0]; exact Bool.false_ne_true), ih]
        omega
      · rw [if_neg (by rw [decide_eq_false (fun z => z.elim h0 h1)]; exact Bool.false_ne_true), if_neg (by rw [decide_eq_false h0]; exact Bool.false_ne_true), if_neg (by rw [decide_eq_false h1]; exact Bool.false_ne_true), ih]

section OP
variable {G : sx_G} {c n : Nat} {A : sx_A} {Z : sx_Z} {Q : List Value → sx_A → sx_Z → Prop}

theorem tJ6_bc {k : Nat} (hk : k < 256) : sx_call G mJ6_bitCount_0f7a4 [.int (nI k)] A Z Q ↔ Q [.int (nI (pcn k))] A Z := by
  rw [sx_call_in (L := [some (.int (nI k))]) rfl rfl]
  simp only [eJ6_bitCount_0f7a4_0, eJ6_bitCount_0f7a4_1, eJ6_bitCount_0f7a4_2, eJ6_bitCount_0f7a4_3, eJ6_bitCount_0f7a4_4, eJ6_bitCount_0f7a4_7, eJ6_bitCount_0f7a4_8, eJ6_bitCount_0f7a4_9, eJ6_bitCount_0f7a4_10, eJ6_bitCount_0f7a4_11, eJ6_bitCount_0f7a4_14, eJ6_bitCount_0f7a4_15, eJ6_bitCount_0f7a4_16, eJ6_bitCount_0f7a4_17, eJ6_bitCount_0f7a4_18, eJ6_bitCount_0f7a4_21, eJ6_bitCount_0f7a4_22, eJ6_bitCount_0f7a4_23, eJ6_bitCount_0f7a4_24, eJ6_bitCount_0f7a4_25, eJ6_bitCount_0f7a4_26, eJ6_bitCount_0f7a4_27, eJ6_bitCount_0f7a4_28, eJ6_bitCount_0f7a4_29, eJ6_bitCount_0f7a4_32, eJ6_bitCount_0f7a4_33, eJ6_bitCount_0f7a4_34, eJ6_bitCount_0f7a4_35, eJ6_bitCount_0f7a4_36, eJ6_bitCount_0f7a4_38, eJ6_bitCount_0f7a4_39, eJ6_bitCount_0f7a4_40, eJ6_bitCount_0f7a4_41, eJ6_bitCount_0f7a4_42, eJ6_bitCount_0f7a4_43, eJ6_bitCount_0f7a4_45, eJ6_bitCount_0f7a4_46, eJ6_bitCount_0f7a4_47, eJ6_bitCount_0f7a4_48, eJ6_bitCount_0f7a4_49, eJ6_bitCount_0f7a4_51, eJ6_bitCount_0f7a4_52, Nat.reduceLeDiff, Nat.reduceEqDiff, Nat.reduceAdd, if_true, if_false, b2i_T, b2i_F, and_self, and_false, false_and, true_and, and_true, true_or, or_true, false_or, or_false, or_self, not_true_eq_false, not_false_eq_true, eq_self, List.cons_append, List.nil_append]
  rw [← i_bc_n k hk]
  exact Iff.rfl
theorem tX4_ones_l : ∀ (j k m : Nat) (l0 : Option Value), k < 256 → pcn k ≤ j → (sx_ev G mX4_ones 4 [l0, some (.int (nI m)), some (.int (nI k))] [] A Z Q ↔ Q [.int (nI (m + pcn k))] A Z) := by
  intro j
  induction j with
  | zero =>
    intro k m l0 hk hj
    obtain rfl : k = 0 := pcn_z k hk (by omega)
    rw [eX4_ones_4]
    simp only [eX4_ones_0, eX4_ones_1, eX4_ones_2, eX4_ones_3, eX4_ones_5, eX4_ones_8, eX4_ones_11, eX4_ones_12, eX4_ones_13, eX4_ones_14, eX4_ones_15, eX4_ones_16, eX4_ones_17, eX4_ones_20, eX4_ones_21, nI_0, Nat.reduceLeDiff, Nat.reduceEqDiff, Nat.reduceAdd, if_true, if_false, b2i_T, b2i_F, and_self, and_false, false_and, true_and, and_true, true_or, or_true, false_or, or_false, or_self, not_true_eq_false, not_false_eq_true, eq_self, List.cons_append, List.nil_append]
    exact Iff.rfl
  | succ j ih =>
    intro k m l0 hk hj
    rw [eX4_ones_4]
    by_cases h0 : k = 0
    · subst h0
      simp only [eX4_ones_0, eX4_ones_1, eX4_ones_2, eX4_ones_3, eX4_ones_5, eX4_ones_8, eX4_ones_11, eX4_ones_12, eX4_ones_13, eX4_ones_14, eX4_ones_15, eX4_ones_16, eX4_ones_17, eX4_ones_20, eX4_ones_21, nI_0, Nat.reduceLeDiff, Nat.reduceEqDiff, Nat.reduceAdd, if_true, if_false, b2i_T, b2i_F, and_self, and_false, false_and, true_and, and_true, true_or, or_true, false_or, or_false, or_self, not_true_eq_false, not_false_eq_true, eq_self, List.cons_append, List.nil_append]
      exact Iff.rfl
    · have h1 : ¬ nI k = 0 := nI_ne0 (by omega) (by omega)
      have hs := pcn_step k hk h0
      have h4 := ih (k &&& (k - 1)) (m + 1) l0 (Nat.lt_of_le_of_lt Nat.and_le_left hk) (by omega)
      rw [nI_succ, show m + 1 + pcn (k &&& (k - 1)) = m + pcn k by omega] at h4
      simp only [eX4_ones_0, eX4_ones_1, eX4_ones_2, eX4_ones_3, eX4_ones_5, eX4_ones_8, eX4_ones_11, eX4_ones_12, eX4_ones_13, eX4_ones_14, eX4_ones_15, eX4_ones_16, eX4_ones_17, eX4_ones_20, eX4_ones_21, h1, i_clr k hk, Nat.reduceLeDiff, Nat.reduceEqDiff, Nat.reduceAdd, if_true, if_false, b2i_T, b2i_F, and_self, and_false, false_and, true_and, and_true, true_or, or_true, false_or, or_false, or_self, not_true_eq_false, not_false_eq_true, eq_self, List.cons_append, List.nil_append]
      exact h4
theorem tX4_ones {k : Nat} (hk : k < 256) : sx_call G mX4_ones [.int (nI k)] A Z Q ↔ Q [.int (nI (pcn k))] A Z := by
  rw [sx_call_in (L := [some (.int (nI k)), none, none]) rfl rfl]
  have h := tX4_ones_l (G := G) (A := A) (Z := Z) (Q := Q) 8 k 0 (some (.int (nI k))) hk (pcn_le k)
  rw [nI_0, Nat.zero_add] at h
  simp only [eX4_ones_0, eX4_ones_1, eX4_ones_2, eX4_ones_3, eX4_ones_5, eX4_ones_8, eX4_ones_11, eX4_ones_12, eX4_ones_13, eX4_ones_14, eX4_ones_15, eX4_ones_16, eX4_ones_17, eX4_ones_20, eX4_ones_21, Nat.reduceLeDiff, Nat.reduceEqDiff, Nat.reduceAdd, if_true, if_false, b2i_T, b2i_F, and_self, and_false, false_and, true_and, and_true, true_or, or_true, false_or, or_false, or_self, not_true_eq_false, not_false_eq_true, eq_self, List.cons_append, List.nil_append]
  exact h

theorem op_count {v : Int32} (h : Rel c A Z) : okOp G c A Z mX3_count mX4_count [.int v] := by
  obtain ⟨n, hB⟩ := h.1
  obtain ⟨hn, e1, e2⟩ := hB.1
  unfold okOp
  rw [sx_call_in (L := [some (.ref 0), some (.int v)]) rfl rfl]
  have hm : ∀ (A : sx_A) (Q : List Value → sx_A → sx_Z → Prop), sx_call G mX4_count [.ref 39, .int v] A Z Q ↔ sx_ev G mX4_count 0 [some (.ref 39), some (.int v)] [] A Z Q := fun A Q => sx_call_in rfl rfl
  have x3 := fun (e : Int32) (Q : List Value → sx_A → sx_Z → Prop) => tX0_sitters (G := G) (A := A) (Z := Z) (Q := Q) (b := 1) (e := e) isB1 hn e1
  have y4 := fun (Q : List Value → sx_A → sx_Z → Prop) => tX4_sitting (G := G) (A := A) (Z := Z) (Q := Q) hn e2
  have s0 : sp_sit (A (1 + 4)) 0 n = nI (bs (fun q => decide (mP (A 40) q = 0)) n) := hB.sit.trans (sit_bs n hn)
  have s1 : sp_sit (A (1 + 4)) 1 n = nI (bs (fun q => decide (mP (A 40) q = 1)) n) := hB.sit.trans (sit_bs n hn)
  have c0 := fun (f : Nat → Bool) (Q : List Value → sx_A → sx_Z → Prop) => tJ6_bc (G := G) (A := A) (Z := Z) (Q := Q) (bs_256 (f := f) hn)
  have c1 := fun (f : Nat → Bool) (Q : List Value → sx_A → sx_Z → Prop) => tX4_ones (G := G) (A := A) (Z := Z) (Q := Q) (bs_256 (f := f) hn)
  have hu := hB.2.2.1
  obtain ⟨t, ht, t1, t2, -⟩ := h.2.2.1
  by_cases w0 : v = 0
  · subst w0
    simp only [eX3_count_0, eX3_count_1, eX3_count_32, eX3_count_33, eX3_count_36, eX3_count_39, eX3_count_40, eX3_count_41, eX3_count_44, eX3_count_47, eX3_count_48, eX3_count_49, eX3_count_52, eX3_count_53, eX3_count_56, eX3_count_59, eX3_count_60, eX3_count_63, eX3_count_64, eX3_count_67, eX3_count_70, eX3_count_71, eX3_count_72, eX3_count_73, eX3_count_76, eX3_count_79, eX3_count_80, eX3_count_81, eX3_count_82, eX3_count_85, eX3_count_88, eX3_count_89, eX3_count_90, eX3_count_91, eX3_count_92, eX3_count_93, eX3_count_95, eX3_count_98, eX4_count_0, eX4_count_1, eX4_count_32, eX4_count_33, eX4_count_36, eX4_count_37, eX4_count_38, eX4_count_39, eX4_count_40, eX4_count_43, eX4_count_44, eX4_count_45, eX4_count_48, eX4_count_51, eX4_count_52, eX4_count_53, eX4_count_56, eX4_count_57, eX4_count_58, eX4_count_59, eX4_count_62, eX4_count_63, eX4_count_64, eX4_count_65, eX4_count_66, eX4_count_67, eX4_count_69, eX4_count_72, hm, kd_0, fr_0_0, fr_0_1, fr_0_2, fr_0_3, fr_0_4, fr_0_5, fr_0_6, fr_0_7, fr_0_8, kd_1, fr_1_0, fr_1_1, fr_1_2, fr_1_3, fr_1_4, kd_2, an_2, rd_2, kd_3, an_3, rd_3, kd_4, an_4, rd_4, kd_5, an_5, rd_5, kd_6, an_6, rd_6, kd_7, kd_13, fr_13_0, fr_13_1, fr_13_2, fr_13_3, fr_13_4, kd_14, an_14, rd_14, kd_15, an_15, rd_15, kd_16, an_16, rd_16, kd_17, an_17, rd_17, kd_19, fr_19_3, kd_23, an_23, rd_23, kd_25, an_25, rd_25, kd_26, an_26, rd_26, kd_27, fr_27_0, kd_28, an_28, rd_28, kd_29, an_29, kd_38, an_38, rd_38, kd_39, fr_39_0, fr_39_1, fr_39_2, fr_39_3, fr_39_4, fr_39_6, fr_39_12, fr_39_13, fr_39_14, fr_39_15, kd_40, an_40, rd_40, kd_41, an_41, rd_41, kd_42, an_42, rd_42, kd_43, an_43, rd_43, kd_44, an_44, rd_44, kd_45, an_45, rd_45, kd_46, an_46, rd_46, kd_47, an_47, rd_47, kd_48, an_48, kd_49, an_49, z_0, z_1, z_2, z_3, z_4, zc_0, zc_1, zc_2, zc_3, zc_4, tX3_isPerson, tX4_isPerson, tX3_isKind, tX4_isKind, tX3_isEnd, tX4_isEnd, tX3_isFeeling, tX3_isWithin, tX4_in, tX3_finding0, tX3_finding1, tX3_finding2, tX3_finding3, tX3_finding4, tX3_finding5, tX3_finding6, tX4_finds0, tX4_finds1, tX4_finds2, tX4_finds3, tX4_finds4, tX4_finds5, tX4_finds6, e1, e2, one_ne0, up_n, up_s, Nat.reduceLeDiff, Nat.reduceEqDiff, Nat.reduceAdd, if_true, if_false, b2i_T, b2i_F, and_self, and_false, false_and, true_and, and_true, true_or, or_true, false_or, or_false, or_self, not_true_eq_false, not_false_eq_true, eq_self, List.cons_append, List.nil_append, show ((0 : Int32) = 1) = False from eq_false (by decide), show ((0 : Int32) = 2) = False from eq_false (by decide), show ((0 : Int32) = 3) = False from eq_false (by decide), x3]
    exact okQ.same h
  by_cases w1 : v = 1
  · subst w1
    simp only [eX3_count_0, eX3_count_1, eX3_count_32, eX3_count_33, eX3_count_36, eX3_count_39, eX3_count_40, eX3_count_41, eX3_count_44, eX3_count_47, eX3_count_48, eX3_count_49, eX3_count_52, eX3_count_53, eX3_count_56, eX3_count_59, eX3_count_60, eX3_count_63, eX3_count_64, eX3_count_67, eX3_count_70, eX3_count_71, eX3_count_72, eX3_count_73, eX3_count_76, eX3_count_79, eX3_count_80, eX3_count_81, eX3_count_82, eX3_count_85, eX3_count_88, eX3_count_89, eX3_count_90, eX3_count_91, eX3_count_92, eX3_count_93, eX3_count_95, eX3_count_98, eX4_count_0, eX4_count_1, eX4_count_32, eX4_count_33, eX4_count_36, eX4_count_37, eX4_count_38, eX4_count_39, eX4_count_40, eX4_count_43, eX4_count_44, eX4_count_45, eX4_count_48, eX4_count_51, eX4_count_52, eX4_count_53, eX4_count_56, eX4_count_57, eX4_count_58, eX4_count_59, eX4_count_62, eX4_count_63, eX4_count_64, eX4_count_65, eX4_count_66, eX4_count_67, eX4_count_69, eX4_count_72, hm, kd_0, fr_0_0, fr_0_1, fr_0_2, fr_0_3, fr_0_4, fr_0_5, fr_0_6, fr_0_7, fr_0_8, kd_1, fr_1_0, fr_1_1, fr_1_2, fr_1_3, fr_1_4, kd_2, an_2, rd_2, kd_3, an_3, rd_3, kd_4, an_4, rd_4, kd_5, an_5, rd_5, kd_6, an_6, rd_6, kd_7, kd_13, fr_13_0, fr_13_1, fr_13_2, fr_13_3, fr_13_4, kd_14, an_14, rd_14, kd_15, an_15, rd_15, kd_16, an_16, rd_16, kd_17, an_17, rd_17, kd_19, fr_19_3, kd_23, an_23, rd_23, kd_25, an_25, rd_25, kd_26, an_26, rd_26, kd_27, fr_27_0, kd_28, an_28, rd_28, kd_29, an_29, kd_38, an_38, rd_38, kd_39, fr_39_0, fr_39_1, fr_39_2, fr_39_3, fr_39_4, fr_39_6, fr_39_12, fr_39_13, fr_39_14, fr_39_15, kd_40, an_40, rd_40, kd_41, an_41, rd_41, kd_42, an_42, rd_42, kd_43, an_43, rd_43, kd_44, an_44, rd_44, kd_45, an_45, rd_45, kd_46, an_46, rd_46, kd_47, an_47, rd_47, kd_48, an_48, kd_49, an_49, z_0, z_1, z_2, z_3, z_4, zc_0, zc_1, zc_2, zc_3, zc_4, tX3_isPerson, tX4_isPerson, tX3_isKind, tX4_isKind, tX3_isEnd, tX4_isEnd, tX3_isFeeling, tX3_isWithin, tX4_in, tX3_finding0, tX3_finding1, tX3_finding2, tX3_finding3, tX3_finding4, tX3_finding5, tX3_finding6, tX4_finds0, tX4_finds1, tX4_finds2, tX4_finds3, tX4_finds4, tX4_finds5, tX4_finds6, e1, e2, one_ne0, up_n, up_s, Nat.reduceLeDiff, Nat.reduceEqDiff, Nat.reduceAdd, if_true, if_false, b2i_T, b2i_F, and_self, and_false, false_and, true_and, and_true, true_or, or_true, false_or, or_false, or_self, not_true_eq_false, not_false_eq_true, eq_self, List.cons_append, List.nil_append, show ((1 : Int32) = 0) = False from eq_false (by decide), show ((1 : Int32) = 2) = False from eq_false (by decide), show ((1 : Int32) = 3) = False from eq_false (by decide), t1, t2]
    exact okQ.same h
  by_cases w2 : v = 2
  · subst w2
    simp only [eX3_count_0, eX3_count_1, eX3_count_32, eX3_count_33, eX3_count_36, eX3_count_39, eX3_count_40, eX3_count_41, eX3_count_44, eX3_count_47, eX3_count_48, eX3_count_49, eX3_count_52, eX3_count_53, eX3_count_56, eX3_count_59, eX3_count_60, eX3_count_63, eX3_count_64, eX3_count_67, eX3_count_70, eX3_count_71, eX3_count_72, eX3_count_73, eX3_count_76, eX3_count_79, eX3_count_80, eX3_count_81, eX3_count_82, eX3_count_85, eX3_count_88, eX3_count_89, eX3_count_90, eX3_count_91, eX3_count_92, eX3_count_93, eX3_count_95, eX3_count_98, eX4_count_0, eX4_count_1, eX4_count_32, eX4_count_33, eX4_count_36, eX4_count_37, eX4_count_38, eX4_count_39, eX4_count_40, eX4_count_43, eX4_count_44, eX4_count_45, eX4_count_48, eX4_count_51, eX4_count_52, eX4_count_53, eX4_count_56, eX4_count_57, eX4_count_58, eX4_count_59, eX4_count_62, eX4_count_63, eX4_count_64, eX4_count_65, eX4_count_66, eX4_count_67, eX4_count_69, eX4_count_72, hm, kd_0, fr_0_0, fr_0_1, fr_0_2, fr_0_3, fr_0_4, fr_0_5, fr_0_6, fr_0_7, fr_0_8, kd_1, fr_1_0, fr_1_1, fr_1_2, fr_1_3, fr_1_4, kd_2, an_2, rd_2, kd_3, an_3, rd_3, kd_4, an_4, rd_4, kd_5, an_5, rd_5, kd_6, an_6, rd_6, kd_7, kd_13, fr_13_0, fr_13_1, fr_13_2, fr_13_3, fr_13_4, kd_14, an_14, rd_14, kd_15, an_15, rd_15, kd_16, an_16, rd_16, kd_17, an_17, rd_17, kd_19, fr_19_3, kd_23, an_23, rd_23, kd_25, an_25, rd_25, kd_26, an_26, rd_26, kd_27, fr_27_0, kd_28, an_28, rd_28, kd_29, an_29, kd_38, an_38, rd_38, kd_39, fr_39_0, fr_39_1, fr_39_2, fr_39_3, fr_39_4, fr_39_6, fr_39_12, fr_39_13, fr_39_14, fr_39_15, kd_40, an_40, rd_40, kd_41, an_41, rd_41, kd_42, an_42, rd_42, kd_43, an_43, rd_43, kd_44, an_44, rd_44, kd_45, an_45, rd_45, kd_46, an_46, rd_46, kd_47, an_47, rd_47, kd_48, an_48, kd_49, an_49, z_0, z_1, z_2, z_3, z_4, zc_0, zc_1, zc_2, zc_3, zc_4, tX3_isPerson, tX4_isPerson, tX3_isKind, tX4_isKind, tX3_isEnd, tX4_isEnd, tX3_isFeeling, tX3_isWithin, tX4_in, tX3_finding0, tX3_finding1, tX3_finding2, tX3_finding3, tX3_finding4, tX3_finding5, tX3_finding6, tX4_finds0, tX4_finds1, tX4_finds2, tX4_finds3, tX4_finds4, tX4_finds5, tX4_finds6, e1, e2, one_ne0, up_n, up_s, Nat.reduceLeDiff, Nat.reduceEqDiff, Nat.reduceAdd, if_true, if_false, b2i_T, b2i_F, and_self, and_false, false_and, true_and, and_true, true_or, or_true, false_or, or_false, or_self, not_true_eq_false, not_false_eq_true, eq_self, List.cons_append, List.nil_append, show ((2 : Int32) = 0) = False from eq_false (by decide), show ((2 : Int32) = 1) = False from eq_false (by decide), show ((2 : Int32) = 3) = False from eq_false (by decide), x3, s0, s1, c0]
    rw [y4, sit_or n hn]
    simp only [eX3_count_0, eX3_count_1, eX3_count_32, eX3_count_33, eX3_count_36, eX3_count_39, eX3_count_40, eX3_count_41, eX3_count_44, eX3_count_47, eX3_count_48, eX3_count_49, eX3_count_52, eX3_count_53, eX3_count_56, eX3_count_59, eX3_count_60, eX3_count_63, eX3_count_64, eX3_count_67, eX3_count_70, eX3_count_71, eX3_count_72, eX3_count_73, eX3_count_76, eX3_count_79, eX3_count_80, eX3_count_81, eX3_count_82, eX3_count_85, eX3_count_88, eX3_count_89, eX3_count_90, eX3_count_91, eX3_count_92, eX3_count_93, eX3_count_95, eX3_count_98, eX4_count_0, eX4_count_1, eX4_count_32, eX4_count_33, eX4_count_36, eX4_count_37, eX4_count_38, eX4_count_39, eX4_count_40, eX4_count_43, eX4_count_44, eX4_count_45, eX4_count_48, eX4_count_51, eX4_count_52, eX4_count_53, eX4_count_56, eX4_count_57, eX4_count_58, eX4_count_59, eX4_count_62, eX4_count_63, eX4_count_64, eX4_count_65, eX4_count_66, eX4_count_67, eX4_count_69, eX4_count_72, hm, kd_0, fr_0_0, fr_0_1, fr_0_2, fr_0_3, fr_0_4, fr_0_5, fr_0_6, fr_0_7, fr_0_8, kd_1, fr_1_0, fr_1_1, fr_1_2, fr_1_3, fr_1_4, kd_2, an_2, rd_2, kd_3, an_3, rd_3, kd_4, an_4, rd_4, kd_5, an_5, rd_5, kd_6, an_6, rd_6, kd_7, kd_13, fr_13_0, fr_13_1, fr_13_2, fr_13_3, fr_13_4, kd_14, an_14, rd_14, kd_15, an_15, rd_15, kd_16, an_16, rd_16, kd_17, an_17, rd_17, kd_19, fr_19_3, kd_23, an_23, rd_23, kd_25, an_25, rd_25, kd_26, an_26, rd_26, kd_27, fr_27_0, kd_28, an_28, rd_28, kd_29, an_29, kd_38, an_38, rd_38, kd_39, fr_39_0, fr_39_1, fr_39_2, fr_39_3, fr_39_4, fr_39_6, fr_39_12, fr_39_13, fr_39_14, fr_39_15, kd_40, an_40, rd_40, kd_41, an_41, rd_41, kd_42, an_42, rd_42, kd_43, an_43, rd_43, kd_44, an_44, rd_44, kd_45, an_45, rd_45, kd_46, an_46, rd_46, kd_47, an_47, rd_47, kd_48, an_48, kd_49, an_49, z_0, z_1, z_2, z_3, z_4, zc_0, zc_1, zc_2, zc_3, zc_4, tX3_isPerson, tX4_isPerson, tX3_isKind, tX4_isKind, tX3_isEnd, tX4_isEnd, tX3_isFeeling, tX3_isWithin, tX4_in, tX3_finding0, tX3_finding1, tX3_finding2, tX3_finding3, tX3_finding4, tX3_finding5, tX3_finding6, tX4_finds0, tX4_finds1, tX4_finds2, tX4_finds3, tX4_finds4, tX4_finds5, tX4_finds6, e1, e2, one_ne0, up_n, up_s, Nat.reduceLeDiff, Nat.reduceEqDiff, Nat.reduceAdd, if_true, if_false, b2i_T, b2i_F, and_self, and_false, false_and, true_and, and_true, true_or, or_true, false_or, or_false, or_self, not_true_eq_false, not_false_eq_true, eq_self, List.cons_append, List.nil_append, c1, pcn_bs _ n hn, bn_or, nI_add]
    exact okQ.same h
  by_cases w3 : v = 3
  · subst w3
    simp only [eX3_count_0, eX3_count_1, eX3_count_32, eX3_count_33, eX3_count_36, eX3_count_39, eX3_count_40, eX3_count_41, eX3_count_44, eX3_count_47, eX3_count_48, eX3_count_49, eX3_count_52, eX3_count_53, eX3_count_56, eX3_count_59, eX3_count_60, eX3_count_63, eX3_count_64, eX3_count_67, eX3_count_70, eX3_count_71, eX3_count_72, eX3_count_73, eX3_count_76, eX3_count_79, eX3_count_80, eX3_count_81, eX3_count_82, eX3_count_85, eX3_count_88, eX3_count_89, eX3_count_90, eX3_count_91, eX3_count_92, eX3_count_93, eX3_count_95, eX3_count_98, eX4_count_0, eX4_count_1, eX4_count_32, eX4_count_33, eX4_count_36, eX4_count_37, eX4_count_38, eX4_count_39, eX4_count_40, eX4_count_43, eX4_count_44, eX4_count_45, eX4_count_48, eX4_count_51, eX4_count_52, eX4_count_53, eX4_count_56, eX4_count_57, eX4_count_58, eX4_count_59, eX4_count_62, eX4_count_63, eX4_count_64, eX4_count_65, eX4_count_66, eX4_count_67, eX4_count_69, eX4_count_72, hm, kd_0, fr_0_0, fr_0_1, fr_0_2, fr_0_3, fr_0_4, fr_0_5, fr_0_6, fr_0_7, fr_0_8, kd_1, fr_1_0, fr_1_1, fr_1_2, fr_1_3, fr_1_4, kd_2, an_2, rd_2, kd_3, an_3, rd_3, kd_4, an_4, rd_4, kd_5, an_5, rd_5, kd_6, an_6, rd_6, kd_7, kd_13, fr_13_0, fr_13_1, fr_13_2, fr_13_3, fr_13_4, kd_14, an_14, rd_14, kd_15, an_15, rd_15, kd_16, an_16, rd_16, kd_17, an_17, rd_17, kd_19, fr_19_3, kd_23, an_23, rd_23, kd_25, an_25, rd_25, kd_26, an_26, rd_26, kd_27, fr_27_0, kd_28, an_28, rd_28, kd_29, an_29, kd_38, an_38, rd_38, kd_39, fr_39_0, fr_39_1, fr_39_2, fr_39_3, fr_39_4, fr_39_6, fr_39_12, fr_39_13, fr_39_14, fr_39_15, kd_40, an_40, rd_40, kd_41, an_41, rd_41, kd_42, an_42, rd_42, kd_43, an_43, rd_43, kd_44, an_44, rd_44, kd_45, an_45, rd_45, kd_46, an_46, rd_46, kd_47, an_47, rd_47, kd_48, an_48, kd_49, an_49, z_0, z_1, z_2, z_3, z_4, zc_0, zc_1, zc_2, zc_3, zc_4, tX3_isPerson, tX4_isPerson, tX3_isKind, tX4_isKind, tX3_isEnd, tX4_isEnd, tX3_isFeeling, tX3_isWithin, tX4_in, tX3_finding0, tX3_finding1, tX3_finding2, tX3_finding3, tX3_finding4, tX3_finding5, tX3_finding6, tX4_finds0, tX4_finds1, tX4_finds2, tX4_finds3, tX4_finds4, tX4_finds5, tX4_finds6, e1, e2, one_ne0, up_n, up_s, Nat.reduceLeDiff, Nat.reduceEqDiff, Nat.reduceAdd, if_true, if_false, b2i_T, b2i_F, and_self, and_false, false_and, true_and, and_true, true_or, or_true, false_or, or_false, or_self, not_true_eq_false, not_false_eq_true, eq_self, List.cons_append, List.nil_append, show ((3 : Int32) = 0) = False from eq_false (by decide), show ((3 : Int32) = 1) = False from eq_false (by decide), show ((3 : Int32) = 2) = False from eq_false (by decide), x3, hu.1, hu.2.1]
    exact okQ.same h
  simp only [eX3_count_0, eX3_count_1, eX3_count_32, eX3_count_33, eX3_count_36, eX3_count_39, eX3_count_40, eX3_count_41, eX3_count_44, eX3_count_47, eX3_count_48, eX3_count_49, eX3_count_52, eX3_count_53, eX3_count_56, eX3_count_59, eX3_count_60, eX3_count_63, eX3_count_64, eX3_count_67, eX3_count_70, eX3_count_71, eX3_count_72, eX3_count_73, eX3_count_76, eX3_count_79, eX3_count_80, eX3_count_81, eX3_count_82, eX3_count_85, eX3_count_88, eX3_count_89, eX3_count_90, eX3_count_91, eX3_count_92, eX3_count_93, eX3_count_95, eX3_count_98, eX4_count_0, eX4_count_1, eX4_count_32, eX4_count_33, eX4_count_36, eX4_count_37, eX4_count_38, eX4_count_39, eX4_count_40, eX4_count_43, eX4_count_44, eX4_count_45, eX4_count_48, eX4_count_51, eX4_count_52, eX4_count_53, eX4_count_56, eX4_count_57, eX4_count_58, eX4_count_59, eX4_count_62, eX4_count_63, eX4_count_64, eX4_count_65, eX4_count_66, eX4_count_67, eX4_count_69, eX4_count_72, hm, kd_0, fr_0_0, fr_0_1, fr_0_2, fr_0_3, fr_0_4, fr_0_5, fr_0_6, fr_0_7, fr_0_8, kd_1, fr_1_0, fr_1_1, fr_1_2, fr_1_3, fr_1_4, kd_2, an_2, rd_2, kd_3, an_3, rd_3, kd_4, an_4, rd_4, kd_5, an_5, rd_5, kd_6, an_6, rd_6, kd_7, kd_13, fr_13_0, fr_13_1, fr_13_2, fr_13_3, fr_13_4, kd_14, an_14, rd_14, kd_15, an_15, rd_15, kd_16, an_16, rd_16, kd_17, an_17, rd_17, kd_19, fr_19_3, kd_23, an_23, rd_23, kd_25, an_25, rd_25, kd_26, an_26, rd_26, kd_27, fr_27_0, kd_28, an_28, rd_28, kd_29, an_29, kd_38, an_38, rd_38, kd_39, fr_39_0, fr_39_1, fr_39_2, fr_39_3, fr_39_4, fr_39_6, fr_39_12, fr_39_13, fr_39_14, fr_39_15, kd_40, an_40, rd_40, kd_41, an_41, rd_41, kd_42, an_42, rd_42, kd_43, an_43, rd_43, kd_44, an_44, rd_44, kd_45, an_45, rd_45, kd_46, an_46, rd_46, kd_47, an_47, rd_47, kd_48, an_48, kd_49, an_49, z_0, z_1, z_2, z_3, z_4, zc_0, zc_1, zc_2, zc_3, zc_4, tX3_isPerson, tX4_isPerson, tX3_isKind, tX4_isKind, tX3_isEnd, tX4_isEnd, tX3_isFeeling, tX3_isWithin, tX4_in, tX3_finding0, tX3_finding1, tX3_finding2, tX3_finding3, tX3_finding4, tX3_finding5, tX3_finding6, tX4_finds0, tX4_finds1, tX4_finds2, tX4_finds3, tX4_finds4, tX4_finds5, tX4_finds6, e1, e2, one_ne0, up_n, up_s, Nat.reduceLeDiff, Nat.reduceEqDiff, Nat.reduceAdd, if_true, if_false, b2i_T, b2i_F, and_self, and_false, false_and, true_and, and_true, true_or, or_true, false_or, or_false, or_self, not_true_eq_false, not_false_eq_true, eq_self, List.cons_append, List.nil_append, w0, w1, w2, w3]
  exact okQ.find h 0

end OP
