/-! THE CALLS, ONE BY ONE: kind -/
theorem ti_add {x y : Int32} (h1 : -2147483648 ≤ x.toInt + y.toInt) (h2 : x.toInt + y.toInt < 2147483648) : (x + y).toInt = x.toInt + y.toInt := by
  rw [Int32.toInt_add]
  exact Int.bmod_eq_of_le (by omega) (by omega)
theorem ti_sub {x y : Int32} (h1 : -2147483648 ≤ x.toInt - y.toInt) (h2 : x.toInt - y.toInt < 2147483648) : (x - y).toInt = x.toInt - y.toInt := by
  rw [Int32.toInt_sub]
  exact Int.bmod_eq_of_le (by omega) (by omega)
theorem ti_mul {x y : Int32} (h1 : -2147483648 ≤ x.toInt * y.toInt) (h2 : x.toInt * y.toInt < 2147483648) : (x * y).toInt = x.toInt * y.toInt := by
  rw [Int32.toInt_mul]
  exact Int.bmod_eq_of_le (by omega) (by omega)
theorem ti_2 : (2 : Int32).toInt = 2 := by decide
theorem ti_3 : (3 : Int32).toInt = 3 := by decide
theorem heart_b {k mn : Int32} {g r : Nat} (hg : g < 100) (hr : r < 100) : -201 ≤ (sp_heart k (nI g) (nI r) mn).toInt ∧ (sp_heart k (nI g) (nI r) mn).toInt ≤ 201 := by
  have e := sb_cl hg hr
  have e2 : nI r / 2 = nI (r / 2) := pk_div (d := 2) (by omega) (by omega) (by omega)
  have e3 : (nI (r / 2)).toInt = ((r / 2 : Nat) : Int) := nI_toInt (by omega)
  have e4 : (nI g - nI r - nI (r / 2)).toInt = (g : Int) - r - ((r / 2 : Nat) : Int) := by
    rw [ti_sub (by rw [e, e3]; omega) (by rw [e, e3]; omega), e, e3]
  have e5 : (2 * (nI g - nI r)).toInt = 2 * ((g : Int) - r) := by
    rw [ti_mul (by rw [e, ti_2]; omega) (by rw [e, ti_2]; omega), e, ti_2]
  have e6 : (2 * (nI g - nI r) - 3).toInt = 2 * ((g : Int) - r) - 3 := by
    rw [ti_sub (by rw [e5, ti_3]; omega) (by rw [e5, ti_3]; omega), e5, ti_3]
  have e7 : -100 ≤ ((nI g - nI r) / 2).toInt ∧ ((nI g - nI r) / 2).toInt ≤ 100 := by
    have : (Int.tdiv ((g : Int) - r) 2).natAbs = ((g : Int) - r).natAbs / 2 := Int.natAbs_tdiv _ _
    have h1 : -100 ≤ Int.tdiv ((g : Int) - r) 2 ∧ Int.tdiv ((g : Int) - r) 2 ≤ 100 := by
      omega
    rw [Int32.toInt_div, e, ti_2]
    rw [Int.bmod_eq_of_le (by omega) (by omega)]
    exact h1
  unfold sp_heart
  rw [e2]
  repeat' split
  · rw [e4]; omega
  · rw [e5]; omega
  · omega
  · rw [e6]; omega
  · rw [e4]; omega
  · exact ⟨by decide, by decide⟩
  · rw [e]; omega
theorem load_b {K Gl So Pl : Nat → Int32} {mn e : Int32} {hh c : Nat} (hc : hh ≤ c) (hc2 : c ≤ 600) : ∀ n, n ≤ 8 → (∀ p, p < n → r_P (K p) (Gl p) (So p) (Pl p)) → -1200 - 201 * (n : Int) ≤ (sp_load K Gl So Pl mn e (nI hh) n).toInt ∧ (sp_load K Gl So Pl mn e (nI hh) n).toInt ≤ 201 * n
  | 0, _, _ => by
    unfold sp_load
    have e1 : (nI hh).toInt = (hh : Int) := nI_toInt (by omega)
    have e2 : (-2 : Int32).toInt = -2 := by decide
    rw [ti_mul (by rw [e1, e2]; omega) (by rw [e1, e2]; omega), e1, e2]
    omega
  | n + 1, hn, hp => by
    have ih := load_b (mn := mn) (e := e) hc hc2 n (by omega) (fun p h => hp p (by omega))
    obtain ⟨-, ⟨g, hg, eg⟩, ⟨r, hr, er⟩, -⟩ := hp n (by omega)
    have hb := heart_b (k := K n) (mn := mn) hg hr
    unfold sp_load
    split
    · rw [eg, er, ti_add (by omega) (by omega)]; omega
    · omega
theorem tilt_b {c n : Nat} {ob K Gl So Pl Hu s : Nat → Int32} (h : r_B c n ob K Gl So Pl Hu s) (hc : c ≤ 600) : -9000 ≤ (sm_tilt s n).toInt ∧ (sm_tilt s n).toInt ≤ 9000 := by
  rw [← h.tilt]
  obtain ⟨⟨h1, -, -⟩, -, ⟨-, -, ⟨a, ha, ea⟩, b, hb, eb⟩, h5⟩ := h
  unfold sp_tilt
  split
  · have z0 := load_b (mn := ob 6) (e := 0) ha hc n h1 (fun p hp => (h5 p hp).1)
    have z1 := load_b (mn := ob 6) (e := 1) hb hc n h1 (fun p hp => (h5 p hp).1)
    rw [ea, eb, ti_add (by omega) (by omega)]
    omega
  · exact ⟨by decide, by decide⟩
theorem abs_b {x : Int32} (h : -9000 ≤ x.toInt ∧ x.toInt ≤ 9000) : sp_abs x < 10000 := by
  rw [Int32.lt_iff_toInt_lt, show (10000 : Int32).toInt = 10000 from by decide]
  unfold sp_abs
  have e0 : (0 : Int32).toInt = 0 := by decide
  split
  · omega
  · rw [ti_sub (by rw [e0]; omega) (by rw [e0]; omega), e0]; omega
theorem ud_ud {f : Nat → Int32} {k : Nat} {v w : Int32} : upd (upd f k v) k w = upd f k w := by
  funext q
  by_cases h : q = k
  · subst h; rw [ud_s, ud_s]
  · rw [ud_n h, ud_n h, ud_n h]
theorem ud_id {f : Nat → Int32} {k : Nat} : upd f k (f k) = f := by
  funext q
  by_cases h : q = k
  · subst h; rw [ud_s]
  · rw [ud_n h]
theorem rB.setK {c n b p : Nat} {A : sx_A} {s : Nat → Int32} {v : Int32} (h : rB c n A b s) (hp : p < n) (hv : ∃ i, i < 6 ∧ v = nI i) : rB c n (va_up A (b + 1) (upd (A (b + 1)) p v)) b (upd s (5 + 4 * p) v) := by
  have z := r_B.setK h hp hv
  unfold rB
  rw [up_n (by omega), up_s, up_n (by omega), up_n (by omega), up_n (by omega), up_n (by omega)]
  exact z
/-- the first least of the first k + 1 -/
def kf (f : Nat → Int32) : Nat → Nat × Int32
  | 0 => (0, f 0)
  | k + 1 => if f (k + 1) < (kf f k).2 then (k + 1, f (k + 1)) else kf f k
theorem kf_le (f : Nat → Int32) : ∀ k, (kf f k).1 ≤ k
  | 0 => by unfold kf; exact Nat.le_refl 0
  | k + 1 => by
    have := kf_le f k
    unfold kf
    split
    · exact Nat.le_refl _
    · omega
theorem kf_t {f : Nat → Int32} {k : Nat} (h : f (k + 1) < (kf f k).2) : kf f (k + 1) = (k + 1, f (k + 1)) := by rw [kf, if_pos h]
theorem kf_f {f : Nat → Int32} {k : Nat} (h : ¬ f (k + 1) < (kf f k).2) : kf f (k + 1) = kf f k := by rw [kf, if_neg h]
def kfa (s : Nat → Int32) (p n : Nat) : Nat → Int32 := fun k => sp_abs (sm_tilt (upd s (5 + 4 * p) (nI k)) n)

section OP
variable {G : sx_G} {c n : Nat} {A : sx_A} {Z : sx_Z} {Q : List Value → sx_A → sx_Z → Prop}

theorem lX3_kind {p : Nat} {s : Nat → Int32} (hp : p < n) (hn : n ≤ 8) : ∀ (k i : Nat), i + 1 + k = 6 → ∀ (B : sx_A) (x : Int32) (l5 : Option Value), off 13 A B → rB c n B 13 (upd s (5 + 4 * p) x) → (∀ A2, off 13 A A2 → Q [.int (nI (kf (kfa s p n) 5).1)] A2 Z) → sx_ev G mX3_kind 33 [some (.ref 0), some (.int (nI p)), some (.int (nI (kf (kfa s p n) i).1)), some (.int (kf (kfa s p n) i).2), some (.int (nI (i + 1))), l5] [] B Z Q := by
  have hp8 : p < 8 := by omega
  have h7 : ¬ nI p < 0 := nI_pos (by omega)
  have h8 : ¬ 8 ≤ p := by omega
  have h9 : (nI p).toNatClampNeg = p := nI_clamp (by omega)
  intro k
  induction k with
  | zero =>
    intro i hi B x l5 ho hT hQ
    obtain rfl : i = 5 := by omega
    rw [eX3_kind_33]
    have h1 : (6 : Int32) ≤ nI (5 + 1) := by decide
    simp only [eX3_kind_0, eX3_kind_1, eX3_kind_2, eX3_kind_5, eX3_kind_8, eX3_kind_9, eX3_kind_11, eX3_kind_14, eX3_kind_15, eX3_kind_16, eX3_kind_19, eX3_kind_20, eX3_kind_23, eX3_kind_26, eX3_kind_27, eX3_kind_28, eX3_kind_29, eX3_kind_30, eX3_kind_31, eX3_kind_35, eX3_kind_37, eX3_kind_40, eX3_kind_41, eX3_kind_44, eX3_kind_47, eX3_kind_48, eX3_kind_50, eX3_kind_51, eX3_kind_52, eX3_kind_55, eX3_kind_58, eX3_kind_61, eX3_kind_63, eX3_kind_64, eX3_kind_67, eX3_kind_69, eX3_kind_70, eX3_kind_73, eX3_kind_75, eX3_kind_76, eX3_kind_78, eX3_kind_79, eX3_kind_82, eX3_kind_85, eX3_kind_86, kd_0, fr_0_0, fr_0_1, fr_0_2, fr_0_3, fr_0_4, fr_0_5, fr_0_6, fr_0_7, fr_0_8, kd_1, fr_1_0, fr_1_1, fr_1_2, fr_1_3, fr_1_4, kd_2, an_2, rd_2, kd_3, an_3, rd_3, kd_4, an_4, rd_4, kd_5, an_5, rd_5, kd_6, an_6, rd_6, kd_7, kd_13, fr_13_0, fr_13_1, fr_13_2, fr_13_3, fr_13_4, kd_14, an_14, rd_14, kd_15, an_15, rd_15, kd_16, an_16, rd_16, kd_17, an_17, rd_17, kd_19, fr_19_3, kd_23, an_23, rd_23, kd_25, an_25, rd_25, kd_26, an_26, rd_26, kd_27, fr_27_0, kd_28, an_28, rd_28, kd_29, an_29, kd_38, an_38, rd_38, h1, Nat.reduceLeDiff, Nat.reduceEqDiff, Nat.reduceAdd, if_true, if_false, b2i_T, b2i_F, and_self, and_false, false_and, true_and, and_true, true_or, or_true, false_or, or_false, or_self, not_true_eq_false, not_false_eq_true, eq_self, List.cons_append, List.nil_append]
    exact hQ B ho
  | succ k ih =>
    intro i hi B x l5 ho hT hQ
    rw [eX3_kind_33]
    have h1 : ¬ (6 : Int32) ≤ nI (i + 1) := nI_ge (a := i + 1) (b := 6) (by omega) (by omega)
    have hT2 := rB.setK (v := nI (i + 1)) hT hp ⟨i + 1, by omega, rfl⟩
    have ho2 : off 13 A (va_up B (13 + 1) (upd (B (13 + 1)) p (nI (i + 1)))) := ho.tr (off_up (by omega))
    rw [show 13 + 1 = 14 from rfl] at hT2 ho2
    rw [ud_ud] at hT2
    have x3 := fun (Q : List Value → sx_A → sx_Z → Prop) => tX0_tiltNow (G := G) (A := va_up B 14 (upd (B 14) p (nI (i + 1)))) (Z := Z) (Q := Q) (b := 13) isB13 hn hT2.1.2.1
    have et : sx_tilt (va_up B 14 (upd (B 14) p (nI (i + 1)))) 13 n = sm_tilt (upd s (5 + 4 * p) (nI (i + 1))) n := hT2.tilt
    have ea : (if 0 ≤ sm_tilt (upd s (5 + 4 * p) (nI (i + 1))) n then sm_tilt (upd s (5 + 4 * p) (nI (i + 1))) n else 0 - sm_tilt (upd s (5 + 4 * p) (nI (i + 1))) n) = kfa s p n (i + 1) := rfl
    have h4 := fun l5 => ih (i + 1) (by omega) _ _ l5 ho2 hT2 hQ
    have h2 : ¬ nI (kf (kfa s p n) i).1 < 0 := nI_pos (by have := kf_le (kfa s p n) i; omega)
    by_cases hc : kfa s p n (i + 1) < (kf (kfa s p n) i).2
    · rw [kf_t hc, nI_succ (i + 1)] at h4
      have hc' : ¬ (kf (kfa s p n) i).2 ≤ kfa s p n (i + 1) := Int32.not_le.mpr hc
      simp only [eX3_kind_0, eX3_kind_1, eX3_kind_2, eX3_kind_5, eX3_kind_8, eX3_kind_9, eX3_kind_11, eX3_kind_14, eX3_kind_15, eX3_kind_16, eX3_kind_19, eX3_kind_20, eX3_kind_23, eX3_kind_26, eX3_kind_27, eX3_kind_28, eX3_kind_29, eX3_kind_30, eX3_kind_31, eX3_kind_35, eX3_kind_37, eX3_kind_40, eX3_kind_41, eX3_kind_44, eX3_kind_47, eX3_kind_48, eX3_kind_50, eX3_kind_51, eX3_kind_52, eX3_kind_55, eX3_kind_58, eX3_kind_61, eX3_kind_63, eX3_kind_64, eX3_kind_67, eX3_kind_69, eX3_kind_70, eX3_kind_73, eX3_kind_75, eX3_kind_76, eX3_kind_78, eX3_kind_79, eX3_kind_82, eX3_kind_85, eX3_kind_86, kd_0, fr_0_0, fr_0_1, fr_0_2, fr_0_3, fr_0_4, fr_0_5, fr_0_6, fr_0_7, fr_0_8, kd_1, fr_1_0, fr_1_1, fr_1_2, fr_1_3, fr_1_4, kd_2, an_2, rd_2, kd_3, an_3, rd_3, kd_4, an_4, rd_4, kd_5, an_5, rd_5, kd_6, an_6, rd_6, kd_7, kd_13, fr_13_0, fr_13_1, fr_13_2, fr_13_3, fr_13_4, kd_14, an_14, rd_14, kd_15, an_15, rd_15, kd_16, an_16, rd_16, kd_17, an_17, rd_17, kd_19, fr_19_3, kd_23, an_23, rd_23, kd_25, an_25, rd_25, kd_26, an_26, rd_26, kd_27, fr_27_0, kd_28, an_28, rd_28, kd_29, an_29, kd_38, an_38, rd_38, h1, h2, h7, h8, h9, x3, et, ea, hc', Nat.reduceLeDiff, Nat.reduceEqDiff, Nat.reduceAdd, if_true, if_false, b2i_T, b2i_F, and_self, and_false, false_and, true_and, and_true, true_or, or_true, false_or, or_false, or_self, not_true_eq_false, not_false_eq_true, eq_self, List.cons_append, List.nil_append]
      exact h4 _
    · rw [kf_f hc, nI_succ (i + 1)] at h4
      have hc' : (kf (kfa s p n) i).2 ≤ kfa s p n (i + 1) := Int32.not_lt.mp hc
      simp only [eX3_kind_0, eX3_kind_1, eX3_kind_2, eX3_kind_5, eX3_kind_8, eX3_kind_9, eX3_kind_11, eX3_kind_14, eX3_kind_15, eX3_kind_16, eX3_kind_19, eX3_kind_20, eX3_kind_23, eX3_kind_26, eX3_kind_27, eX3_kind_28, eX3_kind_29, eX3_kind_30, eX3_kind_31, eX3_kind_35, eX3_kind_37, eX3_kind_40, eX3_kind_41, eX3_kind_44, eX3_kind_47, eX3_kind_48, eX3_kind_50, eX3_kind_51, eX3_kind_52, eX3_kind_55, eX3_kind_58, eX3_kind_61, eX3_kind_63, eX3_kind_64, eX3_kind_67, eX3_kind_69, eX3_kind_70, eX3_kind_73, eX3_kind_75, eX3_kind_76, eX3_kind_78, eX3_kind_79, eX3_kind_82, eX3_kind_85, eX3_kind_86, kd_0, fr_0_0, fr_0_1, fr_0_2, fr_0_3, fr_0_4, fr_0_5, fr_0_6, fr_0_7, fr_0_8, kd_1, fr_1_0, fr_1_1, fr_1_2, fr_1_3, fr_1_4, kd_2, an_2, rd_2, kd_3, an_3, rd_3, kd_4, an_4, rd_4, kd_5, an_5, rd_5, kd_6, an_6, rd_6, kd_7, kd_13, fr_13_0, fr_13_1, fr_13_2, fr_13_3, fr_13_4, kd_14, an_14, rd_14, kd_15, an_15, rd_15, kd_16, an_16, rd_16, kd_17, an_17, rd_17, kd_19, fr_19_3, kd_23, an_23, rd_23, kd_25, an_25, rd_25, kd_26, an_26, rd_26, kd_27, fr_27_0, kd_28, an_28, rd_28, kd_29, an_29, kd_38, an_38, rd_38, h1, h2, h7, h8, h9, x3, et, ea, hc', Nat.reduceLeDiff, Nat.reduceEqDiff, Nat.reduceAdd, if_true, if_false, b2i_T, b2i_F, and_self, and_false, false_and, true_and, and_true, true_or, or_true, false_or, or_false, or_self, not_true_eq_false, not_false_eq_true, eq_self, List.cons_append, List.nil_append]
      exact h4 _
theorem lX4_kind {p : Nat} {s : Nat → Int32} (hp : p < 8) (hn : n ≤ 8) (h0 : s 0 = nI n) {C : sx_A} : ∀ (k i : Nat), i + 1 + k = 6 → ∀ (x : Int32) (l6 : Option Value), (sx_ev G mX4_kind 32 [some (.ref 39), some (.int (nI p)), some (.int (s (5 + 4 * p))), some (.int (nI (kf (kfa s p n) i).1)), some (.int (kf (kfa s p n) i).2), some (.int (nI (i + 1))), l6] [] (va_up C 40 (upd s (5 + 4 * p) x)) Z Q ↔ Q [.int (nI (kf (kfa s p n) 5).1)] (va_up C 40 s) Z) := by
  have j1 : (5 : Int32) + 4 * nI p + 0 = nI (5 + 4 * p) := ix_4 (w := 0)
  have j2 : ¬ nI (5 + 4 * p) < 0 := nI_pos (by omega)
  have j5 : ¬ 37 ≤ 5 + 4 * p := by omega
  have j3 : (nI (5 + 4 * p)).toNatClampNeg = 5 + 4 * p := nI_clamp (by omega)
  intro k
  induction k with
  | zero =>
    intro i hi x l6
    obtain rfl : i = 5 := by omega
    rw [eX4_kind_32]
    have h1 : (5 : Int32) < nI (5 + 1) := by decide
    simp only [eX4_kind_0, eX4_kind_1, eX4_kind_2, eX4_kind_5, eX4_kind_8, eX4_kind_9, eX4_kind_11, eX4_kind_14, eX4_kind_15, eX4_kind_16, eX4_kind_17, eX4_kind_18, eX4_kind_21, eX4_kind_22, eX4_kind_23, eX4_kind_24, eX4_kind_27, eX4_kind_29, eX4_kind_30, eX4_kind_34, eX4_kind_35, eX4_kind_38, eX4_kind_39, eX4_kind_42, eX4_kind_43, eX4_kind_44, eX4_kind_47, eX4_kind_49, eX4_kind_50, eX4_kind_51, eX4_kind_54, eX4_kind_56, eX4_kind_58, eX4_kind_60, eX4_kind_63, eX4_kind_65, eX4_kind_68, eX4_kind_69, eX4_kind_70, eX4_kind_72, eX4_kind_74, eX4_kind_77, eX4_kind_79, eX4_kind_82, eX4_kind_84, eX4_kind_86, eX4_kind_89, eX4_kind_92, eX4_kind_93, eX4_kind_96, eX4_kind_97, eX4_kind_98, eX4_kind_101, eX4_kind_102, eX4_kind_103, eX4_kind_104, kd_39, fr_39_0, fr_39_1, fr_39_2, fr_39_3, fr_39_4, fr_39_6, fr_39_12, fr_39_13, fr_39_14, fr_39_15, kd_40, an_40, rd_40, kd_41, an_41, rd_41, kd_42, an_42, rd_42, kd_43, an_43, rd_43, kd_44, an_44, rd_44, kd_45, an_45, rd_45, kd_46, an_46, rd_46, kd_47, an_47, rd_47, kd_48, an_48, kd_49, an_49, tX4_spotOf, j1, j2, j3, j5, h1, up_s, up_up, ud_ud, ud_id, Nat.reduceLeDiff, Nat.reduceEqDiff, Nat.reduceAdd, if_true, if_false, b2i_T, b2i_F, and_self, and_false, false_and, true_and, and_true, true_or, or_true, false_or, or_false, or_self, not_true_eq_false, not_false_eq_true, eq_self, List.cons_append, List.nil_append]
  | succ k ih =>
    intro i hi x l6
    rw [eX4_kind_32]
    have h1 : ¬ (5 : Int32) < nI (i + 1) := Int32.not_lt.mpr (nI_le (a := i + 1) (b := 5) (by omega) (by omega))
    have y1 := fun (Q : List Value → sx_A → sx_Z → Prop) => tX4_far (G := G) (A := va_up C 40 (upd s (5 + 4 * p) (nI (i + 1)))) (Z := Z) (Q := Q) hn (by rw [up_s, ud_n (by omega)]; exact h0)
    have ea : (if 0 ≤ sm_tilt (upd s (5 + 4 * p) (nI (i + 1))) n then sm_tilt (upd s (5 + 4 * p) (nI (i + 1))) n else - sm_tilt (upd s (5 + 4 * p) (nI (i + 1))) n) = kfa s p n (i + 1) := sp_abs_m
    simp only [up_s, ea] at y1
    have h4 := fun l6 => ih (i + 1) (by omega) (nI (i + 1)) l6
    by_cases hc : kfa s p n (i + 1) < (kf (kfa s p n) i).2
    · rw [kf_t hc, nI_succ (i + 1)] at h4
      have hc' : ¬ (kf (kfa s p n) i).2 ≤ kfa s p n (i + 1) := Int32.not_le.mpr hc
      simp only [eX4_kind_0, eX4_kind_1, eX4_kind_2, eX4_kind_5, eX4_kind_8, eX4_kind_9, eX4_kind_11, eX4_kind_14, eX4_kind_15, eX4_kind_16, eX4_kind_17, eX4_kind_18, eX4_kind_21, eX4_kind_22, eX4_kind_23, eX4_kind_24, eX4_kind_27, eX4_kind_29, eX4_kind_30, eX4_kind_34, eX4_kind_35, eX4_kind_38, eX4_kind_39, eX4_kind_42, eX4_kind_43, eX4_kind_44, eX4_kind_47, eX4_kind_49, eX4_kind_50, eX4_kind_51, eX4_kind_54, eX4_kind_56, eX4_kind_58, eX4_kind_60, eX4_kind_63, eX4_kind_65, eX4_kind_68, eX4_kind_69, eX4_kind_70, eX4_kind_72, eX4_kind_74, eX4_kind_77, eX4_kind_79, eX4_kind_82, eX4_kind_84, eX4_kind_86, eX4_kind_89, eX4_kind_92, eX4_kind_93, eX4_kind_96, eX4_kind_97, eX4_kind_98, eX4_kind_101, eX4_kind_102, eX4_kind_103, eX4_kind_104, kd_39, fr_39_0, fr_39_1, fr_39_2, fr_39_3, fr_39_4, fr_39_6, fr_39_12, fr_39_13, fr_39_14, fr_39_15, kd_40, an_40, rd_40, kd_41, an_41, rd_41, kd_42, an_42, rd_42, kd_43, an_43, rd_43, kd_44, an_44, rd_44, kd_45, an_45, rd_45, kd_46, an_46, rd_46, kd_47, an_47, rd_47, kd_48, an_48, kd_49, an_49, tX4_spotOf, j1, j2, j3, j5, h1, up_s, up_up, ud_ud, y1, hc', Nat.reduceLeDiff, Nat.reduceEqDiff, Nat.reduceAdd, if_true, if_false, b2i_T, b2i_F, and_self, and_false, false_and, true_and, and_true, true_or, or_true, false_or, or_false, or_self, not_true_eq_false, not_false_eq_true, eq_self, List.cons_append, List.nil_append]
      exact h4 _
    · rw [kf_f hc, nI_succ (i + 1)] at h4
      have hc' : (kf (kfa s p n) i).2 ≤ kfa s p n (i + 1) := Int32.not_lt.mp hc
      simp only [eX4_kind_0, eX4_kind_1, eX4_kind_2, eX4_kind_5, eX4_kind_8, eX4_kind_9, eX4_kind_11, eX4_kind_14, eX4_kind_15, eX4_kind_16, eX4_kind_17, eX4_kind_18, eX4_kind_21, eX4_kind_22, eX4_kind_23, eX4_kind_24, eX4_kind_27, eX4_kind_29, eX4_kind_30, eX4_kind_34, eX4_kind_35, eX4_kind_38, eX4_kind_39, eX4_kind_42, eX4_kind_43, eX4_kind_44, eX4_kind_47, eX4_kind_49, eX4_kind_50, eX4_kind_51, eX4_kind_54, eX4_kind_56, eX4_kind_58, eX4_kind_60, eX4_kind_63, eX4_kind_65, eX4_kind_68, eX4_kind_69, eX4_kind_70, eX4_kind_72, eX4_kind_74, eX4_kind_77, eX4_kind_79, eX4_kind_82, eX4_kind_84, eX4_kind_86, eX4_kind_89, eX4_kind_92, eX4_kind_93, eX4_kind_96, eX4_kind_97, eX4_kind_98, eX4_kind_101, eX4_kind_102, eX4_kind_103, eX4_kind_104, kd_39, fr_39_0, fr_39_1, fr_39_2, fr_39_3, fr_39_4, fr_39_6, fr_39_12, fr_39_13, fr_39_14, fr_39_15, kd_40, an_40, rd_40, kd_41, an_41, rd_41, kd_42, an_42, rd_42, kd_43, an_43, rd_43, kd_44, an_44, rd_44, kd_45, an_45, rd_45, kd_46, an_46, rd_46, kd_47, an_47, rd_47, kd_48, an_48, kd_49, an_49, tX4_spotOf, j1, j2, j3, j5, h1, up_s, up_up, ud_ud, y1, hc', Nat.reduceLeDiff, Nat.reduceEqDiff, Nat.reduceAdd, if_true, if_false, b2i_T, b2i_F, and_self, and_false, false_and, true_and, and_true, true_or, or_true, false_or, or_false, or_self, not_true_eq_false, not_false_eq_true, eq_self, List.cons_append, List.nil_append]
      exact h4 _

theorem op_kind {v : Int32} (hc : c ≤ 512) (h : Rel c A Z) : okOp G c A Z mX3_kind mX4_kind [.int v] := by
  obtain ⟨n, hB⟩ := h.1
  obtain ⟨hn, e1, e2⟩ := hB.1
  unfold okOp
  rw [sx_call_in (L := [some (.ref 0), some (.int v), none, none, none, none]) rfl rfl]
  have hm : ∀ (A : sx_A) (Q : List Value → sx_A → sx_Z → Prop), sx_call G mX4_kind [.ref 39, .int v] A Z Q ↔ sx_ev G mX4_kind 0 [some (.ref 39), some (.int v), none, none, none, none, none] [] A Z Q := fun A Q => sx_call_in rfl rfl
  by_cases h1 : 0 ≤ v ∧ v ≤ nI n - 1
  · obtain ⟨p, hp, rfl⟩ := i_pers hn h1
    have hp8 : p < 8 := by omega
    have h7 : ¬ nI p < 0 := nI_pos (by omega)
    have h8 : ¬ 8 ≤ p := by omega
    have h9 : (nI p).toNatClampNeg = p := nI_clamp (by omega)
    have hT := rB.bec (n := n) bo_13_1 hB
    have x1 := fun (Q : List Value → sx_A → sx_Z → Prop) => tX0_becomes (G := G) (A := A) (Z := Z) (Q := Q) isB13 bo_13_1 hn e1
    have ho : off 13 A (bm_bec A 13 1 n) := off_bec
    generalize bm_bec A 13 1 n = B at x1 hT ho
    have hT2 := rB.setK (v := nI 0) hT hp ⟨0, by omega, rfl⟩
    have ho2 : off 13 A (va_up B (13 + 1) (upd (B (13 + 1)) p (nI 0))) := ho.tr (off_up (by omega))
    rw [show 13 + 1 = 14 from rfl] at hT2 ho2
    have x3 := fun (Q : List Value → sx_A → sx_Z → Prop) => tX0_tiltNow (G := G) (A := va_up B 14 (upd (B 14) p (nI 0))) (Z := Z) (Q := Q) (b := 13) isB13 hn hT2.1.2.1
    have et : sx_tilt (va_up B 14 (upd (B 14) p (nI 0))) 13 n = sm_tilt (upd (A 40) (5 + 4 * p) (nI 0)) n := hT2.tilt
    have ea : (if 0 ≤ sm_tilt (upd (A 40) (5 + 4 * p) (nI 0)) n then sm_tilt (upd (A 40) (5 + 4 * p) (nI 0)) n else 0 - sm_tilt (upd (A 40) (5 + 4 * p) (nI 0)) n) = kfa (A 40) p n 0 := rfl
    have hb : kfa (A 40) p n 0 < 10000 := abs_b (tilt_b hT2 (by omega))
    have l3 := fun (l5 : Option Value) (Q : List Value → sx_A → sx_Z → Prop) (hQ : ∀ A2, off 13 A A2 → Q [.int (nI (kf (kfa (A 40) p n) 5).1)] A2 Z) => lX3_kind (G := G) (s := A 40) hp hn 5 0 rfl _ _ l5 ho2 hT2 hQ
    have z0 : ¬ (6 : Int32) ≤ 0 := by decide
    have z1 : (-1 : Int32) < 0 := by decide
    have z2 : ¬ (5 : Int32) < 0 := by decide
    rw [nI_0] at l3 x3 et ea
    simp only [eX3_kind_0, eX3_kind_1, eX3_kind_2, eX3_kind_5, eX3_kind_8, eX3_kind_9, eX3_kind_11, eX3_kind_14, eX3_kind_15, eX3_kind_16, eX3_kind_19, eX3_kind_20, eX3_kind_23, eX3_kind_26, eX3_kind_27, eX3_kind_28, eX3_kind_29, eX3_kind_30, eX3_kind_31, eX3_kind_35, eX3_kind_37, eX3_kind_40, eX3_kind_41, eX3_kind_44, eX3_kind_47, eX3_kind_48, eX3_kind_50, eX3_kind_51, eX3_kind_52, eX3_kind_55, eX3_kind_58, eX3_kind_61, eX3_kind_63, eX3_kind_64, eX3_kind_67, eX3_kind_69, eX3_kind_70, eX3_kind_73, eX3_kind_75, eX3_kind_76, eX3_kind_78, eX3_kind_79, eX3_kind_82, eX3_kind_85, eX3_kind_86, kd_0, fr_0_0, fr_0_1, fr_0_2, fr_0_3, fr_0_4, fr_0_5, fr_0_6, fr_0_7, fr_0_8, kd_1, fr_1_0, fr_1_1, fr_1_2, fr_1_3, fr_1_4, kd_2, an_2, rd_2, kd_3, an_3, rd_3, kd_4, an_4, rd_4, kd_5, an_5, rd_5, kd_6, an_6, rd_6, kd_7, kd_13, fr_13_0, fr_13_1, fr_13_2, fr_13_3, fr_13_4, kd_14, an_14, rd_14, kd_15, an_15, rd_15, kd_16, an_16, rd_16, kd_17, an_17, rd_17, kd_19, fr_19_3, kd_23, an_23, rd_23, kd_25, an_25, rd_25, kd_26, an_26, rd_26, kd_27, fr_27_0, kd_28, an_28, rd_28, kd_29, an_29, kd_38, an_38, rd_38, tX3_isPerson, e1, one_ne0, b2i_t h1, x1, Nat.reduceLeDiff, Nat.reduceEqDiff, Nat.reduceAdd, if_true, if_false, b2i_T, b2i_F, and_self, and_false, false_and, true_and, and_true, true_or, or_true, false_or, or_false, or_self, not_true_eq_false, not_false_eq_true, eq_self, List.cons_append, List.nil_append]
    rw [eX3_kind_33]
    simp only [eX3_kind_0, eX3_kind_1, eX3_kind_2, eX3_kind_5, eX3_kind_8, eX3_kind_9, eX3_kind_11, eX3_kind_14, eX3_kind_15, eX3_kind_16, eX3_kind_19, eX3_kind_20, eX3_kind_23, eX3_kind_26, eX3_kind_27, eX3_kind_28, eX3_kind_29, eX3_kind_30, eX3_kind_31, eX3_kind_35, eX3_kind_37, eX3_kind_40, eX3_kind_41, eX3_kind_44, eX3_kind_47, eX3_kind_48, eX3_kind_50, eX3_kind_51, eX3_kind_52, eX3_kind_55, eX3_kind_58, eX3_kind_61, eX3_kind_63, eX3_kind_64, eX3_kind_67, eX3_kind_69, eX3_kind_70, eX3_kind_73, eX3_kind_75, eX3_kind_76, eX3_kind_78, eX3_kind_79, eX3_kind_82, eX3_kind_85, eX3_kind_86, kd_0, fr_0_0, fr_0_1, fr_0_2, fr_0_3, fr_0_4, fr_0_5, fr_0_6, fr_0_7, fr_0_8, kd_1, fr_1_0, fr_1_1, fr_1_2, fr_1_3, fr_1_4, kd_2, an_2, rd_2, kd_3, an_3, rd_3, kd_4, an_4, rd_4, kd_5, an_5, rd_5, kd_6, an_6, rd_6, kd_7, kd_13, fr_13_0, fr_13_1, fr_13_2, fr_13_3, fr_13_4, kd_14, an_14, rd_14, kd_15, an_15, rd_15, kd_16, an_16, rd_16, kd_17, an_17, rd_17, kd_19, fr_19_3, kd_23, an_23, rd_23, kd_25, an_25, rd_25, kd_26, an_26, rd_26, kd_27, fr_27_0, kd_28, an_28, rd_28, kd_29, an_29, kd_38, an_38, rd_38, z0, z1, h7, h8, h9, x3, et, ea, Nat.reduceLeDiff, Nat.reduceEqDiff, Nat.reduceAdd, if_true, if_false, b2i_T, b2i_F, and_self, and_false, false_and, true_and, and_true, true_or, or_true, false_or, or_false, or_self, not_true_eq_false, not_false_eq_true, eq_self, List.cons_append, List.nil_append]
    refine l3 _ _ (fun A2 ho3 => ?_)
    have e40 : A2 40 = A 40 := ho3 40 (by omega)
    have h2 := h.scr ho3.scr13
    have j1 : (5 : Int32) + 4 * nI p + 0 = nI (5 + 4 * p) := ix_4 (w := 0)
    have j2 : ¬ nI (5 + 4 * p) < 0 := nI_pos (by omega)
    have j5 : ¬ 37 ≤ 5 + 4 * p := by omega
    have j3 : (nI (5 + 4 * p)).toNatClampNeg = 5 + 4 * p := nI_clamp (by omega)
    have y1 := fun (Q : List Value → sx_A → sx_Z → Prop) => tX4_far (G := G) (A := va_up A2 40 (upd (A 40) (5 + 4 * p) 0)) (Z := Z) (Q := Q) hn (by rw [up_s, ud_n (by omega)]; exact e2)
    have ea2 : (if 0 ≤ sm_tilt (upd (A 40) (5 + 4 * p) 0) n then sm_tilt (upd (A 40) (5 + 4 * p) 0) n else - sm_tilt (upd (A 40) (5 + 4 * p) 0) n) = kfa (A 40) p n 0 := sp_abs_m
    simp only [up_s, ea2] at y1
    have l4 := fun (l6 : Option Value) (Q : List Value → sx_A → sx_Z → Prop) => lX4_kind (G := G) (Z := Z) (Q := Q) (s := A 40) hp8 hn e2 (C := A2) 5 0 rfl (nI 0) l6
    rw [nI_0] at l4
    have hb' : ¬ (10000 : Int32) ≤ kfa (A 40) p n 0 := Int32.not_le.mpr hb
    simp only [hm, eX4_kind_0, eX4_kind_1, eX4_kind_2, eX4_kind_5, eX4_kind_8, eX4_kind_9, eX4_kind_11, eX4_kind_14, eX4_kind_15, eX4_kind_16, eX4_kind_17, eX4_kind_18, eX4_kind_21, eX4_kind_22, eX4_kind_23, eX4_kind_24, eX4_kind_27, eX4_kind_29, eX4_kind_30, eX4_kind_34, eX4_kind_35, eX4_kind_38, eX4_kind_39, eX4_kind_42, eX4_kind_43, eX4_kind_44, eX4_kind_47, eX4_kind_49, eX4_kind_50, eX4_kind_51, eX4_kind_54, eX4_kind_56, eX4_kind_58, eX4_kind_60, eX4_kind_63, eX4_kind_65, eX4_kind_68, eX4_kind_69, eX4_kind_70, eX4_kind_72, eX4_kind_74, eX4_kind_77, eX4_kind_79, eX4_kind_82, eX4_kind_84, eX4_kind_86, eX4_kind_89, eX4_kind_92, eX4_kind_93, eX4_kind_96, eX4_kind_97, eX4_kind_98, eX4_kind_101, eX4_kind_102, eX4_kind_103, eX4_kind_104, kd_39, fr_39_0, fr_39_1, fr_39_2, fr_39_3, fr_39_4, fr_39_6, fr_39_12, fr_39_13, fr_39_14, fr_39_15, kd_40, an_40, rd_40, kd_41, an_41, rd_41, kd_42, an_42, rd_42, kd_43, an_43, rd_43, kd_44, an_44, rd_44, kd_45, an_45, rd_45, kd_46, an_46, rd_46, kd_47, an_47, rd_47, kd_48, an_48, kd_49, an_49, tX4_isPerson, tX4_its0 hp8, e2, e40, one_ne0, b2i_t h1, Nat.reduceLeDiff, Nat.reduceEqDiff, Nat.reduceAdd, if_true, if_false, b2i_T, b2i_F, and_self, and_false, false_and, true_and, and_true, true_or, or_true, false_or, or_false, or_self, not_true_eq_false, not_false_eq_true, eq_self, List.cons_append, List.nil_append]
    rw [eX4_kind_32]
    simp only [eX4_kind_0, eX4_kind_1, eX4_kind_2, eX4_kind_5, eX4_kind_8, eX4_kind_9, eX4_kind_11, eX4_kind_14, eX4_kind_15, eX4_kind_16, eX4_kind_17, eX4_kind_18, eX4_kind_21, eX4_kind_22, eX4_kind_23, eX4_kind_24, eX4_kind_27, eX4_kind_29, eX4_kind_30, eX4_kind_34, eX4_kind_35, eX4_kind_38, eX4_kind_39, eX4_kind_42, eX4_kind_43, eX4_kind_44, eX4_kind_47, eX4_kind_49, eX4_kind_50, eX4_kind_51, eX4_kind_54, eX4_kind_56, eX4_kind_58, eX4_kind_60, eX4_kind_63, eX4_kind_65, eX4_kind_68, eX4_kind_69, eX4_kind_70, eX4_kind_72, eX4_kind_74, eX4_kind_77, eX4_kind_79, eX4_kind_82, eX4_kind_84, eX4_kind_86, eX4_kind_89, eX4_kind_92, eX4_kind_93, eX4_kind_96, eX4_kind_97, eX4_kind_98, eX4_kind_101, eX4_kind_102, eX4_kind_103, eX4_kind_104, kd_39, fr_39_0, fr_39_1, fr_39_2, fr_39_3, fr_39_4, fr_39_6, fr_39_12, fr_39_13, fr_39_14, fr_39_15, kd_40, an_40, rd_40, kd_41, an_41, rd_41, kd_42, an_42, rd_42, kd_43, an_43, rd_43, kd_44, an_44, rd_44, kd_45, an_45, rd_45, kd_46, an_46, rd_46, kd_47, an_47, rd_47, kd_48, an_48, kd_49, an_49, tX4_spotOf, j1, j2, j3, j5, z2, e40, y1, hb', Nat.reduceLeDiff, Nat.reduceEqDiff, Nat.reduceAdd, if_true, if_false, b2i_T, b2i_F, and_self, and_false, false_and, true_and, and_true, true_or, or_true, false_or, or_false, or_self, not_true_eq_false, not_false_eq_true, eq_self, List.cons_append, List.nil_append]
    refine (l4 _ _).mpr ?_
    rw [← e40, up_id]
    exact okQ.same h2
  · simp only [eX3_kind_0, eX3_kind_1, eX3_kind_2, eX3_kind_5, eX3_kind_8, eX3_kind_9, eX3_kind_11, eX3_kind_14, eX3_kind_15, eX3_kind_16, eX3_kind_19, eX3_kind_20, eX3_kind_23, eX3_kind_26, eX3_kind_27, eX3_kind_28, eX3_kind_29, eX3_kind_30, eX3_kind_31, eX3_kind_35, eX3_kind_37, eX3_kind_40, eX3_kind_41, eX3_kind_44, eX3_kind_47, eX3_kind_48, eX3_kind_50, eX3_kind_51, eX3_kind_52, eX3_kind_55, eX3_kind_58, eX3_kind_61, eX3_kind_63, eX3_kind_64, eX3_kind_67, eX3_kind_69, eX3_kind_70, eX3_kind_73, eX3_kind_75, eX3_kind_76, eX3_kind_78, eX3_kind_79, eX3_kind_82, eX3_kind_85, eX3_kind_86, eX4_kind_0, eX4_kind_1, eX4_kind_2, eX4_kind_5, eX4_kind_8, eX4_kind_9, eX4_kind_11, eX4_kind_14, eX4_kind_15, eX4_kind_16, eX4_kind_17, eX4_kind_18, eX4_kind_21, eX4_kind_22, eX4_kind_23, eX4_kind_24, eX4_kind_27, eX4_kind_29, eX4_kind_30, eX4_kind_34, eX4_kind_35, eX4_kind_38, eX4_kind_39, eX4_kind_42, eX4_kind_43, eX4_kind_44, eX4_kind_47, eX4_kind_49, eX4_kind_50, eX4_kind_51, eX4_kind_54, eX4_kind_56, eX4_kind_58, eX4_kind_60, eX4_kind_63, eX4_kind_65, eX4_kind_68, eX4_kind_69, eX4_kind_70, eX4_kind_72, eX4_kind_74, eX4_kind_77, eX4_kind_79, eX4_kind_82, eX4_kind_84, eX4_kind_86, eX4_kind_89, eX4_kind_92, eX4_kind_93, eX4_kind_96, eX4_kind_97, eX4_kind_98, eX4_kind_101, eX4_kind_102, eX4_kind_103, eX4_kind_104, hm, kd_0, fr_0_0, fr_0_1, fr_0_2, fr_0_3, fr_0_4, fr_0_5, fr_0_6, fr_0_7, fr_0_8, kd_1, fr_1_0, fr_1_1, fr_1_2, fr_1_3, fr_1_4, kd_2, an_2, rd_2, kd_3, an_3, rd_3, kd_4, an_4, rd_4, kd_5, an_5, rd_5, kd_6, an_6, rd_6, kd_7, kd_13, fr_13_0, fr_13_1, fr_13_2, fr_13_3, fr_13_4, kd_14, an_14, rd_14, kd_15, an_15, rd_15, kd_16, an_16, rd_16, kd_17, an_17, rd_17, kd_19, fr_19_3, kd_23, an_23, rd_23, kd_25, an_25, rd_25, kd_26, an_26, rd_26, kd_27, fr_27_0, kd_28, an_28, rd_28, kd_29, an_29, kd_38, an_38, rd_38, kd_39, fr_39_0, fr_39_1, fr_39_2, fr_39_3, fr_39_4, fr_39_6, fr_39_12, fr_39_13, fr_39_14, fr_39_15, kd_40, an_40, rd_40, kd_41, an_41, rd_41, kd_42, an_42, rd_42, kd_43, an_43, rd_43, kd_44, an_44, rd_44, kd_45, an_45, rd_45, kd_46, an_46, rd_46, kd_47, an_47, rd_47, kd_48, an_48, kd_49, an_49, tX3_isPerson, tX4_isPerson, e1, e2, tX3_finding0, tX3_finding1, tX3_finding2, tX3_finding3, tX3_finding4, tX3_finding5, tX3_finding6, tX4_finds0, tX4_finds1, tX4_finds2, tX4_finds3, tX4_finds4, tX4_finds5, tX4_finds6, up_n, up_s, b2i_f h1, Nat.reduceLeDiff, Nat.reduceEqDiff, Nat.reduceAdd, if_true, if_false, b2i_T, b2i_F, and_self, and_false, false_and, true_and, and_true, true_or, or_true, false_or, or_false, or_self, not_true_eq_false, not_false_eq_true, eq_self, List.cons_append, List.nil_append]
    exact okQ.find h 0

end OP
