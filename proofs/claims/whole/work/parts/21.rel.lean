/-! THE TWO STATES SIDE BY SIDE -/
theorem sp_sit_c {f g : Nat → Int32} {e : Int32} : ∀ {n : Nat}, (∀ p, p < n → f p = g p) → sp_sit f e n = sp_sit g e n
  | 0, _ => rfl
  | n + 1, h => by
    unfold sp_sit
    rw [h n (by omega), sp_sit_c (n := n) (fun p hp => h p (by omega))]
theorem sp_load_c {K K' Gl Gl' So So' pl pl' : Nat → Int32} {mn e h0 : Int32} : ∀ {n : Nat}, (∀ p, p < n → K p = K' p ∧ Gl p = Gl' p ∧ So p = So' p ∧ pl p = pl' p) → sp_load K Gl So pl mn e h0 n = sp_load K' Gl' So' pl' mn e h0 n
  | 0, _ => rfl
  | n + 1, h => by
    unfold sp_load
    obtain ⟨h1, h2, h3, h4⟩ := h n (by omega)
    rw [h1, h2, h3, h4, sp_load_c (n := n) (fun p hp => h p (by omega))]
theorem sp_tilt_c {K K' Gl Gl' So So' pl pl' : Nat → Int32} {mn h0 h1 : Int32} {n : Nat} (h : ∀ p, p < n → K p = K' p ∧ Gl p = Gl' p ∧ So p = So' p ∧ pl p = pl' p) : sp_tilt K Gl So pl mn h0 h1 n = sp_tilt K' Gl' So' pl' mn h0 h1 n := by
  unfold sp_tilt sp_hangs
  rw [sp_load_c h, sp_load_c h, sp_sit_c (fun p hp => (h p hp).2.2.2), sp_sit_c (fun p hp => (h p hp).2.2.2)]
theorem sp_sum_c {f g : Nat → Int32} : ∀ {n : Nat}, (∀ p, p < n → f p = g p) → sp_sum f n = sp_sum g n
  | 0, _ => rfl
  | n + 1, h => by
    unfold sp_sum
    rw [h n (by omega), sp_sum_c (n := n) (fun p hp => h p (by omega))]
/-- one's row -/
def r_P (k g r pl : Int32) : Prop := (∃ i, i < 6 ∧ k = nI i) ∧ (∃ i, i < 100 ∧ g = nI i) ∧ (∃ i, i < 100 ∧ r = nI i) ∧ (pl = -1 ∨ pl = 0 ∨ pl = 1)
/-- a beam and a row that say the same -/
def r_B (c n : Nat) (ob K Gl So Pl Hu s : Nat → Int32) : Prop := (n ≤ 8 ∧ ob 5 = nI n ∧ s 0 = nI n) ∧ (s 1 = ob 6 ∧ s 2 = ob 7 ∧ ∃ f, f ≤ 20 ∧ ob 7 = nI f) ∧ (s 3 = Hu 0 ∧ s 4 = Hu 1 ∧ (∃ h, h ≤ c ∧ Hu 0 = nI h) ∧ ∃ h, h ≤ c ∧ Hu 1 = nI h) ∧ ∀ p, p < n → r_P (K p) (Gl p) (So p) (Pl p) ∧ K p = s (5 + 4 * p) ∧ Gl p = s (5 + 4 * p + 1) ∧ So p = s (5 + 4 * p + 2) ∧ Pl p = s (5 + 4 * p + 3)
/-- the tape -/
def r_T (len taped : Int32) (x m : Nat → Int32) : Prop := ∃ t, t ≤ 120 ∧ len = nI t ∧ taped = nI t ∧ ∀ j, j < t → x j = m j ∧ ∃ v, v < 256 ∧ x j = nI v
/-- a sheet -/
def r_S (o bi si : Nat → Int32) (k : Nat) (z zm : Nat → Int64) : Prop := (∃ sz, sz ≤ 40 ∧ o 2 = nI sz ∧ si k = nI sz ∧ ∀ j, j < sz → z j = zm (40 * k + j)) ∧ o 1 = bi k ∧ (o 1 = 0 ∨ o 1 = 8 ∨ o 1 = 16 ∨ o 1 = 64)
def Rel (c : Nat) (A : sx_A) (Z : sx_Z) : Prop :=
  (∃ n, r_B c n (A 1) (A 2) (A 3) (A 4) (A 5) (A 6) (A 40)) ∧
  (A 0 9 = A 39 5 ∧ (A 0 9 = 0 ∨ A 0 9 = 1 ∧ ∃ n, r_B c n (A 7) (A 8) (A 9) (A 10) (A 11) (A 12) (A 41))) ∧
  r_T (A 27 1) (A 39 7) (A 28) (A 45) ∧
  (r_S (A 30) (A 46) (A 47) 0 (Z 31) (Z 48) ∧ r_S (A 32) (A 46) (A 47) 1 (Z 33) (Z 48) ∧ r_S (A 34) (A 46) (A 47) 2 (Z 35) (Z 48) ∧ r_S (A 36) (A 46) (A 47) 3 (Z 37) (Z 48)) ∧
  ∀ j, j < 7 → A 38 j = A 44 j
theorem r_B.up {c d n : Nat} {ob K Gl So Pl Hu s : Nat → Int32} (hcd : c ≤ d) (h : r_B c n ob K Gl So Pl Hu s) : r_B d n ob K Gl So Pl Hu s := by
  obtain ⟨h1, h2, ⟨h3, h4, ⟨a, ha, ha'⟩, b, hb, hb'⟩, h5⟩ := h
  exact ⟨h1, h2, ⟨h3, h4, ⟨a, by omega, ha'⟩, b, by omega, hb'⟩, h5⟩
theorem Rel.up {c d : Nat} {A : sx_A} {Z : sx_Z} (hcd : c ≤ d) (h : Rel c A Z) : Rel d A Z := by
  obtain ⟨⟨n, h1⟩, ⟨h2, h3⟩, h4⟩ := h
  refine ⟨⟨n, h1.up hcd⟩, ⟨h2, ?_⟩, h4⟩
  rcases h3 with h3 | ⟨h3, m, h5⟩
  · exact Or.inl h3
  · exact Or.inr ⟨h3, m, h5.up hcd⟩
section RB
variable {c n : Nat} {ob K Gl So Pl Hu s : Nat → Int32}
theorem r_B.rows (h : r_B c n ob K Gl So Pl Hu s) : ∀ p, p < n → K p = mK s p ∧ Gl p = mG s p ∧ So p = mS s p ∧ Pl p = mP s p := fun p hp => (h.2.2.2 p hp).2
theorem r_B.tilt (h : r_B c n ob K Gl So Pl Hu s) : sp_tilt K Gl So Pl (ob 6) (Hu 0) (Hu 1) n = sm_tilt s n := by
  unfold sm_tilt
  rw [h.2.1.1, h.2.2.1.1, h.2.2.1.2.1]
  exact sp_tilt_c h.rows
theorem r_B.sit (h : r_B c n ob K Gl So Pl Hu s) {e : Int32} : sp_sit Pl e n = sp_sit (mP s) e n := sp_sit_c (fun p hp => (h.rows p hp).2.2.2)
theorem r_B.hangs (h : r_B c n ob K Gl So Pl Hu s) : sp_hangs Pl n ↔ sp_hangs (mP s) n := by
  unfold sp_hangs
  rw [h.sit, h.sit]
end RB
theorem sb_cl {a b : Nat} (ha : a < 100) (hb : b < 100) : (nI a - nI b).toInt = (a : Int) - b := pk_sub_toInt (by omega) (by omega)
theorem sb_le0 {a b : Nat} (ha : a < 100) (hb : b < 100) : (nI a - nI b ≤ 0) ↔ (nI a ≤ nI b) := by
  rw [Int32.le_iff_toInt_le, sb_cl ha hb, nI_leI (by omega) (by omega)]
  show (a : Int) - b ≤ 0 ↔ a ≤ b
  omega
theorem sm_gl_eq {k : Int32} {a b : Nat} (ha : a < 100) (hb : b < 100) : sm_gl k (nI a) (nI b) = - sp_mix k (nI a) (nI b) := by
  have e1 : sm_half (nI a) (nI b) = sp_abs (nI a - nI b) / 2 := by
    unfold sm_half sp_abs
    split
    · rfl
    · rw [Int32.zero_sub]
  have e2 : sm_by k (nI a) (nI b) = sp_gone k (nI a) (nI b) := by
    unfold sm_by sp_gone
    rw [e1]
    generalize sp_abs (nI a - nI b) / 2 = h
    generalize sp_mixes k (nI a) = m
    by_cases h1 : h < m
    · rw [if_pos h1, if_pos (Int32.le_of_lt h1)]
    · rw [if_neg h1]
      by_cases h2 : h ≤ m
      · rw [if_pos h2]
        exact Int32.le_antisymm h2 (Int32.not_lt.mp h1)
      · rw [if_neg h2]
  unfold sm_gl sp_mix
  rw [e2]
  by_cases h : nI a ≤ nI b
  · rw [if_pos h, if_pos ((sb_le0 ha hb).mpr h), Int32.neg_neg]
  · rw [if_neg h, if_neg (fun z => h ((sb_le0 ha hb).mp z))]
theorem sb_abs {a b : Nat} (ha : a < 100) (hb : b < 100) : ∃ d, d < 100 ∧ (a = b + d ∨ b = a + d) ∧ sp_abs (nI a - nI b) = nI d := by
  unfold sp_abs
  by_cases h : b ≤ a
  · refine ⟨a - b, by omega, Or.inl (by omega), ?_⟩
    rw [pk_sub h, if_pos (nI_pos' (by omega))]
  · refine ⟨b - a, by omega, Or.inr (by omega), ?_⟩
    rw [if_neg (fun z => absurd (pk_sneg (a := a) (b := b) (by omega) (by omega)) (Int32.not_lt.mpr z))]
    have : nI b - nI a = nI (b - a) := pk_sub (by omega)
    rw [← this]
    rw [Int32.zero_sub, Int32.neg_sub]
theorem sp_mixes_n {k : Int32} {g : Int32} : ∃ m, m ≤ 3 ∧ sp_mixes k g = nI m := by
  unfold sp_mixes
  repeat' split
  · exact ⟨3, by omega, rfl⟩
  · exact ⟨0, by omega, rfl⟩
  · exact ⟨2, by omega, rfl⟩
  · exact ⟨1, by omega, rfl⟩
  · exact ⟨0, by omega, rfl⟩
  · exact ⟨1, by omega, rfl⟩
/-- what mixing makes of two numbers -/
theorem sp_mix_n {k : Int32} {a b : Nat} (ha : a < 100) (hb : b < 100) : ∃ a' b', a' < 100 ∧ b' < 100 ∧ nI a - sp_mix k (nI a) (nI b) = nI a' ∧ nI b + sp_mix k (nI a) (nI b) = nI b' := by
  obtain ⟨d, hd, hab, e1⟩ := sb_abs ha hb
  obtain ⟨m, hm, e2⟩ := sp_mixes_n (k := k) (g := nI a)
  have e3 : ∃ t, t ≤ d / 2 ∧ sp_gone k (nI a) (nI b) = nI t := by
    unfold sp_gone
    rw [e1, e2, show (2 : Int32) = nI 2 from rfl, pk_div (by omega) (by omega) (by omega)]
    split
    · exact ⟨d / 2, Nat.le_refl _, rfl⟩
    · rename_i h
      have : ¬ d / 2 < m := fun z => h (nI_lt z (by omega))
      exact ⟨m, by omega, rfl⟩
  obtain ⟨t, ht, e4⟩ := e3
  unfold sp_mix
  rw [e4]
  by_cases h : a ≤ b
  · rw [if_pos (nI_le h (by omega))]
    refine ⟨a + t, b - t, by omega, by omega, ?_, ?_⟩
    · rw [Int32.sub_neg, nI_add]
    · rw [← Int32.sub_eq_add_neg, pk_sub (by omega)]
  · rw [if_neg (fun z => h ((nI_leI (by omega) (by omega)).mp z))]
    refine ⟨a - t, b + t, by omega, by omega, ?_, ?_⟩
    · rw [pk_sub (by omega)]
    · rw [nI_add]
