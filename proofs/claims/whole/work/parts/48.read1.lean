/-! READ: what one's KIND and SORRY do to the tilt -/
/-- rows alike but for one's three numbers -/
def agr (p : Nat) (s t : Nat → Int32) : Prop := ∀ j, ¬ j = 5 + 4 * p → ¬ j = 5 + 4 * p + 1 → ¬ j = 5 + 4 * p + 2 → t j = s j
theorem agr.eP {p : Nat} {s t : Nat → Int32} (h : agr p s t) : mP t = mP s := funext fun q => h _ (by omega) (by omega) (by omega)
theorem agr.mx {p : Nat} {s t : Nat → Int32} (h : agr p s t) : ∀ m, agr p (mm_mx s m) (mm_mx t m)
  | 0 => h
  | m + 1 => by
    have ih := agr.mx h m
    unfold mm_mx
    rw [h (5 + 4 * m + 3) (by omega) (by omega) (by omega)]
    split
    · exact ih
    · intro j h0 h1 h2
      by_cases e : m = p
      · subst e
        rw [ud_n h2, ud_n h1, ud_n h2, ud_n h1]
        exact ih j h0 h1 h2
      · rw [h (5 + 4 * m) (by omega) (by omega) (by omega), h (5 + 4 * m + 1) (by omega) (by omega) (by omega), h (5 + 4 * m + 2) (by omega) (by omega) (by omega)]
        by_cases e2 : j = 5 + 4 * m + 2
        · subst e2; rw [ud_s, ud_s]
        · rw [ud_n e2, ud_n e2]
          by_cases e1 : j = 5 + 4 * m + 1
          · subst e1; rw [ud_s, ud_s]
          · rw [ud_n e1, ud_n e1]; exact ih j h0 h1 h2
theorem agr.min {p n : Nat} {s t : Nat → Int32} (h : agr p s t) : agr p (mm_min s n) (mm_min t n) := by
  unfold mm_min
  rw [h.eP, h 1 (by omega) (by omega) (by omega)]
  intro j h0 h1 h2
  by_cases e : j = 1
  · subst e; rw [ud_s, ud_s]
  · rw [ud_n e, ud_n e]
    split
    · exact h.mx n j h0 h1 h2
    · exact h j h0 h1 h2
theorem agr.go {p n : Nat} {s t : Nat → Int32} (h : agr p s t) : ∀ i, agr p (mm_go s n i) (mm_go t n i)
  | 0 => h
  | i + 1 => by
    unfold mm_go
    exact (agr.go h i).min
theorem mm_min_1 {s : Nat → Int32} {n : Nat} : mm_min s n 1 = s 1 + 1 := ud_s
theorem mm_go_1 {s : Nat → Int32} {n : Nat} : ∀ i, mm_go s n i 1 = s 1 + nI i
  | 0 => by unfold mm_go; rw [nI_0, Int32.add_zero]
  | i + 1 => by
    unfold mm_go
    rw [mm_min_1, mm_go_1 i, nI_succ, Int32.add_assoc]
theorem mm_min_k {s : Nat → Int32} {n p w : Nat} (hw : w = 0 ∨ w = 3) : mm_min s n (5 + 4 * p + w) = s (5 + 4 * p + w) := by
  unfold mm_min
  rw [ud_n (by omega)]
  split
  · exact mm_mx_k s p w hw n
  · rfl
theorem mm_go_k {s : Nat → Int32} {n p w : Nat} (hw : w = 0 ∨ w = 3) : ∀ i, mm_go s n i (5 + 4 * p + w) = s (5 + 4 * p + w)
  | 0 => rfl
  | i + 1 => by
    unfold mm_go
    rw [mm_min_k hw]
    exact mm_go_k hw i
theorem mm_go_P {s : Nat → Int32} {n : Nat} (i : Nat) : mP (mm_go s n i) = mP s := funext fun q => mm_go_k (w := 3) (Or.inr rfl) i
theorem mm_min_lt {s : Nat → Int32} {n q : Nat} (hq : q < 5) (h1 : ¬ q = 1) : mm_min s n q = s q := by
  unfold mm_min
  rw [ud_n h1]
  split
  · exact mm_mx_lt s n q hq
  · rfl
theorem mm_go_lt {s : Nat → Int32} {n q : Nat} (hq : q < 5) (h1 : ¬ q = 1) : ∀ i, mm_go s n i q = s q
  | 0 => rfl
  | i + 1 => by
    unfold mm_go
    rw [mm_min_lt hq h1]
    exact mm_go_lt hq h1 i
/-- one's GLAD and SORRY after i minutes on the beam -/
def gsq (k g r : Int32) : Nat → Int32 × Int32
  | 0 => (g, r)
  | i + 1 => ((gsq k g r i).1 - sp_mix k (gsq k g r i).1 (gsq k g r i).2, (gsq k g r i).2 + sp_mix k (gsq k g r i).1 (gsq k g r i).2)
theorem gsq_s {k g r : Int32} {i : Nat} : gsq k g r (i + 1) = ((gsq k g r i).1 - sp_mix k (gsq k g r i).1 (gsq k g r i).2, (gsq k g r i).2 + sp_mix k (gsq k g r i).1 (gsq k g r i).2) := rfl
theorem gsq_n {k : Int32} {a b : Nat} (ha : a < 100) (hb : b < 100) : ∀ i, ∃ a' b', a' < 100 ∧ b' < 100 ∧ (gsq k (nI a) (nI b) i).1 = nI a' ∧ (gsq k (nI a) (nI b) i).2 = nI b'
  | 0 => ⟨a, b, ha, hb, rfl, rfl⟩
  | i + 1 => by
    obtain ⟨a', b', h1, h2, e1, e2⟩ := gsq_n (k := k) ha hb i
    obtain ⟨a2, b2, g1, g2, f1, f2⟩ := sp_mix_n (k := k) h1 h2
    refine ⟨a2, b2, g1, g2, ?_, ?_⟩
    · rw [gsq_s, e1, e2]; exact f1
    · rw [gsq_s, e1, e2]; exact f2
theorem go_one {t : Nat → Int32} {n p a b : Nat} {k : Int32} (hp : p < n) (ha : a < 100) (hb : b < 100) (h0 : t (5 + 4 * p) = k) (h1 : t (5 + 4 * p + 1) = nI a) (h2 : t (5 + 4 * p + 2) = nI b) (h3 : ¬ t (5 + 4 * p + 3) = -1) (hh : sp_hangs (mP t) n) : ∀ i, mm_go t n i (5 + 4 * p + 1) = (gsq k (nI a) (nI b) i).1 ∧ mm_go t n i (5 + 4 * p + 2) = (gsq k (nI a) (nI b) i).2
  | 0 => ⟨h1, h2⟩
  | i + 1 => by
    obtain ⟨e1, e2⟩ := go_one hp ha hb h0 h1 h2 h3 hh i
    have e0 : mm_go t n i (5 + 4 * p) = k := (mm_go_k (w := 0) (Or.inl rfl) i).trans h0
    have e3 : mm_go t n i (5 + 4 * p + 3) = t (5 + 4 * p + 3) := mm_go_k (w := 3) (Or.inr rfl) i
    obtain ⟨a', b', g1, g2, f1, f2⟩ := gsq_n (k := k) ha hb i
    unfold mm_go mm_min
    rw [mm_go_P, if_pos hh, ud_n (by omega), ud_n (by omega), mm_mx_l1 _ n p hp, mm_mx_l2 _ n p hp, e3, if_neg h3, if_neg h3, e0, e1, e2]
    rw [gsq_s, f1, f2, sm_gl_eq g1 g2]
    exact ⟨(Int32.sub_eq_add_neg ..).symm, Int32.sub_neg⟩
section LA
variable {K Gl So K' Gl' So' pl : Nat → Int32} {mn e h0 : Int32} {p : Nat}
theorem load_ag (h : ∀ q, ¬ q = p → K' q = K q ∧ Gl' q = Gl q ∧ So' q = So q) (hp : ¬ pl p = e) : ∀ n, sp_load K' Gl' So' pl mn e h0 n = sp_load K Gl So pl mn e h0 n
  | 0 => rfl
  | n + 1 => by
    have ih := load_ag h hp n
    unfold sp_load
    by_cases c : n = p
    · subst c
      rw [if_neg hp, if_neg hp, ih]
    · obtain ⟨h1, h2, h3⟩ := h n c
      rw [ih, h1, h2, h3]
theorem load_le (h : ∀ q, ¬ q = p → K' q = K q ∧ Gl' q = Gl q ∧ So' q = So q) : ∀ n, n ≤ p → sp_load K' Gl' So' pl mn e h0 n = sp_load K Gl So pl mn e h0 n
  | 0, _ => rfl
  | n + 1, hn => by
    have ih := load_le h n (by omega)
    unfold sp_load
    obtain ⟨h1, h2, h3⟩ := h n (by omega)
    rw [ih, h1, h2, h3]
theorem load_on (h : ∀ q, ¬ q = p → K' q = K q ∧ Gl' q = Gl q ∧ So' q = So q) (hp : pl p = e) : ∀ n, p < n → sp_load K' Gl' So' pl mn e h0 n + sp_heart (K p) (Gl p) (So p) mn = sp_load K Gl So pl mn e h0 n + sp_heart (K' p) (Gl' p) (So' p) mn
  | n + 1, hn => by
    unfold sp_load
    by_cases c : n = p
    · subst c
      rw [if_pos hp, if_pos hp, load_le h n (Nat.le_refl n), Int32.add_assoc, Int32.add_assoc, Int32.add_comm (sp_heart (K' n) _ _ _)]
    · have ih := load_on h hp n (by omega)
      obtain ⟨h1, h2, h3⟩ := h n c
      rw [h1, h2, h3]
      split
      · rw [Int32.add_assoc, Int32.add_comm (sp_heart (K n) _ _ _), ← Int32.add_assoc, ih, Int32.add_assoc, Int32.add_comm (sp_heart (K' p) _ _ _), ← Int32.add_assoc]
      · exact ih
end LA
theorem agr.rows {p : Nat} {s t : Nat → Int32} (h : agr p s t) : ∀ q, ¬ q = p → mK t q = mK s q ∧ mG t q = mG s q ∧ mS t q = mS s q := fun q hq => ⟨h _ (by omega) (by omega) (by omega), h _ (by omega) (by omega) (by omega), h _ (by omega) (by omega) (by omega)⟩
/-- one who isn't on it, or where it doesn't hang, doesn't matter -/
theorem agr.tilt0 {p n : Nat} {s t : Nat → Int32} (h : agr p s t) (hm : ¬ (¬ mP s p = -1 ∧ sp_hangs (mP s) n)) : sm_tilt t n = sm_tilt s n := by
  unfold sm_tilt sp_tilt
  rw [h.eP, h 1 (by omega) (by omega) (by omega), h 3 (by omega) (by omega) (by omega), h 4 (by omega) (by omega) (by omega)]
  by_cases c : sp_hangs (mP s) n
  · have d : mP s p = -1 := Decidable.byContradiction fun d => hm ⟨d, c⟩
    rw [if_pos c, if_pos c, load_ag h.rows (by rw [d]; decide), load_ag h.rows (by rw [d]; decide)]
  · rw [if_neg c, if_neg c]
/-- the tilt, but for what one adds to it -/
theorem agr.tilt1 {p n : Nat} {s t : Nat → Int32} (h : agr p s t) (hp : p < n) (hh : sp_hangs (mP s) n) (he : mP s p = 0 ∨ mP s p = 1) : sm_tilt t n = sm_tilt s n - mh s p + mh t p := by
  have e : sm_tilt t n + mh s p = sm_tilt s n + mh t p := by
    unfold sm_tilt sp_tilt
    have e1 : mh t p = sp_heart (mK t p) (mG t p) (mS t p) (s 1) := by unfold mh; rw [h 1 (by omega) (by omega) (by omega)]
    have e2 : mh s p = sp_heart (mK s p) (mG s p) (mS s p) (s 1) := rfl
    rw [h.eP, h 1 (by omega) (by omega) (by omega), h 3 (by omega) (by omega) (by omega), h 4 (by omega) (by omega) (by omega), if_pos hh, if_pos hh, e1, e2]
    rcases he with he | he
    · have l0 := load_on (mn := s 1) (h0 := s 3) h.rows he n hp
      have l1 := load_ag (mn := s 1) (e := 1) (h0 := s 4) h.rows (pl := mP s) (by rw [he]; decide) n
      rw [l1, Int32.add_assoc, Int32.add_comm (sp_load _ _ _ _ _ 1 _ _), ← Int32.add_assoc, l0, Int32.add_assoc, Int32.add_comm (sp_heart _ _ _ _), ← Int32.add_assoc]
    · have l0 := load_on (mn := s 1) (h0 := s 4) h.rows he n hp
      have l1 := load_ag (mn := s 1) (e := 0) (h0 := s 3) h.rows (pl := mP s) (by rw [he]; decide) n
      rw [l1, Int32.add_assoc, l0, ← Int32.add_assoc]
  have e3 := congrArg (fun y => y - mh s p) e
  simp only [Int32.add_sub_cancel] at e3
  rw [e3, Int32.sub_eq_add_neg, Int32.sub_eq_add_neg, Int32.add_assoc, Int32.add_assoc, Int32.add_comm (mh t p)]
/-- a sheet's numbers, against a row of ints -/
def alq (f : Nat → Int64) (g : Nat → Int32) : Nat → Nat → Bool
  | 0, _ => true
  | k + 1, i => if f i = (g i).toInt64 then alq f g k (i + 1) else false
theorem alq_c {f f' : Nat → Int64} {g g' : Nat → Int32} : ∀ (k i : Nat), (∀ j, i ≤ j → j < i + k → f j = f' j ∧ g j = g' j) → alq f g k i = alq f' g' k i
  | 0, _, _ => rfl
  | k + 1, i, h => by
    unfold alq
    obtain ⟨h1, h2⟩ := h i (by omega) (by omega)
    rw [h1, h2, alq_c k (i + 1) (fun j a b => h j (by omega) (by omega))]
theorem alq_t {f : Nat → Int64} {g : Nat → Int32} {k i : Nat} (h : f i = (g i).toInt64) : alq f g (k + 1) i = alq f g k (i + 1) := if_pos h
theorem alq_f {f : Nat → Int64} {g : Nat → Int32} {k i : Nat} (h : ¬ f i = (g i).toInt64) : alq f g (k + 1) i = false := if_neg h
def cn (F : Nat → Bool) : Nat → Nat → Nat
  | 0, _ => 0
  | k + 1, i => (if F i = true then 1 else 0) + cn F k (i + 1)
theorem cn_c {F H : Nat → Bool} : ∀ (k i : Nat), (∀ j, i ≤ j → j < i + k → F j = H j) → cn F k i = cn H k i
  | 0, _, _ => rfl
  | k + 1, i, h => by
    unfold cn
    rw [h i (by omega) (by omega), cn_c k (i + 1) (fun j a b => h j (by omega) (by omega))]
theorem cn_k {b : Bool} : ∀ (k i : Nat), cn (fun _ => b) k i = if b = true then k else 0
  | 0, _ => by unfold cn; split <;> rfl
  | k + 1, i => by
    unfold cn
    rw [cn_k k (i + 1)]
    split <;> omega
/-- one's KIND and SORRY made other ones -/
def pr_row (s : Nat → Int32) (p q : Nat) : Nat → Int32 := upd (upd s (5 + 4 * p) (nI (q / 100))) (5 + 4 * p + 2) (nI (q % 100))
theorem pr_agr {s : Nat → Int32} {p q : Nat} : agr p s (pr_row s p q) := fun j h0 h1 h2 => by
  unfold pr_row
  rw [ud_n h2, ud_n h0]
