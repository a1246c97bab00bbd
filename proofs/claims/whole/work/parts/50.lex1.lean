/-! THE TEXT: tokens, numbers and words, told of a row of bytes -/
def isL (x : Int32) : Bool := decide (97 ≤ x ∧ x ≤ 122)
def isD (x : Int32) : Bool := decide (48 ≤ x ∧ x ≤ 57)
/-- where the next token begins -/
def sk (b : Nat → Int32) (t i : Nat) : Nat := fs (fun j => decide (¬ b j = 32)) (t - i) i
/-- where the token at st ends -/
def en (b : Nat → Int32) (t st : Nat) : Nat := if st < t then (if isL (b st) = true then fs (fun j => !isL (b j)) (t - st) st else if isD (b st) = true then fs (fun j => !isD (b j)) (t - st) st else st + 1) else st
/-- its kind: 0 the end, 1 a word, 2 a number, 3 the sign, 4 none -/
def tk (b : Nat → Int32) (t st : Nat) : Nat := if st < t then (if isL (b st) = true then 1 else if isD (b st) = true then 2 else if b st = 59 then 3 else 4) else 0
def nx (b : Nat → Int32) (t st : Nat) : Nat := sk b t (en b t st)
def vxn (b : Nat → Int32) (st : Nat) : Nat → Int32
  | 0 => 0
  | k + 1 => if 10 * vxn b st k + b (st + k) - 48 < 1000 then 10 * vxn b st k + b (st + k) - 48 else 1000
def vmn (b : Nat → Int32) (st : Nat) : Nat → Int32
  | 0 => 0
  | k + 1 => if 999 < vmn b st k then vmn b st k else 10 * vmn b st k + b (st + k) - 48
def vx (b : Nat → Int32) (t st : Nat) : Int32 := vxn b st (en b t st - st)
def vm (b : Nat → Int32) (t st : Nat) : Int32 := vmn b st (en b t st - st)
/-- a word's letters as digits to the base 32 -/
def wvn (b : Nat → Int32) (st : Nat) : Nat → Int64
  | 0 => 0
  | k + 1 => if 36028797018963967 < wvn b st k then wvn b st k else 32 * wvn b st k + (b (st + k) - 96).toInt64
def wv (b : Nat → Int32) (t st : Nat) : Int64 := if tk b t st = 1 then wvn b st (en b t st - st) else 0
theorem fs_lo {f : Nat → Bool} : ∀ k i, i ≤ fs f k i
  | 0, i => Nat.le_refl i
  | k + 1, i => by
    unfold fs
    split
    · exact Nat.le_refl i
    · have := fs_lo (f := f) k (i + 1); omega
theorem fs_all {f : Nat → Bool} : ∀ k i j, i ≤ j → j < fs f k i → f j = false
  | 0, i, j, h1, h2 => absurd h2 (by unfold fs; omega)
  | k + 1, i, j, h1, h2 => by
    unfold fs at h2
    split at h2
    · omega
    · rename_i h
      by_cases e : j = i
      · subst e
        exact Bool.eq_false_iff.mpr h
      · exact fs_all k (i + 1) j (by omega) h2
section LX
variable {b : Nat → Int32} {t st i : Nat}
theorem sk_le (h : i ≤ t) : sk b t i ≤ t := by
  have := fs_le (f := fun j => decide (¬ b j = 32)) (t - i) i
  unfold sk; omega
theorem sk_lo : i ≤ sk b t i := fs_lo _ _
theorem en_lo : st ≤ en b t st := by
  unfold en
  split
  · split
    · exact fs_lo _ _
    · split
      · exact fs_lo _ _
      · omega
  · exact Nat.le_refl _
theorem en_le (h : st ≤ t) : en b t st ≤ t := by
  have h1 := fs_le (f := fun j => !isL (b j)) (t - st) st
  have h2 := fs_le (f := fun j => !isD (b j)) (t - st) st
  unfold en
  split
  · split
    · omega
    · split
      · omega
      · omega
  · exact h
theorem en_gt (h : st < t) : st < en b t st := by
  unfold en
  rw [if_pos h]
  have e : t - st = (t - st - 1) + 1 := by omega
  split
  · rename_i hl
    rw [e, fs_f (by rw [hl]; rfl)]
    have := fs_lo (f := fun j => !isL (b j)) (t - st - 1) (st + 1); omega
  · split
    · rename_i hl
      rw [e, fs_f (by rw [hl]; rfl)]
      have := fs_lo (f := fun j => !isD (b j)) (t - st - 1) (st + 1); omega
    · omega
theorem nx_le (h : st ≤ t) : nx b t st ≤ t := sk_le (en_le h)
theorem nx_lo : st ≤ nx b t st := Nat.le_trans en_lo sk_lo
theorem nx_gt (h : st < t) : st < nx b t st := Nat.lt_of_lt_of_le (en_gt h) sk_lo
theorem tk_lt (h : ¬ tk b t st = 0) : st < t := Decidable.byContradiction fun z => h (if_neg z)
theorem tk_1 : tk b t st = 1 ↔ st < t ∧ isL (b st) = true := by
  unfold tk
  constructor
  · intro h
    split at h
    · rename_i h1
      split at h
      · rename_i h2; exact ⟨h1, h2⟩
      · split at h
        · omega
        · split at h <;> omega
    · omega
  · rintro ⟨h1, h2⟩
    rw [if_pos h1, if_pos h2]
theorem tk_2 : tk b t st = 2 ↔ st < t ∧ isD (b st) = true := by
  unfold tk
  constructor
  · intro h
    split at h
    · rename_i h1
      split at h
      · omega
      · split at h
        · rename_i h2; exact ⟨h1, h2⟩
        · split at h <;> omega
    · omega
  · rintro ⟨h1, h2⟩
    have h3 : ¬ isL (b st) = true := by
      intro z
      have z1 := of_decide_eq_true z
      have z2 := of_decide_eq_true h2
      exact absurd (Int32.le_trans z1.1 z2.2) (by decide)
    rw [if_pos h1, if_neg h3, if_pos h2]
theorem tk_3 : tk b t st = 3 ↔ st < t ∧ b st = 59 := by
  unfold tk
  constructor
  · intro h
    split at h
    · rename_i h1
      split at h
      · omega
      · split at h
        · omega
        · split at h
          · rename_i h2; exact ⟨h1, h2⟩
          · omega
    · omega
  · rintro ⟨h1, h2⟩
    rw [if_pos h1, h2]
    decide
theorem tk_0 (h : st ≤ t) : tk b t st = 0 ↔ st = t := by
  constructor
  · intro h0
    refine Decidable.byContradiction fun z => ?_
    unfold tk at h0
    rw [if_pos (by omega)] at h0
    split at h0
    · omega
    · split at h0
      · omega
      · split at h0 <;> omega
  · rintro rfl
    exact if_neg (Nat.lt_irrefl st)
theorem en_1 (h : tk b t st = 1) : en b t st = fs (fun j => !isL (b j)) (t - st) st := by
  obtain ⟨h1, h2⟩ := tk_1.mp h
  unfold en
  rw [if_pos h1, if_pos h2]
theorem en_2 (h : tk b t st = 2) : en b t st = fs (fun j => !isD (b j)) (t - st) st := by
  obtain ⟨h1, h2⟩ := tk_2.mp h
  have h3 : ¬ isL (b st) = true := by
    intro z
    have z1 := of_decide_eq_true z
    have z2 := of_decide_eq_true h2
    exact absurd (Int32.le_trans z1.1 z2.2) (by decide)
  unfold en
  rw [if_pos h1, if_neg h3, if_pos h2]
theorem all_L (h : tk b t st = 1) : ∀ j, st ≤ j → j < en b t st → isL (b j) = true := by
  intro j h1 h2
  rw [en_1 h] at h2
  have := fs_all _ _ j h1 h2
  exact Bool.not_eq_false' .. ▸ this
theorem all_D (h : tk b t st = 2) : ∀ j, st ≤ j → j < en b t st → isD (b j) = true := by
  intro j h1 h2
  rw [en_2 h] at h2
  have := fs_all _ _ j h1 h2
  exact Bool.not_eq_false' .. ▸ this
end LX
theorem rng_n {x a z : Int32} {lo hi : Nat} (ha : a.toInt = lo) (hz : z.toInt = hi) (h : a ≤ x ∧ x ≤ z) : ∃ v, lo ≤ v ∧ v ≤ hi ∧ x = nI v := by
  have h1 := Int32.le_iff_toInt_le.mp h.1
  have h2 := Int32.le_iff_toInt_le.mp h.2
  have h3 := z.toInt_lt
  refine ⟨x.toInt.toNat, by omega, by omega, ?_⟩
  apply Int32.toInt_inj.mp
  rw [nI_toInt (by omega)]
  omega
theorem isD_n {x : Int32} (h : isD x = true) : ∃ d, d ≤ 9 ∧ x = nI (48 + d) := by
  obtain ⟨v, h1, h2, e⟩ := rng_n (lo := 48) (hi := 57) (by decide) (by decide) (of_decide_eq_true h)
  exact ⟨v - 48, by omega, by rw [e]; congr 1; omega⟩
theorem isL_n {x : Int32} (h : isL x = true) : ∃ d, 1 ≤ d ∧ d ≤ 26 ∧ x = nI (96 + d) := by
  obtain ⟨v, h1, h2, e⟩ := rng_n (lo := 97) (hi := 122) (by decide) (by decide) (of_decide_eq_true h)
  exact ⟨v - 96, by omega, by omega, by rw [e]; congr 1; omega⟩
theorem dig_n {a d : Nat} : 10 * nI a + nI (48 + d) - 48 = nI (10 * a + d) := by
  rw [show (10 : Int32) = nI 10 from rfl, show (48 : Int32) = nI 48 from rfl, pk_mul, nI_add, pk_sub (by omega)]
  congr 1
  omega
/-- both ways of reading a number -/
theorem num_n {b : Nat → Int32} {st : Nat} : ∀ k, (∀ j, j < k → isD (b (st + j)) = true) → ∃ a a', vxn b st k = nI a ∧ vmn b st k = nI a' ∧ ((a = a' ∧ a ≤ 999) ∨ (a = 1000 ∧ 1000 ≤ a' ∧ a' ≤ 9999))
  | 0, _ => ⟨0, 0, rfl, rfl, Or.inl ⟨rfl, by omega⟩⟩
  | k + 1, h => by
    obtain ⟨a, a', e1, e2, h1⟩ := num_n k (fun j hj => h j (by omega))
    obtain ⟨d, hd, ed⟩ := isD_n (h k (by omega))
    unfold vxn vmn
    rw [e1, e2, ed, dig_n, dig_n]
    rcases h1 with ⟨rfl, h1⟩ | ⟨rfl, h1, h2⟩
    · have g0 : ¬ (999 : Int32) < nI a := Int32.not_lt.mpr (nI_le (a := a) (b := 999) h1 (by omega))
      rw [if_neg g0]
      by_cases h2 : 10 * a + d < 1000
      · have g1 : nI (10 * a + d) < 1000 := nI_lt (a := 10 * a + d) (b := 1000) h2 (by omega)
        rw [if_pos g1]
        exact ⟨_, _, rfl, rfl, Or.inl ⟨rfl, by omega⟩⟩
      · have g1 : ¬ nI (10 * a + d) < 1000 := nI_nlt (a := 10 * a + d) (b := 1000) (by omega) (by omega)
        rw [if_neg g1]
        exact ⟨1000, _, rfl, rfl, Or.inr ⟨rfl, by omega, by omega⟩⟩
    · have g0 : ¬ nI (10 * 1000 + d) < 1000 := nI_nlt (a := 10 * 1000 + d) (b := 1000) (by omega) (by omega)
      have g1 : (999 : Int32) < nI a' := nI_lt (a := 999) (b := a') (by omega) (by omega)
      rw [if_neg g0, if_pos g1]
      exact ⟨1000, a', rfl, rfl, Or.inr ⟨rfl, h1, h2⟩⟩
/-- a number up to one below 1000: both programs take it, or neither does -/
theorem num_ok {b : Nat → Int32} {t st : Nat} {M : Int32} (h : tk b t st = 2) (hM : M < 1000) : (vx b t st ≤ M ↔ 0 ≤ vm b t st ∧ vm b t st ≤ M) ∧ (vx b t st ≤ M → vm b t st = vx b t st ∧ 0 ≤ vx b t st) := by
  obtain ⟨a, a', e1, e2, h1⟩ := num_n (b := b) (st := st) (en b t st - st) (fun j hj => all_D h _ (by omega) (by omega))
  unfold vx vm
  rw [e1, e2]
  rcases h1 with ⟨rfl, h1⟩ | ⟨rfl, h1, h2⟩
  · exact ⟨⟨fun z => ⟨nI_pos' (by omega), z⟩, fun z => z.2⟩, fun _ => ⟨rfl, nI_pos' (by omega)⟩⟩
  · have n1 : ¬ nI 1000 ≤ M := Int32.not_le.mpr hM
    have n2 : ¬ nI a' ≤ M := fun z => n1 (Int32.le_trans (nI_le h1 (by omega)) z)
    exact ⟨⟨fun z => absurd z n1, fun z => absurd z.2 n2⟩, fun z => absurd z n1⟩
/-- words -/
def evn (d : Nat → Nat) : Nat → Nat
  | 0 => 0
  | k + 1 => if 36028797018963967 < evn d k then evn d k else 32 * evn d k + d k
theorem evn_lt {d : Nat → Nat} : ∀ k, (∀ j, j < k → d j ≤ 26) → evn d k < 1152921504606847000
  | 0, _ => by unfold evn; omega
  | k + 1, h => by
    have ih := evn_lt k (fun j hj => h j (by omega))
    have := h k (by omega)
    unfold evn
    split <;> omega
theorem wvn_n {b : Nat → Int32} {st : Nat} {d : Nat → Nat} : ∀ k, (∀ j, j < k → d j ≤ 26 ∧ b (st + j) = nI (96 + d j)) → wvn b st k = lN (evn d k)
  | 0, _ => rfl
  | k + 1, h => by
    have ih := wvn_n k (fun j hj => h j (by omega))
    have hl := evn_lt k (fun j hj => (h j (by omega)).1)
    obtain ⟨h1, h2⟩ := h k (by omega)
    have e1 : nI (96 + d k) - 96 = nI (d k) := by
      rw [show (96 : Int32) = nI 96 from rfl, pk_sub (by omega)]
      congr 1
      omega
    unfold wvn evn
    rw [ih, h2, e1, nI_l (by omega)]
    have g : (36028797018963967 : Int64) < lN (evn d k) ↔ 36028797018963967 < evn d k := pk_lLT (a := 36028797018963967) (by omega) (by omega)
    by_cases c : 36028797018963967 < evn d k
    · rw [if_pos c, if_pos (g.mpr c)]
    · rw [if_neg c, if_neg (fun z => c (g.mp z)), show (32 : Int64) = lN 32 from rfl, lN_mul, lN_add]
theorem evn_0 {d : Nat → Nat} : ∀ k, (∀ j, j < k → 1 ≤ d j) → (evn d k = 0 ↔ k = 0)
  | 0, _ => ⟨fun _ => rfl, fun _ => rfl⟩
  | k + 1, h => by
    have := h k (by omega)
    constructor
    · intro z
      unfold evn at z
      split at z <;> omega
    · intro z; omega
/-- a word's code -/
def cdn (w : Nat → Nat) : Nat → Nat
  | 0 => 0
  | q + 1 => 32 * cdn w q + w q
theorem evn_cd {d w : Nat → Nat} : ∀ (q k : Nat), (∀ j, j < k → 1 ≤ d j ∧ d j ≤ 26) → (∀ j, j < q → 1 ≤ w j ∧ w j ≤ 26) → cdn w q < 36028797018963967 → (evn d k = cdn w q ↔ k = q ∧ ∀ j, j < q → d j = w j)
  | 0, k, hd, _, _ => by
    unfold cdn
    rw [evn_0 k (fun j hj => (hd j hj).1)]
    exact ⟨fun z => ⟨z, fun j hj => absurd hj (by omega)⟩, fun z => z.1⟩
  | q + 1, 0, hd, hw, hc => by
    have := (hw q (by omega)).1
    unfold evn cdn
    exact ⟨fun z => by omega, fun z => by omega⟩
  | q + 1, k + 1, hd, hw, hc => by
    have h1 := hw q (by omega)
    have h2 := hd k (by omega)
    unfold cdn at hc
    have ih := evn_cd q k (fun j hj => hd j (by omega)) (fun j hj => hw j (by omega)) (by omega)
    unfold evn cdn
    constructor
    · intro z
      split at z
      · omega
      · obtain ⟨e1, e2⟩ := ih.mp (by omega)
        refine ⟨by omega, fun j hj => ?_⟩
        by_cases e : j = q
        · subst e; subst e1; omega
        · exact e2 j (by omega)
    · rintro ⟨e1, e2⟩
      have e3 := ih.mpr ⟨by omega, fun j hj => e2 j (by omega)⟩
      have e4 := e2 q (by omega)
      have e5 : k = q := by omega
      subst e5
      rw [e3, if_neg (by omega), e4]
