/-! THE CALLS, ONE BY ONE: fewest -/
theorem i_and {a b : Nat} : nI a &&& nI b = nI (a &&& b) := by
  apply Int32.toBitVec_inj.mp
  rw [Int32.toBitVec_and]
  exact BitVec.ofNat_and.symm
theorem bv_sub (x y : BitVec 32) : x &&& (y ^^^ BitVec.allOnes 32) = 0#32 ↔ x &&& y = x := by
  rw [BitVec.xor_allOnes]
  constructor
  · intro h
    ext i hi
    have h2 := congrArg (fun z => z[i]) h
    simpa using h2
  · intro h
    ext i hi
    have h2 := congrArg (fun z => z[i]) h
    simpa using h2
theorem i_sub {x y : Int32} : x &&& (y ^^^ -1) = 0 ↔ x &&& y = x := by
  rw [← Int32.toBitVec_inj, ← Int32.toBitVec_inj, Int32.toBitVec_and, Int32.toBitVec_and, Int32.toBitVec_xor, show (-1 : Int32).toBitVec = BitVec.allOnes 32 from by decide]
  exact bv_sub _ _
theorem tb_add : ∀ m, m < 8 → ∀ b, b < 2 ^ m → ∀ p, p < 8 → (b + 2 ^ m).testBit p = (b.testBit p || decide (p = m)) := by decide +kernel
theorem tb_hi {a p : Nat} (h : a < 2 ^ p) : a.testBit p = false := Nat.testBit_lt_two_pow h
theorem bs_tb (f : Nat → Bool) : ∀ m, m ≤ 8 → ∀ p, p < 8 → ((bs f m).testBit p = true ↔ p < m ∧ f p = true)
  | 0, _, p, _ => by
    unfold bs
    rw [Nat.zero_testBit]
    exact ⟨fun h => absurd h Bool.false_ne_true, fun h => absurd h.1 (by omega)⟩
  | m + 1, hm, p, hp => by
    have ih := bs_tb f m (by omega) p hp
    unfold bs
    split
    · rename_i hf
      rw [tb_add m (by omega) _ (bs_lt f m) p hp, Bool.or_eq_true, ih, decide_eq_true_iff]
      constructor
      · rintro (⟨h1, h2⟩ | h1)
        · exact ⟨by omega, h2⟩
        · exact ⟨by omega, h1 ▸ hf⟩
      · rintro ⟨h1, h2⟩
        by_cases e : p = m
        · exact Or.inr e
        · exact Or.inl ⟨by omega, h2⟩
    · rename_i hf
      rw [ih]
      constructor
      · rintro ⟨h1, h2⟩; exact ⟨by omega, h2⟩
      · rintro ⟨h1, h2⟩
        by_cases e : p = m
        · exact absurd (e ▸ h2) hf
        · exact ⟨by omega, h2⟩
theorem bs_ne {f : Nat → Bool} : ∀ m, (¬ bs f m = 0 ↔ ∃ q, q < m ∧ f q = true)
  | 0 => by
    unfold bs
    exact ⟨fun h => absurd rfl h, fun ⟨q, h, _⟩ => absurd h (by omega)⟩
  | m + 1 => by
    have ih := bs_ne (f := f) m
    unfold bs
    split
    · rename_i hf
      have := Nat.two_pow_pos m
      exact ⟨fun _ => ⟨m, by omega, hf⟩, fun _ => by omega⟩
    · rename_i hf
      rw [ih]
      constructor
      · rintro ⟨q, h1, h2⟩; exact ⟨q, by omega, h2⟩
      · rintro ⟨q, h1, h2⟩
        by_cases e : q = m
        · exact absurd (e ▸ h2) hf
        · exact ⟨q, by omega, h2⟩
theorem sit_ne {pl : Nat → Int32} {e : Int32} {n : Nat} (hn : n ≤ 8) : ¬ sp_sit pl e n = 0 ↔ ∃ q, q < n ∧ pl q = e := by
  have hl := bs_256 (f := fun q => decide (pl q = e)) hn
  rw [sit_bs n hn]
  have e1 : nI (bs (fun q => decide (pl q = e)) n) = 0 ↔ bs (fun q => decide (pl q = e)) n = 0 := nI_eq (b := 0) (by omega) (by omega)
  rw [e1, bs_ne]
  exact ⟨fun ⟨q, h1, h2⟩ => ⟨q, h1, of_decide_eq_true h2⟩, fun ⟨q, h1, h2⟩ => ⟨q, h1, decide_eq_true h2⟩⟩
/-- those of a set, of the first p, are put off -/
def mrm (s : Nat → Int32) (a : Nat) : Nat → (Nat → Int32)
  | 0 => s
  | p + 1 => if a.testBit p = true then upd (mrm s a p) (5 + 4 * p + 3) (-1) else mrm s a p
theorem mrm_o (s : Nat → Int32) (a : Nat) : ∀ (p j : Nat), (∀ q, q < p → ¬ j = 5 + 4 * q + 3) → mrm s a p j = s j
  | 0, _, _ => rfl
  | p + 1, j, h => by
    have ih := mrm_o s a p j (fun q hq => h q (by omega))
    unfold mrm
    split
    · rw [ud_n (h p (by omega))]; exact ih
    · exact ih
theorem mrm_p (s : Nat → Int32) (a : Nat) : ∀ (p q : Nat), q < p → mrm s a p (5 + 4 * q + 3) = if a.testBit q = true then -1 else s (5 + 4 * q + 3)
  | p + 1, q, h => by
    unfold mrm
    by_cases e : q = p
    · subst e
      by_cases c : a.testBit q = true
      · rw [if_pos c, if_pos c, ud_s]
      · rw [if_neg c, if_neg c]; exact mrm_o s a q _ (fun r hr => by omega)
    · have ih := mrm_p s a p q (by omega)
      split
      · rw [ud_n (by omega)]; exact ih
      · exact ih
/-- where all sit then -/
def plr (pl : Nat → Int32) (a : Nat) : Nat → Int32 := fun q => if a.testBit q = true then -1 else pl q
theorem mrm_tilt {s : Nat → Int32} {a n : Nat} : sm_tilt (mrm s a n) n = sp_tilt (mK s) (mG s) (mS s) (plr (mP s) a) (s 1) (s 3) (s 4) n := by
  unfold sm_tilt
  rw [mrm_o s a n 1 (fun q _ => by omega), mrm_o s a n 3 (fun q _ => by omega), mrm_o s a n 4 (fun q _ => by omega)]
  refine sp_tilt_c (fun p hp => ⟨?_, ?_, ?_, ?_⟩)
  · exact mrm_o s a n _ (fun q _ => by omega)
  · exact mrm_o s a n _ (fun q _ => by omega)
  · exact mrm_o s a n _ (fun q _ => by omega)
  · exact mrm_p s a n p hp
section RM
variable {K Gl So pl : Nat → Int32} {mn e e2 h0 : Int32} {a : Nat}
theorem load_rm (he : ¬ (-1 : Int32) = e) : ∀ n, (∀ p, p < n → a.testBit p = true → pl p = e) → sp_load K Gl So (plr pl a) mn e h0 n + hsum (fun q => sp_heart (K q) (Gl q) (So q) mn) a n = sp_load K Gl So pl mn e h0 n
  | 0, _ => by unfold sp_load hsum; rw [Int32.add_zero]
  | n + 1, h => by
    have ih := load_rm he n (fun p hp => h p (by omega))
    unfold sp_load hsum
    by_cases c : a.testBit n = true
    · rw [if_pos c, if_pos (h n (by omega) c), show plr pl a n = -1 from if_pos c, if_neg he, ← Int32.add_assoc, ih]
    · rw [if_neg c, show plr pl a n = pl n from if_neg c]
      by_cases d : pl n = e
      · rw [if_pos d, if_pos d, ← ih, Int32.add_assoc, Int32.add_comm (sp_heart _ _ _ _), ← Int32.add_assoc]
      · rw [if_neg d, if_neg d, ih]
theorem load_rm2 (he : ¬ (-1 : Int32) = e2) (hne : ¬ e = e2) : ∀ n, (∀ p, p < n → a.testBit p = true → pl p = e) → sp_load K Gl So (plr pl a) mn e2 h0 n = sp_load K Gl So pl mn e2 h0 n
  | 0, _ => rfl
  | n + 1, h => by
    have ih := load_rm2 he hne n (fun p hp => h p (by omega))
    unfold sp_load
    by_cases c : a.testBit n = true
    · have d := h n (by omega) c
      rw [show plr pl a n = -1 from if_pos c, if_neg he, if_neg (by rw [d]; exact hne), ih]
    · rw [show plr pl a n = pl n from if_neg c, ih]
end RM
theorem hangs_rm {pl : Nat → Int32} {a n : Nat} (hn : n ≤ 8) (h : sp_hangs (plr pl a) n) : sp_hangs pl n := by
  have key : ∀ e : Int32, ¬ (-1 : Int32) = e → ¬ sp_sit (plr pl a) e n = 0 → ¬ sp_sit pl e n = 0 := by
    intro e he h
    rw [sit_ne hn] at h ⊢
    obtain ⟨q, h1, h2⟩ := h
    refine ⟨q, h1, ?_⟩
    by_cases c : a.testBit q = true
    · rw [show plr pl a q = -1 from if_pos c] at h2; exact absurd h2 he
    · rw [show plr pl a q = pl q from if_neg c] at h2; exact h2
  exact ⟨key 0 (by decide) h.1, key 1 (by decide) h.2⟩
theorem and_tb {a b : Nat} (h : a &&& b = a) {p : Nat} (hp : a.testBit p = true) : b.testBit p = true := by
  rw [← h, Nat.testBit_and, Bool.and_eq_true] at hp
  exact hp.2
/-- level with those put off, or not -/
theorem tilt_rm {s : Nat → Int32} {a n : Nat} {e : Int32} (hn : n ≤ 8) (he : e = 0 ∨ e = 1) (ha : a < 256) (hs : a &&& bs (fun q => decide (mP s q = e)) n = a) (hh : sp_hangs (mP s) n) : sm_tilt (mrm s a n) n = 0 ↔ ¬ a = bs (fun q => decide (mP s q = e)) n ∧ sm_tilt s n = hsum (mh s) a n := by
  have hm : ∀ p, p < 8 → a.testBit p = true → p < n ∧ mP s p = e := by
    intro p hp h
    obtain ⟨h1, h2⟩ := (bs_tb _ n hn p hp).mp (and_tb hs h)
    exact ⟨h1, of_decide_eq_true h2⟩
  have hm2 : ∀ p, p < n → a.testBit p = true → mP s p = e := fun p hp h => (hm p (by omega) h).2
  have m0 : ¬ (-1 : Int32) = 0 := by decide
  have m1 : ¬ (-1 : Int32) = 1 := by decide
  have m2 : ¬ (0 : Int32) = 1 := by decide
  have m3 : ¬ (1 : Int32) = 0 := by decide
  have hme : ¬ (-1 : Int32) = e := by rcases he with rfl | rfl <;> assumption
  rw [mrm_tilt]
  have hsit : ¬ sp_sit (plr (mP s) a) e n = 0 ↔ ¬ a = bs (fun q => decide (mP s q = e)) n := by
    rw [sit_ne hn]
    constructor
    · rintro ⟨q, h1, h2⟩ hz
      have c : a.testBit q = true := by
        rw [hz, bs_tb _ n hn q (by omega)]
        refine ⟨h1, decide_eq_true ?_⟩
        by_cases c : a.testBit q = true
        · exact hm2 q h1 c
        · rw [show plr (mP s) a q = mP s q from if_neg c] at h2; exact h2
      rw [show plr (mP s) a q = -1 from if_pos c] at h2
      exact hme h2
    · intro hz
      refine Decidable.byContradiction fun hno => hz (Nat.eq_of_testBit_eq fun p => ?_)
      by_cases hp : p < 8
      · rw [Bool.eq_iff_iff, bs_tb _ n hn p hp]
        constructor
        · intro c
          exact ⟨(hm p hp c).1, decide_eq_true (hm p hp c).2⟩
        · rintro ⟨c1, c2⟩
          refine Decidable.byContradiction fun c3 => hno ⟨p, c1, ?_⟩
          rw [show plr (mP s) a p = mP s p from if_neg c3]
          exact of_decide_eq_true c2
      · have h256 : 2 ^ 8 ≤ 2 ^ p := Nat.pow_le_pow_right (n := 2) (by omega) (by omega)
        have hb := bs_256 (f := fun q => decide (mP s q = e)) hn
        rw [tb_hi (by omega), tb_hi (by omega)]
  have fin : ∀ t' hs' t : Int32, t' + hs' = t → (t' = 0 ↔ t = hs') := by
    intro t' hs' t hq
    constructor
    · intro z; rw [← hq, z, Int32.zero_add]
    · intro z
      rw [z] at hq
      have := congrArg (fun y => y - hs') hq
      simp only [Int32.add_sub_cancel, Int32.sub_self] at this
      exact this
  have f5 : ¬ (5000 : Int32) = 0 := by decide
  have hh2 : sp_hangs (plr (mP s) a) n ↔ ¬ a = bs (fun q => decide (mP s q = e)) n := by
    constructor
    · intro z
      rcases he with rfl | rfl
      · exact hsit.mp z.1
      · exact hsit.mp z.2
    · intro z
      have o2 : ∀ e2 : Int32, ¬ (-1 : Int32) = e2 → ¬ e = e2 → ¬ sp_sit (mP s) e2 n = 0 → ¬ sp_sit (plr (mP s) a) e2 n = 0 := by
        intro e2 g1 g2 g3
        rw [sit_ne hn] at g3 ⊢
        obtain ⟨q, h1, h2⟩ := g3
        refine ⟨q, h1, ?_⟩
        have c : ¬ a.testBit q = true := fun c => g2 ((hm2 q h1 c).symm.trans h2)
        rw [show plr (mP s) a q = mP s q from if_neg c]
        exact h2
      rcases he with rfl | rfl
      · exact ⟨hsit.mpr z, o2 1 m1 m2 hh.2⟩
      · exact ⟨o2 0 m0 m3 hh.1, hsit.mpr z⟩
  unfold sm_tilt sp_tilt
  rw [if_pos hh]
  by_cases hz : a = bs (fun q => decide (mP s q = e)) n
  · rw [if_neg (fun z => hh2.mp z hz)]
    exact ⟨fun z => absurd z f5, fun z => absurd hz z.1⟩
  · rw [if_pos (hh2.mpr hz)]
    have g : ∀ t : Int32, (¬ a = bs (fun q => decide (mP s q = e)) n ∧ t = hsum (mh s) a n) ↔ t = hsum (mh s) a n := fun t => ⟨fun z => z.2, fun z => ⟨hz, z⟩⟩
    rw [g]
    refine fin _ _ _ ?_
    have eh : hsum (mh s) a n = hsum (fun q => sp_heart (mK s q) (mG s q) (mS s q) (s 1)) a n := rfl
    rw [eh]
    rcases he with rfl | rfl
    · rw [Int32.add_assoc, Int32.add_comm (sp_load (mK s) (mG s) (mS s) (plr (mP s) a) (s 1) 1 (s 4) n), ← Int32.add_assoc, load_rm m0 n hm2, load_rm2 m1 m2 n hm2]
    · rw [Int32.add_assoc, load_rm m1 n hm2, load_rm2 m0 m3 n hm2]
theorem tilt_rm0 {s : Nat → Int32} {a n : Nat} (hn : n ≤ 8) (hh : ¬ sp_hangs (mP s) n) : ¬ sm_tilt (mrm s a n) n = 0 := by
  rw [mrm_tilt]
  unfold sp_tilt
  rw [if_neg (fun z => hh (hangs_rm hn z))]
  decide
def fob : Option Nat → Int32
  | none => -1
  | some a => nI a
def opc : Option Nat → Nat
  | none => 0
  | some a => pcn a
def fstep (T : Nat) (F : Nat → Bool) (st : Option Nat) (i : Nat) : Option Nat := if (i &&& T = i ∧ (st = none ∨ pcn i < opc st)) ∧ F i = true then some i else st
def ffo (T : Nat) (F : Nat → Bool) : Nat → Nat → Option Nat → Option Nat
  | 0, _, st => st
  | k + 1, i, st => ffo T F k (i + 1) (fstep T F st i)
theorem ffo_c {T : Nat} {F H : Nat → Bool} : ∀ (k i : Nat) (st : Option Nat), (∀ j, i ≤ j → j < i + k → j &&& T = j → F j = H j) → ffo T F k i st = ffo T H k i st
  | 0, _, _, _ => rfl
  | k + 1, i, st, h => by
    unfold ffo
    have e : fstep T F st i = fstep T H st i := by
      unfold fstep
      by_cases c : i &&& T = i
      · rw [h i (by omega) (by omega) c]
      · rw [if_neg (fun z => c z.1.1), if_neg (fun z => c z.1.1)]
    rw [e]
    exact ffo_c k (i + 1) _ (fun j h1 h2 => h j (by omega) (by omega))
theorem ffo_last {T : Nat} {F : Nat → Bool} : ∀ (k i : Nat) (st : Option Nat), F (i + k) = false → ffo T F (k + 1) i st = ffo T F k i st
  | 0, i, st, h => by
    rw [Nat.add_zero] at h
    unfold ffo
    rw [fstep, if_neg (fun z => by rw [h] at z; exact absurd z.2 Bool.false_ne_true)]
    rfl
  | k + 1, i, st, h => by
    rw [ffo, ffo_last k (i + 1) _ (by rw [show i + 1 + k = i + (k + 1) by omega]; exact h)]
    exact (rfl : ffo T F (k + 1) i st = ffo T F k (i + 1) (fstep T F st i)).symm
theorem ffo_none {T : Nat} {F : Nat → Bool} (h : ∀ j, F j = false) : ∀ (k i : Nat), ffo T F k i none = none
  | 0, _ => rfl
  | k + 1, i => by
    unfold ffo
    rw [fstep, if_neg (fun z => by rw [h] at z; exact absurd z.2 Bool.false_ne_true)]
    exact ffo_none h k (i + 1)
def ffit (st : Option Nat) : Prop := ∀ a, st = some a → a < 256
theorem ffit.step {T : Nat} {F : Nat → Bool} {st : Option Nat} {i : Nat} (h : ffit st) (hi : i < 256) : ffit (fstep T F st i) := by
  unfold fstep
  split
  · intro a ha
    obtain rfl := Option.some.inj ha
    exact hi
  · exact h
theorem ffit.all {T : Nat} {F : Nat → Bool} : ∀ (k i : Nat) (st : Option Nat), ffit st → i + k ≤ 256 → ffit (ffo T F k i st)
  | 0, _, _, h, _ => h
  | k + 1, i, st, h, hk => by
    unfold ffo
    exact ffit.all k (i + 1) _ (h.step (by omega)) (by omega)
theorem fob_lt {st : Option Nat} (h : ffit st) : (fob st < 0) = (st = none) := by
  cases st with
  | none => exact propext ⟨fun _ => rfl, fun _ => by decide⟩
  | some a => exact propext ⟨fun z => absurd z (nI_pos (by have := h a rfl; omega)), fun z => nomatch z⟩
theorem fob_ge {st : Option Nat} (h : ffit st) : (0 ≤ fob st) = (¬ st = none) := by rw [← fob_lt h]; exact propext Int32.not_lt.symm

section OP
variable {G : sx_G} {c n : Nat} {A : sx_A} {Z : sx_Z} {Q : List Value → sx_A → sx_Z → Prop}

theorem lX3_fewest {T : Nat} {t : Int32} {l1 : Option Value} (hn : n ≤ 8) (hT : T < 256) (hA : A 1 5 = nI n) : ∀ (k i : Nat) (st : Option Nat) (l6 l7 : Option Value), i + k = T → ffit st → (sx_ev G mX3_fewest 58 [some (.ref 0), l1, some (.int (nI T)), some (.int t), some (.int (fob st)), some (.int (nI i)), l6, l7] [] A Z Q ↔ if ffo T (fun j => decide (t = hsum (A 25) j n)) k i st = none then Q [.int (-1000000004)] (va_up A 38 (upd (A 38) 3 (A 38 3 + 1))) Z else Q [.int (fob (ffo T (fun j => decide (t = hsum (A 25) j n)) k i st))] A Z) := by
  intro k
  induction k with
  | zero =>
    intro i st l6 l7 hi hf
    obtain rfl : i = T := by omega
    rw [eX3_fewest_58]
    have h1 : nI i ≤ nI i := nI_le (Nat.le_refl _) (by omega)
    have h2 := fob_ge hf
    by_cases c : st = none
    · subst c
      simp only [eX3_fewest_0, eX3_fewest_1, eX3_fewest_4, eX3_fewest_7, eX3_fewest_8, eX3_fewest_10, eX3_fewest_13, eX3_fewest_14, eX3_fewest_15, eX3_fewest_18, eX3_fewest_21, eX3_fewest_24, eX3_fewest_25, eX3_fewest_27, eX3_fewest_30, eX3_fewest_31, eX3_fewest_32, eX3_fewest_35, eX3_fewest_36, eX3_fewest_39, eX3_fewest_40, eX3_fewest_43, eX3_fewest_44, eX3_fewest_45, eX3_fewest_48, eX3_fewest_51, eX3_fewest_52, eX3_fewest_53, eX3_fewest_55, eX3_fewest_56, eX3_fewest_60, eX3_fewest_61, eX3_fewest_64, eX3_fewest_66, eX3_fewest_67, eX3_fewest_68, eX3_fewest_70, eX3_fewest_73, eX3_fewest_74, eX3_fewest_77, eX3_fewest_78, eX3_fewest_80, eX3_fewest_82, eX3_fewest_85, eX3_fewest_87, eX3_fewest_90, eX3_fewest_92, eX3_fewest_95, eX3_fewest_98, eX3_fewest_99, eX3_fewest_102, eX3_fewest_103, eX3_fewest_105, eX3_fewest_107, eX3_fewest_110, eX3_fewest_112, eX3_fewest_115, eX3_fewest_116, eX3_fewest_117, eX3_fewest_119, eX3_fewest_122, eX3_fewest_125, eX3_fewest_127, eX3_fewest_129, eX3_fewest_132, eX3_fewest_135, eX3_fewest_137, eX3_fewest_140, eX3_fewest_141, eX3_fewest_143, eX3_fewest_146, eX3_fewest_149, eX3_fewest_151, kd_0, fr_0_0, fr_0_1, fr_0_2, fr_0_3, fr_0_4, fr_0_5, fr_0_6, fr_0_7, fr_0_8, kd_1, fr_1_0, fr_1_1, fr_1_2, fr_1_3, fr_1_4, kd_2, an_2, rd_2, kd_3, an_3, rd_3, kd_4, an_4, rd_4, kd_5, an_5, rd_5, kd_6, an_6, rd_6, kd_7, kd_13, fr_13_0, fr_13_1, fr_13_2, fr_13_3, fr_13_4, kd_14, an_14, rd_14, kd_15, an_15, rd_15, kd_16, an_16, rd_16, kd_17, an_17, rd_17, kd_19, fr_19_3, kd_23, an_23, rd_23, kd_25, an_25, rd_25, kd_26, an_26, rd_26, kd_27, fr_27_0, kd_28, an_28, rd_28, kd_29, an_29, kd_38, an_38, rd_38, tX3_finding0, tX3_finding1, tX3_finding2, tX3_finding3, tX3_finding4, tX3_finding5, tX3_finding6, h1, show (0 ≤ fob none) = False from eq_false (by decide), ffo, Nat.reduceLeDiff, Nat.reduceEqDiff, Nat.reduceAdd, if_true, if_false, b2i_T, b2i_F, and_self, and_false, false_and, true_and, and_true, true_or, or_true, false_or, or_false, or_self, not_true_eq_false, not_false_eq_true, eq_self, List.cons_append, List.nil_append]
    · simp only [eX3_fewest_0, eX3_fewest_1, eX3_fewest_4, eX3_fewest_7, eX3_fewest_8, eX3_fewest_10, eX3_fewest_13, eX3_fewest_14, eX3_fewest_15, eX3_fewest_18, eX3_fewest_21, eX3_fewest_24, eX3_fewest_25, eX3_fewest_27, eX3_fewest_30, eX3_fewest_31, eX3_fewest_32, eX3_fewest_35, eX3_fewest_36, eX3_fewest_39, eX3_fewest_40, eX3_fewest_43, eX3_fewest_44, eX3_fewest_45, eX3_fewest_48, eX3_fewest_51, eX3_fewest_52, eX3_fewest_53, eX3_fewest_55, eX3_fewest_56, eX3_fewest_60, eX3_fewest_61, eX3_fewest_64, eX3_fewest_66, eX3_fewest_67, eX3_fewest_68, eX3_fewest_70, eX3_fewest_73, eX3_fewest_74, eX3_fewest_77, eX3_fewest_78, eX3_fewest_80, eX3_fewest_82, eX3_fewest_85, eX3_fewest_87, eX3_fewest_90, eX3_fewest_92, eX3_fewest_95, eX3_fewest_98, eX3_fewest_99, eX3_fewest_102, eX3_fewest_103, eX3_fewest_105, eX3_fewest_107, eX3_fewest_110, eX3_fewest_112, eX3_fewest_115, eX3_fewest_116, eX3_fewest_117, eX3_fewest_119, eX3_fewest_122, eX3_fewest_125, eX3_fewest_127, eX3_fewest_129, eX3_fewest_132, eX3_fewest_135, eX3_fewest_137, eX3_fewest_140, eX3_fewest_141, eX3_fewest_143, eX3_fewest_146, eX3_fewest_149, eX3_fewest_151, kd_0, fr_0_0, fr_0_1, fr_0_2, fr_0_3, fr_0_4, fr_0_5, fr_0_6, fr_0_7, fr_0_8, kd_1, fr_1_0, fr_1_1, fr_1_2, fr_1_3, fr_1_4, kd_2, an_2, rd_2, kd_3, an_3, rd_3, kd_4, an_4, rd_4, kd_5, an_5, rd_5, kd_6, an_6, rd_6, kd_7, kd_13, fr_13_0, fr_13_1, fr_13_2, fr_13_3, fr_13_4, kd_14, an_14, rd_14, kd_15, an_15, rd_15, kd_16, an_16, rd_16, kd_17, an_17, rd_17, kd_19, fr_19_3, kd_23, an_23, rd_23, kd_25, an_25, rd_25, kd_26, an_26, rd_26, kd_27, fr_27_0, kd_28, an_28, rd_28, kd_29, an_29, kd_38, an_38, rd_38, tX3_finding0, tX3_finding1, tX3_finding2, tX3_finding3, tX3_finding4, tX3_finding5, tX3_finding6, h1, h2, c, ffo, Nat.reduceLeDiff, Nat.reduceEqDiff, Nat.reduceAdd, if_true, if_false, b2i_T, b2i_F, and_self, and_false, false_and, true_and, and_true, true_or, or_true, false_or, or_false, or_self, not_true_eq_false, not_false_eq_true, eq_self, List.cons_append, List.nil_append]
  | succ k ih =>
    intro i st l6 l7 hi hf
    rw [eX3_fewest_58]
    have h1 : ¬ nI T ≤ nI i := nI_ge (by omega) (by omega)
    have x1 := fun (a : Nat) (ha : a < 256) (Q : List Value → sx_A → sx_Z → Prop) => tJ6_bc (G := G) (A := A) (Z := Z) (Q := Q) ha
    have x2 := fun (Q : List Value → sx_A → sx_Z → Prop) => tX3_heartsOf (G := G) (A := A) (Z := Z) (Q := Q) (a := i) hn (by omega) hA
    have h4 := fun l6 l7 => ih (i + 1) (fstep T (fun j => decide (t = hsum (A 25) j n)) st i) l6 l7 (by omega) (hf.step (by omega))
    rw [nI_succ] at h4
    rw [ffo]
    have hle : i &&& T ≤ i := Nat.and_le_left
    have ep : (nI i &&& nI T = nI i) = (i &&& T = i) := by rw [i_and]; exact propext (nI_eq (by omega) (by omega))
    have m1 : (-1 : Int32) < 0 := by decide
    have hstop : ∀ st', fstep T (fun j => decide (t = hsum (A 25) j n)) st i = st' → (∀ l6 l7, sx_ev G mX3_fewest 129 [some (.ref 0), l1, some (.int (nI T)), some (.int t), some (.int (fob st')), some (.int (nI i)), l6, l7] [] A Z Q ↔ if ffo T (fun j => decide (t = hsum (A 25) j n)) k (i + 1) st' = none then Q [.int (-1000000004)] (va_up A 38 (upd (A 38) 3 (A 38 3 + 1))) Z else Q [.int (fob (ffo T (fun j => decide (t = hsum (A 25) j n)) k (i + 1) st'))] A Z) := by
      intro st' es l6 l7
      rw [es] at h4
      rw [eX3_fewest_129, eX3_fewest_132]
      exact h4 l6 l7
    have hneg : (¬ ((i &&& T = i ∧ (st = none ∨ pcn i < opc st)) ∧ decide (t = hsum (A 25) i n) = true)) → fstep T (fun j => decide (t = hsum (A 25) j n)) st i = st := fun z => if_neg z
    by_cases c1 : i &&& T = i
    · by_cases c2 : st = none ∨ pcn i < opc st
      · by_cases c3 : t = hsum (A 25) i n
        · have es : fstep T (fun j => decide (t = hsum (A 25) j n)) st i = some i := if_pos ⟨⟨c1, c2⟩, decide_eq_true c3⟩
          rw [es]
          have hq := hstop _ es
          cases st with
          | none =>
            simp only [eX3_fewest_0, eX3_fewest_1, eX3_fewest_4, eX3_fewest_7, eX3_fewest_8, eX3_fewest_10, eX3_fewest_13, eX3_fewest_14, eX3_fewest_15, eX3_fewest_18, eX3_fewest_21, eX3_fewest_24, eX3_fewest_25, eX3_fewest_27, eX3_fewest_30, eX3_fewest_31, eX3_fewest_32, eX3_fewest_35, eX3_fewest_36, eX3_fewest_39, eX3_fewest_40, eX3_fewest_43, eX3_fewest_44, eX3_fewest_45, eX3_fewest_48, eX3_fewest_51, eX3_fewest_52, eX3_fewest_53, eX3_fewest_55, eX3_fewest_56, eX3_fewest_60, eX3_fewest_61, eX3_fewest_64, eX3_fewest_66, eX3_fewest_67, eX3_fewest_68, eX3_fewest_70, eX3_fewest_73, eX3_fewest_74, eX3_fewest_77, eX3_fewest_78, eX3_fewest_80, eX3_fewest_82, eX3_fewest_85, eX3_fewest_87, eX3_fewest_90, eX3_fewest_92, eX3_fewest_95, eX3_fewest_98, eX3_fewest_99, eX3_fewest_102, eX3_fewest_103, eX3_fewest_105, eX3_fewest_107, eX3_fewest_110, eX3_fewest_112, eX3_fewest_115, eX3_fewest_116, eX3_fewest_117, eX3_fewest_119, eX3_fewest_122, eX3_fewest_125, eX3_fewest_127, eX3_fewest_132, eX3_fewest_135, eX3_fewest_137, eX3_fewest_140, eX3_fewest_141, eX3_fewest_143, eX3_fewest_146, eX3_fewest_149, eX3_fewest_151, kd_0, fr_0_0, fr_0_1, fr_0_2, fr_0_3, fr_0_4, fr_0_5, fr_0_6, fr_0_7, fr_0_8, kd_1, fr_1_0, fr_1_1, fr_1_2, fr_1_3, fr_1_4, kd_2, an_2, rd_2, kd_3, an_3, rd_3, kd_4, an_4, rd_4, kd_5, an_5, rd_5, kd_6, an_6, rd_6, kd_7, kd_13, fr_13_0, fr_13_1, fr_13_2, fr_13_3, fr_13_4, kd_14, an_14, rd_14, kd_15, an_15, rd_15, kd_16, an_16, rd_16, kd_17, an_17, rd_17, kd_19, fr_19_3, kd_23, an_23, rd_23, kd_25, an_25, rd_25, kd_26, an_26, rd_26, kd_27, fr_27_0, kd_28, an_28, rd_28, kd_29, an_29, kd_38, an_38, rd_38, h1, ep, c1, m1, x2, ← c3, one_ne0, show fob none = -1 from rfl, Nat.reduceLeDiff, Nat.reduceEqDiff, Nat.reduceAdd, if_true, if_false, b2i_T, b2i_F, and_self, and_false, false_and, true_and, and_true, true_or, or_true, false_or, or_false, or_self, not_true_eq_false, not_false_eq_true, eq_self, List.cons_append, List.nil_append]
            exact hq _ _
          | some a =>
            have ha := hf a rfl
            have d2 : ¬ nI a < 0 := nI_pos (by omega)
            have d3 : ¬ nI (pcn a) ≤ nI (pcn i) := nI_ge (c2.resolve_left (fun z => nomatch z)) (by have := pcn_le a; omega)
            simp only [eX3_fewest_0, eX3_fewest_1, eX3_fewest_4, eX3_fewest_7, eX3_fewest_8, eX3_fewest_10, eX3_fewest_13, eX3_fewest_14, eX3_fewest_15, eX3_fewest_18, eX3_fewest_21, eX3_fewest_24, eX3_fewest_25, eX3_fewest_27, eX3_fewest_30, eX3_fewest_31, eX3_fewest_32, eX3_fewest_35, eX3_fewest_36, eX3_fewest_39, eX3_fewest_40, eX3_fewest_43, eX3_fewest_44, eX3_fewest_45, eX3_fewest_48, eX3_fewest_51, eX3_fewest_52, eX3_fewest_53, eX3_fewest_55, eX3_fewest_56, eX3_fewest_60, eX3_fewest_61, eX3_fewest_64, eX3_fewest_66, eX3_fewest_67, eX3_fewest_68, eX3_fewest_70, eX3_fewest_73, eX3_fewest_74, eX3_fewest_77, eX3_fewest_78, eX3_fewest_80, eX3_fewest_82, eX3_fewest_85, eX3_fewest_87, eX3_fewest_90, eX3_fewest_92, eX3_fewest_95, eX3_fewest_98, eX3_fewest_99, eX3_fewest_102, eX3_fewest_103, eX3_fewest_105, eX3_fewest_107, eX3_fewest_110, eX3_fewest_112, eX3_fewest_115, eX3_fewest_116, eX3_fewest_117, eX3_fewest_119, eX3_fewest_122, eX3_fewest_125, eX3_fewest_127, eX3_fewest_132, eX3_fewest_135, eX3_fewest_137, eX3_fewest_140, eX3_fewest_141, eX3_fewest_143, eX3_fewest_146, eX3_fewest_149, eX3_fewest_151, kd_0, fr_0_0, fr_0_1, fr_0_2, fr_0_3, fr_0_4, fr_0_5, fr_0_6, fr_0_7, fr_0_8, kd_1, fr_1_0, fr_1_1, fr_1_2, fr_1_3, fr_1_4, kd_2, an_2, rd_2, kd_3, an_3, rd_3, kd_4, an_4, rd_4, kd_5, an_5, rd_5, kd_6, an_6, rd_6, kd_7, kd_13, fr_13_0, fr_13_1, fr_13_2, fr_13_3, fr_13_4, kd_14, an_14, rd_14, kd_15, an_15, rd_15, kd_16, an_16, rd_16, kd_17, an_17, rd_17, kd_19, fr_19_3, kd_23, an_23, rd_23, kd_25, an_25, rd_25, kd_26, an_26, rd_26, kd_27, fr_27_0, kd_28, an_28, rd_28, kd_29, an_29, kd_38, an_38, rd_38, h1, ep, c1, x1 i (show i < 256 by omega), x1 a ha, x2, ← c3, d2, d3, one_ne0, show fob (some a) = nI a from rfl, Nat.reduceLeDiff, Nat.reduceEqDiff, Nat.reduceAdd, if_true, if_false, b2i_T, b2i_F, and_self, and_false, false_and, true_and, and_true, true_or, or_true, false_or, or_false, or_self, not_true_eq_false, not_false_eq_true, eq_self, List.cons_append, List.nil_append]
            exact hq _ _
        · have es := hneg (fun z => c3 (of_decide_eq_true z.2))
          rw [es]
          have hq := hstop _ es
          cases st with
          | none =>
            simp only [eX3_fewest_0, eX3_fewest_1, eX3_fewest_4, eX3_fewest_7, eX3_fewest_8, eX3_fewest_10, eX3_fewest_13, eX3_fewest_14, eX3_fewest_15, eX3_fewest_18, eX3_fewest_21, eX3_fewest_24, eX3_fewest_25, eX3_fewest_27, eX3_fewest_30, eX3_fewest_31, eX3_fewest_32, eX3_fewest_35, eX3_fewest_36, eX3_fewest_39, eX3_fewest_40, eX3_fewest_43, eX3_fewest_44, eX3_fewest_45, eX3_fewest_48, eX3_fewest_51, eX3_fewest_52, eX3_fewest_53, eX3_fewest_55, eX3_fewest_56, eX3_fewest_60, eX3_fewest_61, eX3_fewest_64, eX3_fewest_66, eX3_fewest_67, eX3_fewest_68, eX3_fewest_70, eX3_fewest_73, eX3_fewest_74, eX3_fewest_77, eX3_fewest_78, eX3_fewest_80, eX3_fewest_82, eX3_fewest_85, eX3_fewest_87, eX3_fewest_90, eX3_fewest_92, eX3_fewest_95, eX3_fewest_98, eX3_fewest_99, eX3_fewest_102, eX3_fewest_103, eX3_fewest_105, eX3_fewest_107, eX3_fewest_110, eX3_fewest_112, eX3_fewest_115, eX3_fewest_116, eX3_fewest_117, eX3_fewest_119, eX3_fewest_122, eX3_fewest_125, eX3_fewest_127, eX3_fewest_132, eX3_fewest_135, eX3_fewest_137, eX3_fewest_140, eX3_fewest_141, eX3_fewest_143, eX3_fewest_146, eX3_fewest_149, eX3_fewest_151, kd_0, fr_0_0, fr_0_1, fr_0_2, fr_0_3, fr_0_4, fr_0_5, fr_0_6, fr_0_7, fr_0_8, kd_1, fr_1_0, fr_1_1, fr_1_2, fr_1_3, fr_1_4, kd_2, an_2, rd_2, kd_3, an_3, rd_3, kd_4, an_4, rd_4, kd_5, an_5, rd_5, kd_6, an_6, rd_6, kd_7, kd_13, fr_13_0, fr_13_1, fr_13_2, fr_13_3, fr_13_4, kd_14, an_14, rd_14, kd_15, an_15, rd_15, kd_16, an_16, rd_16, kd_17, an_17, rd_17, kd_19, fr_19_3, kd_23, an_23, rd_23, kd_25, an_25, rd_25, kd_26, an_26, rd_26, kd_27, fr_27_0, kd_28, an_28, rd_28, kd_29, an_29, kd_38, an_38, rd_38, h1, ep, c1, m1, x2, c3, one_ne0, show fob none = -1 from rfl, Nat.reduceLeDiff, Nat.reduceEqDiff, Nat.reduceAdd, if_true, if_false, b2i_T, b2i_F, and_self, and_false, false_and, true_and, and_true, true_or, or_true, false_or, or_false, or_self, not_true_eq_false, not_false_eq_true, eq_self, List.cons_append, List.nil_append]
            exact hq _ _
          | some a =>
            have ha := hf a rfl
            have d2 : ¬ nI a < 0 := nI_pos (by omega)
            have d3 : ¬ nI (pcn a) ≤ nI (pcn i) := nI_ge (c2.resolve_left (fun z => nomatch z)) (by have := pcn_le a; omega)
            simp only [eX3_fewest_0, eX3_fewest_1, eX3_fewest_4, eX3_fewest_7, eX3_fewest_8, eX3_fewest_10, eX3_fewest_13, eX3_fewest_14, eX3_fewest_15, eX3_fewest_18, eX3_fewest_21, eX3_fewest_24, eX3_fewest_25, eX3_fewest_27, eX3_fewest_30, eX3_fewest_31, eX3_fewest_32, eX3_fewest_35, eX3_fewest_36, eX3_fewest_39, eX3_fewest_40, eX3_fewest_43, eX3_fewest_44, eX3_fewest_45, eX3_fewest_48, eX3_fewest_51, eX3_fewest_52, eX3_fewest_53, eX3_fewest_55, eX3_fewest_56, eX3_fewest_60, eX3_fewest_61, eX3_fewest_64, eX3_fewest_66, eX3_fewest_67, eX3_fewest_68, eX3_fewest_70, eX3_fewest_73, eX3_fewest_74, eX3_fewest_77, eX3_fewest_78, eX3_fewest_80, eX3_fewest_82, eX3_fewest_85, eX3_fewest_87, eX3_fewest_90, eX3_fewest_92, eX3_fewest_95, eX3_fewest_98, eX3_fewest_99, eX3_fewest_102, eX3_fewest_103, eX3_fewest_105, eX3_fewest_107, eX3_fewest_110, eX3_fewest_112, eX3_fewest_115, eX3_fewest_116, eX3_fewest_117, eX3_fewest_119, eX3_fewest_122, eX3_fewest_125, eX3_fewest_127, eX3_fewest_132, eX3_fewest_135, eX3_fewest_137, eX3_fewest_140, eX3_fewest_141, eX3_fewest_143, eX3_fewest_146, eX3_fewest_149, eX3_fewest_151, kd_0, fr_0_0, fr_0_1, fr_0_2, fr_0_3, fr_0_4, fr_0_5, fr_0_6, fr_0_7, fr_0_8, kd_1, fr_1_0, fr_1_1, fr_1_2, fr_1_3, fr_1_4, kd_2, an_2, rd_2, kd_3, an_3, rd_3, kd_4, an_4, rd_4, kd_5, an_5, rd_5, kd_6, an_6, rd_6, kd_7, kd_13, fr_13_0, fr_13_1, fr_13_2, fr_13_3, fr_13_4, kd_14, an_14, rd_14, kd_15, an_15, rd_15, kd_16, an_16, rd_16, kd_17, an_17, rd_17, kd_19, fr_19_3, kd_23, an_23, rd_23, kd_25, an_25, rd_25, kd_26, an_26, rd_26, kd_27, fr_27_0, kd_28, an_28, rd_28, kd_29, an_29, kd_38, an_38, rd_38, h1, ep, c1, x1 i (show i < 256 by omega), x1 a ha, x2, c3, d2, d3, one_ne0, show fob (some a) = nI a from rfl, Nat.reduceLeDiff, Nat.reduceEqDiff, Nat.reduceAdd, if_true, if_false, b2i_T, b2i_F, and_self, and_false, false_and, true_and, and_true, true_or, or_true, false_or, or_false, or_self, not_true_eq_false, not_false_eq_true, eq_self, List.cons_append, List.nil_append]
            exact hq _ _
      · have es := hneg (fun z => c2 z.1.2)
        rw [es]
        have hq := hstop _ es
        cases st with
        | none => exact absurd (Or.inl rfl) c2
        | some a =>
          have ha := hf a rfl
          have d2 : ¬ nI a < 0 := nI_pos (by omega)
          have d4 : ¬ pcn i < pcn a := fun z => c2 (Or.inr z)
          have d3 : nI (pcn a) ≤ nI (pcn i) := nI_le (by omega) (by have := pcn_le i; omega)
          simp only [eX3_fewest_0, eX3_fewest_1, eX3_fewest_4, eX3_fewest_7, eX3_fewest_8, eX3_fewest_10, eX3_fewest_13, eX3_fewest_14, eX3_fewest_15, eX3_fewest_18, eX3_fewest_21, eX3_fewest_24, eX3_fewest_25, eX3_fewest_27, eX3_fewest_30, eX3_fewest_31, eX3_fewest_32, eX3_fewest_35, eX3_fewest_36, eX3_fewest_39, eX3_fewest_40, eX3_fewest_43, eX3_fewest_44, eX3_fewest_45, eX3_fewest_48, eX3_fewest_51, eX3_fewest_52, eX3_fewest_53, eX3_fewest_55, eX3_fewest_56, eX3_fewest_60, eX3_fewest_61, eX3_fewest_64, eX3_fewest_66, eX3_fewest_67, eX3_fewest_68, eX3_fewest_70, eX3_fewest_73, eX3_fewest_74, eX3_fewest_77, eX3_fewest_78, eX3_fewest_80, eX3_fewest_82, eX3_fewest_85, eX3_fewest_87, eX3_fewest_90, eX3_fewest_92, eX3_fewest_95, eX3_fewest_98, eX3_fewest_99, eX3_fewest_102, eX3_fewest_103, eX3_fewest_105, eX3_fewest_107, eX3_fewest_110, eX3_fewest_112, eX3_fewest_115, eX3_fewest_116, eX3_fewest_117, eX3_fewest_119, eX3_fewest_122, eX3_fewest_125, eX3_fewest_127, eX3_fewest_132, eX3_fewest_135, eX3_fewest_137, eX3_fewest_140, eX3_fewest_141, eX3_fewest_143, eX3_fewest_146, eX3_fewest_149, eX3_fewest_151, kd_0, fr_0_0, fr_0_1, fr_0_2, fr_0_3, fr_0_4, fr_0_5, fr_0_6, fr_0_7, fr_0_8, kd_1, fr_1_0, fr_1_1, fr_1_2, fr_1_3, fr_1_4, kd_2, an_2, rd_2, kd_3, an_3, rd_3, kd_4, an_4, rd_4, kd_5, an_5, rd_5, kd_6, an_6, rd_6, kd_7, kd_13, fr_13_0, fr_13_1, fr_13_2, fr_13_3, fr_13_4, kd_14, an_14, rd_14, kd_15, an_15, rd_15, kd_16, an_16, rd_16, kd_17, an_17, rd_17, kd_19, fr_19_3, kd_23, an_23, rd_23, kd_25, an_25, rd_25, kd_26, an_26, rd_26, kd_27, fr_27_0, kd_28, an_28, rd_28, kd_29, an_29, kd_38, an_38, rd_38, h1, ep, c1, x1 i (show i < 256 by omega), x1 a ha, d2, d3, one_ne0, show fob (some a) = nI a from rfl, Nat.reduceLeDiff, Nat.reduceEqDiff, Nat.reduceAdd, if_true, if_false, b2i_T, b2i_F, and_self, and_false, false_and, true_and, and_true, true_or, or_true, false_or, or_false, or_self, not_true_eq_false, not_false_eq_true, eq_self, List.cons_append, List.nil_append]
          exact hq _ _
    · have es := hneg (fun z => c1 z.1.1)
      rw [es]
      have hq := hstop _ es
      cases st with
      | none =>
        simp only [eX3_fewest_0, eX3_fewest_1, eX3_fewest_4, eX3_fewest_7, eX3_fewest_8, eX3_fewest_10, eX3_fewest_13, eX3_fewest_14, eX3_fewest_15, eX3_fewest_18, eX3_fewest_21, eX3_fewest_24, eX3_fewest_25, eX3_fewest_27, eX3_fewest_30, eX3_fewest_31, eX3_fewest_32, eX3_fewest_35, eX3_fewest_36, eX3_fewest_39, eX3_fewest_40, eX3_fewest_43, eX3_fewest_44, eX3_fewest_45, eX3_fewest_48, eX3_fewest_51, eX3_fewest_52, eX3_fewest_53, eX3_fewest_55, eX3_fewest_56, eX3_fewest_60, eX3_fewest_61, eX3_fewest_64, eX3_fewest_66, eX3_fewest_67, eX3_fewest_68, eX3_fewest_70, eX3_fewest_73, eX3_fewest_74, eX3_fewest_77, eX3_fewest_78, eX3_fewest_80, eX3_fewest_82, eX3_fewest_85, eX3_fewest_87, eX3_fewest_90, eX3_fewest_92, eX3_fewest_95, eX3_fewest_98, eX3_fewest_99, eX3_fewest_102, eX3_fewest_103, eX3_fewest_105, eX3_fewest_107, eX3_fewest_110, eX3_fewest_112, eX3_fewest_115, eX3_fewest_116, eX3_fewest_117, eX3_fewest_119, eX3_fewest_122, eX3_fewest_125, eX3_fewest_127, eX3_fewest_132, eX3_fewest_135, eX3_fewest_137, eX3_fewest_140, eX3_fewest_141, eX3_fewest_143, eX3_fewest_146, eX3_fewest_149, eX3_fewest_151, kd_0, fr_0_0, fr_0_1, fr_0_2, fr_0_3, fr_0_4, fr_0_5, fr_0_6, fr_0_7, fr_0_8, kd_1, fr_1_0, fr_1_1, fr_1_2, fr_1_3, fr_1_4, kd_2, an_2, rd_2, kd_3, an_3, rd_3, kd_4, an_4, rd_4, kd_5, an_5, rd_5, kd_6, an_6, rd_6, kd_7, kd_13, fr_13_0, fr_13_1, fr_13_2, fr_13_3, fr_13_4, kd_14, an_14, rd_14, kd_15, an_15, rd_15, kd_16, an_16, rd_16, kd_17, an_17, rd_17, kd_19, fr_19_3, kd_23, an_23, rd_23, kd_25, an_25, rd_25, kd_26, an_26, rd_26, kd_27, fr_27_0, kd_28, an_28, rd_28, kd_29, an_29, kd_38, an_38, rd_38, h1, ep, c1, m1, show fob none = -1 from rfl, Nat.reduceLeDiff, Nat.reduceEqDiff, Nat.reduceAdd, if_true, if_false, b2i_T, b2i_F, and_self, and_false, false_and, true_and, and_true, true_or, or_true, false_or, or_false, or_self, not_true_eq_false, not_false_eq_true, eq_self, List.cons_append, List.nil_append]
        exact hq _ _
      | some a =>
        have ha := hf a rfl
        have d2 : ¬ nI a < 0 := nI_pos (by omega)
        by_cases d3 : nI (pcn a) ≤ nI (pcn i)
        · simp only [eX3_fewest_0, eX3_fewest_1, eX3_fewest_4, eX3_fewest_7, eX3_fewest_8, eX3_fewest_10, eX3_fewest_13, eX3_fewest_14, eX3_fewest_15, eX3_fewest_18, eX3_fewest_21, eX3_fewest_24, eX3_fewest_25, eX3_fewest_27, eX3_fewest_30, eX3_fewest_31, eX3_fewest_32, eX3_fewest_35, eX3_fewest_36, eX3_fewest_39, eX3_fewest_40, eX3_fewest_43, eX3_fewest_44, eX3_fewest_45, eX3_fewest_48, eX3_fewest_51, eX3_fewest_52, eX3_fewest_53, eX3_fewest_55, eX3_fewest_56, eX3_fewest_60, eX3_fewest_61, eX3_fewest_64, eX3_fewest_66, eX3_fewest_67, eX3_fewest_68, eX3_fewest_70, eX3_fewest_73, eX3_fewest_74, eX3_fewest_77, eX3_fewest_78, eX3_fewest_80, eX3_fewest_82, eX3_fewest_85, eX3_fewest_87, eX3_fewest_90, eX3_fewest_92, eX3_fewest_95, eX3_fewest_98, eX3_fewest_99, eX3_fewest_102, eX3_fewest_103, eX3_fewest_105, eX3_fewest_107, eX3_fewest_110, eX3_fewest_112, eX3_fewest_115, eX3_fewest_116, eX3_fewest_117, eX3_fewest_119, eX3_fewest_122, eX3_fewest_125, eX3_fewest_127, eX3_fewest_132, eX3_fewest_135, eX3_fewest_137, eX3_fewest_140, eX3_fewest_141, eX3_fewest_143, eX3_fewest_146, eX3_fewest_149, eX3_fewest_151, kd_0, fr_0_0, fr_0_1, fr_0_2, fr_0_3, fr_0_4, fr_0_5, fr_0_6, fr_0_7, fr_0_8, kd_1, fr_1_0, fr_1_1, fr_1_2, fr_1_3, fr_1_4, kd_2, an_2, rd_2, kd_3, an_3, rd_3, kd_4, an_4, rd_4, kd_5, an_5, rd_5, kd_6, an_6, rd_6, kd_7, kd_13, fr_13_0, fr_13_1, fr_13_2, fr_13_3, fr_13_4, kd_14, an_14, rd_14, kd_15, an_15, rd_15, kd_16, an_16, rd_16, kd_17, an_17, rd_17, kd_19, fr_19_3, kd_23, an_23, rd_23, kd_25, an_25, rd_25, kd_26, an_26, rd_26, kd_27, fr_27_0, kd_28, an_28, rd_28, kd_29, an_29, kd_38, an_38, rd_38, h1, ep, c1, x1 i (show i < 256 by omega), x1 a ha, d2, d3, show fob (some a) = nI a from rfl, Nat.reduceLeDiff, Nat.reduceEqDiff, Nat.reduceAdd, if_true, if_false, b2i_T, b2i_F, and_self, and_false, false_and, true_and, and_true, true_or, or_true, false_or, or_false, or_self, not_true_eq_false, not_false_eq_true, eq_self, List.cons_append, List.nil_append]
          exact hq _ _
        · simp only [eX3_fewest_0, eX3_fewest_1, eX3_fewest_4, eX3_fewest_7, eX3_fewest_8, eX3_fewest_10, eX3_fewest_13, eX3_fewest_14, eX3_fewest_15, eX3_fewest_18, eX3_fewest_21, eX3_fewest_24, eX3_fewest_25, eX3_fewest_27, eX3_fewest_30, eX3_fewest_31, eX3_fewest_32, eX3_fewest_35, eX3_fewest_36, eX3_fewest_39, eX3_fewest_40, eX3_fewest_43, eX3_fewest_44, eX3_fewest_45, eX3_fewest_48, eX3_fewest_51, eX3_fewest_52, eX3_fewest_53, eX3_fewest_55, eX3_fewest_56, eX3_fewest_60, eX3_fewest_61, eX3_fewest_64, eX3_fewest_66, eX3_fewest_67, eX3_fewest_68, eX3_fewest_70, eX3_fewest_73, eX3_fewest_74, eX3_fewest_77, eX3_fewest_78, eX3_fewest_80, eX3_fewest_82, eX3_fewest_85, eX3_fewest_87, eX3_fewest_90, eX3_fewest_92, eX3_fewest_95, eX3_fewest_98, eX3_fewest_99, eX3_fewest_102, eX3_fewest_103, eX3_fewest_105, eX3_fewest_107, eX3_fewest_110, eX3_fewest_112, eX3_fewest_115, eX3_fewest_116, eX3_fewest_117, eX3_fewest_119, eX3_fewest_122, eX3_fewest_125, eX3_fewest_127, eX3_fewest_132, eX3_fewest_135, eX3_fewest_137, eX3_fewest_140, eX3_fewest_141, eX3_fewest_143, eX3_fewest_146, eX3_fewest_149, eX3_fewest_151, kd_0, fr_0_0, fr_0_1, fr_0_2, fr_0_3, fr_0_4, fr_0_5, fr_0_6, fr_0_7, fr_0_8, kd_1, fr_1_0, fr_1_1, fr_1_2, fr_1_3, fr_1_4, kd_2, an_2, rd_2, kd_3, an_3, rd_3, kd_4, an_4, rd_4, kd_5, an_5, rd_5, kd_6, an_6, rd_6, kd_7, kd_13, fr_13_0, fr_13_1, fr_13_2, fr_13_3, fr_13_4, kd_14, an_14, rd_14, kd_15, an_15, rd_15, kd_16, an_16, rd_16, kd_17, an_17, rd_17, kd_19, fr_19_3, kd_23, an_23, rd_23, kd_25, an_25, rd_25, kd_26, an_26, rd_26, kd_27, fr_27_0, kd_28, an_28, rd_28, kd_29, an_29, kd_38, an_38, rd_38, h1, ep, c1, x1 i (show i < 256 by omega), x1 a ha, d2, d3, show fob (some a) = nI a from rfl, Nat.reduceLeDiff, Nat.reduceEqDiff, Nat.reduceAdd, if_true, if_false, b2i_T, b2i_F, and_self, and_false, false_and, true_and, and_true, true_or, or_true, false_or, or_false, or_self, not_true_eq_false, not_false_eq_true, eq_self, List.cons_append, List.nil_append]
          exact hq _ _
theorem lX4_fewestI {s : Nat → Int32} {a : Nat} {l1 l2 l3 : Option Value} {C : sx_A} (hn : n ≤ 8) (ha : a < 256) (h0 : s 0 = nI n) : ∀ (k p : Nat), p + k = n → (sx_ev G mX4_fewest 63 [some (.ref 39), l1, l2, l3, some (.int (nI a)), some (.int (nI p))] [] (va_up C 40 (mrm s a p)) Z Q ↔ sx_ev G mX4_fewest 113 [some (.ref 39), l1, l2, l3, some (.int (nI a)), some (.int (nI n))] [] (va_up C 40 (mrm s a n)) Z Q) := by
  have e0 : ∀ p, mrm s a p 0 = nI n := fun p => (mrm_o s a p 0 (fun q _ => by omega)).trans h0
  intro k
  induction k with
  | zero =>
    intro p hp
    obtain rfl : p = n := by omega
    rw [eX4_fewest_63]
    have h1 : nI p ≤ nI p := nI_le (Nat.le_refl _) (by omega)
    simp only [eX4_fewest_0, eX4_fewest_1, eX4_fewest_4, eX4_fewest_7, eX4_fewest_8, eX4_fewest_10, eX4_fewest_13, eX4_fewest_14, eX4_fewest_15, eX4_fewest_16, eX4_fewest_19, eX4_fewest_20, eX4_fewest_21, eX4_fewest_22, eX4_fewest_23, eX4_fewest_26, eX4_fewest_27, eX4_fewest_31, eX4_fewest_32, eX4_fewest_35, eX4_fewest_37, eX4_fewest_38, eX4_fewest_39, eX4_fewest_40, eX4_fewest_41, eX4_fewest_44, eX4_fewest_45, eX4_fewest_48, eX4_fewest_50, eX4_fewest_53, eX4_fewest_54, eX4_fewest_57, eX4_fewest_60, eX4_fewest_61, eX4_fewest_65, eX4_fewest_66, eX4_fewest_69, eX4_fewest_70, eX4_fewest_71, eX4_fewest_74, eX4_fewest_75, eX4_fewest_78, eX4_fewest_80, eX4_fewest_81, eX4_fewest_84, eX4_fewest_86, eX4_fewest_88, eX4_fewest_89, eX4_fewest_90, eX4_fewest_91, eX4_fewest_92, eX4_fewest_95, eX4_fewest_96, eX4_fewest_99, eX4_fewest_100, eX4_fewest_102, eX4_fewest_103, eX4_fewest_106, eX4_fewest_107, eX4_fewest_110, eX4_fewest_114, eX4_fewest_115, eX4_fewest_118, eX4_fewest_121, eX4_fewest_123, eX4_fewest_126, eX4_fewest_127, eX4_fewest_130, eX4_fewest_131, eX4_fewest_134, eX4_fewest_137, eX4_fewest_138, eX4_fewest_141, eX4_fewest_142, eX4_fewest_144, eX4_fewest_147, eX4_fewest_150, eX4_fewest_151, kd_39, fr_39_0, fr_39_1, fr_39_2, fr_39_3, fr_39_4, fr_39_6, fr_39_12, fr_39_13, fr_39_14, fr_39_15, kd_40, an_40, rd_40, kd_41, an_41, rd_41, kd_42, an_42, rd_42, kd_43, an_43, rd_43, kd_44, an_44, rd_44, kd_45, an_45, rd_45, kd_46, an_46, rd_46, kd_47, an_47, rd_47, kd_48, an_48, kd_49, an_49, z_0, z_1, z_2, z_3, z_4, zc_0, zc_1, zc_2, zc_3, zc_4, up_s, e0, h1, Nat.reduceLeDiff, Nat.reduceEqDiff, Nat.reduceAdd, if_true, if_false, b2i_T, b2i_F, and_self, and_false, false_and, true_and, and_true, true_or, or_true, false_or, or_false, or_self, not_true_eq_false, not_false_eq_true, eq_self, List.cons_append, List.nil_append]
  | succ k ih =>
    intro p hp
    rw [eX4_fewest_63]
    have hp8 : p < 8 := by omega
    have h1 : ¬ nI n ≤ nI p := nI_ge (by omega) (by omega)
    have j1 : (5 : Int32) + 4 * nI p + 3 = nI (5 + 4 * p + 3) := ix_4 (w := 3)
    have j2 : ¬ nI (5 + 4 * p + 3) < 0 := nI_pos (by omega)
    have j5 : ¬ 37 ≤ 5 + 4 * p + 3 := by omega
    have j3 : (nI (5 + 4 * p + 3)).toNatClampNeg = 5 + 4 * p + 3 := nI_clamp (by omega)
    have y1 := fun (Q : List Value → sx_A → sx_Z → Prop) => tX4_its3 (G := G) (A := va_up C 40 (mrm s a p)) (Z := Z) (Q := Q) hp8
    simp only [up_s] at y1
    have h4 := ih (p + 1) (by omega)
    rw [mrm, nI_succ] at h4
    by_cases hc : a.testBit p = true
    · rw [if_pos hc] at h4
      simp only [eX4_fewest_0, eX4_fewest_1, eX4_fewest_4, eX4_fewest_7, eX4_fewest_8, eX4_fewest_10, eX4_fewest_13, eX4_fewest_14, eX4_fewest_15, eX4_fewest_16, eX4_fewest_19, eX4_fewest_20, eX4_fewest_21, eX4_fewest_22, eX4_fewest_23, eX4_fewest_26, eX4_fewest_27, eX4_fewest_31, eX4_fewest_32, eX4_fewest_35, eX4_fewest_37, eX4_fewest_38, eX4_fewest_39, eX4_fewest_40, eX4_fewest_41, eX4_fewest_44, eX4_fewest_45, eX4_fewest_48, eX4_fewest_50, eX4_fewest_53, eX4_fewest_54, eX4_fewest_57, eX4_fewest_60, eX4_fewest_61, eX4_fewest_65, eX4_fewest_66, eX4_fewest_69, eX4_fewest_70, eX4_fewest_71, eX4_fewest_74, eX4_fewest_75, eX4_fewest_78, eX4_fewest_80, eX4_fewest_81, eX4_fewest_84, eX4_fewest_86, eX4_fewest_88, eX4_fewest_89, eX4_fewest_90, eX4_fewest_91, eX4_fewest_92, eX4_fewest_95, eX4_fewest_96, eX4_fewest_99, eX4_fewest_100, eX4_fewest_102, eX4_fewest_103, eX4_fewest_106, eX4_fewest_107, eX4_fewest_110, eX4_fewest_114, eX4_fewest_115, eX4_fewest_118, eX4_fewest_121, eX4_fewest_123, eX4_fewest_126, eX4_fewest_127, eX4_fewest_130, eX4_fewest_131, eX4_fewest_134, eX4_fewest_137, eX4_fewest_138, eX4_fewest_141, eX4_fewest_142, eX4_fewest_144, eX4_fewest_147, eX4_fewest_150, eX4_fewest_151, kd_39, fr_39_0, fr_39_1, fr_39_2, fr_39_3, fr_39_4, fr_39_6, fr_39_12, fr_39_13, fr_39_14, fr_39_15, kd_40, an_40, rd_40, kd_41, an_41, rd_41, kd_42, an_42, rd_42, kd_43, an_43, rd_43, kd_44, an_44, rd_44, kd_45, an_45, rd_45, kd_46, an_46, rd_46, kd_47, an_47, rd_47, kd_48, an_48, kd_49, an_49, z_0, z_1, z_2, z_3, z_4, zc_0, zc_1, zc_2, zc_3, zc_4, up_s, up_up, e0, h1, tX4_spotOf, j1, j2, j3, j5, i_tb1 hp8 ha hc, Nat.reduceLeDiff, Nat.reduceEqDiff, Nat.reduceAdd, if_true, if_false, b2i_T, b2i_F, and_self, and_false, false_and, true_and, and_true, true_or, or_true, false_or, or_false, or_self, not_true_eq_false, not_false_eq_true, eq_self, List.cons_append, List.nil_append]
      exact h4
    · rw [if_neg hc] at h4
      simp only [eX4_fewest_0, eX4_fewest_1, eX4_fewest_4, eX4_fewest_7, eX4_fewest_8, eX4_fewest_10, eX4_fewest_13, eX4_fewest_14, eX4_fewest_15, eX4_fewest_16, eX4_fewest_19, eX4_fewest_20, eX4_fewest_21, eX4_fewest_22, eX4_fewest_23, eX4_fewest_26, eX4_fewest_27, eX4_fewest_31, eX4_fewest_32, eX4_fewest_35, eX4_fewest_37, eX4_fewest_38, eX4_fewest_39, eX4_fewest_40, eX4_fewest_41, eX4_fewest_44, eX4_fewest_45, eX4_fewest_48, eX4_fewest_50, eX4_fewest_53, eX4_fewest_54, eX4_fewest_57, eX4_fewest_60, eX4_fewest_61, eX4_fewest_65, eX4_fewest_66, eX4_fewest_69, eX4_fewest_70, eX4_fewest_71, eX4_fewest_74, eX4_fewest_75, eX4_fewest_78, eX4_fewest_80, eX4_fewest_81, eX4_fewest_84, eX4_fewest_86, eX4_fewest_88, eX4_fewest_89, eX4_fewest_90, eX4_fewest_91, eX4_fewest_92, eX4_fewest_95, eX4_fewest_96, eX4_fewest_99, eX4_fewest_100, eX4_fewest_102, eX4_fewest_103, eX4_fewest_106, eX4_fewest_107, eX4_fewest_110, eX4_fewest_114, eX4_fewest_115, eX4_fewest_118, eX4_fewest_121, eX4_fewest_123, eX4_fewest_126, eX4_fewest_127, eX4_fewest_130, eX4_fewest_131, eX4_fewest_134, eX4_fewest_137, eX4_fewest_138, eX4_fewest_141, eX4_fewest_142, eX4_fewest_144, eX4_fewest_147, eX4_fewest_150, eX4_fewest_151, kd_39, fr_39_0, fr_39_1, fr_39_2, fr_39_3, fr_39_4, fr_39_6, fr_39_12, fr_39_13, fr_39_14, fr_39_15, kd_40, an_40, rd_40, kd_41, an_41, rd_41, kd_42, an_42, rd_42, kd_43, an_43, rd_43, kd_44, an_44, rd_44, kd_45, an_45, rd_45, kd_46, an_46, rd_46, kd_47, an_47, rd_47, kd_48, an_48, kd_49, an_49, z_0, z_1, z_2, z_3, z_4, zc_0, zc_1, zc_2, zc_3, zc_4, up_s, up_up, e0, h1, tX4_spotOf, j1, j2, j3, j5, i_tb0 hp8 ha hc, show ((0 : Int32) = 1) = False from eq_false (by decide), y1, ud_id, Nat.reduceLeDiff, Nat.reduceEqDiff, Nat.reduceAdd, if_true, if_false, b2i_T, b2i_F, and_self, and_false, false_and, true_and, and_true, true_or, or_true, false_or, or_false, or_self, not_true_eq_false, not_false_eq_true, eq_self, List.cons_append, List.nil_append]
      exact h4
theorem lX4_fewest {T : Nat} {s a0 : Nat → Int32} {l1 : Option Value} {C : sx_A} (hn : n ≤ 8) (hT : T < 256) (hs : C 40 = s) (h0 : s 0 = nI n) (h43 : C 43 = sp_cp s a0 37) : ∀ (k i : Nat) (st : Option Nat) (l5 : Option Value), i + k = T + 1 → ffit st → (sx_ev G mX4_fewest 29 [some (.ref 39), l1, some (.int (nI T)), some (.int (fob st)), some (.int (nI i)), l5] [] C Z Q ↔ if ffo T (fun j => decide (sm_tilt (mrm s j n) n = 0)) k i st = none then Q [.int (-1000000004)] (va_up C 44 (upd (C 44) 3 (C 44 3 + 1))) Z else Q [.int (fob (ffo T (fun j => decide (sm_tilt (mrm s j n) n = 0)) k i st))] C Z) := by
  intro k
  induction k with
  | zero =>
    intro i st l5 hi hf
    obtain rfl : i = T + 1 := by omega
    rw [eX4_fewest_29]
    have h1 : nI T < nI (T + 1) := nI_lt (by omega) (by omega)
    have h2 := fob_ge hf
    by_cases c : st = none
    · subst c
      simp only [eX4_fewest_0, eX4_fewest_1, eX4_fewest_4, eX4_fewest_7, eX4_fewest_8, eX4_fewest_10, eX4_fewest_13, eX4_fewest_14, eX4_fewest_15, eX4_fewest_16, eX4_fewest_19, eX4_fewest_20, eX4_fewest_21, eX4_fewest_22, eX4_fewest_23, eX4_fewest_26, eX4_fewest_27, eX4_fewest_31, eX4_fewest_32, eX4_fewest_35, eX4_fewest_37, eX4_fewest_38, eX4_fewest_39, eX4_fewest_40, eX4_fewest_41, eX4_fewest_44, eX4_fewest_45, eX4_fewest_48, eX4_fewest_50, eX4_fewest_53, eX4_fewest_54, eX4_fewest_57, eX4_fewest_60, eX4_fewest_61, eX4_fewest_65, eX4_fewest_66, eX4_fewest_69, eX4_fewest_70, eX4_fewest_71, eX4_fewest_74, eX4_fewest_75, eX4_fewest_78, eX4_fewest_80, eX4_fewest_81, eX4_fewest_84, eX4_fewest_86, eX4_fewest_88, eX4_fewest_89, eX4_fewest_90, eX4_fewest_91, eX4_fewest_92, eX4_fewest_95, eX4_fewest_96, eX4_fewest_99, eX4_fewest_100, eX4_fewest_102, eX4_fewest_103, eX4_fewest_106, eX4_fewest_107, eX4_fewest_110, eX4_fewest_114, eX4_fewest_115, eX4_fewest_118, eX4_fewest_121, eX4_fewest_123, eX4_fewest_126, eX4_fewest_127, eX4_fewest_130, eX4_fewest_131, eX4_fewest_134, eX4_fewest_137, eX4_fewest_138, eX4_fewest_141, eX4_fewest_142, eX4_fewest_144, eX4_fewest_147, eX4_fewest_150, eX4_fewest_151, kd_39, fr_39_0, fr_39_1, fr_39_2, fr_39_3, fr_39_4, fr_39_6, fr_39_12, fr_39_13, fr_39_14, fr_39_15, kd_40, an_40, rd_40, kd_41, an_41, rd_41, kd_42, an_42, rd_42, kd_43, an_43, rd_43, kd_44, an_44, rd_44, kd_45, an_45, rd_45, kd_46, an_46, rd_46, kd_47, an_47, rd_47, kd_48, an_48, kd_49, an_49, tX4_finds0, tX4_finds1, tX4_finds2, tX4_finds3, tX4_finds4, tX4_finds5, tX4_finds6, h1, show (0 ≤ fob none) = False from eq_false (by decide), ffo, Nat.reduceLeDiff, Nat.reduceEqDiff, Nat.reduceAdd, if_true, if_false, b2i_T, b2i_F, and_self, and_false, false_and, true_and, and_true, true_or, or_true, false_or, or_false, or_self, not_true_eq_false, not_false_eq_true, eq_self, List.cons_append, List.nil_append]
    · simp only [eX4_fewest_0, eX4_fewest_1, eX4_fewest_4, eX4_fewest_7, eX4_fewest_8, eX4_fewest_10, eX4_fewest_13, eX4_fewest_14, eX4_fewest_15, eX4_fewest_16, eX4_fewest_19, eX4_fewest_20, eX4_fewest_21, eX4_fewest_22, eX4_fewest_23, eX4_fewest_26, eX4_fewest_27, eX4_fewest_31, eX4_fewest_32, eX4_fewest_35, eX4_fewest_37, eX4_fewest_38, eX4_fewest_39, eX4_fewest_40, eX4_fewest_41, eX4_fewest_44, eX4_fewest_45, eX4_fewest_48, eX4_fewest_50, eX4_fewest_53, eX4_fewest_54, eX4_fewest_57, eX4_fewest_60, eX4_fewest_61, eX4_fewest_65, eX4_fewest_66, eX4_fewest_69, eX4_fewest_70, eX4_fewest_71, eX4_fewest_74, eX4_fewest_75, eX4_fewest_78, eX4_fewest_80, eX4_fewest_81, eX4_fewest_84, eX4_fewest_86, eX4_fewest_88, eX4_fewest_89, eX4_fewest_90, eX4_fewest_91, eX4_fewest_92, eX4_fewest_95, eX4_fewest_96, eX4_fewest_99, eX4_fewest_100, eX4_fewest_102, eX4_fewest_103, eX4_fewest_106, eX4_fewest_107, eX4_fewest_110, eX4_fewest_114, eX4_fewest_115, eX4_fewest_118, eX4_fewest_121, eX4_fewest_123, eX4_fewest_126, eX4_fewest_127, eX4_fewest_130, eX4_fewest_131, eX4_fewest_134, eX4_fewest_137, eX4_fewest_138, eX4_fewest_141, eX4_fewest_142, eX4_fewest_144, eX4_fewest_147, eX4_fewest_150, eX4_fewest_151, kd_39, fr_39_0, fr_39_1, fr_39_2, fr_39_3, fr_39_4, fr_39_6, fr_39_12, fr_39_13, fr_39_14, fr_39_15, kd_40, an_40, rd_40, kd_41, an_41, rd_41, kd_42, an_42, rd_42, kd_43, an_43, rd_43, kd_44, an_44, rd_44, kd_45, an_45, rd_45, kd_46, an_46, rd_46, kd_47, an_47, rd_47, kd_48, an_48, kd_49, an_49, tX4_finds0, tX4_finds1, tX4_finds2, tX4_finds3, tX4_finds4, tX4_finds5, tX4_finds6, h1, h2, c, ffo, Nat.reduceLeDiff, Nat.reduceEqDiff, Nat.reduceAdd, if_true, if_false, b2i_T, b2i_F, and_self, and_false, false_and, true_and, and_true, true_or, or_true, false_or, or_false, or_self, not_true_eq_false, not_false_eq_true, eq_self, List.cons_append, List.nil_append]
  | succ k ih =>
    intro i st l5 hi hf
    rw [eX4_fewest_29]
    have h1 : ¬ nI T < nI i := nI_nlt (by omega) (by omega)
    have x1 := fun (a : Nat) (ha : a < 256) (Q : List Value → sx_A → sx_Z → Prop) => tX4_ones (G := G) (A := C) (Z := Z) (Q := Q) ha
    have ei := fun (l1 l2 l3 : Option Value) => lX4_fewestI (G := G) (Z := Z) (Q := Q) (s := s) (a := i) (l1 := l1) (l2 := l2) (l3 := l3) (C := C) hn (by omega) h0 n 0 (by omega)
    have ec : va_up C 40 s = C := by rw [← hs, up_id]
    simp only [mrm, ec, nI_0] at ei
    have y2 := fun (Q : List Value → sx_A → sx_Z → Prop) => tX4_tiltNow (G := G) (A := va_up C 40 (mrm s i n)) (Z := Z) (Q := Q) hn (by rw [up_s, mrm_o s i n 0 (fun q _ => by omega)]; exact h0)
    have y4 := fun (u : Int32) (Q : List Value → sx_A → sx_Z → Prop) => tX4_takesBack (G := G) (A := va_up C 40 (mrm s i n)) (Z := Z) (Q := Q) (v := u)
    have eb : sp_cp (sp_cp s a0 37) (mrm s i n) 37 = s := sp_back (fun q hq => mrm_o s i n q (fun r hr => by omega))
    simp only [up_s, up_n, up_up, h43, eb, ec, Nat.reduceLeDiff, Nat.reduceEqDiff, Nat.reduceAdd, if_true, if_false, b2i_T, b2i_F, and_self, and_false, false_and, true_and, and_true, true_or, or_true, false_or, or_false, or_self, not_true_eq_false, not_false_eq_true, eq_self, List.cons_append, List.nil_append] at y2 y4
    have h4 := fun l5 => ih (i + 1) (fstep T (fun j => decide (sm_tilt (mrm s j n) n = 0)) st i) l5 (by omega) (hf.step (by omega))
    rw [nI_succ] at h4
    rw [ffo]
    have hle : i &&& T ≤ i := Nat.and_le_left
    have ep : (nI i &&& (nI T ^^^ -1) = 0) = (i &&& T = i) := by rw [propext i_sub, i_and]; exact propext (nI_eq (by omega) (by omega))
    have m1 : (-1 : Int32) < 0 := by decide
    have hstop : ∀ st', fstep T (fun j => decide (sm_tilt (mrm s j n) n = 0)) st i = st' → (∀ l5, sx_ev G mX4_fewest 131 [some (.ref 39), l1, some (.int (nI T)), some (.int (fob st')), some (.int (nI i)), l5] [] C Z Q ↔ if ffo T (fun j => decide (sm_tilt (mrm s j n) n = 0)) k (i + 1) st' = none then Q [.int (-1000000004)] (va_up C 44 (upd (C 44) 3 (C 44 3 + 1))) Z else Q [.int (fob (ffo T (fun j => decide (sm_tilt (mrm s j n) n = 0)) k (i + 1) st'))] C Z) := by
      intro st' es l5
      rw [es] at h4
      rw [eX4_fewest_131, eX4_fewest_134]
      exact h4 l5
    have hneg : (¬ ((i &&& T = i ∧ (st = none ∨ pcn i < opc st)) ∧ decide (sm_tilt (mrm s i n) n = 0) = true)) → fstep T (fun j => decide (sm_tilt (mrm s j n) n = 0)) st i = st := fun z => if_neg z
    by_cases c1 : i &&& T = i
    · by_cases c2 : st = none ∨ pcn i < opc st
      · have h60 : sx_ev G mX4_fewest 35 [some (.ref 39), l1, some (.int (nI T)), some (.int (fob st)), some (.int (nI i)), l5] [] C Z Q ↔ sx_ev G mX4_fewest 113 [some (.ref 39), l1, some (.int (nI T)), some (.int (fob st)), some (.int (nI i)), some (.int (nI n))] [] (va_up C 40 (mrm s i n)) Z Q := by
          cases st with
          | none => simp only [eX4_fewest_0, eX4_fewest_1, eX4_fewest_4, eX4_fewest_7, eX4_fewest_8, eX4_fewest_10, eX4_fewest_13, eX4_fewest_14, eX4_fewest_15, eX4_fewest_16, eX4_fewest_19, eX4_fewest_20, eX4_fewest_21, eX4_fewest_22, eX4_fewest_23, eX4_fewest_26, eX4_fewest_27, eX4_fewest_31, eX4_fewest_32, eX4_fewest_35, eX4_fewest_37, eX4_fewest_38, eX4_fewest_39, eX4_fewest_40, eX4_fewest_41, eX4_fewest_44, eX4_fewest_45, eX4_fewest_48, eX4_fewest_50, eX4_fewest_53, eX4_fewest_54, eX4_fewest_57, eX4_fewest_60, eX4_fewest_61, eX4_fewest_65, eX4_fewest_66, eX4_fewest_69, eX4_fewest_70, eX4_fewest_71, eX4_fewest_74, eX4_fewest_75, eX4_fewest_78, eX4_fewest_80, eX4_fewest_81, eX4_fewest_84, eX4_fewest_86, eX4_fewest_88, eX4_fewest_89, eX4_fewest_90, eX4_fewest_91, eX4_fewest_92, eX4_fewest_95, eX4_fewest_96, eX4_fewest_99, eX4_fewest_100, eX4_fewest_102, eX4_fewest_103, eX4_fewest_106, eX4_fewest_107, eX4_fewest_110, eX4_fewest_114, eX4_fewest_115, eX4_fewest_118, eX4_fewest_121, eX4_fewest_123, eX4_fewest_126, eX4_fewest_127, eX4_fewest_130, eX4_fewest_134, eX4_fewest_137, eX4_fewest_138, eX4_fewest_141, eX4_fewest_142, eX4_fewest_144, eX4_fewest_147, eX4_fewest_150, eX4_fewest_151, kd_39, fr_39_0, fr_39_1, fr_39_2, fr_39_3, fr_39_4, fr_39_6, fr_39_12, fr_39_13, fr_39_14, fr_39_15, kd_40, an_40, rd_40, kd_41, an_41, rd_41, kd_42, an_42, rd_42, kd_43, an_43, rd_43, kd_44, an_44, rd_44, kd_45, an_45, rd_45, kd_46, an_46, rd_46, kd_47, an_47, rd_47, kd_48, an_48, kd_49, an_49, ep, c1, m1, ei, show fob none = -1 from rfl, Nat.reduceLeDiff, Nat.reduceEqDiff, Nat.reduceAdd, if_true, if_false, b2i_T, b2i_F, and_self, and_false, false_and, true_and, and_true, true_or, or_true, false_or, or_false, or_self, not_true_eq_false, not_false_eq_true, eq_self, List.cons_append, List.nil_append]
          | some a =>
            have ha := hf a rfl
            have d2 : ¬ nI a < 0 := nI_pos (by omega)
            have d3 : ¬ nI (pcn a) ≤ nI (pcn i) := nI_ge (c2.resolve_left (fun z => nomatch z)) (by have := pcn_le a; omega)
            simp only [eX4_fewest_0, eX4_fewest_1, eX4_fewest_4, eX4_fewest_7, eX4_fewest_8, eX4_fewest_10, eX4_fewest_13, eX4_fewest_14, eX4_fewest_15, eX4_fewest_16, eX4_fewest_19, eX4_fewest_20, eX4_fewest_21, eX4_fewest_22, eX4_fewest_23, eX4_fewest_26, eX4_fewest_27, eX4_fewest_31, eX4_fewest_32, eX4_fewest_35, eX4_fewest_37, eX4_fewest_38, eX4_fewest_39, eX4_fewest_40, eX4_fewest_41, eX4_fewest_44, eX4_fewest_45, eX4_fewest_48, eX4_fewest_50, eX4_fewest_53, eX4_fewest_54, eX4_fewest_57, eX4_fewest_60, eX4_fewest_61, eX4_fewest_65, eX4_fewest_66, eX4_fewest_69, eX4_fewest_70, eX4_fewest_71, eX4_fewest_74, eX4_fewest_75, eX4_fewest_78, eX4_fewest_80, eX4_fewest_81, eX4_fewest_84, eX4_fewest_86, eX4_fewest_88, eX4_fewest_89, eX4_fewest_90, eX4_fewest_91, eX4_fewest_92, eX4_fewest_95, eX4_fewest_96, eX4_fewest_99, eX4_fewest_100, eX4_fewest_102, eX4_fewest_103, eX4_fewest_106, eX4_fewest_107, eX4_fewest_110, eX4_fewest_114, eX4_fewest_115, eX4_fewest_118, eX4_fewest_121, eX4_fewest_123, eX4_fewest_126, eX4_fewest_127, eX4_fewest_130, eX4_fewest_134, eX4_fewest_137, eX4_fewest_138, eX4_fewest_141, eX4_fewest_142, eX4_fewest_144, eX4_fewest_147, eX4_fewest_150, eX4_fewest_151, kd_39, fr_39_0, fr_39_1, fr_39_2, fr_39_3, fr_39_4, fr_39_6, fr_39_12, fr_39_13, fr_39_14, fr_39_15, kd_40, an_40, rd_40, kd_41, an_41, rd_41, kd_42, an_42, rd_42, kd_43, an_43, rd_43, kd_44, an_44, rd_44, kd_45, an_45, rd_45, kd_46, an_46, rd_46, kd_47, an_47, rd_47, kd_48, an_48, kd_49, an_49, ep, c1, d2, d3, x1 i (show i < 256 by omega), x1 a ha, ei, show fob (some a) = nI a from rfl, Nat.reduceLeDiff, Nat.reduceEqDiff, Nat.reduceAdd, if_true, if_false, b2i_T, b2i_F, and_self, and_false, false_and, true_and, and_true, true_or, or_true, false_or, or_false, or_self, not_true_eq_false, not_false_eq_true, eq_self, List.cons_append, List.nil_append]
        have h113 : ∀ l5, sx_ev G mX4_fewest 113 [some (.ref 39), l1, some (.int (nI T)), some (.int (fob st)), some (.int (nI i)), l5] [] (va_up C 40 (mrm s i n)) Z Q ↔ sx_ev G mX4_fewest 131 [some (.ref 39), l1, some (.int (nI T)), some (.int (if sm_tilt (mrm s i n) n = 0 then nI i else fob st)), some (.int (nI i)), l5] [] C Z Q := by
          intro l5
          by_cases c3 : sm_tilt (mrm s i n) n = 0
          · simp only [eX4_fewest_0, eX4_fewest_1, eX4_fewest_4, eX4_fewest_7, eX4_fewest_8, eX4_fewest_10, eX4_fewest_13, eX4_fewest_14, eX4_fewest_15, eX4_fewest_16, eX4_fewest_19, eX4_fewest_20, eX4_fewest_21, eX4_fewest_22, eX4_fewest_23, eX4_fewest_26, eX4_fewest_27, eX4_fewest_31, eX4_fewest_32, eX4_fewest_35, eX4_fewest_37, eX4_fewest_38, eX4_fewest_39, eX4_fewest_40, eX4_fewest_41, eX4_fewest_44, eX4_fewest_45, eX4_fewest_48, eX4_fewest_50, eX4_fewest_53, eX4_fewest_54, eX4_fewest_57, eX4_fewest_60, eX4_fewest_61, eX4_fewest_65, eX4_fewest_66, eX4_fewest_69, eX4_fewest_70, eX4_fewest_71, eX4_fewest_74, eX4_fewest_75, eX4_fewest_78, eX4_fewest_80, eX4_fewest_81, eX4_fewest_84, eX4_fewest_86, eX4_fewest_88, eX4_fewest_89, eX4_fewest_90, eX4_fewest_91, eX4_fewest_92, eX4_fewest_95, eX4_fewest_96, eX4_fewest_99, eX4_fewest_100, eX4_fewest_102, eX4_fewest_103, eX4_fewest_106, eX4_fewest_107, eX4_fewest_110, eX4_fewest_113, eX4_fewest_114, eX4_fewest_115, eX4_fewest_118, eX4_fewest_121, eX4_fewest_123, eX4_fewest_126, eX4_fewest_127, eX4_fewest_130, eX4_fewest_134, eX4_fewest_137, eX4_fewest_138, eX4_fewest_141, eX4_fewest_142, eX4_fewest_144, eX4_fewest_147, eX4_fewest_150, eX4_fewest_151, kd_39, fr_39_0, fr_39_1, fr_39_2, fr_39_3, fr_39_4, fr_39_6, fr_39_12, fr_39_13, fr_39_14, fr_39_15, kd_40, an_40, rd_40, kd_41, an_41, rd_41, kd_42, an_42, rd_42, kd_43, an_43, rd_43, kd_44, an_44, rd_44, kd_45, an_45, rd_45, kd_46, an_46, rd_46, kd_47, an_47, rd_47, kd_48, an_48, kd_49, an_49, y2, y4, c3, Nat.reduceLeDiff, Nat.reduceEqDiff, Nat.reduceAdd, if_true, if_false, b2i_T, b2i_F, and_self, and_false, false_and, true_and, and_true, true_or, or_true, false_or, or_false, or_self, not_true_eq_false, not_false_eq_true, eq_self, List.cons_append, List.nil_append]
          · simp only [eX4_fewest_0, eX4_fewest_1, eX4_fewest_4, eX4_fewest_7, eX4_fewest_8, eX4_fewest_10, eX4_fewest_13, eX4_fewest_14, eX4_fewest_15, eX4_fewest_16, eX4_fewest_19, eX4_fewest_20, eX4_fewest_21, eX4_fewest_22, eX4_fewest_23, eX4_fewest_26, eX4_fewest_27, eX4_fewest_31, eX4_fewest_32, eX4_fewest_35, eX4_fewest_37, eX4_fewest_38, eX4_fewest_39, eX4_fewest_40, eX4_fewest_41, eX4_fewest_44, eX4_fewest_45, eX4_fewest_48, eX4_fewest_50, eX4_fewest_53, eX4_fewest_54, eX4_fewest_57, eX4_fewest_60, eX4_fewest_61, eX4_fewest_65, eX4_fewest_66, eX4_fewest_69, eX4_fewest_70, eX4_fewest_71, eX4_fewest_74, eX4_fewest_75, eX4_fewest_78, eX4_fewest_80, eX4_fewest_81, eX4_fewest_84, eX4_fewest_86, eX4_fewest_88, eX4_fewest_89, eX4_fewest_90, eX4_fewest_91, eX4_fewest_92, eX4_fewest_95, eX4_fewest_96, eX4_fewest_99, eX4_fewest_100, eX4_fewest_102, eX4_fewest_103, eX4_fewest_106, eX4_fewest_107, eX4_fewest_110, eX4_fewest_113, eX4_fewest_114, eX4_fewest_115, eX4_fewest_118, eX4_fewest_121, eX4_fewest_123, eX4_fewest_126, eX4_fewest_127, eX4_fewest_130, eX4_fewest_134, eX4_fewest_137, eX4_fewest_138, eX4_fewest_141, eX4_fewest_142, eX4_fewest_144, eX4_fewest_147, eX4_fewest_150, eX4_fewest_151, kd_39, fr_39_0, fr_39_1, fr_39_2, fr_39_3, fr_39_4, fr_39_6, fr_39_12, fr_39_13, fr_39_14, fr_39_15, kd_40, an_40, rd_40, kd_41, an_41, rd_41, kd_42, an_42, rd_42, kd_43, an_43, rd_43, kd_44, an_44, rd_44, kd_45, an_45, rd_45, kd_46, an_46, rd_46, kd_47, an_47, rd_47, kd_48, an_48, kd_49, an_49, y2, y4, c3, Nat.reduceLeDiff, Nat.reduceEqDiff, Nat.reduceAdd, if_true, if_false, b2i_T, b2i_F, and_self, and_false, false_and, true_and, and_true, true_or, or_true, false_or, or_false, or_self, not_true_eq_false, not_false_eq_true, eq_self, List.cons_append, List.nil_append]
        have h35 : sx_ev G mX4_fewest 31 [some (.ref 39), l1, some (.int (nI T)), some (.int (fob st)), some (.int (nI i)), l5] [.int (nI i)] C Z Q ↔ sx_ev G mX4_fewest 35 [some (.ref 39), l1, some (.int (nI T)), some (.int (fob st)), some (.int (nI i)), l5] [] C Z Q := by
          simp only [eX4_fewest_0, eX4_fewest_1, eX4_fewest_4, eX4_fewest_7, eX4_fewest_8, eX4_fewest_10, eX4_fewest_13, eX4_fewest_14, eX4_fewest_15, eX4_fewest_16, eX4_fewest_19, eX4_fewest_20, eX4_fewest_21, eX4_fewest_22, eX4_fewest_23, eX4_fewest_26, eX4_fewest_27, eX4_fewest_31, eX4_fewest_32, eX4_fewest_37, eX4_fewest_38, eX4_fewest_39, eX4_fewest_40, eX4_fewest_41, eX4_fewest_44, eX4_fewest_45, eX4_fewest_48, eX4_fewest_50, eX4_fewest_53, eX4_fewest_54, eX4_fewest_57, eX4_fewest_60, eX4_fewest_61, eX4_fewest_65, eX4_fewest_66, eX4_fewest_69, eX4_fewest_70, eX4_fewest_71, eX4_fewest_74, eX4_fewest_75, eX4_fewest_78, eX4_fewest_80, eX4_fewest_81, eX4_fewest_84, eX4_fewest_86, eX4_fewest_88, eX4_fewest_89, eX4_fewest_90, eX4_fewest_91, eX4_fewest_92, eX4_fewest_95, eX4_fewest_96, eX4_fewest_99, eX4_fewest_100, eX4_fewest_102, eX4_fewest_103, eX4_fewest_106, eX4_fewest_107, eX4_fewest_110, eX4_fewest_114, eX4_fewest_115, eX4_fewest_118, eX4_fewest_121, eX4_fewest_123, eX4_fewest_126, eX4_fewest_127, eX4_fewest_130, eX4_fewest_134, eX4_fewest_137, eX4_fewest_138, eX4_fewest_141, eX4_fewest_142, eX4_fewest_144, eX4_fewest_147, eX4_fewest_150, eX4_fewest_151, h1, Nat.reduceLeDiff, Nat.reduceEqDiff, Nat.reduceAdd, if_true, if_false, b2i_T, b2i_F, and_self, and_false, false_and, true_and, and_true, true_or, or_true, false_or, or_false, or_self, not_true_eq_false, not_false_eq_true, eq_self, List.cons_append, List.nil_append]
        rw [h35, h60, h113]
        by_cases c3 : sm_tilt (mrm s i n) n = 0
        · have es : fstep T (fun j => decide (sm_tilt (mrm s j n) n = 0)) st i = some i := if_pos ⟨⟨c1, c2⟩, decide_eq_true c3⟩
          rw [es, if_pos c3]
          exact hstop _ es _
        · have es := hneg (fun z => c3 (of_decide_eq_true z.2))
          rw [es, if_neg c3]
          exact hstop _ es _
      · have es := hneg (fun z => c2 z.1.2)
        rw [es]
        have hq := hstop _ es
        cases st with
        | none => exact absurd (Or.inl rfl) c2
        | some a =>
          have ha := hf a rfl
          have d2 : ¬ nI a < 0 := nI_pos (by omega)
          have d4 : ¬ pcn i < pcn a := fun z => c2 (Or.inr z)
          have d3 : nI (pcn a) ≤ nI (pcn i) := nI_le (by omega) (by have := pcn_le i; omega)
          simp only [eX4_fewest_0, eX4_fewest_1, eX4_fewest_4, eX4_fewest_7, eX4_fewest_8, eX4_fewest_10, eX4_fewest_13, eX4_fewest_14, eX4_fewest_15, eX4_fewest_16, eX4_fewest_19, eX4_fewest_20, eX4_fewest_21, eX4_fewest_22, eX4_fewest_23, eX4_fewest_26, eX4_fewest_27, eX4_fewest_31, eX4_fewest_32, eX4_fewest_35, eX4_fewest_37, eX4_fewest_38, eX4_fewest_39, eX4_fewest_40, eX4_fewest_41, eX4_fewest_44, eX4_fewest_45, eX4_fewest_48, eX4_fewest_50, eX4_fewest_53, eX4_fewest_54, eX4_fewest_57, eX4_fewest_60, eX4_fewest_61, eX4_fewest_65, eX4_fewest_66, eX4_fewest_69, eX4_fewest_70, eX4_fewest_71, eX4_fewest_74, eX4_fewest_75, eX4_fewest_78, eX4_fewest_80, eX4_fewest_81, eX4_fewest_84, eX4_fewest_86, eX4_fewest_88, eX4_fewest_89, eX4_fewest_90, eX4_fewest_91, eX4_fewest_92, eX4_fewest_95, eX4_fewest_96, eX4_fewest_99, eX4_fewest_100, eX4_fewest_102, eX4_fewest_103, eX4_fewest_106, eX4_fewest_107, eX4_fewest_110, eX4_fewest_114, eX4_fewest_115, eX4_fewest_118, eX4_fewest_121, eX4_fewest_123, eX4_fewest_126, eX4_fewest_127, eX4_fewest_130, eX4_fewest_134, eX4_fewest_137, eX4_fewest_138, eX4_fewest_141, eX4_fewest_142, eX4_fewest_144, eX4_fewest_147, eX4_fewest_150, eX4_fewest_151, kd_39, fr_39_0, fr_39_1, fr_39_2, fr_39_3, fr_39_4, fr_39_6, fr_39_12, fr_39_13, fr_39_14, fr_39_15, kd_40, an_40, rd_40, kd_41, an_41, rd_41, kd_42, an_42, rd_42, kd_43, an_43, rd_43, kd_44, an_44, rd_44, kd_45, an_45, rd_45, kd_46, an_46, rd_46, kd_47, an_47, rd_47, kd_48, an_48, kd_49, an_49, h1, ep, c1, d2, d3, x1 i (show i < 256 by omega), x1 a ha, show fob (some a) = nI a from rfl, Nat.reduceLeDiff, Nat.reduceEqDiff, Nat.reduceAdd, if_true, if_false, b2i_T, b2i_F, and_self, and_false, false_and, true_and, and_true, true_or, or_true, false_or, or_false, or_self, not_true_eq_false, not_false_eq_true, eq_self, List.cons_append, List.nil_append]
          exact hq _
    · have es := hneg (fun z => c1 z.1.1)
      rw [es]
      have hq := hstop _ es
      simp only [eX4_fewest_0, eX4_fewest_1, eX4_fewest_4, eX4_fewest_7, eX4_fewest_8, eX4_fewest_10, eX4_fewest_13, eX4_fewest_14, eX4_fewest_15, eX4_fewest_16, eX4_fewest_19, eX4_fewest_20, eX4_fewest_21, eX4_fewest_22, eX4_fewest_23, eX4_fewest_26, eX4_fewest_27, eX4_fewest_31, eX4_fewest_32, eX4_fewest_35, eX4_fewest_37, eX4_fewest_38, eX4_fewest_39, eX4_fewest_40, eX4_fewest_41, eX4_fewest_44, eX4_fewest_45, eX4_fewest_48, eX4_fewest_50, eX4_fewest_53, eX4_fewest_54, eX4_fewest_57, eX4_fewest_60, eX4_fewest_61, eX4_fewest_65, eX4_fewest_66, eX4_fewest_69, eX4_fewest_70, eX4_fewest_71, eX4_fewest_74, eX4_fewest_75, eX4_fewest_78, eX4_fewest_80, eX4_fewest_81, eX4_fewest_84, eX4_fewest_86, eX4_fewest_88, eX4_fewest_89, eX4_fewest_90, eX4_fewest_91, eX4_fewest_92, eX4_fewest_95, eX4_fewest_96, eX4_fewest_99, eX4_fewest_100, eX4_fewest_102, eX4_fewest_103, eX4_fewest_106, eX4_fewest_107, eX4_fewest_110, eX4_fewest_114, eX4_fewest_115, eX4_fewest_118, eX4_fewest_121, eX4_fewest_123, eX4_fewest_126, eX4_fewest_127, eX4_fewest_130, eX4_fewest_134, eX4_fewest_137, eX4_fewest_138, eX4_fewest_141, eX4_fewest_142, eX4_fewest_144, eX4_fewest_147, eX4_fewest_150, eX4_fewest_151, kd_39, fr_39_0, fr_39_1, fr_39_2, fr_39_3, fr_39_4, fr_39_6, fr_39_12, fr_39_13, fr_39_14, fr_39_15, kd_40, an_40, rd_40, kd_41, an_41, rd_41, kd_42, an_42, rd_42, kd_43, an_43, rd_43, kd_44, an_44, rd_44, kd_45, an_45, rd_45, kd_46, an_46, rd_46, kd_47, an_47, rd_47, kd_48, an_48, kd_49, an_49, h1, ep, c1, Nat.reduceLeDiff, Nat.reduceEqDiff, Nat.reduceAdd, if_true, if_false, b2i_T, b2i_F, and_self, and_false, false_and, true_and, and_true, true_or, or_true, false_or, or_false, or_self, not_true_eq_false, not_false_eq_true, eq_self, List.cons_append, List.nil_append]
      exact hq _

theorem op_fewest {v : Int32} (h : Rel c A Z) : okOp G c A Z mX3_fewest mX4_fewest [.int v] := by
  obtain ⟨n, hB⟩ := h.1
  obtain ⟨hn, e1, e2⟩ := hB.1
  unfold okOp
  rw [sx_call_in (L := [some (.ref 0), some (.int v), none, none, none, none, none, none]) rfl rfl]
  have hm : ∀ (A : sx_A) (Q : List Value → sx_A → sx_Z → Prop), sx_call G mX4_fewest [.ref 39, .int v] A Z Q ↔ sx_ev G mX4_fewest 0 [some (.ref 39), some (.int v), none, none, none, none] [] A Z Q := fun A Q => sx_call_in rfl rfl
  by_cases h1 : 0 ≤ v ∧ v ≤ 1
  · have hv : v = 0 ∨ v = 1 := by
      obtain ⟨i, hi, rfl⟩ := i_end h1
      rcases (show i = 0 ∨ i = 1 by omega) with rfl | rfl
      · exact Or.inl rfl
      · exact Or.inr rfl
    have x1 := fun (Q : List Value → sx_A → sx_Z → Prop) => tX0_hangs (G := G) (A := A) (Z := Z) (Q := Q) (b := 1) isB1 hn e1
    have hT : bs (fun q => decide (mP (A 40) q = v)) n < 256 := bs_256 hn
    have y0 := fun (C : sx_A) (hC : C 40 = A 40) (Q : List Value → sx_A → sx_Z → Prop) => tX4_thoseAt (G := G) (A := C) (Z := Z) (Q := Q) (e := v) hn (by rw [hC]; exact e2)
    have y1 := fun (A' : sx_A) (Q : List Value → sx_A → sx_Z → Prop) => tX4_laysAside (G := G) (A := A') (Z := Z) (Q := Q)
    have f0 : ffit none := fun q hq => nomatch hq
    have y2 := fun (C : sx_A) (hC : C 40 = A 40) (a : Nat → Int32) (h43 : C 43 = sp_cp (A 40) a 37) (l1 : Option Value) (Q : List Value → sx_A → sx_Z → Prop) => lX4_fewest (G := G) (Z := Z) (Q := Q) (n := n) (C := C) (s := A 40) (l1 := l1) hn hT hC e2 h43 (bs (fun q => decide (mP (A 40) q = v)) n + 1) 0 none none (by omega) f0
    have es : sp_sit (mP (A 40)) v n = nI (bs (fun q => decide (mP (A 40) q = v)) n) := sit_bs n hn
    simp only [nI_0, show fob none = -1 from rfl] at y2
    by_cases hh : sp_hangs (mP (A 40)) n
    · have hx : sp_hangs (A (1 + 4)) n := hB.hangs.mpr hh
      have x2 := fun (Q : List Value → sx_A → sx_Z → Prop) => tX3_weighAll (G := G) (A := A) (Z := Z) (Q := Q) hn e1
      have hsc : scr A (va_up A 25 (sp_cp (xh A) (A 25) n)) := fun k hk => up_n (by omega)
      have e25 : (va_up A 25 (sp_cp (xh A) (A 25) n)) 25 = sp_cp (xh A) (A 25) n := up_s
      generalize va_up A 25 (sp_cp (xh A) (A 25) n) = A1 at x2 hsc e25
      have hB1 := rB_scr hB hsc
      have x3 := fun (Q : List Value → sx_A → sx_Z → Prop) => tX0_sitters (G := G) (A := A1) (Z := Z) (Q := Q) (b := 1) (e := v) isB1 hn hB1.1.2.1
      have x4 := fun (Q : List Value → sx_A → sx_Z → Prop) => tX0_tiltNow (G := G) (A := A1) (Z := Z) (Q := Q) (b := 1) isB1 hn hB1.1.2.1
      have et : sx_tilt A1 1 n = sm_tilt (A 40) n := hB1.tilt
      have es1 : sp_sit (A1 (1 + 4)) v n = nI (bs (fun q => decide (mP (A 40) q = v)) n) := hB1.sit.trans es
      have x5 := fun (l1 : Option Value) (Q : List Value → sx_A → sx_Z → Prop) => lX3_fewest (G := G) (A := A1) (Z := Z) (Q := Q) (t := sm_tilt (A 40) n) (l1 := l1) hn hT hB1.1.2.1 (bs (fun q => decide (mP (A 40) q = v)) n) 0 none none none (by omega) f0
      simp only [nI_0, show fob none = -1 from rfl] at x5
      have h2 := h.scr hsc
      have e40 : A1 40 = A 40 := hsc 40 (by omega)
      generalize hTT : bs (fun q => decide (mP (A 40) q = v)) n = T at hT y2 es es1 x5
      have hF : ffo T (fun j => decide (sm_tilt (mrm (A 40) j n) n = 0)) (T + 1) 0 none = ffo T (fun j => decide (sm_tilt (A 40) n = hsum (A1 25) j n)) T 0 none := by
        have hl : T &&& bs (fun q => decide (mP (A 40) q = v)) n = T := by rw [hTT]; exact Nat.and_self T
        rw [ffo_last T 0 none (by
          rw [Nat.zero_add]
          exact decide_eq_false (fun z => ((tilt_rm hn hv hT hl hh).mp z).1 hTT.symm))]
        refine ffo_c _ _ _ (fun j _ hj hjs => ?_)
        have k1 := tilt_rm (a := j) hn hv (by omega) (by rw [hTT]; exact hjs) hh
        have k2 : hsum (A1 25) j n = hsum (mh (A 40)) j n := by
          rw [e25]
          exact hsum_c (fun p hp => (sp_cp_lt _ _ _ _ hp).trans (hB.hh hp))
        rw [k2]
        rw [hTT] at k1
        exact decide_eq_decide.mpr (k1.trans ⟨fun z => z.2, fun z => ⟨by omega, z⟩⟩)
      rw [hF] at y2
      simp only [eX3_fewest_0, eX3_fewest_1, eX3_fewest_4, eX3_fewest_7, eX3_fewest_8, eX3_fewest_10, eX3_fewest_13, eX3_fewest_14, eX3_fewest_15, eX3_fewest_18, eX3_fewest_21, eX3_fewest_24, eX3_fewest_25, eX3_fewest_27, eX3_fewest_30, eX3_fewest_31, eX3_fewest_32, eX3_fewest_35, eX3_fewest_36, eX3_fewest_39, eX3_fewest_40, eX3_fewest_43, eX3_fewest_44, eX3_fewest_45, eX3_fewest_48, eX3_fewest_51, eX3_fewest_52, eX3_fewest_53, eX3_fewest_55, eX3_fewest_56, eX3_fewest_60, eX3_fewest_61, eX3_fewest_64, eX3_fewest_66, eX3_fewest_67, eX3_fewest_68, eX3_fewest_70, eX3_fewest_73, eX3_fewest_74, eX3_fewest_77, eX3_fewest_78, eX3_fewest_80, eX3_fewest_82, eX3_fewest_85, eX3_fewest_87, eX3_fewest_90, eX3_fewest_92, eX3_fewest_95, eX3_fewest_98, eX3_fewest_99, eX3_fewest_102, eX3_fewest_103, eX3_fewest_105, eX3_fewest_107, eX3_fewest_110, eX3_fewest_112, eX3_fewest_115, eX3_fewest_116, eX3_fewest_117, eX3_fewest_119, eX3_fewest_122, eX3_fewest_125, eX3_fewest_127, eX3_fewest_129, eX3_fewest_132, eX3_fewest_135, eX3_fewest_137, eX3_fewest_140, eX3_fewest_141, eX3_fewest_143, eX3_fewest_146, eX3_fewest_149, eX3_fewest_151, kd_0, fr_0_0, fr_0_1, fr_0_2, fr_0_3, fr_0_4, fr_0_5, fr_0_6, fr_0_7, fr_0_8, kd_1, fr_1_0, fr_1_1, fr_1_2, fr_1_3, fr_1_4, kd_2, an_2, rd_2, kd_3, an_3, rd_3, kd_4, an_4, rd_4, kd_5, an_5, rd_5, kd_6, an_6, rd_6, kd_7, kd_13, fr_13_0, fr_13_1, fr_13_2, fr_13_3, fr_13_4, kd_14, an_14, rd_14, kd_15, an_15, rd_15, kd_16, an_16, rd_16, kd_17, an_17, rd_17, kd_19, fr_19_3, kd_23, an_23, rd_23, kd_25, an_25, rd_25, kd_26, an_26, rd_26, kd_27, fr_27_0, kd_28, an_28, rd_28, kd_29, an_29, kd_38, an_38, rd_38, tX3_isEnd, one_ne0, b2i_t h1, x1, b2i_t hx, x2, x3, x4, et, es1, x5, Nat.reduceLeDiff, Nat.reduceEqDiff, Nat.reduceAdd, if_true, if_false, b2i_T, b2i_F, and_self, and_false, false_and, true_and, and_true, true_or, or_true, false_or, or_false, or_self, not_true_eq_false, not_false_eq_true, eq_self, List.cons_append, List.nil_append]
      generalize ffo T (fun j => decide (sm_tilt (A 40) n = hsum (A1 25) j n)) T 0 none = r at y2
      by_cases hr : r = none
      · rw [if_pos hr]
        simp only [hm, eX4_fewest_0, eX4_fewest_1, eX4_fewest_4, eX4_fewest_7, eX4_fewest_8, eX4_fewest_10, eX4_fewest_13, eX4_fewest_14, eX4_fewest_15, eX4_fewest_16, eX4_fewest_19, eX4_fewest_20, eX4_fewest_21, eX4_fewest_22, eX4_fewest_23, eX4_fewest_26, eX4_fewest_27, eX4_fewest_31, eX4_fewest_32, eX4_fewest_35, eX4_fewest_37, eX4_fewest_38, eX4_fewest_39, eX4_fewest_40, eX4_fewest_41, eX4_fewest_44, eX4_fewest_45, eX4_fewest_48, eX4_fewest_50, eX4_fewest_53, eX4_fewest_54, eX4_fewest_57, eX4_fewest_60, eX4_fewest_61, eX4_fewest_65, eX4_fewest_66, eX4_fewest_69, eX4_fewest_70, eX4_fewest_71, eX4_fewest_74, eX4_fewest_75, eX4_fewest_78, eX4_fewest_80, eX4_fewest_81, eX4_fewest_84, eX4_fewest_86, eX4_fewest_88, eX4_fewest_89, eX4_fewest_90, eX4_fewest_91, eX4_fewest_92, eX4_fewest_95, eX4_fewest_96, eX4_fewest_99, eX4_fewest_100, eX4_fewest_102, eX4_fewest_103, eX4_fewest_106, eX4_fewest_107, eX4_fewest_110, eX4_fewest_114, eX4_fewest_115, eX4_fewest_118, eX4_fewest_121, eX4_fewest_123, eX4_fewest_126, eX4_fewest_127, eX4_fewest_130, eX4_fewest_131, eX4_fewest_134, eX4_fewest_137, eX4_fewest_138, eX4_fewest_141, eX4_fewest_142, eX4_fewest_144, eX4_fewest_147, eX4_fewest_150, eX4_fewest_151, kd_39, fr_39_0, fr_39_1, fr_39_2, fr_39_3, fr_39_4, fr_39_6, fr_39_12, fr_39_13, fr_39_14, fr_39_15, kd_40, an_40, rd_40, kd_41, an_41, rd_41, kd_42, an_42, rd_42, kd_43, an_43, rd_43, kd_44, an_44, rd_44, kd_45, an_45, rd_45, kd_46, an_46, rd_46, kd_47, an_47, rd_47, kd_48, an_48, kd_49, an_49, tX4_isEnd, one_ne0, b2i_t h1, y0 _ (show (va_up A1 38 (upd (A1 38) 3 (A1 38 3 + 1))) 40 = A 40 by rw [up_n (by omega)]; exact e40), up_n, e40, es, y1, Nat.reduceLeDiff, Nat.reduceEqDiff, Nat.reduceAdd, if_true, if_false, b2i_T, b2i_F, and_self, and_false, false_and, true_and, and_true, true_or, or_true, false_or, or_false, or_self, not_true_eq_false, not_false_eq_true, eq_self, List.cons_append, List.nil_append]
        rw [y2 _ (by rw [up_n (by omega), up_n (by omega)]; exact e40) (A1 43) (by rw [up_s]), if_pos hr]
        simp only [up_n, Nat.reduceLeDiff, Nat.reduceEqDiff, Nat.reduceAdd, if_true, if_false, b2i_T, b2i_F, and_self, and_false, false_and, true_and, and_true, true_or, or_true, false_or, or_false, or_self, not_true_eq_false, not_false_eq_true, eq_self, List.cons_append, List.nil_append]
        have z := okQ.trf (a := sp_cp (A 40) (A1 43) 37) (v := -1000000004) h2 off.rf rfl 3
        have e3 : va_up (va_up (va_up A1 38 (upd (A1 38) 3 (A1 38 3 + 1))) 43 (sp_cp (A 40) (A1 43) 37)) 40 (A1 40) = va_up (va_up A1 38 (upd (A1 38) 3 (A1 38 3 + 1))) 43 (sp_cp (A 40) (A1 43) 37) := by
          have e4 := up_id (f := va_up (va_up A1 38 (upd (A1 38) 3 (A1 38 3 + 1))) 43 (sp_cp (A 40) (A1 43) 37)) (k := 40)
          rw [up_n (by omega), up_n (by omega)] at e4
          exact e4
        rw [e3] at z
        exact z
      · rw [if_neg hr]
        simp only [hm, eX4_fewest_0, eX4_fewest_1, eX4_fewest_4, eX4_fewest_7, eX4_fewest_8, eX4_fewest_10, eX4_fewest_13, eX4_fewest_14, eX4_fewest_15, eX4_fewest_16, eX4_fewest_19, eX4_fewest_20, eX4_fewest_21, eX4_fewest_22, eX4_fewest_23, eX4_fewest_26, eX4_fewest_27, eX4_fewest_31, eX4_fewest_32, eX4_fewest_35, eX4_fewest_37, eX4_fewest_38, eX4_fewest_39, eX4_fewest_40, eX4_fewest_41, eX4_fewest_44, eX4_fewest_45, eX4_fewest_48, eX4_fewest_50, eX4_fewest_53, eX4_fewest_54, eX4_fewest_57, eX4_fewest_60, eX4_fewest_61, eX4_fewest_65, eX4_fewest_66, eX4_fewest_69, eX4_fewest_70, eX4_fewest_71, eX4_fewest_74, eX4_fewest_75, eX4_fewest_78, eX4_fewest_80, eX4_fewest_81, eX4_fewest_84, eX4_fewest_86, eX4_fewest_88, eX4_fewest_89, eX4_fewest_90, eX4_fewest_91, eX4_fewest_92, eX4_fewest_95, eX4_fewest_96, eX4_fewest_99, eX4_fewest_100, eX4_fewest_102, eX4_fewest_103, eX4_fewest_106, eX4_fewest_107, eX4_fewest_110, eX4_fewest_114, eX4_fewest_115, eX4_fewest_118, eX4_fewest_121, eX4_fewest_123, eX4_fewest_126, eX4_fewest_127, eX4_fewest_130, eX4_fewest_131, eX4_fewest_134, eX4_fewest_137, eX4_fewest_138, eX4_fewest_141, eX4_fewest_142, eX4_fewest_144, eX4_fewest_147, eX4_fewest_150, eX4_fewest_151, kd_39, fr_39_0, fr_39_1, fr_39_2, fr_39_3, fr_39_4, fr_39_6, fr_39_12, fr_39_13, fr_39_14, fr_39_15, kd_40, an_40, rd_40, kd_41, an_41, rd_41, kd_42, an_42, rd_42, kd_43, an_43, rd_43, kd_44, an_44, rd_44, kd_45, an_45, rd_45, kd_46, an_46, rd_46, kd_47, an_47, rd_47, kd_48, an_48, kd_49, an_49, tX4_isEnd, one_ne0, b2i_t h1, y0 _ e40, up_n, e40, es, y1, Nat.reduceLeDiff, Nat.reduceEqDiff, Nat.reduceAdd, if_true, if_false, b2i_T, b2i_F, and_self, and_false, false_and, true_and, and_true, true_or, or_true, false_or, or_false, or_self, not_true_eq_false, not_false_eq_true, eq_self, List.cons_append, List.nil_append]
        rw [y2 _ (by rw [up_n (by omega)]; exact e40) (A1 43) (by rw [up_s]), if_neg hr]
        have z := okQ.tr (a := sp_cp (A 40) (A1 43) 37) (v := fob r) h2 off.rf rfl
        have e3 : va_up (va_up A1 43 (sp_cp (A 40) (A1 43) 37)) 40 (A1 40) = va_up A1 43 (sp_cp (A 40) (A1 43) 37) := by
          have e4 := up_id (f := va_up A1 43 (sp_cp (A 40) (A1 43) 37)) (k := 40)
          rw [up_n (by omega)] at e4
          exact e4
        rw [e3] at z
        exact z
    · have hx : ¬ sp_hangs (A (1 + 4)) n := fun z => hh (hB.hangs.mp z)
      have hF : ∀ k i, ffo (bs (fun q => decide (mP (A 40) q = v)) n) (fun j => decide (sm_tilt (mrm (A 40) j n) n = 0)) k i none = none := ffo_none (fun j => decide_eq_false (tilt_rm0 hn hh))
      simp only [eX3_fewest_0, eX3_fewest_1, eX3_fewest_4, eX3_fewest_7, eX3_fewest_8, eX3_fewest_10, eX3_fewest_13, eX3_fewest_14, eX3_fewest_15, eX3_fewest_18, eX3_fewest_21, eX3_fewest_24, eX3_fewest_25, eX3_fewest_27, eX3_fewest_30, eX3_fewest_31, eX3_fewest_32, eX3_fewest_35, eX3_fewest_36, eX3_fewest_39, eX3_fewest_40, eX3_fewest_43, eX3_fewest_44, eX3_fewest_45, eX3_fewest_48, eX3_fewest_51, eX3_fewest_52, eX3_fewest_53, eX3_fewest_55, eX3_fewest_56, eX3_fewest_60, eX3_fewest_61, eX3_fewest_64, eX3_fewest_66, eX3_fewest_67, eX3_fewest_68, eX3_fewest_70, eX3_fewest_73, eX3_fewest_74, eX3_fewest_77, eX3_fewest_78, eX3_fewest_80, eX3_fewest_82, eX3_fewest_85, eX3_fewest_87, eX3_fewest_90, eX3_fewest_92, eX3_fewest_95, eX3_fewest_98, eX3_fewest_99, eX3_fewest_102, eX3_fewest_103, eX3_fewest_105, eX3_fewest_107, eX3_fewest_110, eX3_fewest_112, eX3_fewest_115, eX3_fewest_116, eX3_fewest_117, eX3_fewest_119, eX3_fewest_122, eX3_fewest_125, eX3_fewest_127, eX3_fewest_129, eX3_fewest_132, eX3_fewest_135, eX3_fewest_137, eX3_fewest_140, eX3_fewest_141, eX3_fewest_143, eX3_fewest_146, eX3_fewest_149, eX3_fewest_151, eX4_fewest_0, eX4_fewest_1, eX4_fewest_4, eX4_fewest_7, eX4_fewest_8, eX4_fewest_10, eX4_fewest_13, eX4_fewest_14, eX4_fewest_15, eX4_fewest_16, eX4_fewest_19, eX4_fewest_20, eX4_fewest_21, eX4_fewest_22, eX4_fewest_23, eX4_fewest_26, eX4_fewest_27, eX4_fewest_31, eX4_fewest_32, eX4_fewest_35, eX4_fewest_37, eX4_fewest_38, eX4_fewest_39, eX4_fewest_40, eX4_fewest_41, eX4_fewest_44, eX4_fewest_45, eX4_fewest_48, eX4_fewest_50, eX4_fewest_53, eX4_fewest_54, eX4_fewest_57, eX4_fewest_60, eX4_fewest_61, eX4_fewest_65, eX4_fewest_66, eX4_fewest_69, eX4_fewest_70, eX4_fewest_71, eX4_fewest_74, eX4_fewest_75, eX4_fewest_78, eX4_fewest_80, eX4_fewest_81, eX4_fewest_84, eX4_fewest_86, eX4_fewest_88, eX4_fewest_89, eX4_fewest_90, eX4_fewest_91, eX4_fewest_92, eX4_fewest_95, eX4_fewest_96, eX4_fewest_99, eX4_fewest_100, eX4_fewest_102, eX4_fewest_103, eX4_fewest_106, eX4_fewest_107, eX4_fewest_110, eX4_fewest_114, eX4_fewest_115, eX4_fewest_118, eX4_fewest_121, eX4_fewest_123, eX4_fewest_126, eX4_fewest_127, eX4_fewest_130, eX4_fewest_131, eX4_fewest_134, eX4_fewest_137, eX4_fewest_138, eX4_fewest_141, eX4_fewest_142, eX4_fewest_144, eX4_fewest_147, eX4_fewest_150, eX4_fewest_151, hm, kd_0, fr_0_0, fr_0_1, fr_0_2, fr_0_3, fr_0_4, fr_0_5, fr_0_6, fr_0_7, fr_0_8, kd_1, fr_1_0, fr_1_1, fr_1_2, fr_1_3, fr_1_4, kd_2, an_2, rd_2, kd_3, an_3, rd_3, kd_4, an_4, rd_4, kd_5, an_5, rd_5, kd_6, an_6, rd_6, kd_7, kd_13, fr_13_0, fr_13_1, fr_13_2, fr_13_3, fr_13_4, kd_14, an_14, rd_14, kd_15, an_15, rd_15, kd_16, an_16, rd_16, kd_17, an_17, rd_17, kd_19, fr_19_3, kd_23, an_23, rd_23, kd_25, an_25, rd_25, kd_26, an_26, rd_26, kd_27, fr_27_0, kd_28, an_28, rd_28, kd_29, an_29, kd_38, an_38, rd_38, kd_39, fr_39_0, fr_39_1, fr_39_2, fr_39_3, fr_39_4, fr_39_6, fr_39_12, fr_39_13, fr_39_14, fr_39_15, kd_40, an_40, rd_40, kd_41, an_41, rd_41, kd_42, an_42, rd_42, kd_43, an_43, rd_43, kd_44, an_44, rd_44, kd_45, an_45, rd_45, kd_46, an_46, rd_46, kd_47, an_47, rd_47, kd_48, an_48, kd_49, an_49, tX3_finding0, tX3_finding1, tX3_finding2, tX3_finding3, tX3_finding4, tX3_finding5, tX3_finding6, tX3_isEnd, tX4_isEnd, one_ne0, b2i_t h1, x1, b2i_f hx, y0 _ (show (va_up A 38 (upd (A 38) 3 (A 38 3 + 1))) 40 = A 40 by rw [up_n (by omega)]), up_n, es, y1, Nat.reduceLeDiff, Nat.reduceEqDiff, Nat.reduceAdd, if_true, if_false, b2i_T, b2i_F, and_self, and_false, false_and, true_and, and_true, true_or, or_true, false_or, or_false, or_self, not_true_eq_false, not_false_eq_true, eq_self, List.cons_append, List.nil_append]
      rw [y2 _ (by rw [up_n (by omega), up_n (by omega)]) (A 43) (by rw [up_s]), if_pos (hF _ _)]
      simp only [up_n, Nat.reduceLeDiff, Nat.reduceEqDiff, Nat.reduceAdd, if_true, if_false, b2i_T, b2i_F, and_self, and_false, false_and, true_and, and_true, true_or, or_true, false_or, or_false, or_self, not_true_eq_false, not_false_eq_true, eq_self, List.cons_append, List.nil_append]
      have z := okQ.trf (a := sp_cp (A 40) (A 43) 37) (v := -1000000004) h off.rf rfl 3
      have e3 : va_up (va_up (va_up A 38 (upd (A 38) 3 (A 38 3 + 1))) 43 (sp_cp (A 40) (A 43) 37)) 40 (A 40) = va_up (va_up A 38 (upd (A 38) 3 (A 38 3 + 1))) 43 (sp_cp (A 40) (A 43) 37) := by
        have e4 := up_id (f := va_up (va_up A 38 (upd (A 38) 3 (A 38 3 + 1))) 43 (sp_cp (A 40) (A 43) 37)) (k := 40)
        rw [up_n (by omega), up_n (by omega)] at e4
        exact e4
      rw [e3] at z
      exact z
  · simp only [eX3_fewest_0, eX3_fewest_1, eX3_fewest_4, eX3_fewest_7, eX3_fewest_8, eX3_fewest_10, eX3_fewest_13, eX3_fewest_14, eX3_fewest_15, eX3_fewest_18, eX3_fewest_21, eX3_fewest_24, eX3_fewest_25, eX3_fewest_27, eX3_fewest_30, eX3_fewest_31, eX3_fewest_32, eX3_fewest_35, eX3_fewest_36, eX3_fewest_39, eX3_fewest_40, eX3_fewest_43, eX3_fewest_44, eX3_fewest_45, eX3_fewest_48, eX3_fewest_51, eX3_fewest_52, eX3_fewest_53, eX3_fewest_55, eX3_fewest_56, eX3_fewest_60, eX3_fewest_61, eX3_fewest_64, eX3_fewest_66, eX3_fewest_67, eX3_fewest_68, eX3_fewest_70, eX3_fewest_73, eX3_fewest_74, eX3_fewest_77, eX3_fewest_78, eX3_fewest_80, eX3_fewest_82, eX3_fewest_85, eX3_fewest_87, eX3_fewest_90, eX3_fewest_92, eX3_fewest_95, eX3_fewest_98, eX3_fewest_99, eX3_fewest_102, eX3_fewest_103, eX3_fewest_105, eX3_fewest_107, eX3_fewest_110, eX3_fewest_112, eX3_fewest_115, eX3_fewest_116, eX3_fewest_117, eX3_fewest_119, eX3_fewest_122, eX3_fewest_125, eX3_fewest_127, eX3_fewest_129, eX3_fewest_132, eX3_fewest_135, eX3_fewest_137, eX3_fewest_140, eX3_fewest_141, eX3_fewest_143, eX3_fewest_146, eX3_fewest_149, eX3_fewest_151, eX4_fewest_0, eX4_fewest_1, eX4_fewest_4, eX4_fewest_7, eX4_fewest_8, eX4_fewest_10, eX4_fewest_13, eX4_fewest_14, eX4_fewest_15, eX4_fewest_16, eX4_fewest_19, eX4_fewest_20, eX4_fewest_21, eX4_fewest_22, eX4_fewest_23, eX4_fewest_26, eX4_fewest_27, eX4_fewest_31, eX4_fewest_32, eX4_fewest_35, eX4_fewest_37, eX4_fewest_38, eX4_fewest_39, eX4_fewest_40, eX4_fewest_41, eX4_fewest_44, eX4_fewest_45, eX4_fewest_48, eX4_fewest_50, eX4_fewest_53, eX4_fewest_54, eX4_fewest_57, eX4_fewest_60, eX4_fewest_61, eX4_fewest_65, eX4_fewest_66, eX4_fewest_69, eX4_fewest_70, eX4_fewest_71, eX4_fewest_74, eX4_fewest_75, eX4_fewest_78, eX4_fewest_80, eX4_fewest_81, eX4_fewest_84, eX4_fewest_86, eX4_fewest_88, eX4_fewest_89, eX4_fewest_90, eX4_fewest_91, eX4_fewest_92, eX4_fewest_95, eX4_fewest_96, eX4_fewest_99, eX4_fewest_100, eX4_fewest_102, eX4_fewest_103, eX4_fewest_106, eX4_fewest_107, eX4_fewest_110, eX4_fewest_114, eX4_fewest_115, eX4_fewest_118, eX4_fewest_121, eX4_fewest_123, eX4_fewest_126, eX4_fewest_127, eX4_fewest_130, eX4_fewest_131, eX4_fewest_134, eX4_fewest_137, eX4_fewest_138, eX4_fewest_141, eX4_fewest_142, eX4_fewest_144, eX4_fewest_147, eX4_fewest_150, eX4_fewest_151, hm, kd_0, fr_0_0, fr_0_1, fr_0_2, fr_0_3, fr_0_4, fr_0_5, fr_0_6, fr_0_7, fr_0_8, kd_1, fr_1_0, fr_1_1, fr_1_2, fr_1_3, fr_1_4, kd_2, an_2, rd_2, kd_3, an_3, rd_3, kd_4, an_4, rd_4, kd_5, an_5, rd_5, kd_6, an_6, rd_6, kd_7, kd_13, fr_13_0, fr_13_1, fr_13_2, fr_13_3, fr_13_4, kd_14, an_14, rd_14, kd_15, an_15, rd_15, kd_16, an_16, rd_16, kd_17, an_17, rd_17, kd_19, fr_19_3, kd_23, an_23, rd_23, kd_25, an_25, rd_25, kd_26, an_26, rd_26, kd_27, fr_27_0, kd_28, an_28, rd_28, kd_29, an_29, kd_38, an_38, rd_38, kd_39, fr_39_0, fr_39_1, fr_39_2, fr_39_3, fr_39_4, fr_39_6, fr_39_12, fr_39_13, fr_39_14, fr_39_15, kd_40, an_40, rd_40, kd_41, an_41, rd_41, kd_42, an_42, rd_42, kd_43, an_43, rd_43, kd_44, an_44, rd_44, kd_45, an_45, rd_45, kd_46, an_46, rd_46, kd_47, an_47, rd_47, kd_48, an_48, kd_49, an_49, tX3_finding0, tX3_finding1, tX3_finding2, tX3_finding3, tX3_finding4, tX3_finding5, tX3_finding6, tX4_finds0, tX4_finds1, tX4_finds2, tX4_finds3, tX4_finds4, tX4_finds5, tX4_finds6, tX3_isEnd, tX4_isEnd, b2i_f h1, up_n, Nat.reduceLeDiff, Nat.reduceEqDiff, Nat.reduceAdd, if_true, if_false, b2i_T, b2i_F, and_self, and_false, false_and, true_and, and_true, true_or, or_true, false_or, or_false, or_self, not_true_eq_false, not_false_eq_true, eq_self, List.cons_append, List.nil_append]
    exact okQ.find h 0

end OP
