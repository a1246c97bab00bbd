/-! THE TEXT: items, told of a row; the class's Text tells them to its beam -/
def inN (b : Nat → Int32) (t st : Nat) (M : Int32) : Bool := decide (tk b t st = 2 ∧ vx b t st ≤ M)
theorem inN_iff {b : Nat → Int32} {t st : Nat} {M : Int32} : inN b t st M = true ↔ tk b t st = 2 ∧ vx b t st ≤ M := decide_eq_true_iff
theorem vx_n {b : Nat → Int32} {t st : Nat} (h : tk b t st = 2) : ∃ a, a ≤ 1000 ∧ vx b t st = nI a := by
  obtain ⟨a, a', e1, e2, h1⟩ := num_n (b := b) (st := st) (en b t st - st) (fun j hj => all_D h _ (by omega) (by omega))
  exact ⟨a, by omega, e1⟩
theorem inN_n {b : Nat → Int32} {t st : Nat} {M : Int32} {N : Nat} (hM : M.toInt = N) (h : inN b t st M = true) : ∃ a, a ≤ N ∧ vx b t st = nI a := by
  obtain ⟨h1, h2⟩ := inN_iff.mp h
  obtain ⟨a, ha, e⟩ := vx_n h1
  rw [e, Int32.le_iff_toInt_le, nI_toInt (by omega), hM] at h2
  exact ⟨a, by omega, e⟩
abbrev pR : Type := Bool × (Nat → Int32) × Nat × Nat
def p_part (b : Nat → Int32) (t i w : Nat) (M : Int32) (r : pR) : pR := if r.1 = true ∧ isW b t i r.2.2.2 = true then (if inN b t (nx b t r.2.2.2) M = true then (true, upd r.2.1 w (vx b t (nx b t r.2.2.2)), r.2.2.1, nx b t (nx b t r.2.2.2)) else (false, r.2.1, r.2.2.1, nx b t r.2.2.2)) else r
def p_addr (s : Nat → Int32) (n : Nat) (k : Int32) : Nat → Int32 := upd (upd (upd (upd (upd s (5 + 4 * n) k) (5 + 4 * n + 1) 0) (5 + 4 * n + 2) 0) (5 + 4 * n + 3) (-1)) 0 (nI n + 1)
def p_pers (b : Nat → Int32) (t : Nat) (s : Nat → Int32) (n st : Nat) (k : Int32) : pR := p_part b t 10 (5 + 4 * n + 3) 1 (p_part b t 9 (5 + 4 * n + 2) 99 (p_part b t 8 (5 + 4 * n + 1) 99 (true, p_addr s n k, n + 1, nx b t st)))
def p_hear (s : Nat → Int32) (p : Nat) (g r : Int32) : Nat → Int32 := upd (upd s (5 + 4 * p + 1) (sp_held (s (5 + 4 * p + 1) + g))) (5 + 4 * p + 2) (sp_held (s (5 + 4 * p + 2) + r))
theorem p_hear_o {s : Nat → Int32} {p q : Nat} {g r : Int32} (h : q < 5 ∨ 5 + 4 * p + 3 ≤ q) : p_hear s p g r q = s q := by
  unfold p_hear
  rw [ud_n (by omega), ud_n (by omega)]
def p_news (b : Nat → Int32) (t : Nat) (s : Nat → Int32) (n st : Nat) : pR := if inN b t st (nI n - 1) = true then (if inN b t (nx b t st) 99 = true then (if inN b t (nx b t (nx b t st)) 99 = true then (true, p_hear s (vx b t st).toNatClampNeg (vx b t (nx b t st)) (vx b t (nx b t (nx b t st))), n, nx b t (nx b t (nx b t st))) else (false, s, n, nx b t (nx b t st))) else (false, s, n, nx b t st)) else (false, s, n, st)
def p_bag (b : Nat → Int32) (t : Nat) (s : Nat → Int32) (n st : Nat) : pR := if inN b t st 20 = true then (true, upd s 2 (vx b t st), n, nx b t st) else (false, s, n, st)
def p_item (b : Nat → Int32) (t : Nat) (s : Nat → Int32) (n st : Nat) : pR := if isW b t 0 st = true then p_bag b t s n (nx b t st) else if isW b t 1 st = true then p_news b t s n (nx b t st) else if kN b t st < 0 ∨ ¬ n < 8 then (false, s, n, st) else p_pers b t s n st (kN b t st)
theorem isW_lt {b : Nat → Int32} {t i st : Nat} (h : isW b t i st = true) : st < t := (tk_1.mp (of_decide_eq_true h).1).1
theorem kN_w {b : Nat → Int32} {t st : Nat} (h : ¬ kN b t st < 0) : st < t ∧ ∃ i, i < 6 ∧ kN b t st = nI i := by
  unfold kN at h ⊢
  repeat' split
  · exact ⟨isW_lt (by assumption), 0, by omega, rfl⟩
  · exact ⟨isW_lt (by assumption), 1, by omega, rfl⟩
  · exact ⟨isW_lt (by assumption), 2, by omega, rfl⟩
  · exact ⟨isW_lt (by assumption), 3, by omega, rfl⟩
  · exact ⟨isW_lt (by assumption), 4, by omega, rfl⟩
  · exact ⟨isW_lt (by assumption), 5, by omega, rfl⟩
  · simp only [*] at h
    exact absurd (by decide) h
/-- what holds of a row that is told something -/
def p_ok (t n st : Nat) (s : Nat → Int32) (r : pR) : Prop := r.2.1 0 = nI r.2.2.1 ∧ r.2.2.1 ≤ 8 ∧ (∀ q, 37 ≤ q → r.2.1 q = s q) ∧ st ≤ r.2.2.2 ∧ r.2.2.2 ≤ t
theorem p_part_ok {b : Nat → Int32} {t i w n st : Nat} {M : Int32} {s : Nat → Int32} {r : pR} (hw : 0 < w) (hw2 : w < 37) (h : p_ok t n st s r) : p_ok t n st s (p_part b t i w M r) := by
  obtain ⟨h1, h2, h3, h4, h5⟩ := h
  have g1 := nx_lo (b := b) (t := t) (st := r.2.2.2)
  have g2 := nx_lo (b := b) (t := t) (st := nx b t r.2.2.2)
  have g3 := nx_le (b := b) h5
  have g4 := nx_le (b := b) g3
  unfold p_part
  split
  · split
    · refine ⟨?_, h2, fun q hq => ?_, ?_, g4⟩
      · show upd r.2.1 w _ 0 = _
        rw [ud_n (by omega)]; exact h1
      · show upd r.2.1 w _ q = _
        rw [ud_n (by omega)]; exact h3 q hq
      · show st ≤ nx b t (nx b t r.2.2.2); omega
    · exact ⟨h1, h2, h3, by show st ≤ nx b t r.2.2.2; omega, g3⟩
  · exact ⟨h1, h2, h3, h4, h5⟩
theorem p_hear_ok {t n st st' p : Nat} {s : Nat → Int32} {g r : Int32} (hs : s 0 = nI n) (hn : n ≤ 8) (hp : p < n) (h1 : st ≤ st') (h2 : st' ≤ t) : p_ok t n st s (true, p_hear s p g r, n, st') := ⟨(p_hear_o (s := s) (p := p) (q := 0) (g := g) (r := r) (Or.inl (by omega))).trans hs, hn, fun q hq => p_hear_o (s := s) (p := p) (q := q) (g := g) (r := r) (Or.inr (by omega)), h1, h2⟩
theorem p_item_ok {b : Nat → Int32} {t n st : Nat} {s : Nat → Int32} (hs : s 0 = nI n) (hn : n ≤ 8) (hst : st ≤ t) : p_ok t n st s (p_item b t s n st) ∧ ((p_item b t s n st).1 = true → st < (p_item b t s n st).2.2.2) := by
  have base : ∀ st', st ≤ st' → st' ≤ t → p_ok t n st s (false, s, n, st') := fun st' h1 h2 => ⟨hs, hn, fun q _ => rfl, h1, h2⟩
  have l0 := nx_lo (b := b) (t := t) (st := st)
  have l1 := nx_le (b := b) hst
  have l2 := nx_lo (b := b) (t := t) (st := nx b t st)
  have l3 := nx_le (b := b) l1
  have l4 := nx_lo (b := b) (t := t) (st := nx b t (nx b t st))
  have l5 := nx_le (b := b) l3
  have l6 := nx_lo (b := b) (t := t) (st := nx b t (nx b t (nx b t st)))
  have l7 := nx_le (b := b) l5
  have nof : ∀ (s' : Nat → Int32) (n' st' : Nat), ((false, s', n', st') : pR).1 = true → st < st' := fun _ _ _ z => absurd z Bool.false_ne_true
  unfold p_item
  split
  · rename_i hw
    have g := nx_gt (b := b) (isW_lt hw)
    unfold p_bag
    split
    · refine ⟨⟨?_, hn, fun q hq => ?_, by show st ≤ nx b t (nx b t st); omega, l3⟩, fun _ => by show st < nx b t (nx b t st); omega⟩
      · show upd s 2 (vx b t (nx b t st)) 0 = nI n
        rw [ud_n (by omega)]; exact hs
      · show upd s 2 (vx b t (nx b t st)) q = s q
        rw [ud_n (by omega)]
    · exact ⟨base _ l0 l1, nof _ _ _⟩
  · split
    · rename_i hw
      have g := nx_gt (b := b) (isW_lt hw)
      unfold p_news
      split
      · rename_i hN
        split
        · split
          · have hp : (vx b t (nx b t st)).toNatClampNeg < n := by
              obtain ⟨e1, e2⟩ := inN_iff.mp hN
              obtain ⟨a, ha, e⟩ := vx_n e1
              rw [e] at e2 ⊢
              rw [nI_clamp (by omega)]
              obtain ⟨p, hp, e3⟩ := i_pers hn ⟨nI_pos' (by omega), e2⟩
              have := nI_ij (by omega) (by omega) e3
              omega
            exact ⟨p_hear_ok hs hn hp (by omega) l7, fun _ => by show st < nx b t (nx b t (nx b t (nx b t st))); omega⟩
          · exact ⟨base _ (by omega) l5, nof _ _ _⟩
        · exact ⟨base _ (by omega) l3, nof _ _ _⟩
      · exact ⟨base _ l0 l1, nof _ _ _⟩
    · split
      · exact ⟨base _ (Nat.le_refl _) hst, nof _ _ _⟩
      · rename_i hk
        obtain ⟨hk1, hk2⟩ := not_or.mp hk
        have hn8 : n < 8 := Decidable.of_not_not hk2
        have g := nx_gt (b := b) (kN_w hk1).1
        have h0 : p_ok t n (st + 1) s (true, p_addr s n (kN b t st), n + 1, nx b t st) := by
          refine ⟨?_, by show n + 1 ≤ 8; omega, fun q hq => ?_, g, l1⟩
          · show p_addr s n (kN b t st) 0 = nI (n + 1)
            unfold p_addr
            rw [ud_s, nI_succ]
          · show p_addr s n (kN b t st) q = s q
            unfold p_addr
            rw [ud_n (by omega), ud_n (by omega), ud_n (by omega), ud_n (by omega), ud_n (by omega)]
        have h3 := p_part_ok (b := b) (i := 10) (w := 5 + 4 * n + 3) (M := 1) (by omega) (by omega) (p_part_ok (b := b) (i := 9) (w := 5 + 4 * n + 2) (M := 99) (by omega) (by omega) (p_part_ok (b := b) (i := 8) (w := 5 + 4 * n + 1) (M := 99) (by omega) (by omega) h0))
        obtain ⟨a1, a2, a3, a4, a5⟩ := h3
        exact ⟨⟨a1, a2, a3, by unfold p_pers; omega, a5⟩, fun _ => by unfold p_pers; omega⟩
/-- the class's Text at a token, its beam told what s says -/
def XS (b : Nat → Int32) (t c : Nat) (A0 A : sx_A) (s : Nat → Int32) (n st : Nat) : Prop := A 28 = b ∧ atT b t st (A 27) ∧ rB c n A 13 s ∧ st ≤ t ∧ ∀ k, (k < 13 ∨ 18 < k) → ¬ k = 27 → A k = A0 k
def XF (t : Nat) (A0 A : sx_A) (st : Nat) : Prop := A 27 1 = nI t ∧ A 27 2 = nI st ∧ ∀ k, (k < 13 ∨ 18 < k) → ¬ k = 27 → A k = A0 k
def XP (b : Nat → Int32) (t c : Nat) (A0 A : sx_A) (r : pR) (v : Int32) : Prop := (r.1 = true ∧ v = 1 ∧ XS b t c A0 A r.2.1 r.2.2.1 r.2.2.2) ∨ (r.1 = false ∧ v = 0 ∧ XF t A0 A r.2.2.2)
theorem rB_27 {c n : Nat} {A : sx_A} {s R : Nat → Int32} (h : rB c n A 13 s) : rB c n (va_up A 27 R) 13 s := by
  unfold rB at h ⊢
  rw [up_n (by omega), up_n (by omega), up_n (by omega), up_n (by omega), up_n (by omega), up_n (by omega)]
  exact h
theorem rB_join {c n b : Nat} {A : sx_A} {s : Nat → Int32} {k : Int32} (h : rB c n A b s) (hn : n < 8) (hk : ∃ i, i < 6 ∧ k = nI i) : rB c (n + 1) (va_up (va_up (va_up (va_up (va_up A (b + 1) (upd (A (b + 1)) n k)) (b + 2) (upd (A (b + 2)) n 0)) (b + 3) (upd (A (b + 3)) n 0)) (b + 4) (upd (A (b + 4)) n (-1))) b (upd (A b) 5 (nI (n + 1)))) b (p_addr s n k) := by
  have z := r_B.join h hn hk
  unfold rB
  rw [up_s, up_n (show ¬ b + 1 = b by omega), up_n (show ¬ b + 1 = b + 4 by omega), up_n (show ¬ b + 1 = b + 3 by omega), up_n (show ¬ b + 1 = b + 2 by omega), up_s, up_n (show ¬ b + 2 = b by omega), up_n (show ¬ b + 2 = b + 4 by omega), up_n (show ¬ b + 2 = b + 3 by omega), up_s, up_n (show ¬ b + 3 = b by omega), up_n (show ¬ b + 3 = b + 4 by omega), up_s, up_n (show ¬ b + 4 = b by omega), up_s, up_n (show ¬ b + 5 = b by omega), up_n (show ¬ b + 5 = b + 4 by omega), up_n (show ¬ b + 5 = b + 3 by omega), up_n (show ¬ b + 5 = b + 2 by omega), up_n (show ¬ b + 5 = b + 1 by omega)]
  exact z
section TX
variable {G : sx_G} {c n : Nat} {A A0 : sx_A} {Z : sx_Z} {Q : List Value → sx_A → sx_Z → Prop} {b s : Nat → Int32} {t st : Nat}
theorem XS.f (h : XS b t c A0 A s n st) : XF t A0 A st := ⟨h.2.1.1, h.2.1.2.1, h.2.2.2.2⟩
theorem XS.adv (ht : t ≤ 120) (h : XS b t c A0 A s n st) (hQ : ∀ A', XS b t c A0 A' s n (nx b t st) → Q [] A' Z) : sx_call G mX2_advance [.ref 27] A Z Q := by
  obtain ⟨h1, h2, h3, h4, h5⟩ := h
  refine tX2_advance h1 ht (en_le h4) h2.1 h2.2.2.1 (fun R hR => hQ _ ⟨?_, ?_, rB_27 h3, nx_le h4, fun k hk h27 => ?_⟩)
  · rw [up_n (by omega)]; exact h1
  · rw [up_s]; exact hR
  · rw [up_n h27]; exact h5 k hk h27
theorem XS.word (ht : t ≤ 120) (h : XS b t c A0 A s n st) {i : Nat} (hi : i < 11) : sx_call G mX2_isWord [.ref 27, .ref (100 + i)] A Z Q ↔ Q [.int (b2i (isW b t i st = true))] A Z := tX2_isWord h.1 ht h.2.2.2.1 hi h.2.1
theorem XS.num {M : Int32} (h : XS b t c A0 A s n st) : sx_call G mX2_isNumber [.ref 27, .int M] A Z Q ↔ Q [.int (b2i (inN b t st M = true))] A Z := by
  rw [tX2_isNumber h.2.1, b2i_c (c := isN b t st M) (d := inN b t st M = true) inN_iff.symm]
theorem tX2_tellPart {i w kk p : Nat} {M : Int32} (ht : t ≤ 120) (hi : i < 11) (hkk : (13 ≤ kk ∧ kk ≤ 18) ∧ sx_kd kk = 5 ∧ sx_an G kk = 8) (hp : p < 8) (hset : ∀ (A : sx_A) (a : Nat), rB c n A 13 s → nI a ≤ M → a ≤ 1000 → rB c n (va_up A kk (upd (A kk) p (nI a))) 13 (upd s w (nI a))) (h : XS b t c A0 A s n st) (hQ : ∀ A' v, XP b t c A0 A' (p_part b t i w M (true, s, n, st)) v → Q [.int v] A' Z) : sx_call G mX2_tellPart [.ref 27, .ref (100 + i), .int M, .ref kk, .int (nI p)] A Z Q := by
  rw [sx_call_in (L := [some (.ref 27), some (.ref (100 + i)), some (.int M), some (.ref kk), some (.int (nI p))]) rfl rfl]
  have w1 := fun (Q : List Value → sx_A → sx_Z → Prop) => XS.word (G := G) (Z := Z) (Q := Q) ht h hi
  have h7 : ¬ nI p < 0 := nI_pos (by omega)
  have h8 : ¬ 8 ≤ p := by omega
  have h9 : (nI p).toNatClampNeg = p := nI_clamp (by omega)
  have h6 : nI p < Int32.ofNat 8 := nI_lt hp (by omega)
  by_cases e : isW b t i st = true
  · simp only [eX2_tellPart_0, eX2_tellPart_1, eX2_tellPart_2, eX2_tellPart_5, eX2_tellPart_8, eX2_tellPart_9, eX2_tellPart_10, eX2_tellPart_11, eX2_tellPart_14, eX2_tellPart_15, eX2_tellPart_16, eX2_tellPart_19, eX2_tellPart_22, eX2_tellPart_24, eX2_tellPart_27, eX2_tellPart_29, eX2_tellPart_30, eX2_tellPart_31, eX2_tellPart_34, eX2_tellPart_35, eX2_tellPart_36, eX2_tellPart_37, eX2_tellPart_39, eX2_tellPart_40, eX2_tellPart_43, eX2_tellPart_44, eX2_tellPart_45, eX2_tellPart_48, eX2_tellPart_49, kd_0, fr_0_0, fr_0_1, fr_0_2, fr_0_3, fr_0_4, fr_0_5, fr_0_6, fr_0_7, fr_0_8, kd_1, fr_1_0, fr_1_1, fr_1_2, fr_1_3, fr_1_4, kd_2, an_2, rd_2, kd_3, an_3, rd_3, kd_4, an_4, rd_4, kd_5, an_5, rd_5, kd_6, an_6, rd_6, kd_7, kd_13, fr_13_0, fr_13_1, fr_13_2, fr_13_3, fr_13_4, kd_14, an_14, rd_14, kd_15, an_15, rd_15, kd_16, an_16, rd_16, kd_17, an_17, rd_17, kd_19, fr_19_3, kd_23, an_23, rd_23, kd_25, an_25, rd_25, kd_26, an_26, rd_26, kd_27, fr_27_0, kd_28, an_28, rd_28, kd_29, an_29, kd_38, an_38, rd_38, w1, b2i_t e, one_ne0, Nat.reduceLeDiff, Nat.reduceEqDiff, Nat.reduceAdd, if_true, if_false, b2i_T, b2i_F, and_self, and_false, false_and, true_and, and_true, true_or, or_true, false_or, or_false, or_self, not_true_eq_false, not_false_eq_true, eq_self, List.cons_append, List.nil_append]
    refine XS.adv ht h (fun A1 h1 => ?_)
    have w2 := fun (Q : List Value → sx_A → sx_Z → Prop) => XS.num (G := G) (Z := Z) (Q := Q) (M := M) h1
    by_cases e2 : inN b t (nx b t st) M = true
    · have ep : p_part b t i w M (true, s, n, st) = (true, upd s w (vx b t (nx b t st)), n, nx b t (nx b t st)) := by
        unfold p_part
        rw [if_pos ⟨rfl, e⟩, if_pos e2]
      obtain ⟨e3, e4⟩ := inN_iff.mp e2
      obtain ⟨a, ha, ea⟩ := vx_n e3
      have e5 := h1.2.1.2.2.2.2 e3
      rw [ea] at e5 e4
      simp only [eX2_tellPart_0, eX2_tellPart_1, eX2_tellPart_2, eX2_tellPart_5, eX2_tellPart_8, eX2_tellPart_9, eX2_tellPart_10, eX2_tellPart_11, eX2_tellPart_14, eX2_tellPart_15, eX2_tellPart_16, eX2_tellPart_19, eX2_tellPart_22, eX2_tellPart_24, eX2_tellPart_27, eX2_tellPart_29, eX2_tellPart_30, eX2_tellPart_31, eX2_tellPart_34, eX2_tellPart_35, eX2_tellPart_36, eX2_tellPart_37, eX2_tellPart_39, eX2_tellPart_40, eX2_tellPart_43, eX2_tellPart_44, eX2_tellPart_45, eX2_tellPart_48, eX2_tellPart_49, kd_0, fr_0_0, fr_0_1, fr_0_2, fr_0_3, fr_0_4, fr_0_5, fr_0_6, fr_0_7, fr_0_8, kd_1, fr_1_0, fr_1_1, fr_1_2, fr_1_3, fr_1_4, kd_2, an_2, rd_2, kd_3, an_3, rd_3, kd_4, an_4, rd_4, kd_5, an_5, rd_5, kd_6, an_6, rd_6, kd_7, kd_13, fr_13_0, fr_13_1, fr_13_2, fr_13_3, fr_13_4, kd_14, an_14, rd_14, kd_15, an_15, rd_15, kd_16, an_16, rd_16, kd_17, an_17, rd_17, kd_19, fr_19_3, kd_23, an_23, rd_23, kd_25, an_25, rd_25, kd_26, an_26, rd_26, kd_27, fr_27_0, kd_28, an_28, rd_28, kd_29, an_29, kd_38, an_38, rd_38, w2, b2i_t e2, one_ne0, h6, h7, h8, h9, hkk.2.1, hkk.2.2, e5, Nat.reduceLeDiff, Nat.reduceEqDiff, Nat.reduceAdd, if_true, if_false, b2i_T, b2i_F, and_self, and_false, false_and, true_and, and_true, true_or, or_true, false_or, or_false, or_self, not_true_eq_false, not_false_eq_true, eq_self, List.cons_append, List.nil_append]
      have h2 : XS b t c A0 (va_up A1 kk (upd (A1 kk) p (nI a))) (upd s w (nI a)) n (nx b t st) := by
        obtain ⟨g1, g2, g3, g4, g5⟩ := h1
        refine ⟨?_, ?_, hset A1 a g3 e4 ha, g4, fun k hk h27 => ?_⟩
        · rw [up_n (by omega)]; exact g1
        · rw [up_n (by omega)]; exact g2
        · rw [up_n (by omega)]; exact g5 k hk h27
      refine XS.adv ht h2 (fun A2 h3 => ?_)
      simp only [eX2_tellPart_0, eX2_tellPart_1, eX2_tellPart_2, eX2_tellPart_5, eX2_tellPart_8, eX2_tellPart_9, eX2_tellPart_10, eX2_tellPart_11, eX2_tellPart_14, eX2_tellPart_15, eX2_tellPart_16, eX2_tellPart_19, eX2_tellPart_22, eX2_tellPart_24, eX2_tellPart_27, eX2_tellPart_29, eX2_tellPart_30, eX2_tellPart_31, eX2_tellPart_34, eX2_tellPart_35, eX2_tellPart_36, eX2_tellPart_37, eX2_tellPart_39, eX2_tellPart_40, eX2_tellPart_43, eX2_tellPart_44, eX2_tellPart_45, eX2_tellPart_48, eX2_tellPart_49, Nat.reduceLeDiff, Nat.reduceEqDiff, Nat.reduceAdd, if_true, if_false, b2i_T, b2i_F, and_self, and_false, false_and, true_and, and_true, true_or, or_true, false_or, or_false, or_self, not_true_eq_false, not_false_eq_true, eq_self, List.cons_append, List.nil_append]
      refine hQ A2 1 (Or.inl ?_)
      rw [ep, ea]
      exact ⟨rfl, rfl, h3⟩
    · have ep : p_part b t i w M (true, s, n, st) = (false, s, n, nx b t st) := by
        unfold p_part
        rw [if_pos ⟨rfl, e⟩, if_neg e2]
      simp only [eX2_tellPart_0, eX2_tellPart_1, eX2_tellPart_2, eX2_tellPart_5, eX2_tellPart_8, eX2_tellPart_9, eX2_tellPart_10, eX2_tellPart_11, eX2_tellPart_14, eX2_tellPart_15, eX2_tellPart_16, eX2_tellPart_19, eX2_tellPart_22, eX2_tellPart_24, eX2_tellPart_27, eX2_tellPart_29, eX2_tellPart_30, eX2_tellPart_31, eX2_tellPart_34, eX2_tellPart_35, eX2_tellPart_36, eX2_tellPart_37, eX2_tellPart_39, eX2_tellPart_40, eX2_tellPart_43, eX2_tellPart_44, eX2_tellPart_45, eX2_tellPart_48, eX2_tellPart_49, kd_0, fr_0_0, fr_0_1, fr_0_2, fr_0_3, fr_0_4, fr_0_5, fr_0_6, fr_0_7, fr_0_8, kd_1, fr_1_0, fr_1_1, fr_1_2, fr_1_3, fr_1_4, kd_2, an_2, rd_2, kd_3, an_3, rd_3, kd_4, an_4, rd_4, kd_5, an_5, rd_5, kd_6, an_6, rd_6, kd_7, kd_13, fr_13_0, fr_13_1, fr_13_2, fr_13_3, fr_13_4, kd_14, an_14, rd_14, kd_15, an_15, rd_15, kd_16, an_16, rd_16, kd_17, an_17, rd_17, kd_19, fr_19_3, kd_23, an_23, rd_23, kd_25, an_25, rd_25, kd_26, an_26, rd_26, kd_27, fr_27_0, kd_28, an_28, rd_28, kd_29, an_29, kd_38, an_38, rd_38, w2, b2i_f e2, Nat.reduceLeDiff, Nat.reduceEqDiff, Nat.reduceAdd, if_true, if_false, b2i_T, b2i_F, and_self, and_false, false_and, true_and, and_true, true_or, or_true, false_or, or_false, or_self, not_true_eq_false, not_false_eq_true, eq_self, List.cons_append, List.nil_append]
      refine hQ A1 0 (Or.inr ?_)
      rw [ep]
      exact ⟨rfl, rfl, h1.f⟩
  · have ep : p_part b t i w M (true, s, n, st) = (true, s, n, st) := by
      unfold p_part
      rw [if_neg (fun z => e z.2)]
    simp only [eX2_tellPart_0, eX2_tellPart_1, eX2_tellPart_2, eX2_tellPart_5, eX2_tellPart_8, eX2_tellPart_9, eX2_tellPart_10, eX2_tellPart_11, eX2_tellPart_14, eX2_tellPart_15, eX2_tellPart_16, eX2_tellPart_19, eX2_tellPart_22, eX2_tellPart_24, eX2_tellPart_27, eX2_tellPart_29, eX2_tellPart_30, eX2_tellPart_31, eX2_tellPart_34, eX2_tellPart_35, eX2_tellPart_36, eX2_tellPart_37, eX2_tellPart_39, eX2_tellPart_40, eX2_tellPart_43, eX2_tellPart_44, eX2_tellPart_45, eX2_tellPart_48, eX2_tellPart_49, kd_0, fr_0_0, fr_0_1, fr_0_2, fr_0_3, fr_0_4, fr_0_5, fr_0_6, fr_0_7, fr_0_8, kd_1, fr_1_0, fr_1_1, fr_1_2, fr_1_3, fr_1_4, kd_2, an_2, rd_2, kd_3, an_3, rd_3, kd_4, an_4, rd_4, kd_5, an_5, rd_5, kd_6, an_6, rd_6, kd_7, kd_13, fr_13_0, fr_13_1, fr_13_2, fr_13_3, fr_13_4, kd_14, an_14, rd_14, kd_15, an_15, rd_15, kd_16, an_16, rd_16, kd_17, an_17, rd_17, kd_19, fr_19_3, kd_23, an_23, rd_23, kd_25, an_25, rd_25, kd_26, an_26, rd_26, kd_27, fr_27_0, kd_28, an_28, rd_28, kd_29, an_29, kd_38, an_38, rd_38, w1, b2i_f e, Nat.reduceLeDiff, Nat.reduceEqDiff, Nat.reduceAdd, if_true, if_false, b2i_T, b2i_F, and_self, and_false, false_and, true_and, and_true, true_or, or_true, false_or, or_false, or_self, not_true_eq_false, not_false_eq_true, eq_self, List.cons_append, List.nil_append]
    refine hQ A 1 (Or.inl ?_)
    rw [ep]
    exact ⟨rfl, rfl, h⟩
end TX
