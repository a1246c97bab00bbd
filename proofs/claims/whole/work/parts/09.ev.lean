/-! what a run comes to, as a predicate, and the rules that rewrite it -/
def sx_ev (G : sx_G) (y : sx_M) (pc : Nat) (L : sx_L) (st : List Value) (A : sx_A) (Z : sx_Z) (Q : List Value → sx_A → sx_Z → Prop) : Prop := ∃ (n : Nat) (r : List Value) (A' : sx_A) (Z' : sx_Z), sx_run G n y pc L st A Z = some (r, A', Z') ∧ Q r A' Z'
def sx_call (G : sx_G) (y : sx_M) (as : List Value) (A : sx_A) (Z : sx_Z) (Q : List Value → sx_A → sx_Z → Prop) : Prop := sx_eok y as = true ∧ sx_ev G y 0 (sx_ent y as) [] A Z Q
section SXE
variable {G : sx_G} {y : sx_M} {pc : Nat} {L : sx_L} {st : List Value} {A : sx_A} {Z : sx_Z} {Q : List Value → sx_A → sx_Z → Prop}
theorem sx_step_mono {f g : sx_M → Nat → sx_L → List Value → sx_A → sx_Z → Option (List Value × sx_A × sx_Z)} (h : ∀ y pc L st A Z R, f y pc L st A Z = some R → g y pc L st A Z = some R) {i : Instr} {R : List Value × sx_A × sx_Z} (hf : sx_step G f y pc i L st A Z = some R) : sx_step G g y pc i L st A Z = some R := by
  unfold sx_step at hf ⊢
  cases h1 : sx_stk y.2.2.2.2.1 i st with
  | some st' => simp only [h1] at hf ⊢; exact h _ _ _ _ _ _ _ hf
  | none =>
    simp only [h1] at hf ⊢
    cases h2 : sx_loc y.2.2.2.2.2.2.2 y.2.2.1 L i st with
    | some q => obtain ⟨L', st'⟩ := q; simp only [h2] at hf ⊢; exact h _ _ _ _ _ _ _ hf
    | none =>
      simp only [h2] at hf ⊢
      cases h3 : sx_br pc i st with
      | some q => obtain ⟨pc', st'⟩ := q; simp only [h3] at hf ⊢; exact h _ _ _ _ _ _ _ hf
      | none =>
        simp only [h3] at hf ⊢
        cases h4 : sx_mem G y A Z i st with
        | some q => obtain ⟨st', A', Z'⟩ := q; simp only [h4] at hf ⊢; exact h _ _ _ _ _ _ _ hf
        | none =>
          simp only [h4] at hf ⊢
          cases h5 : sx_inv y i st with
          | none => simp only [h5] at hf ⊢; exact hf
          | some q =>
            obtain ⟨y', as, rs⟩ := q
            simp only [h5] at hf ⊢
            cases h6 : (sx_eok y' as && sx_rok i as y') with
            | false => simp only [h6] at hf; exact absurd hf (by simp)
            | true =>
              simp only [h6] at hf ⊢
              cases h7 : f y' 0 (sx_ent y' as) [] A Z with
              | none => simp only [h7] at hf; exact absurd hf (by simp)
              | some q => obtain ⟨r, A', Z'⟩ := q; simp only [h7] at hf; simp only [h _ _ _ _ _ _ _ h7]; exact h _ _ _ _ _ _ _ hf
theorem sx_one_mono {f g : sx_M → Nat → sx_L → List Value → sx_A → sx_Z → Option (List Value × sx_A × sx_Z)} (h : ∀ y pc L st A Z R, f y pc L st A Z = some R → g y pc L st A Z = some R) {i : Instr} {len : Nat} {R : List Value × sx_A × sx_Z} (hf : sx_one G f y pc i len L st A Z = some R) : sx_one G g y pc i len L st A Z = some R := by
  unfold sx_one at hf ⊢
  split at hf
  · rename_i d lo hi offs x st'
    cases ht : sx_tab pc d lo hi offs x with
    | none => simp only [ht] at hf; exact absurd hf (by simp)
    | some t => simp only [ht] at hf ⊢; exact h _ _ _ _ _ _ _ hf
  · rename_i hne
    by_cases hl : len = sx_ln i
    · rw [if_pos hl] at hf ⊢; exact sx_step_mono h hf
    · rw [if_neg hl] at hf; exact absurd hf (by simp)
theorem sx_run_mono : ∀ (n : Nat) (y : sx_M) (pc : Nat) (L : sx_L) (st : List Value) (A : sx_A) (Z : sx_Z) (R : List Value × sx_A × sx_Z), sx_run G n y pc L st A Z = some R → sx_run G (n + 1) y pc L st A Z = some R
  | 0, y, pc, L, st, A, Z, R, h => by simp [sx_run] at h
  | n + 1, y, pc, L, st, A, Z, R, h => by
    rw [sx_run] at h ⊢
    cases hd : decode y.2.1 pc with
    | error e => simp only [hd] at h; exact absurd h (by simp)
    | ok q =>
      obtain ⟨i, len⟩ := q
      simp only [hd] at h ⊢
      exact sx_one_mono (fun y pc L st A Z R => sx_run_mono n y pc L st A Z R) h
theorem sx_run_le {n k : Nat} (hnk : n ≤ k) {R : List Value × sx_A × sx_Z} (h : sx_run G n y pc L st A Z = some R) : sx_run G k y pc L st A Z = some R := by
  induction hnk with
  | refl => exact h
  | step _ ih => exact sx_run_mono _ _ _ _ _ _ _ _ ih
theorem sx_det {n k : Nat} {R S : List Value × sx_A × sx_Z} (h : sx_run G n y pc L st A Z = some R) (h2 : sx_run G k y pc L st A Z = some S) : R = S := by
  have a := sx_run_le (Nat.le_max_left n k) h
  have b := sx_run_le (Nat.le_max_right n k) h2
  exact Option.some.inj (a.symm.trans b)
theorem sx_ev_one {i : Instr} {len : Nat} (hd : decode y.2.1 pc = .ok (i, len)) : sx_ev G y pc L st A Z Q ↔ ∃ (n : Nat) (r : List Value) (A' : sx_A) (Z' : sx_Z), sx_one G (sx_run G n) y pc i len L st A Z = some (r, A', Z') ∧ Q r A' Z' := by
  have e : ∀ n, sx_run G (n + 1) y pc L st A Z = sx_one G (sx_run G n) y pc i len L st A Z := fun n => by rw [sx_run]; simp only [hd]
  constructor
  · rintro ⟨n, r, A', Z', h, hq⟩
    cases n with
    | zero => simp [sx_run] at h
    | succ n => exact ⟨n, r, A', Z', by rw [← e]; exact h, hq⟩
  · rintro ⟨n, r, A', Z', h, hq⟩
    exact ⟨n + 1, r, A', Z', by rw [e]; exact h, hq⟩
/-- an instruction that goes on in one way -/
theorem sx_e_go {i : Instr} {len : Nat} (hd : decode y.2.1 pc = .ok (i, len)) {pc' : Nat} {L' : sx_L} {st' : List Value} {A' : sx_A} {Z' : sx_Z} (h : ∀ rec, sx_one G rec y pc i len L st A Z = rec y pc' L' st' A' Z') : sx_ev G y pc L st A Z Q ↔ sx_ev G y pc' L' st' A' Z' Q := by
  rw [sx_ev_one hd]
  simp only [h]
  rfl
/-- a branch -/
theorem sx_e_br {i : Instr} {len : Nat} (hd : decode y.2.1 pc = .ok (i, len)) {c : Prop} [Decidable c] {t f : Nat} {st' : List Value} (h : ∀ rec, sx_one G rec y pc i len L st A Z = rec y (cond (decide c) t f) L st' A Z) : sx_ev G y pc L st A Z Q ↔ if c then sx_ev G y t L st' A Z Q else sx_ev G y f L st' A Z Q := by
  rw [sx_e_go hd h]
  by_cases hc : c
  · rw [if_pos hc, decide_eq_true hc]; rfl
  · rw [if_neg hc, decide_eq_false hc]; rfl
/-- an instruction that wants something -/
theorem sx_e_mem {i : Instr} {len : Nat} (hd : decode y.2.1 pc = .ok (i, len)) (h0 : ∀ rec, sx_one G rec y pc i len L st A Z = sx_step G rec y pc i L st A Z) {c : Prop} [Decidable c] {st' : List Value} {A' : sx_A} {Z' : sx_Z} (h1 : sx_stk y.2.2.2.2.1 i st = none) (h2 : sx_loc y.2.2.2.2.2.2.2 y.2.2.1 L i st = none) (h3 : sx_br pc i st = none) (h4 : sx_mem G y A Z i st = sx_if c (st', A', Z')) (h5 : sx_inv y i st = none) (h6 : sx_ret y i st = none) : sx_ev G y pc L st A Z Q ↔ c ∧ sx_ev G y (pc + sx_ln i) L st' A' Z' Q := by
  rw [sx_ev_one hd]
  simp only [h0]
  by_cases hc : c
  · simp only [sx_step, h1, h2, h3, h4, sx_if, hc, if_true, true_and]
    rfl
  · simp only [sx_step, h1, h2, h3, h4, h5, h6, sx_if, hc, if_false, false_and]
    simp
theorem sx_e_ret {i : Instr} {len : Nat} (hd : decode y.2.1 pc = .ok (i, len)) {r : List Value} (h : ∀ rec, sx_one G rec y pc i len L st A Z = some (r, A, Z)) : sx_ev G y pc L st A Z Q ↔ Q r A Z := by
  rw [sx_ev_one hd]
  simp only [h]
  constructor
  · rintro ⟨n, r', A', Z', e, hq⟩
    cases e
    exact hq
  · intro hq
    exact ⟨0, r, A, Z, rfl, hq⟩
theorem sx_e_zret {len : Nat} {v : Int32} (hd : decode y.2.1 pc = .ok (.ireturn, len)) (hl : len = 1) (hr : y.2.2.2.1 = some .boolean) : sx_ev G y pc L [.int v] A Z Q ↔ ((v = 0 ∨ v = 1) ∧ Q [.int v] A Z) := by
  subst hl
  have hn : narrow .boolean (.int v) = .int v ↔ (v = 0 ∨ v = 1) := by
    constructor
    · intro h
      simp only [narrow] at h
      injection h with h
      have h2 : v &&& 1 = v := h
      have h3 := pk_and v (m := 1) 1 (by decide)
      rw [h2] at h3
      rcases Nat.mod_two_eq_zero_or_one v.toBitVec.toNat with h4 | h4
      · left; rw [h3]; show nI (v.toBitVec.toNat % 2) = 0; rw [h4]; rfl
      · right; rw [h3]; show nI (v.toBitVec.toNat % 2) = 1; rw [h4]; rfl
    · rintro (h | h) <;> subst h <;> rfl
  rw [sx_ev_one hd]
  have e : ∀ rec, sx_one G rec y pc .ireturn 1 L [.int v] A Z = if (v = 0 ∨ v = 1) then some ([.int v], A, Z) else none := by
    intro rec
    have e1 : sx_ret y .ireturn [.int v] = if (v = 0 ∨ v = 1) then some [.int v] else none := by
      simp only [sx_ret, hr, sx_if, hn]
    show (match sx_ret y .ireturn [.int v] with | some r => some (r, A, Z) | none => none) = _
    rw [e1]
    by_cases h : (v = 0 ∨ v = 1)
    · rw [if_pos h, if_pos h]
    · rw [if_neg h, if_neg h]
  simp only [e]
  by_cases h : (v = 0 ∨ v = 1)
  · simp only [h, if_true, true_and]
    constructor
    · rintro ⟨n, r', A', Z', e, hq⟩
      cases e
      exact hq
    · intro hq
      exact ⟨0, _, A, Z, rfl, hq⟩
  · simp only [h, if_false, false_and]
    simp
theorem sx_e_call {i : Instr} {len : Nat} (hd : decode y.2.1 pc = .ok (i, len)) (h0 : ∀ rec, sx_one G rec y pc i len L st A Z = sx_step G rec y pc i L st A Z) {y' : sx_M} {as rs : List Value} (h1 : sx_stk y.2.2.2.2.1 i st = none) (h2 : sx_loc y.2.2.2.2.2.2.2 y.2.2.1 L i st = none) (h3 : sx_br pc i st = none) (h4 : sx_mem G y A Z i st = none) (h5 : sx_inv y i st = some (y', as, rs)) : sx_ev G y pc L st A Z Q ↔ (sx_rok i as y' = true ∧ sx_call G y' as A Z (fun r A' Z' => sx_ev G y (pc + sx_ln i) L (r ++ rs) A' Z' Q)) := by
  rw [sx_ev_one hd]
  simp only [h0, sx_step, h1, h2, h3, h4, h5]
  unfold sx_call
  cases h6 : sx_eok y' as with
  | false => simp
  | true =>
    cases h8 : sx_rok i as y' with
    | false => simp
    | true =>
      simp only [true_and, Bool.and_self]
      constructor
      · rintro ⟨n, r, A', Z', h, hq⟩
        cases h7 : sx_run G n y' 0 (sx_ent y' as) [] A Z with
        | none => rw [h7] at h; simp at h
        | some q =>
          obtain ⟨r1, A1, Z1⟩ := q
          rw [h7] at h
          exact ⟨n, r1, A1, Z1, h7, n, r, A', Z', h, hq⟩
      · rintro ⟨n, r1, A1, Z1, h7, k, r, A', Z', h, hq⟩
        refine ⟨max n k, r, A', Z', ?_, hq⟩
        rw [sx_run_le (Nat.le_max_left n k) h7]
        exact sx_run_le (Nat.le_max_right n k) h
theorem sx_e_tab {d lo hi : Int} {offs : Array Int} {len : Nat} {x : Int32} (hd : decode y.2.1 pc = .ok (.tableswitch d lo hi offs, len)) : sx_ev G y pc L (.int x :: st) A Z Q ↔ ∃ t, sx_tab pc d lo hi offs x = some t ∧ sx_ev G y t L st A Z Q := by
  rw [sx_ev_one hd]
  simp only [sx_one]
  cases h : sx_tab pc d lo hi offs x with
  | none => simp
  | some t =>
    constructor
    · rintro ⟨n, r, A', Z', h1, hq⟩
      exact ⟨t, rfl, n, r, A', Z', h1, hq⟩
    · rintro ⟨t', e, n, r, A', Z', h1, hq⟩
      cases e
      exact ⟨n, r, A', Z', h1, hq⟩
theorem sx_tab1 {o : Option Nat} {P : Nat → Prop} {t : Nat} (h : o = some t) : (∃ t', o = some t' ∧ P t') ↔ P t := by
  subst h
  simp
theorem sx_tabO {d lo hi : Int} {offs : Array Int} {x : Int32} {t : Nat} (h : x.toInt < lo ∨ hi < x.toInt) (ht : sx_tg pc d = some t) : sx_tab pc d lo hi offs x = some t := by
  unfold sx_tab
  rw [if_pos h]
  exact ht
theorem sx_neI {x k : Int32} {n : Int} (h : ¬ x = k) (hk : k.toInt = n) : x.toInt ≠ n := fun e => h (Int32.toInt_inj.mp (by rw [hk]; exact e))
/-- a call whose outcome is known -/
theorem sx_call_eq {as r : List Value} {A' : sx_A} {Z' : sx_Z} (h : sx_call G y as A Z (fun r1 A1 Z1 => r1 = r ∧ A1 = A' ∧ Z1 = Z')) : sx_call G y as A Z Q ↔ Q r A' Z' := by
  obtain ⟨h0, n, r1, A1, Z1, h1, rfl, rfl, rfl⟩ := h
  constructor
  · rintro ⟨-, k, r2, A2, Z2, h2, hq⟩
    have e := sx_det h1 h2
    cases e
    exact hq
  · intro hq
    exact ⟨h0, n, r1, A1, Z1, h1, hq⟩
theorem sx_call_mono {as : List Value} {Q' : List Value → sx_A → sx_Z → Prop} (h : sx_call G y as A Z Q) (hm : ∀ r A' Z', Q r A' Z' → Q' r A' Z') : sx_call G y as A Z Q' := by
  obtain ⟨h0, n, r1, A1, Z1, h1, hq⟩ := h
  exact ⟨h0, n, r1, A1, Z1, h1, hm _ _ _ hq⟩
theorem sx_ev_mono {Q' : List Value → sx_A → sx_Z → Prop} (h : sx_ev G y pc L st A Z Q) (hm : ∀ r A' Z', Q r A' Z' → Q' r A' Z') : sx_ev G y pc L st A Z Q' := by
  obtain ⟨n, r1, A1, Z1, h1, hq⟩ := h
  exact ⟨n, r1, A1, Z1, h1, hm _ _ _ hq⟩
end SXE
