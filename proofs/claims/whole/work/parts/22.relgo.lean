/-! MINUTES KEEP THE TWO STATES SIDE BY SIDE -/
abbrev rB (c n : Nat) (A : sx_A) (b : Nat) (s : Nat → Int32) : Prop := r_B c n (A b) (A (b + 1)) (A (b + 2)) (A (b + 3)) (A (b + 4)) (A (b + 5)) s
theorem sp_mG_lt (K Gl So pl : Nat → Int32) : ∀ (n p : Nat), p < n → sp_mG K Gl So pl n p = if pl p = -1 then Gl p else Gl p - sp_mix (K p) (Gl p) (So p)
  | n + 1, p, h => by
    unfold sp_mG
    by_cases hp : p = n
    · subst hp
      by_cases hc : pl p = -1
      · rw [if_pos hc, if_pos hc]; exact sp_mG_ge K Gl So pl p p (Nat.le_refl _)
      · rw [if_neg hc, if_neg hc, ud_s]
    · by_cases hc : pl n = -1
      · rw [if_pos hc]; exact sp_mG_lt K Gl So pl n p (by omega)
      · rw [if_neg hc, ud_n hp]; exact sp_mG_lt K Gl So pl n p (by omega)
theorem sp_mS_lt (K Gl So pl : Nat → Int32) : ∀ (n p : Nat), p < n → sp_mS K Gl So pl n p = if pl p = -1 then So p else So p + sp_mix (K p) (Gl p) (So p)
  | n + 1, p, h => by
    unfold sp_mS
    by_cases hp : p = n
    · subst hp
      by_cases hc : pl p = -1
      · rw [if_pos hc, if_pos hc]; exact sp_mS_ge K Gl So pl p p (Nat.le_refl _)
      · rw [if_neg hc, if_neg hc, ud_s]
    · by_cases hc : pl n = -1
      · rw [if_pos hc]; exact sp_mS_lt K Gl So pl n p (by omega)
      · rw [if_neg hc, ud_n hp]; exact sp_mS_lt K Gl So pl n p (by omega)
theorem mm_mx_l1 (s : Nat → Int32) : ∀ (n p : Nat), p < n → mm_mx s n (5 + 4 * p + 1) = if s (5 + 4 * p + 3) = -1 then s (5 + 4 * p + 1) else s (5 + 4 * p + 1) + sm_gl (s (5 + 4 * p)) (s (5 + 4 * p + 1)) (s (5 + 4 * p + 2))
  | n + 1, p, h => by
    unfold mm_mx
    by_cases hp : p = n
    · subst hp
      by_cases hc : s (5 + 4 * p + 3) = -1
      · rw [if_pos hc, if_pos hc]; exact mm_mx_ge s p _ (by omega)
      · rw [if_neg hc, if_neg hc, ud_n (by omega), ud_s]
    · by_cases hc : s (5 + 4 * n + 3) = -1
      · rw [if_pos hc]; exact mm_mx_l1 s n p (by omega)
      · rw [if_neg hc, ud_n (by omega), ud_n (by omega)]; exact mm_mx_l1 s n p (by omega)
theorem mm_mx_l2 (s : Nat → Int32) : ∀ (n p : Nat), p < n → mm_mx s n (5 + 4 * p + 2) = if s (5 + 4 * p + 3) = -1 then s (5 + 4 * p + 2) else s (5 + 4 * p + 2) - sm_gl (s (5 + 4 * p)) (s (5 + 4 * p + 1)) (s (5 + 4 * p + 2))
  | n + 1, p, h => by
    unfold mm_mx
    by_cases hp : p = n
    · subst hp
      by_cases hc : s (5 + 4 * p + 3) = -1
      · rw [if_pos hc, if_pos hc]; exact mm_mx_ge s p _ (by omega)
      · rw [if_neg hc, if_neg hc, ud_s]
    · by_cases hc : s (5 + 4 * n + 3) = -1
      · rw [if_pos hc]; exact mm_mx_l2 s n p (by omega)
      · rw [if_neg hc, ud_n (by omega), ud_n (by omega)]; exact mm_mx_l2 s n p (by omega)
section RG
variable {c n b : Nat} {A : sx_A} {s : Nat → Int32}
theorem rB.mix (h : rB c n A b s) (p : Nat) (hp : p < n) : r_P (A (b + 1) p) (sp_mG (A (b + 1)) (A (b + 2)) (A (b + 3)) (A (b + 4)) n p) (sp_mS (A (b + 1)) (A (b + 2)) (A (b + 3)) (A (b + 4)) n p) (A (b + 4) p) ∧ A (b + 1) p = mm_mx s n (5 + 4 * p) ∧ sp_mG (A (b + 1)) (A (b + 2)) (A (b + 3)) (A (b + 4)) n p = mm_mx s n (5 + 4 * p + 1) ∧ sp_mS (A (b + 1)) (A (b + 2)) (A (b + 3)) (A (b + 4)) n p = mm_mx s n (5 + 4 * p + 2) ∧ A (b + 4) p = mm_mx s n (5 + 4 * p + 3) := by
  obtain ⟨⟨hk, ⟨g, hg, eg⟩, ⟨r, hr, er⟩, hpl⟩, e0, e1, e2, e3⟩ := h.2.2.2 p hp
  rw [sp_mG_lt _ _ _ _ n p hp, sp_mS_lt _ _ _ _ n p hp, mm_mx_l1 s n p hp, mm_mx_l2 s n p hp, mm_mx_k s p 3 (Or.inr rfl) n, show mm_mx s n (5 + 4 * p) = s (5 + 4 * p) from mm_mx_k s p 0 (Or.inl rfl) n, ← e0, ← e1, ← e2, ← e3]
  by_cases hc : A (b + 4) p = -1
  · rw [if_pos hc, if_pos hc, if_pos hc, if_pos hc]
    exact ⟨⟨hk, ⟨g, hg, eg⟩, ⟨r, hr, er⟩, hpl⟩, rfl, rfl, rfl, rfl⟩
  · rw [if_neg hc, if_neg hc, if_neg hc, if_neg hc]
    rw [eg, er]
    obtain ⟨a', b', ha', hb', q1, q2⟩ := sp_mix_n (k := A (b + 1) p) hg hr
    refine ⟨⟨hk, ⟨a', ha', q1⟩, ⟨b', hb', q2⟩, hpl⟩, rfl, ?_, ?_, rfl⟩
    · rw [sm_gl_eq hg hr, Int32.sub_eq_add_neg]
    · rw [sm_gl_eq hg hr, Int32.sub_neg]
theorem rB.min (h : rB c n A b s) : rB c n (bm_min A b n) b (mm_min s n) := by
  have hh := h.hangs
  have key : ∀ (M : sx_A) (t : Nat → Int32), (M (b + 1) = A (b + 1) ∧ M (b + 4) = A (b + 4) ∧ M (b + 5) = A (b + 5)) → (∀ q, q < 5 → t q = s q) → (∀ p, p < n → r_P (A (b + 1) p) (M (b + 2) p) (M (b + 3) p) (A (b + 4) p) ∧ A (b + 1) p = t (5 + 4 * p) ∧ M (b + 2) p = t (5 + 4 * p + 1) ∧ M (b + 3) p = t (5 + 4 * p + 2) ∧ A (b + 4) p = t (5 + 4 * p + 3)) → rB c n (va_up M b (upd (A b) 6 (A b 6 + 1))) b (upd t 1 (s 1 + 1)) := by
    intro M t ⟨m1, m4, m5⟩ ht hp
    obtain ⟨⟨h1, h2, h3⟩, ⟨h4, h5, h6⟩, ⟨h7, h8, h9, h10⟩, -⟩ := h
    unfold rB
    rw [up_s, up_n (by omega), up_n (by omega), up_n (by omega), up_n (by omega), up_n (by omega), m1, m4, m5]
    refine ⟨⟨h1, by rw [ud_n (by decide)]; exact h2, by rw [ud_n (by decide), ht 0 (by omega)]; exact h3⟩, ⟨by rw [ud_s, ud_s, h4], by rw [ud_n (by decide), ud_n (by decide), ht 2 (by omega)]; exact h5, by rw [ud_n (by decide)]; exact h6⟩, ⟨by rw [ud_n (by decide), ht 3 (by omega)]; exact h7, by rw [ud_n (by decide), ht 4 (by omega)]; exact h8, h9, h10⟩, fun p hpn => ?_⟩
    rw [ud_n (by omega), ud_n (by omega), ud_n (by omega), ud_n (by omega)]
    exact hp p hpn
  unfold bm_min mm_min
  by_cases hc : sp_hangs (A (b + 4)) n
  · rw [if_pos hc, if_pos (hh.mp hc)]
    refine key (bm_mx A b n) (mm_mx s n) ⟨?_, ?_, ?_⟩ (fun q hq => mm_mx_lt s n q hq) (fun p hp => ?_)
    · unfold bm_mx; rw [up_n (by omega), up_n (by omega)]
    · unfold bm_mx; rw [up_n (by omega), up_n (by omega)]
    · unfold bm_mx; rw [up_n (by omega), up_n (by omega)]
    · have e2 : bm_mx A b n (b + 2) = sp_mG (A (b + 1)) (A (b + 2)) (A (b + 3)) (A (b + 4)) n := by unfold bm_mx; rw [up_n (by omega), up_s]
      have e3 : bm_mx A b n (b + 3) = sp_mS (A (b + 1)) (A (b + 2)) (A (b + 3)) (A (b + 4)) n := by unfold bm_mx; rw [up_s]
      rw [e2, e3]
      exact h.mix p hp
  · rw [if_neg hc, if_neg (fun z => hc (hh.mpr z))]
    exact key A s ⟨rfl, rfl, rfl⟩ (fun _ _ => rfl) (fun p hp => h.2.2.2 p hp)
theorem rB.go (h : rB c n A b s) : ∀ i, rB c n (bm_go A b n i) b (mm_go s n i)
  | 0 => h
  | i + 1 => by
    unfold bm_go mm_go
    exact (rB.go h i).min
/-- beyond a beam's six cells nothing changes -/
def off (b : Nat) (A A' : sx_A) : Prop := ∀ k, (k < b ∨ b + 5 < k) → A' k = A k
theorem off.rf : off b A A := fun _ _ => rfl
theorem off.tr {A1 A2 : sx_A} (h : off b A A1) (h2 : off b A1 A2) : off b A A2 := fun k hk => (h2 k hk).trans (h k hk)
theorem off_go : ∀ i, off b A (bm_go A b n i)
  | 0 => off.rf
  | i + 1 => fun k hk => by
    unfold bm_go
    rw [bm_min_o _ b n k (by omega) (by omega) (by omega)]
    exact off_go i k hk
theorem off_up {row : Nat → Int32} {j : Nat} (hj : j ≤ 5) : off b A (va_up A (b + j) row) := fun k hk => up_n (by omega)
theorem off_bec {o p : Nat} : off b A (bm_bec A b o p) := fun k hk => by
  unfold bm_bec
  rw [up_n (by omega), up_n (by omega), up_n (by omega), up_n (by omega), up_n (by omega), up_n (by omega)]
/-- a beam that became another says the same -/
theorem rB.bec {o : Nat} (ho : sx_bo b o) (h : rB c n A o s) : rB c n (bm_bec A b o n) b s := by
  obtain ⟨⟨h1, h2, h3⟩, ⟨h4, h5, h6⟩, ⟨h7, h8, h9, h10⟩, h11⟩ := h
  have e0 : bm_bec A b o n b = upd (upd (upd (A b) 5 (A o 5)) 6 (A o 6)) 7 (A o 7) := by unfold bm_bec; rw [up_n (by omega), up_n (by omega), up_n (by omega), up_n (by omega), up_n (by omega), up_s]
  have e5 : bm_bec A b o n (b + 5) = upd (upd (A (b + 5)) 0 (A (o + 5) 0)) 1 (A (o + 5) 1) := by unfold bm_bec; rw [up_n (by omega), up_n (by omega), up_n (by omega), up_n (by omega), up_s]
  have e1 : bm_bec A b o n (b + 1) = sp_cp (A (o + 1)) (A (b + 1)) n := by unfold bm_bec; rw [up_n (by omega), up_n (by omega), up_n (by omega), up_s]
  have e2 : bm_bec A b o n (b + 2) = sp_cp (A (o + 2)) (A (b + 2)) n := by unfold bm_bec; rw [up_n (by omega), up_n (by omega), up_s]
  have e3 : bm_bec A b o n (b + 3) = sp_cp (A (o + 3)) (A (b + 3)) n := by unfold bm_bec; rw [up_n (by omega), up_s]
  have e4 : bm_bec A b o n (b + 4) = sp_cp (A (o + 4)) (A (b + 4)) n := by unfold bm_bec; rw [up_s]
  unfold rB
  rw [e0, e1, e2, e3, e4, e5]
  refine ⟨⟨h1, by rw [ud_n (by decide), ud_n (by decide), ud_s]; exact h2, h3⟩, ⟨by rw [ud_n (by decide), ud_s]; exact h4, by rw [ud_s]; exact h5, by rw [ud_s]; exact h6⟩, ⟨by rw [ud_n (by decide), ud_s]; exact h7, by rw [ud_s]; exact h8, by rw [ud_n (by decide), ud_s]; exact h9, by rw [ud_s]; exact h10⟩, fun p hp => ?_⟩
  rw [sp_cp_lt _ _ n p hp, sp_cp_lt _ _ n p hp, sp_cp_lt _ _ n p hp, sp_cp_lt _ _ n p hp]
  exact h11 p hp
end RG
/-- what the relation doesn't look at may change -/
theorem Rel.congr {c : Nat} {A A' : sx_A} {Z Z' : sx_Z} (h : Rel c A Z) (hA : ∀ k, (k ≤ 12 ∨ (28 ≤ k ∧ k ≤ 38) ∨ (40 ≤ k ∧ k ≤ 41) ∨ (44 ≤ k ∧ k ≤ 47)) → A' k = A k) (h27 : A' 27 1 = A 27 1) (h5 : A' 39 5 = A 39 5) (h7 : A' 39 7 = A 39 7) (hZ : ∀ k, k ≤ 48 → Z' k = Z k) : Rel c A' Z' := by
  unfold Rel at h ⊢
  rw [hA 0 (by omega), hA 1 (by omega), hA 2 (by omega), hA 3 (by omega), hA 4 (by omega), hA 5 (by omega), hA 6 (by omega), hA 7 (by omega), hA 8 (by omega), hA 9 (by omega), hA 10 (by omega), hA 11 (by omega), hA 12 (by omega), hA 28 (by omega), hA 30 (by omega), hA 32 (by omega), hA 34 (by omega), hA 36 (by omega), hA 38 (by omega), hA 40 (by omega), hA 41 (by omega), hA 44 (by omega), hA 45 (by omega), hA 46 (by omega), hA 47 (by omega), h27, h5, h7, hZ 31 (by omega), hZ 33 (by omega), hZ 35 (by omega), hZ 37 (by omega), hZ 48 (by omega)]
  exact h
