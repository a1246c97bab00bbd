/-! THE PURE MACHINE IS THE MACHINE, part 3: reads and writes -/
/-- what holds beside the cells: the tables, the script, what nobody writes -/
def sx_Cx (η : Nat → Nat) (vF : Value) (D : va_G) (cI cJ cS : ClassId) (B : Nat → Prop) (G : sx_G) (U : State) : Prop :=
  va_K D vwCl [(cI, .int), (cJ, .long), (cS, .object RX1)] U ∧
  va_T .int (η 60) G.1 (fun j => .int (G.2 j)) B U U.heap ∧
  va_T .int (η 62) 6 (fun j => .int (sx_kab.getD j 0)) B U U.heap ∧
  va_Z RX3 "KIND_ABOVE" "[I" (.ref (η 62)) B U U.heap ∧
  va_Z "java/lang/String" "COMPACT_STRINGS" "Z" (.int 1) B U U.heap ∧
  va_Z "jdk/internal/util/Preconditions" "SIOOBE_FORMATTER" "Ljava/util/function/BiFunction;" vF B U U.heap ∧
  vk_S 11 sx_sn sx_sb (fun i => η (100 + i)) (fun i => η (200 + i)) B U U.heap ∧
  (∀ i, i < 11 → vk_R RX2 (sx_slT.getD i (0, "")).1 (sx_slT.getD i (0, "")).2 (η (100 + i)) U) ∧
  va_Nw (.methodLinkNest RX0 43 yX3_heartAs RX3) U ∧ va_Nw (.methodLinkNest RX0 68 yX3_mixing RX3) U
section SXM
variable {p : Program} {l : Launch} {e : Env} {R : Room} {s : State} {m : MethodId} {args : Array Value} {below : List Frame} {meth : Method} {c : Code} {H : Heap} {locs : List Loc} {cells slots : Nat} {Q : State → Prop}
variable {cc : ByteArray} {pc : Nat} {ls : Array Slot} {η : Nat → Nat} {vF : Value} {D : va_G} {cI cJ cS : ClassId} {B : Nat → Prop} {G : sx_G} {A A' : sx_A} {Z Z' : sx_Z}
theorem sx_Cx_moved {u U : State} (hW : u.WarmedH U.vm) (hk : ∀ a : Nat, a < u.heap.size → ¬ B a → U.heap[a]? = u.heap[a]?) (h : sx_Cx η vF D cI cJ cS B G u) : sx_Cx η vF D cI cJ cS B G U := by
  obtain ⟨h1, h2, h3, h4, h5, h6, h7, h8, h9, h10⟩ := h
  exact ⟨va_K.moved hW.alike h1, (va_T.moved hW.alike h2).kept hk, (va_T.moved hW.alike h3).kept hk, (va_Z.moved hW.alike h4).kept hk, (va_Z.moved hW.alike h5).kept hk, (va_Z.moved hW.alike h6).kept hk, (vk_S.moved hW.alike h7).kept hk, fun i hi => (h8 i hi).warm hW, va_Nw.warmM hW h9, va_Nw.warmM hW h10⟩
theorem sx_Cx_same {u U : State} (hv : U.vm = u.vm) (hh : U.heap = u.heap) (h : sx_Cx η vF D cI cJ cS B G u) : sx_Cx η vF D cI cJ cS B G U := by
  have ha : u.vm.Alike U.vm := by rw [hv]; exact Vm.Alike.refl _
  have hk : ∀ a : Nat, a < u.heap.size → ¬ B a → U.heap[a]? = u.heap[a]? := fun a _ _ => by rw [hh]
  obtain ⟨h1, h2, h3, h4, h5, h6, h7, h8, h9, h10⟩ := h
  exact ⟨va_K.moved ha h1, (va_T.moved ha h2).kept hk, (va_T.moved ha h3).kept hk, (va_Z.moved ha h4).kept hk, (va_Z.moved ha h5).kept hk, (va_Z.moved ha h6).kept hk, (vk_S.moved ha h7).kept hk, fun i hi => (h8 i hi).same hv, va_Nw.same rfl hv.symm h9, va_Nw.same rfl hv.symm h10⟩
theorem sx_if_ok {α : Type} {q : Prop} [Decidable q] {x y : α} (h : sx_if q x = some y) : q ∧ x = y := by
  unfold sx_if at h
  split at h
  · rename_i hq; cases h; exact ⟨hq, rfl⟩
  · cases h
theorem sx_anl {k : Nat} (h : k < 50) : sx_an G k = sx_anL.getD k 0 := by unfold sx_an; rw [if_pos h]
theorem sx_rdl {k j : Nat} (h : k < 50) : sx_rd G A k j = A k j := by unfold sx_rd; rw [if_pos h]
theorem sx_frS {k : Nat} (h : sx_kd k = 20) : ∃ i, i < 11 ∧ k = 100 + i := by
  unfold sx_kd at h
  split at h
  · rename_i hk
    exfalso
    have : ∀ q, q < 50 → sx_kdL.getD q 99 ≠ 20 := by decide
    exact this k hk h
  · repeat' (split at h)
    all_goals first | omega | (exact ⟨k - 100, by omega, by omega⟩)
theorem sx_kd8 {k : Nat} (h : sx_kd k = 8) : k = 60 ∨ k = 62 := by
  unfold sx_kd at h
  split at h
  · rename_i hk
    exfalso
    have : ∀ q, q < 50 → sx_kdL.getD q 99 ≠ 8 := by decide
    exact this k hk h
  · repeat' (split at h)
    all_goals omega
theorem sx_kd9 {k : Nat} (h : sx_kd k = 9) : ∃ i, i < 11 ∧ k = 200 + i := by
  unfold sx_kd at h
  split at h
  · rename_i hk
    exfalso
    have : ∀ q, q < 50 → sx_kdL.getD q 99 ≠ 9 := by decide
    exact this k hk h
  · repeat' (split at h)
    all_goals first | omega | (exact ⟨k - 200, by omega, by omega⟩)
theorem sx_upA {k : Nat} {row : Nat → Int32} : ∀ j, j ≠ k → va_up A k row j = A j := fun j hj => if_neg hj
theorem sx_upZ {k : Nat} {row : Nat → Int64} : ∀ j, j ≠ k → va_up Z k row j = Z j := fun j hj => if_neg hj
theorem sx_sum2 : ∀ l : List Value, (l.map fun v => v.category).sum ≤ 2 * l.length := by
  intro l
  induction l with
  | nil => simp
  | cons a l ih =>
    have ha : a.category ≤ 2 := by rcases lv_cat a with h | h <;> omega
    simp only [List.map_cons, List.sum_cons, List.length_cons]
    omega
theorem sx_lenSum {st : List Value} (h : st.length ≤ 4) : ((st.map (sx_cv η vF)).map fun v => v.category).sum ≤ 8 := by
  have h2 := sx_sum2 (st.map (sx_cv η vF))
  rw [List.length_map] at h2
  omega
set_option maxHeartbeats 4000000 in
theorem sx_mem_ok (hx : p.tables.exec = Jvm.exec) (hb : c.code = cc) (hml : c.maxLocals = ls.size) {y : sx_M} (hown : s.vm.findClass (sx_cls y.2.2.2.2.1) = some m.cls) (hts : ∀ w ∈ lw_good, w.before args s = true) (hcx : sx_Cx η vF D cI cJ cS B G s) (hR : y.2.2.2.2.2.1 ≤ R.frames ∧ y.2.2.2.2.2.2.1 ≤ R.locals) (hcs : cells ≤ R.cells ∧ slots ≤ R.slots)
    (hS : va_S B s.heap H locs) (hP : va_P D vwCl (sx_ws η cI cJ cS A Z) H) (hD : va_D B (sx_ws η cI cJ cS A Z)) {i : Instr} {st st' : List Value} (hd : decode cc pc = .ok (i, sx_ln i)) (h : sx_mem G y A Z i st = some (st', A', Z'))
    (k : ∀ (H1 : Heap) (locs1 : List Loc), va_P D vwCl (sx_ws η cI cJ cS A' Z') H1 → va_D B (sx_ws η cI cJ cS A' Z') → va_S B s.heap H1 locs1 → W p l e R s m args below meth c H1 locs1 cells slots Q (F0 m (pc + sx_ln i) ls (st'.map (sx_cv η vF)))) : W p l e R s m args below meth c H locs cells slots Q (F0 m pc ls (st.map (sx_cv η vF))) := by
  obtain ⟨hK, hT60, hT62, hZ1, hZ2, hZ3, hStr, -⟩ := hcx
  unfold sx_mem at h
  split at h
  · rename_i ix kk st
    cases hf : sx_fl y.2.2.2.2.1 ix with
    | none => rw [hf] at h; cases h
    | some q =>
      obtain ⟨ci, j, t⟩ := q
      rw [hf] at h
      rcases sx_fl_ci hf with hc | rfl
      · obtain ⟨C, T, N, hcl, hjN, hlk, hrf, -, -, ht3⟩ := sx_fl_5 hf hc
        obtain ⟨C', T', N', ty0, hcl', hin, -⟩ := sx_cls5 hc
        cases hcl.symm.trans hcl'
        have fin : sx_kd kk = ci → ∀ v, v = (if (t == 2) = true then Value.ref (η (sx_fr kk j)) else .int (A kk j)) → W p l e R s m args below meth c H locs cells slots Q (F0 m (pc + 3) ls (v :: st.map (sx_cv η vF))) → W p l e R s m args below meth c H locs cells slots Q (F0 m pc ls (.ref (η kk) :: st.map (sx_cv η vF))) := by
          intro hkd v hv kk'
          have hl := sx_kd_lt hkd hc
          have hat := sx_ws_at (η := η) (cI := cI) (cJ := cJ) (cS := cS) (A := A) (Z := Z) hl
          rw [sx_cellO hkd hc] at hat
          exact va_get (C := C) (T := T) (N := N) hx hb hts hin hown hK hP kk hat hcl j hjN (hts _ hlk) (fun _ h9 => h9) (v := v) (by rw [hv]; exact sx_fld hrf) hd kk'
        have h20 : t = 2 ∨ t = 0 ∨ t = 1 := by omega
        rcases h20 with rfl | rfl | rfl
        · obtain ⟨hkd, e1⟩ := sx_if_ok h
          cases e1
          exact fin hkd _ rfl (k H locs hP hD hS)
        · obtain ⟨hkd, e1⟩ := sx_if_ok h
          cases e1
          refine fin hkd _ rfl ?_
          have e2 : sx_rf A kk j = A kk j := if_pos (sx_kd_lt hkd hc)
          have := k H locs hP hD hS
          rw [e2] at this
          exact this
        · obtain ⟨hkd, e1⟩ := sx_if_ok h
          cases e1
          refine fin hkd _ rfl ?_
          have e2 : sx_rf A kk j = A kk j := if_pos (sx_kd_lt hkd hc)
          have := k H locs hP hD hS
          rw [e2] at this
          exact this
      · rcases sx_fl_20 hf with ⟨rfl, rfl, hlk⟩ | ⟨rfl, rfl, hlk⟩
        · obtain ⟨hkd, e1⟩ := sx_if_ok h
          cases e1
          obtain ⟨i0, hi0, rfl⟩ := sx_frS hkd
          have e2 : sx_fr (100 + i0) 0 = 200 + i0 := by unfold sx_fr; rw [if_neg (by omega)]; omega
          have k1 := k H locs hP hD hS
          rw [e2] at k1
          exact vk_getf hx hb ((hStr.1 i0 hi0).2.2.1) hS hown (hts _ hlk) (fun _ h9 => h9) hd k1
        · obtain ⟨hkd, e1⟩ := sx_if_ok h
          cases e1
          obtain ⟨i0, hi0, rfl⟩ := sx_frS hkd
          have e2 : sx_rf A (100 + i0) 1 = 0 := by unfold sx_rf; rw [if_neg (by omega)]
          have k1 := k H locs hP hD hS
          rw [e2] at k1
          exact vk_getf hx hb ((hStr.1 i0 hi0).2.1) hS hown (hts _ hlk) (fun _ h9 => h9) hd k1
  · rename_i ix v kk st
    cases hf : sx_fl y.2.2.2.2.1 ix with
    | none => rw [hf] at h; cases h
    | some q =>
      obtain ⟨ci, j, t⟩ := q
      rw [hf] at h
      have fin : (sx_kd kk = ci ∧ ci < 5) → (t = 0 ∨ (t = 1 ∧ (v = 0 ∨ v = 1))) → (st, va_up A kk (upd (A kk) j v), Z) = (st', A', Z') → W p l e R s m args below meth c H locs cells slots Q (F0 m pc ls (.int v :: .ref (η kk) :: st.map (sx_cv η vF))) := by
        intro hkc htv e1
        obtain ⟨rfl, rfl, rfl⟩ : st = st' ∧ va_up A kk (upd (A kk) j v) = A' ∧ Z = Z' := by cases e1; exact ⟨rfl, rfl, rfl⟩
        obtain ⟨hkd, hc⟩ := hkc
        obtain ⟨C, T, N, hcl, hjN, hlk, hrf, hI, hZt, ht3⟩ := sx_fl_5 hf hc
        obtain ⟨C', T', N', ty0, hcl', hin, hty, hnm, -⟩ := sx_cls5 hc
        cases hcl.symm.trans hcl'
        have hl := sx_kd_lt hkd hc
        have hat := sx_ws_at (η := η) (cI := cI) (cJ := cJ) (cS := cS) (A := A) (Z := Z) hl
        rw [sx_cellO hkd hc] at hat
        have hrf' : (sx_rfL.getD ci [])[j]? = some false := by
          rw [hrf]
          rcases htv with rfl | ⟨rfl, -⟩ <;> rfl
        have hfin : (T j).2.2.2 = false := by
          rcases htv with rfl | ⟨rfl, -⟩
          · exact (hI rfl).2
          · exact (hZt rfl).2
        have hlen : j < ((sx_rfL.getD ci []).zipIdx.map (fun q => if q.1 = true then (.ref (η (sx_fr kk q.2)) : Value) else .int (A kk q.2))).length := by
          have := (List.getElem?_eq_some_iff.mp hrf').1
          simpa using this
        have hset := sx_ws_set (η := η) (cI := cI) (cJ := cJ) (cS := cS) (A := A) (A' := va_up A kk (upd (A kk) j v)) (Z := Z) (Z' := Z) hl sx_upA (fun _ _ => rfl)
        rw [sx_cellO hkd hc, ← sx_fld_set hrf'] at hset
        have go : ∀ ty, parseFieldDescriptor (T j).2.2.1 = some ty → narrow ty (.int v) = .int v → fits ty (.int v) = true → W p l e R s m args below meth c H locs cells slots Q (F0 m pc ls (.int v :: .ref (η kk) :: st.map (sx_cv η vF))) := by
          intro ty h1 h2 h3
          refine va_put (C := C) (T := T) (N := N) hx hb hts hin ty0 hty hnm hown hK hP hD hS kk hat hcl j hjN (hts _ hlk) (fun _ h9 => h9) hfin h1 h2 h3 hlen hd (fun H1 locs1 q1 q2 q3 => ?_)
          rw [hset] at q1 q2
          exact k H1 locs1 q1 q2 q3
        rcases htv with rfl | ⟨rfl, hv⟩
        · exact go .int (by rw [(hI rfl).1]; decide +kernel) rfl rfl
        · refine go .boolean (by rw [(hZt rfl).1]; decide +kernel) ?_ ?_
          · rcases hv with rfl | rfl <;> rfl
          · rcases hv with rfl | rfl <;> rfl
      rcases t with _ | _ | t
      · obtain ⟨hkc, e1⟩ := sx_if_ok h
        exact fin hkc (Or.inl rfl) e1
      · obtain ⟨hkc, e1⟩ := sx_if_ok h
        exact fin hkc.1 (Or.inr ⟨rfl, hkc.2⟩) e1
      · cases h
  · rename_i i kk st
    obtain ⟨⟨hkd, hin⟩, e1⟩ := sx_if_ok h
    cases e1
    have k1 := k H locs hP hD hS
    rcases hkd with hkd | hkd
    · have hl := sx_kd_lt8 (k := kk) (by omega)
      have hat := sx_ws_at (η := η) (cI := cI) (cJ := cJ) (cS := cS) (A := A) (Z := Z) hl
      rw [sx_cell5 hkd] at hat
      rw [sx_anl hl] at hin
      rw [sx_rdl hl] at k1
      exact va_iald hx hb hK hP kk 0 hat rfl hin hd k1
    · rcases sx_kd8 hkd with rfl | rfl
      · exact va_ti hx hb hT60 hS hin rfl hd k1
      · exact va_ti hx hb hT62 hS hin rfl hd k1
  · rename_i i kk st
    obtain ⟨⟨hkd, hin⟩, e1⟩ := sx_if_ok h
    cases e1
    have k1 := k H locs hP hD hS
    obtain ⟨i0, hi0, rfl⟩ := sx_kd9 hkd
    have e2 : sx_an G (200 + i0) = sx_sn.getD i0 0 := by unfold sx_an; rw [if_neg (by omega), if_neg (by omega), if_neg (by omega)]; simp
    have e3 : ∀ j, sx_rd G A (200 + i0) j = (sx_sb.getD i0 []).getD j 0 := by intro j; unfold sx_rd; rw [if_neg (by omega), if_neg (by omega), if_neg (by omega)]; simp
    rw [e2] at hin
    rw [e3] at k1
    exact va_tb hx hb ((hStr.1 i0 hi0).2.2.2) hS hin rfl hd k1
  · rename_i i kk st
    obtain ⟨⟨hkd, hin⟩, e1⟩ := sx_if_ok h
    cases e1
    have k1 := k H locs hP hD hS
    have hl := sx_kd_lt8 (k := kk) (by omega)
    have hat := sx_ws_at (η := η) (cI := cI) (cJ := cJ) (cS := cS) (A := A) (Z := Z) hl
    rw [sx_cell6 hkd] at hat
    rw [sx_anl hl] at hin
    exact va_lald hx hb hK hP kk 1 hat rfl hin hd k1
  · rename_i i kk st
    obtain ⟨⟨hkd, hin⟩, e1⟩ := sx_if_ok h
    cases e1
    have k1 := k H locs hP hD hS
    have hl := sx_kd_lt8 (k := kk) (by omega)
    have hat := sx_ws_at (η := η) (cI := cI) (cJ := cJ) (cS := cS) (A := A) (Z := Z) hl
    rw [sx_cell7 hkd] at hat
    rw [sx_anl hl] at hin
    exact va_aldq hx hb hK hP kk 2 hat rfl hin hd k1
  · rename_i v i kk st
    obtain ⟨⟨hkd, hin⟩, e1⟩ := sx_if_ok h
    cases e1
    have hl := sx_kd_lt8 (k := kk) (by omega)
    have hat := sx_ws_at (η := η) (cI := cI) (cJ := cJ) (cS := cS) (A := A) (Z := Z) hl
    rw [sx_cell5 hkd] at hat
    rw [sx_anl hl] at hin
    have hset := sx_ws_set (η := η) (cI := cI) (cJ := cJ) (cS := cS) (A := A) (A' := va_up A kk (upd (A kk) i.toNatClampNeg v)) (Z := Z) (Z' := Z) hl sx_upA (fun _ _ => rfl)
    rw [sx_cell5 hkd, show va_up A kk (upd (A kk) i.toNatClampNeg v) kk = upd (A kk) i.toNatClampNeg v from if_pos rfl] at hset
    refine va_iast hx hb hK hP hD hS kk 0 hat rfl hin hd (fun H1 locs1 q1 q2 q3 => ?_)
    rw [hset] at q1 q2
    exact k H1 locs1 q1 q2 q3
  · rename_i v i kk st
    obtain ⟨⟨hkd, hin⟩, e1⟩ := sx_if_ok h
    cases e1
    have hl := sx_kd_lt8 (k := kk) (by omega)
    have hat := sx_ws_at (η := η) (cI := cI) (cJ := cJ) (cS := cS) (A := A) (Z := Z) hl
    rw [sx_cell6 hkd] at hat
    rw [sx_anl hl] at hin
    have hset := sx_ws_set (η := η) (cI := cI) (cJ := cJ) (cS := cS) (A := A) (A' := A) (Z := Z) (Z' := va_up Z kk (vp_updL (Z kk) i.toNatClampNeg v)) hl (fun _ _ => rfl) sx_upZ
    rw [sx_cell6 hkd, show va_up Z kk (vp_updL (Z kk) i.toNatClampNeg v) kk = vp_updL (Z kk) i.toNatClampNeg v from if_pos rfl] at hset
    refine va_last hx hb hK hP hD hS kk 1 hat rfl hin hd (fun H1 locs1 q1 q2 q3 => ?_)
    rw [hset] at q1 q2
    exact k H1 locs1 q1 q2 q3
  · rename_i kk st
    obtain ⟨hkd, e1⟩ := sx_if_ok h
    cases e1
    have k1 := k H locs hP hD hS
    rcases hkd with hkd | hkd | hkd | hkd
    · have hl := sx_kd_lt8 (k := kk) (by omega)
      have hat := sx_ws_at (η := η) (cI := cI) (cJ := cJ) (cS := cS) (A := A) (Z := Z) hl
      rw [sx_cell5 hkd] at hat
      rw [sx_anl hl] at k1
      exact va_alen hx hb hK hP kk 0 hat rfl rfl hd k1
    · have hl := sx_kd_lt8 (k := kk) (by omega)
      have hat := sx_ws_at (η := η) (cI := cI) (cJ := cJ) (cS := cS) (A := A) (Z := Z) hl
      rw [sx_cell6 hkd] at hat
      rw [sx_anl hl] at k1
      exact va_alen hx hb hK hP kk 1 hat rfl rfl hd k1
    · rcases sx_kd8 hkd with rfl | rfl
      · exact va_tlen hx hb hT60 hS rfl hd k1
      · exact va_tlen hx hb hT62 hS rfl hd k1
    · obtain ⟨i0, hi0, rfl⟩ := sx_kd9 hkd
      have e2 : sx_an G (200 + i0) = sx_sn.getD i0 0 := by unfold sx_an; rw [if_neg (by omega), if_neg (by omega), if_neg (by omega)]; simp
      rw [e2] at k1
      exact va_tlen hx hb ((hStr.1 i0 hi0).2.2.2) hS rfl hd k1
  · rename_i ix
    cases hg : sx_gs y.2.2.2.2.1 ix with
    | none => rw [hg] at h; cases h
    | some v =>
      rw [hg] at h
      cases h
      have k1 := k H locs hP hD hS
      rcases sx_gs_ok hg with ⟨rfl, hlk⟩ | ⟨rfl, hlk⟩ | ⟨rfl, hlk⟩
      · exact va_gets hx hb hZ1 hS hown (hts _ hlk) (fun _ h9 => h9) hd k1
      · exact va_gets hx hb hZ2 hS hown (hts _ hlk) (fun _ h9 => h9) hd k1
      · exact va_gets hx hb hZ3 hS hown (hts _ hlk) (fun _ h9 => h9) hd k1
  · rename_i ix
    split at h
    · rename_i hdec
      have hq := of_decide_eq_true hdec
      obtain ⟨⟨hcn, hix⟩, hfr, hlc⟩ := hq
      unfold sx_acp at h
      split at h
      · rename_i n dp k1 sp k0 st
        obtain ⟨⟨⟨⟨hk0, hk1⟩, hst⟩, h1, h2, h3, h4, h5⟩, e1⟩ := sx_if_ok h
        cases e1
        have hl0 := sx_kd_lt8 (k := k0) (by omega)
        have hl1 := sx_kd_lt8 (k := k1) (by omega)
        have hat0 := sx_ws_at (η := η) (cI := cI) (cJ := cJ) (cS := cS) (A := A) (Z := Z) hl0
        have hat1 := sx_ws_at (η := η) (cI := cI) (cJ := cJ) (cS := cS) (A := A) (Z := Z) hl1
        rw [sx_cell6 hk0] at hat0
        rw [sx_cell6 hk1] at hat1
        rw [sx_anl hl0] at h4
        rw [sx_anl hl1] at h5
        have hset := sx_ws_set (η := η) (cI := cI) (cJ := cJ) (cS := cS) (A := A) (A' := A) (Z := Z) (Z' := va_up Z k1 (va_cpy (Z k0) (Z k1) sp.toNatClampNeg dp.toNatClampNeg n.toNatClampNeg)) hl1 (fun _ _ => rfl) sx_upZ
        rw [sx_cell6 hk1, show va_up Z k1 (va_cpy (Z k0) (Z k1) sp.toNatClampNeg dp.toNatClampNeg n.toNatClampNeg) k1 = va_cpy (Z k0) (Z k1) sp.toNatClampNeg dp.toNatClampNeg n.toNatClampNeg from if_pos rfl] at hset
        have hsum := sx_lenSum (η := η) (vF := vF) hst
        have hnat : nativeFrameWords "java/lang/System" "arraycopy" 5 + 11 ≤ 18 := by decide
        rw [hcn] at hown
        refine va_copyl hx hb hml hown (hts _ (by rw [hix]; exact sx_at_ok sx_acw.1)) (hts _ (sx_at_ok sx_acw.2.1)) (hts _ (sx_at_ok sx_acw.2.2)) (hts _ (sx_u_in sx_aci _ List.mem_cons_self)) hK hP hD hS k0 k1 1 1 hat0 hat1 rfl rfl rfl h1 h2 h3 h4 h5 (fun _ _ => rfl) (Nat.le_trans hfr hR.1) (by omega) hd (fun H1 locs1 q1 q2 q3 => ?_)
        rw [hset] at q1 q2
        exact k H1 locs1 q1 q2 q3
      · cases h
    · have hmth : ∀ (a b : Int32) (rest : List Value), rest.length ≤ 3 → ((rest.map (sx_cv η vF)).map fun v => v.category).sum ≤ 6 := by
        intro a b rest hr
        have h2 := sx_sum2 (rest.map (sx_cv η vF))
        rw [List.length_map] at h2
        omega
      unfold sx_mth at h
      split at h
      · rename_i hmm
        split at h
        · rename_i b a st
          split at h
          · rename_i hdec2
            obtain ⟨⟨hfr, hlc⟩, hst⟩ := of_decide_eq_true hdec2
            cases h
            have hsum := hmth a b _ hst
            exact va_mmin hx hb hml hown (hts _ (sx_mm_ok hmm)) (hts _ (sx_at_ok sx_mmw.1)) (hts _ (sx_u_in sx_mmi _ List.mem_cons_self)) (hts _ sx_mmc.1) (Nat.le_trans hfr hR.1) (by omega) hcs.1 hcs.2 hd (k H locs hP hD hS)
          · cases h
        · cases h
      · rename_i hmm
        split at h
        · rename_i a st
          split at h
          · rename_i hdec2
            obtain ⟨⟨hfr, hlc⟩, hst⟩ := of_decide_eq_true hdec2
            cases h
            have hsum := hmth a a _ hst
            exact va_mabs hx hb hml hown (hts _ (sx_mm_ok hmm)) (hts _ (sx_at_ok sx_mmw.2)) (hts _ (sx_u_in sx_mmi _ List.mem_cons_self)) (hts _ sx_mmc.2) (Nat.le_trans hfr hR.1) (by omega) hcs.1 hcs.2 hd (k H locs hP hD hS)
          · cases h
        · cases h
      · cases h
  · cases h
end SXM
