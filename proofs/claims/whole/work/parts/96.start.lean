/-! THE CLAIM OUT OF ONE WALK OF THE LAW'S BODY. Your part is whole_start (and what it stands on); all else here is the same for every law, but numbers. -/
def R_law : String := "SeeSawHeartsLaw"
def lw_P (b : Addr) (xs : List Int32) (args : Array Value) (s : State) : Prop := args = #[.ref b] ∧ s.IntsAt b xs ∧ xs.length ≤ 3072 ∧ (Jvm.Cond.and given_1 narrow_1).before args s = true
def lw_Q (_ : Array Value) (s : State) (o : Outcome) (t : State) : Prop := o = .returned (some (.int 1)) ∧ Framed s o t [] 600000 7302250
def lw_Z (below : List Frame) (a : Array Value) (s : State) : State → Prop := fun t => ∃ o, t.status = .running ∧ Ended t below o ∧ lw_Q a s o t
/-- the law's own end, with 1 on the stack, nothing written that was there before, its room as the claim has it -/
theorem lw_ret {p : Program} {l : Launch} {e : Env} {s : State} {m : MethodId} {below : List Frame} {meth : Method} {c : Code} {b : Nat} (hx : p.tables.exec = Jvm.exec) (hb : c.code = code) (hr : meth.sig.returnType = ret) (hlocks : meth.locks = false) {pc : Nat} {H : Heap} {ls : Array Slot} (hdg : decode code pc = .ok (.ireturn, 1)) : W p l e room_1 s m #[Value.ref b] below meth c H [] 600000 7302250 (lw_Z below #[Value.ref b] s) (F0 m pc ls [.int 1]) := by
  intro T hT X
  obtain ⟨fs, hret, hrun, hended, hW, hframe⟩ := X.leave (v := some (.int 1)) (hlocks := hlocks) (fun h => by rw [hr] at h; cases h)
  have hmeth' : T.vm.method? m = some meth := X.method'
  refine ⟨T.setFrames fs, ?_, .returned (some (.int 1)), hrun, hended, rfl, ⟨_, rfl⟩, hW, hframe⟩
  jvm_step X.here [X.here.top, hx, hb, hdg, hmeth', hr, ret, narrow_b1]
  (try refine ⟨rfl, ?_⟩); (try refine ⟨rfl, ?_⟩)
  first | (intro acts; rw [hret _ acts rfl rfl rfl]) | rw [hret _ _ rfl rfl rfl]
  exact Steps.refl _
/-- what holds at the law's entry: the machine, the code, the tables' words (any of lw_tbl by 'hts w (by decide +kernel)'), the script of L ints xs at the cell b, what the Statement gives of the start (any of its parts by flat_of_before) -/
def lw_At (p : Program) (s : State) (m : MethodId) (meth : Method) (c : Code) (b L : Nat) (xs : Nat → Int32) : Prop :=
  p.tables.exec = Jvm.exec ∧ c.code = code ∧ meth.sig.returnType = ret ∧ c.maxLocals = 4 ∧ s.vm.findClass R_law = some m.cls ∧ (∀ w ∈ lw_tbl, w.before #[Value.ref b] s = true) ∧ va_X b L xs s s.heap ∧ b < s.heap.size ∧ meth.locks = false ∧ (Jvm.Cond.and given_1 narrow_1).before #[Value.ref b] s = true

def cx_tm (i : Nat) : Term := .string RX2 (sx_slT.getD i (0, "")).1
def cx_fl : List Cond := flatC (Jvm.Cond.and given_1 narrow_1)
set_option maxRecDepth 100000 in
theorem cx_s1 : (List.range 11).all (fun i => decide (Cond.exactly (cx_tm i) "java/lang/String" ∈ cx_fl) && (decide (Cond.eq (.field (cx_tm i) "java/lang/String" "coder" "B") (.int 0) ∈ cx_fl) && (decide (Cond.arrayOf (.field (cx_tm i) "java/lang/String" "value" "[B") .byte ∈ cx_fl) && (decide (Cond.eq (.length (.field (cx_tm i) "java/lang/String" "value" "[B")) (.int (Int32.ofNat (sx_sn.getD i 0))) ∈ cx_fl) && (List.range (sx_sn.getD i 0)).all (fun j => decide (Cond.eq (.elem (.field (cx_tm i) "java/lang/String" "value" "[B") (.int (Int32.ofNat j))) (.int ((sx_sb.getD i []).getD j 0)) ∈ cx_fl)))))) = true := by decide +kernel
set_option maxRecDepth 100000 in
theorem cx_s2 : (List.range 11).all (fun i => (List.range 11).all (fun j => decide (i = j) || (decide (Cond.not (Cond.eq (cx_tm i) (cx_tm j)) ∈ cx_fl) || decide (Cond.not (Cond.eq (cx_tm j) (cx_tm i)) ∈ cx_fl)))) = true := by decide +kernel
set_option maxRecDepth 100000 in
theorem cx_s3 : (List.range 11).all (fun i => decide (Cond.stringRef RX2 (sx_slT.getD i (0, "")).1 (sx_slT.getD i (0, "")).2 ∈ lw_tbl)) = true := by decide +kernel
set_option maxRecDepth 100000 in
theorem cx_s4 : (List.range 6).all (fun j => decide (Cond.eq (.elem (.static RX3 "KIND_ABOVE" "[I") (.int (Int32.ofNat j))) (.int (sx_kab.getD j 0)) ∈ cx_fl)) = true := by decide +kernel
set_option maxRecDepth 100000 in
theorem cx_s5 : (Cond.arrayOf (.static RX3 "KIND_ABOVE" "[I") .int ∈ cx_fl ∧ Cond.eq (.length (.static RX3 "KIND_ABOVE" "[I")) (.int (Int32.ofNat 6)) ∈ cx_fl) ∧ (Cond.eq (.static "java/lang/String" "COMPACT_STRINGS" "Z") (.int 1) ∈ cx_fl ∧ Cond.isRef (.static "jdk/internal/util/Preconditions" "SIOOBE_FORMATTER" "Ljava/util/function/BiFunction;") ∈ cx_fl) := by decide +kernel
theorem cx_strs {args : Array Value} {s : State} {B : Nat → Prop} (hs : ∀ w ∈ cx_fl, w.before args s = true) (hB : ∀ a : Nat, a < s.heap.size → ¬ B a) : ∃ adK adV : Nat → Nat, vk_S 11 sx_sn sx_sb adK adV B s s.heap ∧ ∀ i : Nat, i < 11 → (cx_tm i).eval args s none [] s = some (.ref (adK i)) := by
  have h1 : ∀ i, i < 11 → Cond.exactly (cx_tm i) "java/lang/String" ∈ cx_fl ∧ Cond.eq (.field (cx_tm i) "java/lang/String" "coder" "B") (.int 0) ∈ cx_fl ∧ Cond.arrayOf (.field (cx_tm i) "java/lang/String" "value" "[B") .byte ∈ cx_fl ∧ Cond.eq (.length (.field (cx_tm i) "java/lang/String" "value" "[B")) (.int (Int32.ofNat (sx_sn.getD i 0))) ∈ cx_fl ∧ ∀ j, j < sx_sn.getD i 0 → Cond.eq (.elem (.field (cx_tm i) "java/lang/String" "value" "[B") (.int (Int32.ofNat j))) (.int ((sx_sb.getD i []).getD j 0)) ∈ cx_fl := by
    intro i hi
    have h := List.all_eq_true.mp cx_s1 i (List.mem_range.mpr hi)
    simp only [Bool.and_eq_true, decide_eq_true_eq, List.all_eq_true, List.mem_range] at h
    exact h
  have h2 : ∀ i j, i < 11 → j < 11 → i ≠ j → Cond.not (Cond.eq (cx_tm i) (cx_tm j)) ∈ cx_fl ∨ Cond.not (Cond.eq (cx_tm j) (cx_tm i)) ∈ cx_fl := by
    intro i j hi hj hij
    have h := List.all_eq_true.mp cx_s2 i (List.mem_range.mpr hi)
    have h' := List.all_eq_true.mp h j (List.mem_range.mpr hj)
    simp only [Bool.or_eq_true, decide_eq_true_eq] at h'
    rcases h' with h' | h'
    · exact absurd h' hij
    · exact h'
  exact vk_Sof (fun i hi => by have : ∀ q, q < 11 → sx_sn.getD q 0 < 2 ^ 31 := by decide
                               exact this i hi) (fun i hi => hs _ (h1 i hi).1) (fun i hi => hs _ (h1 i hi).2.1) (fun i hi => hs _ (h1 i hi).2.2.1) (fun i hi => hs _ (h1 i hi).2.2.2.1) (fun i hi j hj => hs _ ((h1 i hi).2.2.2.2 j hj)) (fun i j hi hj hij => (h2 i j hi hj hij).elim (fun h => Or.inl (hs _ h)) (fun h => Or.inr (hs _ h))) hB
theorem cx_arrq (cS : ClassId) {N : Nat} {f g : Nat → Option Nat} (h : ∀ j, j < N → f j = g j) : vp_cell cS (N, .inr (.inr (.inr (.inr f)))) = vp_cell cS (N, .inr (.inr (.inr (.inr g)))) := by
  rw [vp_cell_q, vp_cell_q]
  unfold arrV
  congr 1
  apply Array.ext
  · simp
  · intro i h1 h2
    simp at h1
    simp [h i h1]
/-- the machine's classes, arrays' classes -/
theorem cx_known {args : Array Value} {s : State} (htsT : ∀ w ∈ lw_tbl, w.before args s = true) : ∃ (D : va_G) (cI cJ cS : ClassId), va_K D vwCl (cx_T cI cJ cS) s := by
  have hts : ∀ w ∈ lw_good, w.before args s = true := fun w hw => htsT w (sx_good_tbl hw)
  obtain ⟨c0, i0, k0⟩ := u_known hts (sx_u_in sx_u0) (hts (.instantiable RX0 8) (sx_at_ok (i := 74) (by decide +kernel)))
  obtain ⟨c1, i1, k1⟩ := u_known hts (sx_u_in sx_u1) (hts (.instantiable RX1 3) (sx_at_ok (i := 146) (by decide +kernel)))
  obtain ⟨c2, i2, k2⟩ := u_known hts (sx_u_in sx_u2) (hts (.instantiable RX2 6) (sx_at_ok (i := 119) (by decide +kernel)))
  obtain ⟨c3, i3, k3⟩ := u_known hts (sx_u_in sx_u3) (hts (.instantiable RX3 10) (sx_at_ok (i := 66) (by decide +kernel)))
  obtain ⟨c4, i4, k4⟩ := u_known hts (sx_u_in sx_u4) (hts (.instantiable RX4 16) (sx_at_ok (i := 628) (by decide +kernel)))
  obtain ⟨cI, kI, pI, a1, a2, a3⟩ := Cond.arrayClass_spec (type := .int) (hts (.arrayClass .int) (sx_u_in cx_w _ (by simp)))
  obtain ⟨cJ, kJ, pJ, b1, b2, b3⟩ := Cond.arrayClass_spec (type := .long) (hts (.arrayClass .long) (sx_u_in cx_w _ (by simp)))
  obtain ⟨pS, cS, kS, d1, d2, d3, d4, d5⟩ := Cond.arrayOver_spec (n := RX1) (htsT (.arrayOver (.object RX1)) (List.mem_of_getElem? (i := 145) (by decide +kernel)))
  refine ⟨(fun k => match k with | 0 => c0 | 1 => c1 | 2 => c2 | 3 => c3 | _ => c4, fun k => match k with | 0 => i0 | 1 => i1 | 2 => i2 | 3 => i3 | _ => i4), cI, cJ, cS, fun c q hc => ?_, fun k q hk => ?_⟩
  · rcases c with _ | _ | _ | _ | _ | c
    · cases hc; exact k0
    · cases hc; exact k1
    · cases hc; exact k2
    · cases hc; exact k3
    · cases hc; exact k4
    · simp at hc
  · rcases k with _ | _ | _ | k
    · cases hk; exact ⟨fun n z => ⟨(fun k h => by cases h), kI, a2, pI, a3⟩, a1⟩
    · cases hk; exact ⟨fun n z => ⟨(fun k h => by cases h), kJ, b2, pJ, b3⟩, b1⟩
    · cases hk; exact ⟨fun n z => ⟨(fun k h => by cases h), kS, d3, pS, d4⟩, kS, pS, d3, d4, d1, d5⟩
    · simp at hk

set_option maxHeartbeats 16000000 in
set_option maxRecDepth 100000 in
theorem whole_start_of (hpure : ∀ G : sx_G, G.1 ≤ 3072 → sx_ev G mL_law 16 [some (.ref 60), some (.ref 0), some (.ref 39), none] [] sx_A0 sx_Z0 (fun r _ _ => r = [.int 1])) {p : Program} {e : Env} {s : State} {m : MethodId} {below : List Frame} {meth : Method} {c : Code} (l : Launch) {b L : Nat} {xs : Nat → Int32} (hL : L ≤ 3072) (C0 : lw_At p s m meth c b L xs) : W p l e room_1 s m #[Value.ref b] below meth c s.heap [] 0 0 (lw_Z below #[Value.ref b] s) (entryFrame m ([Value.ref b] : List Value).toArray 4) := by
  obtain ⟨hx, hb, hr, hml, hown, htsT, hX, hbl, hlocks, hgv⟩ := C0
  have hts : ∀ w ∈ lw_good, w.before #[Value.ref b] s = true := fun w hw => htsT w (sx_good_tbl hw)
  have hfl : ∀ w ∈ cx_fl, w.before #[Value.ref b] s = true := flat_of_before _ hgv
  obtain ⟨D, cI, cJ, cS, hK⟩ := cx_known htsT
  obtain ⟨B, hBe⟩ : ∃ B : Nat → Prop, B = fun q => s.heap.size ≤ q := ⟨_, rfl⟩
  have hA : ∀ q, s.heap.size ≤ q → B q := fun q h => by rw [hBe]; exact h
  have hB : ∀ a : Nat, a < s.heap.size → ¬ B a := fun a h => by rw [hBe]; exact Nat.not_le.mpr h
  obtain ⟨adK, adV, hStr, hev⟩ := cx_strs hfl hB
  obtain ⟨aK, haK, hT62⟩ := va_Tof (f := fun j => .int (sx_kab.getD j 0)) (N := 6) (A := B) (by decide) (hfl _ cx_s5.1.1) (va_eqt (hfl _ cx_s5.1.2)) (fun j hj => va_eqt (hfl _ (by have h := List.all_eq_true.mp cx_s4 j (List.mem_range.mpr hj); simpa using h))) hB
  have hZ1 : va_Z RX3 "KIND_ABOVE" "[I" (.ref aK) B s s.heap := va_Zof (htsT (.laysStatic RX3 "KIND_ABOVE" "[I") (List.mem_of_getElem? (i := 263) (by decide +kernel))) (hts (.initialized RX3) (sx_at_ok (i := 53) (by decide +kernel))) haK hB
  have hZ2 : va_Z "java/lang/String" "COMPACT_STRINGS" "Z" (.int 1) B s s.heap := va_Zof (htsT (.laysStatic "java/lang/String" "COMPACT_STRINGS" "Z") (List.mem_of_getElem? (i := 474) (by decide +kernel))) (hts (.initialized "java/lang/String") (sx_at_ok (i := 60) (by decide +kernel))) (va_eqi (hfl _ cx_s5.2.1)) hB
  obtain ⟨vF, hvF, hvr⟩ := Cond.isRef_spec (hfl _ cx_s5.2.2)
  have hF : vF.category = 1 := by cases vF <;> first | rfl | (simp [Value.isRef] at hvr)
  have hZ3 : va_Z "jdk/internal/util/Preconditions" "SIOOBE_FORMATTER" "Ljava/util/function/BiFunction;" vF B s s.heap := va_Zof (htsT (.laysStatic "jdk/internal/util/Preconditions" "SIOOBE_FORMATTER" "Ljava/util/function/BiFunction;") (List.mem_of_getElem? (i := 490) (by decide +kernel))) (hts (.initialized "jdk/internal/util/Preconditions") (sx_at_ok (i := 62) (by decide +kernel))) hvF hB
  have hT60 : va_T .int b L (fun j => .int (xs j)) B s s.heap := by
    obtain ⟨scr, q1, q2, q3, q4, q5⟩ := hX
    exact ⟨scr, q1, q2, q3, Nat.le_of_eq q4.symm, by rw [q4], q5, hB b hbl⟩
  have hS : va_S B s.heap s.heap [] := va_S.rf
  have hP : va_P D vwCl [] s.heap := fun k q hk => by simp at hk
  have hD : va_D B [] := ⟨fun i j x y hi => by simp at hi, fun k q hk => by simp at hk⟩
  have hl := lv_entry ([.ref b]) (n := 4) (Nat.le_of_ble_eq_true rfl)
  rw [lg_entry_eq]
  generalize (lg_sl ([.ref b]) ++ List.replicate (4 - (lg_sl ([.ref b])).length) Slot.unset).toArray = ls at hl ⊢
  have hl : lv_has ls 4 [(0, .ref b)] := hl
  refine va_new (ci := 3) (fs := [.null, .null, .null, .null, .null, .null, .null, .null, .null, .int 0]) (C := RX3) (T := TX3) (N := 10) hx hb hts (sx_u_in sx_u3) tyX3 tyX3_ok hown (hts (.classLink R_law 7 RX3) (sx_at_ok (i := 65) (by decide +kernel))) (hts (.instantiable RX3 10) (sx_at_ok (i := 66) (by decide +kernel))) (hts (.initialized RX3) (sx_at_ok (i := 53) (by decide +kernel))) hK hP hD hS hA rfl (fun j hj => by rcases (show j = 0 ∨ j = 1 ∨ j = 2 ∨ j = 3 ∨ j = 4 ∨ j = 5 ∨ j = 6 ∨ j = 7 ∨ j = 8 ∨ j = 9 by omega) with rfl | rfl | rfl | rfl | rfl | rfl | rfl | rfl | rfl | rfl <;> rfl) (Nat.le_of_ble_eq_true rfl) (Nat.le_of_ble_eq_true rfl) dL_law_0 (fun x0 H hP hD hS => ?_)
  have hP : va_P D vwCl ((x0, .inr (3, [.null, .null, .null, .null, .null, .null, .null, .null, .null, .int 0])) :: []) H := hP
  have hD : va_D B ((x0, .inr (3, [.null, .null, .null, .null, .null, .null, .null, .null, .null, .int 0])) :: []) := hD
  refine lv_dup hx hb dL_law_3 rfl ?_
  refine va_callv (va_runI (As := []) (b := x0) (rest := [.ref x0]) ⟨hx, hb, hml, hown, hts⟩ (iX3 l D cI cJ cS B ([]) x0) (cwI 0 hts (cx_good cX3_cd) rfl rfl rfl (hts (.initialized RX3) (sx_at_ok (i := 53) (by decide +kernel))) (hts (.methodLink R_law 9 yX3_init) (sx_at_ok (i := 67) (by decide +kernel))) (hts (.instanceMethod yX3_init) (sx_at_ok (i := 68) (by decide +kernel))) rfl ⟨by decide, by decide, by decide +kernel⟩ ⟨(Nat.le_of_ble_eq_true rfl), (Nat.le_of_ble_eq_true rfl)⟩) ⟨iX3_bl, fun U hU hW => ⟨rfl, fun q h => hA q (Nat.le_trans hS.1 (by rw [← hU]; exact h)), va_K.moved hW.alike hK, va_AO.moved hW.alike (va_AO.of (htsT (.arrayOver (.object RX1)) (List.mem_of_getElem? (i := 145) (by decide +kernel)))), va_Nw.warmM hW (va_Nw.of rfl (htsT (.methodLinkNest RX3 9 yX0_init RX3) (List.mem_of_getElem? (i := 75) (by decide +kernel)))), va_Nw.warmM hW (va_Nw.of rfl (htsT (.methodLinkNest RX3 34 yX2_init RX3) (List.mem_of_getElem? (i := 120) (by decide +kernel)))), va_Nw.warmM hW (va_Nw.of rfl (htsT (.methodLinkNest RX3 48 yX1_init RX3) (List.mem_of_getElem? (i := 147) (by decide +kernel)))), by rw [hU]; exact hP, hD⟩⟩ rfl rfl hl.1 rfl (lv_room (Nat.le_of_ble_eq_true rfl)) dL_law_4 ⟨(Nat.le_of_ble_eq_true rfl), (Nat.le_of_ble_eq_true rfl)⟩) hS (fun q _ h => h) (fun q h => h) (fun ux t H locs ht hvm hw hB hz1 hk1 hS => ?_)
  obtain ⟨hP, hD⟩ := hB
  rw [ht] at hP
  refine lv_astore_n (lv' := [(1, .ref x0), (0, .ref b)]) hx hb dL_law_7 rfl hl (by decide) rfl (fun ls hl => ?_)
  refine va_new (ci := 4) (fs := [.null, .null, .null, .null, .null, .int 0, .null, .int 0, .int 0, .int 0, .int 0, .int 0, .null, .null, .null, .null]) (C := RX4) (T := TX4) (N := 16) hx hb hts (sx_u_in sx_u4) tyX4 tyX4_ok hown (hts (.classLink R_law 10 RX4) (sx_at_ok (i := 627) (by decide +kernel))) (hts (.instantiable RX4 16) (sx_at_ok (i := 628) (by decide +kernel))) (hts (.initialized RX4) (sx_at_ok (i := 57) (by decide +kernel))) hK hP hD hS hA rfl (fun j hj => by rcases (show j = 0 ∨ j = 1 ∨ j = 2 ∨ j = 3 ∨ j = 4 ∨ j = 5 ∨ j = 6 ∨ j = 7 ∨ j = 8 ∨ j = 9 ∨ j = 10 ∨ j = 11 ∨ j = 12 ∨ j = 13 ∨ j = 14 ∨ j = 15 by omega) with rfl | rfl | rfl | rfl | rfl | rfl | rfl | rfl | rfl | rfl | rfl | rfl | rfl | rfl | rfl | rfl <;> rfl) (Nat.le_of_ble_eq_true rfl) (Nat.le_of_ble_eq_true rfl) dL_law_8 (fun m0 H hP hD hS => ?_)
  have hP := cx_front hP
  have hD := cx_frontD hD
  refine lv_dup hx hb dL_law_11 rfl ?_
  refine va_callv (va_runI (As := []) (b := m0) (rest := [.ref m0]) ⟨hx, hb, hml, hown, hts⟩ (iX4 l D cI cJ cS B (((ux 0), .inl (cJ, 40, .inr (.inl (fun _ => 0)))) :: ((ux 1), .inr (1, [.ref (ux 0), .int 0, .int 0])) :: ((ux 2), .inl (cJ, 40, .inr (.inl (fun _ => 0)))) :: ((ux 3), .inr (1, [.ref (ux 2), .int 0, .int 0])) :: ((ux 4), .inl (cJ, 40, .inr (.inl (fun _ => 0)))) :: ((ux 5), .inr (1, [.ref (ux 4), .int 0, .int 0])) :: ((ux 6), .inl (cJ, 40, .inr (.inl (fun _ => 0)))) :: ((ux 7), .inr (1, [.ref (ux 6), .int 0, .int 0])) :: ((ux 8), .inl (cI, 7, .inl (fun _ => 0))) :: ((ux 9), .inl (cS, 4, .inr (.inr (.inr (.inr (va_up (va_up (va_up (va_up (fun _ => none) 0 (some (ux 7))) 1 (some (ux 5))) 2 (some (ux 3))) 3 (some (ux 1)))))))) :: ((ux 10), .inl (cI, 120, .inl (fun _ => 0))) :: ((ux 11), .inr (2, [.ref (ux 10), .int 0, .int 0, .int 0, .int 0, .int 0])) :: ((ux 12), .inl (cI, 40, .inl (fun _ => 0))) :: ((ux 13), .inl (cI, 8, .inl (fun _ => 0))) :: ((ux 14), .inl (cI, 2, .inl (fun _ => 0))) :: ((ux 15), .inl (cI, 8, .inl (fun _ => 0))) :: ((ux 16), .inl (cI, 8, .inl (fun _ => 0))) :: ((ux 17), .inl (cI, 8, .inl (fun _ => 0))) :: ((ux 18), .inl (cI, 8, .inl (fun _ => 0))) :: ((ux 19), .inr (0, [.ref (ux 18), .ref (ux 17), .ref (ux 16), .ref (ux 15), .ref (ux 14), .int 0, .int 0, .int 10])) :: ((ux 20), .inl (cI, 2, .inl (fun _ => 0))) :: ((ux 21), .inl (cI, 8, .inl (fun _ => 0))) :: ((ux 22), .inl (cI, 8, .inl (fun _ => 0))) :: ((ux 23), .inl (cI, 8, .inl (fun _ => 0))) :: ((ux 24), .inl (cI, 8, .inl (fun _ => 0))) :: ((ux 25), .inr (0, [.ref (ux 24), .ref (ux 23), .ref (ux 22), .ref (ux 21), .ref (ux 20), .int 0, .int 0, .int 10])) :: ((ux 26), .inl (cI, 2, .inl (fun _ => 0))) :: ((ux 27), .inl (cI, 8, .inl (fun _ => 0))) :: ((ux 28), .inl (cI, 8, .inl (fun _ => 0))) :: ((ux 29), .inl (cI, 8, .inl (fun _ => 0))) :: ((ux 30), .inl (cI, 8, .inl (fun _ => 0))) :: ((ux 31), .inr (0, [.ref (ux 30), .ref (ux 29), .ref (ux 28), .ref (ux 27), .ref (ux 26), .int 0, .int 0, .int 10])) :: ((ux 32), .inl (cI, 2, .inl (fun _ => 0))) :: ((ux 33), .inl (cI, 8, .inl (fun _ => 0))) :: ((ux 34), .inl (cI, 8, .inl (fun _ => 0))) :: ((ux 35), .inl (cI, 8, .inl (fun _ => 0))) :: ((ux 36), .inl (cI, 8, .inl (fun _ => 0))) :: ((ux 37), .inr (0, [.ref (ux 36), .ref (ux 35), .ref (ux 34), .ref (ux 33), .ref (ux 32), .int 0, .int 0, .int 10])) :: (x0, .inr (3, [.ref (ux 37), .ref (ux 31), .ref (ux 25), .ref (ux 19), .ref (ux 13), .ref (ux 12), .ref (ux 11), .ref (ux 9), .ref (ux 8), .int 0])) :: []) m0) (cwI 0 hts (cx_good cX4_cd) rfl rfl rfl (hts (.initialized RX4) (sx_at_ok (i := 57) (by decide +kernel))) (hts (.methodLink R_law 12 yX4_init) (sx_at_ok (i := 629) (by decide +kernel))) (hts (.instanceMethod yX4_init) (sx_at_ok (i := 630) (by decide +kernel))) rfl ⟨by decide, by decide, by decide +kernel⟩ ⟨(Nat.le_of_ble_eq_true rfl), (Nat.le_of_ble_eq_true rfl)⟩) ⟨iX4_bl, fun U hU hW => ⟨rfl, fun q h => hA q (Nat.le_trans hS.1 (by rw [← hU]; exact h)), va_K.moved hW.alike hK, by rw [hU]; exact hP, hD⟩⟩ rfl rfl hl.1 rfl (lv_room (Nat.le_of_ble_eq_true rfl)) dL_law_12 ⟨(Nat.le_of_ble_eq_true rfl), (Nat.le_of_ble_eq_true rfl)⟩) hS (fun q _ h => h) (fun q h => h) (fun um t H locs ht hvm hw hB hz1 hk1 hS => ?_)
  obtain ⟨hP, hD⟩ := hB
  rw [ht] at hP
  refine lv_astore_n (lv' := [(2, .ref m0), (1, .ref x0), (0, .ref b)]) hx hb dL_law_15 rfl hl (by decide) rfl (fun ls hl => ?_)
  have hP : va_P D vwCl (((um 0), .inl (cJ, 40, .inr (.inl (fun _ => 0)))) :: ((um 1), .inl (cJ, 160, .inr (.inl (fun _ => 0)))) :: ((um 2), .inl (cI, 4, .inl (fun _ => 0))) :: ((um 3), .inl (cI, 4, .inl (fun _ => 0))) :: ((um 4), .inl (cI, 120, .inl (fun _ => 0))) :: ((um 5), .inl (cI, 7, .inl (fun _ => 0))) :: ((um 6), .inl (cI, 37, .inl (fun _ => 0))) :: ((um 7), .inl (cI, 37, .inl (fun _ => 0))) :: ((um 8), .inl (cI, 37, .inl (fun _ => 0))) :: ((um 9), .inl (cI, 37, .inl (upd (fun _ => 0) 2 10))) :: (m0, .inr (4, [.ref (um 9), .ref (um 8), .ref (um 7), .ref (um 6), .ref (um 5), .int 0, .ref (um 4), .int 0, .int 0, .int 0, .int 0, .int 0, .ref (um 3), .ref (um 2), .ref (um 1), .ref (um 0)])) :: ((ux 0), .inl (cJ, 40, .inr (.inl (fun _ => 0)))) :: ((ux 1), .inr (1, [.ref (ux 0), .int 0, .int 0])) :: ((ux 2), .inl (cJ, 40, .inr (.inl (fun _ => 0)))) :: ((ux 3), .inr (1, [.ref (ux 2), .int 0, .int 0])) :: ((ux 4), .inl (cJ, 40, .inr (.inl (fun _ => 0)))) :: ((ux 5), .inr (1, [.ref (ux 4), .int 0, .int 0])) :: ((ux 6), .inl (cJ, 40, .inr (.inl (fun _ => 0)))) :: ((ux 7), .inr (1, [.ref (ux 6), .int 0, .int 0])) :: ((ux 8), .inl (cI, 7, .inl (fun _ => 0))) :: ((ux 9), .inl (cS, 4, .inr (.inr (.inr (.inr (va_up (va_up (va_up (va_up (fun _ => none) 0 (some (ux 7))) 1 (some (ux 5))) 2 (some (ux 3))) 3 (some (ux 1)))))))) :: ((ux 10), .inl (cI, 120, .inl (fun _ => 0))) :: ((ux 11), .inr (2, [.ref (ux 10), .int 0, .int 0, .int 0, .int 0, .int 0])) :: ((ux 12), .inl (cI, 40, .inl (fun _ => 0))) :: ((ux 13), .inl (cI, 8, .inl (fun _ => 0))) :: ((ux 14), .inl (cI, 2, .inl (fun _ => 0))) :: ((ux 15), .inl (cI, 8, .inl (fun _ => 0))) :: ((ux 16), .inl (cI, 8, .inl (fun _ => 0))) :: ((ux 17), .inl (cI, 8, .inl (fun _ => 0))) :: ((ux 18), .inl (cI, 8, .inl (fun _ => 0))) :: ((ux 19), .inr (0, [.ref (ux 18), .ref (ux 17), .ref (ux 16), .ref (ux 15), .ref (ux 14), .int 0, .int 0, .int 10])) :: ((ux 20), .inl (cI, 2, .inl (fun _ => 0))) :: ((ux 21), .inl (cI, 8, .inl (fun _ => 0))) :: ((ux 22), .inl (cI, 8, .inl (fun _ => 0))) :: ((ux 23), .inl (cI, 8, .inl (fun _ => 0))) :: ((ux 24), .inl (cI, 8, .inl (fun _ => 0))) :: ((ux 25), .inr (0, [.ref (ux 24), .ref (ux 23), .ref (ux 22), .ref (ux 21), .ref (ux 20), .int 0, .int 0, .int 10])) :: ((ux 26), .inl (cI, 2, .inl (fun _ => 0))) :: ((ux 27), .inl (cI, 8, .inl (fun _ => 0))) :: ((ux 28), .inl (cI, 8, .inl (fun _ => 0))) :: ((ux 29), .inl (cI, 8, .inl (fun _ => 0))) :: ((ux 30), .inl (cI, 8, .inl (fun _ => 0))) :: ((ux 31), .inr (0, [.ref (ux 30), .ref (ux 29), .ref (ux 28), .ref (ux 27), .ref (ux 26), .int 0, .int 0, .int 10])) :: ((ux 32), .inl (cI, 2, .inl (fun _ => 0))) :: ((ux 33), .inl (cI, 8, .inl (fun _ => 0))) :: ((ux 34), .inl (cI, 8, .inl (fun _ => 0))) :: ((ux 35), .inl (cI, 8, .inl (fun _ => 0))) :: ((ux 36), .inl (cI, 8, .inl (fun _ => 0))) :: ((ux 37), .inr (0, [.ref (ux 36), .ref (ux 35), .ref (ux 34), .ref (ux 33), .ref (ux 32), .int 0, .int 0, .int 10])) :: (x0, .inr (3, [.ref (ux 37), .ref (ux 31), .ref (ux 25), .ref (ux 19), .ref (ux 13), .ref (ux 12), .ref (ux 11), .ref (ux 9), .ref (ux 8), .int 0])) :: []) H := hP
  have hD : va_D B (((um 0), .inl (cJ, 40, .inr (.inl (fun _ => 0)))) :: ((um 1), .inl (cJ, 160, .inr (.inl (fun _ => 0)))) :: ((um 2), .inl (cI, 4, .inl (fun _ => 0))) :: ((um 3), .inl (cI, 4, .inl (fun _ => 0))) :: ((um 4), .inl (cI, 120, .inl (fun _ => 0))) :: ((um 5), .inl (cI, 7, .inl (fun _ => 0))) :: ((um 6), .inl (cI, 37, .inl (fun _ => 0))) :: ((um 7), .inl (cI, 37, .inl (fun _ => 0))) :: ((um 8), .inl (cI, 37, .inl (fun _ => 0))) :: ((um 9), .inl (cI, 37, .inl (upd (fun _ => 0) 2 10))) :: (m0, .inr (4, [.ref (um 9), .ref (um 8), .ref (um 7), .ref (um 6), .ref (um 5), .int 0, .ref (um 4), .int 0, .int 0, .int 0, .int 0, .int 0, .ref (um 3), .ref (um 2), .ref (um 1), .ref (um 0)])) :: ((ux 0), .inl (cJ, 40, .inr (.inl (fun _ => 0)))) :: ((ux 1), .inr (1, [.ref (ux 0), .int 0, .int 0])) :: ((ux 2), .inl (cJ, 40, .inr (.inl (fun _ => 0)))) :: ((ux 3), .inr (1, [.ref (ux 2), .int 0, .int 0])) :: ((ux 4), .inl (cJ, 40, .inr (.inl (fun _ => 0)))) :: ((ux 5), .inr (1, [.ref (ux 4), .int 0, .int 0])) :: ((ux 6), .inl (cJ, 40, .inr (.inl (fun _ => 0)))) :: ((ux 7), .inr (1, [.ref (ux 6), .int 0, .int 0])) :: ((ux 8), .inl (cI, 7, .inl (fun _ => 0))) :: ((ux 9), .inl (cS, 4, .inr (.inr (.inr (.inr (va_up (va_up (va_up (va_up (fun _ => none) 0 (some (ux 7))) 1 (some (ux 5))) 2 (some (ux 3))) 3 (some (ux 1)))))))) :: ((ux 10), .inl (cI, 120, .inl (fun _ => 0))) :: ((ux 11), .inr (2, [.ref (ux 10), .int 0, .int 0, .int 0, .int 0, .int 0])) :: ((ux 12), .inl (cI, 40, .inl (fun _ => 0))) :: ((ux 13), .inl (cI, 8, .inl (fun _ => 0))) :: ((ux 14), .inl (cI, 2, .inl (fun _ => 0))) :: ((ux 15), .inl (cI, 8, .inl (fun _ => 0))) :: ((ux 16), .inl (cI, 8, .inl (fun _ => 0))) :: ((ux 17), .inl (cI, 8, .inl (fun _ => 0))) :: ((ux 18), .inl (cI, 8, .inl (fun _ => 0))) :: ((ux 19), .inr (0, [.ref (ux 18), .ref (ux 17), .ref (ux 16), .ref (ux 15), .ref (ux 14), .int 0, .int 0, .int 10])) :: ((ux 20), .inl (cI, 2, .inl (fun _ => 0))) :: ((ux 21), .inl (cI, 8, .inl (fun _ => 0))) :: ((ux 22), .inl (cI, 8, .inl (fun _ => 0))) :: ((ux 23), .inl (cI, 8, .inl (fun _ => 0))) :: ((ux 24), .inl (cI, 8, .inl (fun _ => 0))) :: ((ux 25), .inr (0, [.ref (ux 24), .ref (ux 23), .ref (ux 22), .ref (ux 21), .ref (ux 20), .int 0, .int 0, .int 10])) :: ((ux 26), .inl (cI, 2, .inl (fun _ => 0))) :: ((ux 27), .inl (cI, 8, .inl (fun _ => 0))) :: ((ux 28), .inl (cI, 8, .inl (fun _ => 0))) :: ((ux 29), .inl (cI, 8, .inl (fun _ => 0))) :: ((ux 30), .inl (cI, 8, .inl (fun _ => 0))) :: ((ux 31), .inr (0, [.ref (ux 30), .ref (ux 29), .ref (ux 28), .ref (ux 27), .ref (ux 26), .int 0, .int 0, .int 10])) :: ((ux 32), .inl (cI, 2, .inl (fun _ => 0))) :: ((ux 33), .inl (cI, 8, .inl (fun _ => 0))) :: ((ux 34), .inl (cI, 8, .inl (fun _ => 0))) :: ((ux 35), .inl (cI, 8, .inl (fun _ => 0))) :: ((ux 36), .inl (cI, 8, .inl (fun _ => 0))) :: ((ux 37), .inr (0, [.ref (ux 36), .ref (ux 35), .ref (ux 34), .ref (ux 33), .ref (ux 32), .int 0, .int 0, .int 10])) :: (x0, .inr (3, [.ref (ux 37), .ref (ux 31), .ref (ux 25), .ref (ux 19), .ref (ux 13), .ref (ux 12), .ref (ux 11), .ref (ux 9), .ref (ux 8), .int 0])) :: []) := hD
  obtain ⟨η, hη⟩ : ∃ η : Nat → Nat, η = (fun k => if k < 50 then [x0, (ux 37), (ux 36), (ux 35), (ux 34), (ux 33), (ux 32), (ux 31), (ux 30), (ux 29), (ux 28), (ux 27), (ux 26), (ux 25), (ux 24), (ux 23), (ux 22), (ux 21), (ux 20), (ux 19), (ux 18), (ux 17), (ux 16), (ux 15), (ux 14), (ux 13), (ux 12), (ux 11), (ux 10), (ux 9), (ux 7), (ux 6), (ux 5), (ux 4), (ux 3), (ux 2), (ux 1), (ux 0), (ux 8), m0, (um 9), (um 8), (um 7), (um 6), (um 5), (um 4), (um 3), (um 2), (um 1), (um 0)].getD k 0 else if k = 60 then b else if k = 62 then aK else if k < 200 then adK (k - 100) else adV (k - 200)) := ⟨_, rfl⟩
  have hP := hP.set hD (p := 20) (a := (ux 9)) (e := .inl (cS, 4, .inr (.inr (.inr (.inr (fun j => some (η (sx_fr 29 j)))))))) (H1 := H) rfl (by
    have h1 : H[(ux 9)]? = some (vp_cell cS (4, _)) := hP 20 _ rfl
    show H[(ux 9)]? = some (vp_cell cS (4, _))
    rw [h1]
    exact congrArg some (cx_arrq cS (fun j hj => by rcases (show j = 0 ∨ j = 1 ∨ j = 2 ∨ j = 3 by omega) with rfl | rfl | rfl | rfl <;> rw [hη] <;> rfl))) (fun _ _ => rfl)
  have hD := hD.set (p := 20) (a := (ux 9)) (e := .inl (cS, 4, .inr (.inr (.inr (.inr (fun j => some (η (sx_fr 29 j)))))))) rfl
  have hP : va_P D vwCl (sx_ws η cI cJ cS sx_A0 sx_Z0) H := hP.sub [49, 48, 47, 46, 45, 44, 43, 42, 41, 40, 39, 38, 37, 36, 35, 34, 33, 32, 31, 30, 29, 28, 27, 26, 25, 24, 23, 22, 21, 20, 18, 17, 16, 15, 14, 13, 12, 11, 19, 10, 9, 8, 7, 6, 5, 4, 3, 2, 1, 0] (by rw [hη]; rfl)
  have hD : va_D B (sx_ws η cI cJ cS sx_A0 sx_Z0) := hD.sub [49, 48, 47, 46, 45, 44, 43, 42, 41, 40, 39, 38, 37, 36, 35, 34, 33, 32, 31, 30, 29, 28, 27, 26, 25, 24, 23, 22, 21, 20, 18, 17, 16, 15, 14, 13, 12, 11, 19, 10, 9, 8, 7, 6, 5, 4, 3, 2, 1, 0] (by decide) (by rw [hη]; rfl)
  have e60 : η 60 = b := by rw [hη]; rfl
  have e62 : η 62 = aK := by rw [hη]; rfl
  have eK : ∀ i, i < 11 → η (100 + i) = adK i := fun i hi => by
    rw [hη]
    show (if 100 + i < 50 then _ else if 100 + i = 60 then b else if 100 + i = 62 then aK else if 100 + i < 200 then adK (100 + i - 100) else adV (100 + i - 200)) = _
    rw [if_neg (by omega), if_neg (by omega), if_neg (by omega), if_pos (by omega), Nat.add_sub_cancel_left]
  have eV : ∀ i, i < 11 → η (200 + i) = adV i := fun i hi => by
    rw [hη]
    show (if 200 + i < 50 then _ else if 200 + i = 60 then b else if 200 + i = 62 then aK else if 200 + i < 200 then adK (200 + i - 100) else adV (200 + i - 200)) = _
    rw [if_neg (by omega), if_neg (by omega), if_neg (by omega), if_neg (by omega), Nat.add_sub_cancel_left]
  have hcx : sx_Cx η vF D cI cJ cS B (L, xs) s := by
    refine ⟨hK, by rw [e60]; exact hT60, by rw [e62]; exact hT62, by rw [e62]; exact hZ1, hZ2, hZ3, ⟨fun i hi => ?_, fun i j hi hj hij => ?_⟩, fun i hi => ?_, va_Nw.of rfl (htsT (.methodLinkNest RX0 43 yX3_heartAs RX3) (List.mem_of_getElem? (i := 235) (by decide +kernel))), va_Nw.of rfl (htsT (.methodLinkNest RX0 68 yX3_mixing RX3) (List.mem_of_getElem? (i := 325) (by decide +kernel)))⟩
    · show va_O "java/lang/String" (η (100 + i)) B s s.heap ∧ va_OF "java/lang/String" "coder" "B" (.int 0) (η (100 + i)) B s s.heap ∧ va_OF "java/lang/String" "value" "[B" (.ref (η (200 + i))) (η (100 + i)) B s s.heap ∧ va_T .byte (η (200 + i)) (sx_sn.getD i 0) (fun j => .int ((sx_sb.getD i []).getD j 0)) B s s.heap
      rw [eK i hi, eV i hi]
      exact hStr.1 i hi
    · have hij : η (100 + i) = η (100 + j) := hij
      rw [eK i hi, eK j hj] at hij
      exact hStr.2 i j hi hj hij
    · rw [eK i hi]
      exact vk_R.of (htsT _ (by have h := List.all_eq_true.mp cx_s3 i (List.mem_range.mpr hi); simpa using h)) (hev i hi)
  have ex0 : η 0 = x0 := by rw [hη]; rfl
  have em0 : η 39 = m0 := by rw [hη]; rfl
  have hlv : sx_lv η vF [] 4 [some (.ref 60), some (.ref 0), some (.ref 39), none] ls := by
    refine ⟨hl.1, hl.2.1, fun i v hi => ?_, fun i v hi hc => ?_⟩
    · rcases i with _ | _ | _ | _ | i
      · simp at hi; subst hi; show ls[0]? = some (.val (.ref (η 60))); rw [e60]; exact lv_at hl 2 rfl
      · simp at hi; subst hi; show ls[1]? = some (.val (.ref (η 0))); rw [ex0]; exact lv_at hl 1 rfl
      · simp at hi; subst hi; show ls[2]? = some (.val (.ref (η 39))); rw [em0]; exact lv_at hl 0 rfl
      · simp at hi
      · simp at hi
    · exfalso
      rcases i with _ | _ | _ | _ | i
      · simp at hi; subst hi; simp [Value.category] at hc
      · simp at hi; subst hi; simp [Value.category] at hc
      · simp at hi; subst hi; simp [Value.category] at hc
      · simp at hi
      · simp at hi
  obtain ⟨n, r, A1, Z1, hrun, hr1⟩ := hpure (L, xs) hL
  refine sx_snd hF n mL_law 16 _ [] sx_A0 sx_Z0 r A1 Z1 hrun p e room_1 s m #[Value.ref b] below meth c H locs _ _ ls (lw_Z below #[Value.ref b] s) hx hb hml hown hts hcx ⟨(Nat.le_of_ble_eq_true rfl), (Nat.le_of_ble_eq_true rfl)⟩ ⟨(Nat.le_of_ble_eq_true rfl), (Nat.le_of_ble_eq_true rfl)⟩ hS hP hD hlv ?_
  intro H locs ls pc i hd hret hP hS
  subst hr1
  have hi : i = .ireturn := by
    unfold sx_ret at hret
    split at hret
    · rfl
    · rename_i h; cases h
    · rename_i h; cases h
    · rename_i h; cases h
    · cases hret
  subst hi
  refine va_forget (fun q hq => by have h := hS.2.2 q hq; rw [hBe] at h; exact h) ?_
  refine W.widen (k := 600000) (n := 7302250) (Nat.le_of_ble_eq_true rfl) (Nat.le_of_ble_eq_true rfl) ?_
  exact lw_ret hx hb hr hlocks hd
