/-! THE PURE MACHINE IS THE MACHINE, part 4: calls, and the whole of it -/
def sx_mlC (cn : Nat) (e : sx_E) : Bool :=
  (((plainName e.2.2.2.1.1.cls && decide (sx_cls e.2.2.2.1.2.2.2.2.1 = e.2.2.2.1.1.cls)) && sx_at (e.2.2.2.2.getD 1 0) (.initialized e.2.2.2.1.1.cls)) && (decide (e.2.2.2.1.1.cls ≠ "java/lang/invoke/MethodHandle") && decide (e.2.2.2.1.1.cls ≠ "java/lang/invoke/VarHandle"))) && (match e.2.1 with
  | 0 => (sx_at (e.2.2.2.2.getD 0 0) (.methodLink (sx_cls cn) e.1 e.2.2.2.1.1) && sx_at (e.2.2.2.2.getD 3 0) (.static e.2.2.2.1.1)) && decide ((parseMethodDescriptor e.2.2.2.1.1.desc).map (fun d => d.parameters.length) = some e.2.2.1)
  | 1 => ((sx_at (e.2.2.2.2.getD 0 0) (.methodLink (sx_cls cn) e.1 e.2.2.2.1.1) && sx_at (e.2.2.2.2.getD 3 0) (.instanceMethod e.2.2.2.1.1)) && sx_at (e.2.2.2.2.getD 4 0) (.selects e.2.2.2.1.1.cls e.2.2.2.1.1 e.2.2.2.1.1)) && (decide ((parseMethodDescriptor e.2.2.2.1.1.desc).map (fun d => d.parameters.length) = some (e.2.2.1 - 1)) && (decide (1 ≤ e.2.2.1) && decide (e.2.2.2.1.2.2.2.2.1 < 5 ∨ e.2.2.2.1.2.2.2.2.1 = 6)))
  | 2 => (sx_at (e.2.2.2.2.getD 3 0) (.static e.2.2.2.1.1) && decide ((parseMethodDescriptor e.2.2.2.1.1.desc).map (fun d => d.parameters.length) = some e.2.2.1)) && decide ((cn = 0 ∧ e.1 = 43 ∧ e.2.2.2.1.1 = yX3_heartAs) ∨ (cn = 0 ∧ e.1 = 68 ∧ e.2.2.2.1.1 = yX3_mixing))
  | _ => false)
set_option maxRecDepth 100000 in
theorem sx_ml0_ok : sx_ml0.all (sx_mlC 0) = true := by decide +kernel
set_option maxRecDepth 100000 in
theorem sx_cd0 : sx_ml0.map (fun e => lw_tbl[e.2.2.2.2.getD 2 0]?) = sx_ml0.map (fun e => some (.code e.2.2.2.1.1 e.2.2.2.1.2.1 e.2.2.2.1.2.2.1 e.2.2.2.1.2.2.2.1)) := rfl
set_option maxRecDepth 100000 in
theorem sx_ml1_ok : sx_ml1.all (sx_mlC 1) = true := by decide +kernel
set_option maxRecDepth 100000 in
theorem sx_cd1 : sx_ml1.map (fun e => lw_tbl[e.2.2.2.2.getD 2 0]?) = sx_ml1.map (fun e => some (.code e.2.2.2.1.1 e.2.2.2.1.2.1 e.2.2.2.1.2.2.1 e.2.2.2.1.2.2.2.1)) := rfl
set_option maxRecDepth 100000 in
theorem sx_ml2_ok : sx_ml2.all (sx_mlC 2) = true := by decide +kernel
set_option maxRecDepth 100000 in
theorem sx_cd2 : sx_ml2.map (fun e => lw_tbl[e.2.2.2.2.getD 2 0]?) = sx_ml2.map (fun e => some (.code e.2.2.2.1.1 e.2.2.2.1.2.1 e.2.2.2.1.2.2.1 e.2.2.2.1.2.2.2.1)) := rfl
set_option maxRecDepth 100000 in
theorem sx_ml3_ok : sx_ml3.all (sx_mlC 3) = true := by decide +kernel
set_option maxRecDepth 100000 in
theorem sx_cd3 : sx_ml3.map (fun e => lw_tbl[e.2.2.2.2.getD 2 0]?) = sx_ml3.map (fun e => some (.code e.2.2.2.1.1 e.2.2.2.1.2.1 e.2.2.2.1.2.2.1 e.2.2.2.1.2.2.2.1)) := rfl
set_option maxRecDepth 100000 in
theorem sx_ml4_ok : sx_ml4.all (sx_mlC 4) = true := by decide +kernel
set_option maxRecDepth 100000 in
theorem sx_cd4 : sx_ml4.map (fun e => lw_tbl[e.2.2.2.2.getD 2 0]?) = sx_ml4.map (fun e => some (.code e.2.2.2.1.1 e.2.2.2.1.2.1 e.2.2.2.1.2.2.1 e.2.2.2.1.2.2.2.1)) := rfl
set_option maxRecDepth 100000 in
theorem sx_ml5_ok : sx_ml5.all (sx_mlC 5) = true := by decide +kernel
set_option maxRecDepth 100000 in
theorem sx_cd5 : sx_ml5.map (fun e => lw_tbl[e.2.2.2.2.getD 2 0]?) = sx_ml5.map (fun e => some (.code e.2.2.2.1.1 e.2.2.2.1.2.1 e.2.2.2.1.2.2.1 e.2.2.2.1.2.2.2.1)) := rfl
set_option maxRecDepth 100000 in
theorem sx_ml6_ok : sx_ml6.all (sx_mlC 6) = true := by decide +kernel
set_option maxRecDepth 100000 in
theorem sx_cd6 : sx_ml6.map (fun e => lw_tbl[e.2.2.2.2.getD 2 0]?) = sx_ml6.map (fun e => some (.code e.2.2.2.1.1 e.2.2.2.1.2.1 e.2.2.2.1.2.2.1 e.2.2.2.1.2.2.2.1)) := rfl
set_option maxRecDepth 100000 in
theorem sx_ml7_ok : sx_ml7.all (sx_mlC 7) = true := by decide +kernel
set_option maxRecDepth 100000 in
theorem sx_cd7 : sx_ml7.map (fun e => lw_tbl[e.2.2.2.2.getD 2 0]?) = sx_ml7.map (fun e => some (.code e.2.2.2.1.1 e.2.2.2.1.2.1 e.2.2.2.1.2.2.1 e.2.2.2.1.2.2.2.1)) := rfl
set_option maxRecDepth 100000 in
theorem sx_ml8_ok : sx_ml8.all (sx_mlC 8) = true := by decide +kernel
set_option maxRecDepth 100000 in
theorem sx_cd8 : sx_ml8.map (fun e => lw_tbl[e.2.2.2.2.getD 2 0]?) = sx_ml8.map (fun e => some (.code e.2.2.2.1.1 e.2.2.2.1.2.1 e.2.2.2.1.2.2.1 e.2.2.2.1.2.2.2.1)) := rfl
set_option maxRecDepth 100000 in
theorem sx_ml9_ok : sx_ml9.all (sx_mlC 9) = true := by decide +kernel
set_option maxRecDepth 100000 in
theorem sx_cd9 : sx_ml9.map (fun e => lw_tbl[e.2.2.2.2.getD 2 0]?) = sx_ml9.map (fun e => some (.code e.2.2.2.1.1 e.2.2.2.1.2.1 e.2.2.2.1.2.2.1 e.2.2.2.1.2.2.2.1)) := rfl
set_option maxRecDepth 100000 in
theorem sx_ml10_ok : sx_ml10.all (sx_mlC 10) = true := by decide +kernel
set_option maxRecDepth 100000 in
theorem sx_cd10 : sx_ml10.map (fun e => lw_tbl[e.2.2.2.2.getD 2 0]?) = sx_ml10.map (fun e => some (.code e.2.2.2.1.1 e.2.2.2.1.2.1 e.2.2.2.1.2.2.1 e.2.2.2.1.2.2.2.1)) := rfl
theorem sx_mlT_ok {cn : Nat} {e : sx_E} (h : e ∈ sx_mlT.getD cn []) : sx_mlC cn e = true ∧ lw_tbl[e.2.2.2.2.getD 2 0]? = some (.code e.2.2.2.1.1 e.2.2.2.1.2.1 e.2.2.2.1.2.2.1 e.2.2.2.1.2.2.2.1) := by
  rcases (show cn = 0 ∨ cn = 1 ∨ cn = 2 ∨ cn = 3 ∨ cn = 4 ∨ cn = 5 ∨ cn = 6 ∨ cn = 7 ∨ cn = 8 ∨ cn = 9 ∨ cn = 10 ∨ 11 ≤ cn by omega) with rfl | rfl | rfl | rfl | rfl | rfl | rfl | rfl | rfl | rfl | rfl | hc
  · exact ⟨List.all_eq_true.mp sx_ml0_ok e h, List.map_inj_left.mp sx_cd0 e h⟩
  · exact ⟨List.all_eq_true.mp sx_ml1_ok e h, List.map_inj_left.mp sx_cd1 e h⟩
  · exact ⟨List.all_eq_true.mp sx_ml2_ok e h, List.map_inj_left.mp sx_cd2 e h⟩
  · exact ⟨List.all_eq_true.mp sx_ml3_ok e h, List.map_inj_left.mp sx_cd3 e h⟩
  · exact ⟨List.all_eq_true.mp sx_ml4_ok e h, List.map_inj_left.mp sx_cd4 e h⟩
  · exact ⟨List.all_eq_true.mp sx_ml5_ok e h, List.map_inj_left.mp sx_cd5 e h⟩
  · exact ⟨List.all_eq_true.mp sx_ml6_ok e h, List.map_inj_left.mp sx_cd6 e h⟩
  · exact ⟨List.all_eq_true.mp sx_ml7_ok e h, List.map_inj_left.mp sx_cd7 e h⟩
  · exact ⟨List.all_eq_true.mp sx_ml8_ok e h, List.map_inj_left.mp sx_cd8 e h⟩
  · exact ⟨List.all_eq_true.mp sx_ml9_ok e h, List.map_inj_left.mp sx_cd9 e h⟩
  · exact ⟨List.all_eq_true.mp sx_ml10_ok e h, List.map_inj_left.mp sx_cd10 e h⟩
  · have : sx_mlT.getD cn [] = [] := by
      rw [List.getD_eq_getElem?_getD, List.getElem?_eq_none (by show 11 ≤ cn; exact hc)]
      rfl
    rw [this] at h
    exact absurd h List.not_mem_nil
theorem sx_gcode (y : MethodName) (b : ByteArray) (n : Nat) (r : Option FieldType) : goodWord (.code y b n r) = true := rfl
/-- what is known of a method of the program -/
def sx_PM (y : sx_M) : Prop := plainName y.1.cls = true ∧ sx_cls y.2.2.2.2.1 = y.1.cls
theorem sx_ml_ok {cn ix kd np : Nat} {y : sx_M} (h : sx_ml cn ix = some (kd, np, y)) : sx_PM y ∧ Cond.initialized y.1.cls ∈ lw_good ∧ Cond.code y.1 y.2.1 y.2.2.1 y.2.2.2.1 ∈ lw_good ∧ (y.1.cls ≠ "java/lang/invoke/MethodHandle" ∧ y.1.cls ≠ "java/lang/invoke/VarHandle") ∧
    ((kd = 0 ∧ Cond.methodLink (sx_cls cn) ix y.1 ∈ lw_good ∧ Cond.static y.1 ∈ lw_good ∧ (parseMethodDescriptor y.1.desc).map (fun d => d.parameters.length) = some np) ∨
     (kd = 1 ∧ Cond.methodLink (sx_cls cn) ix y.1 ∈ lw_good ∧ Cond.instanceMethod y.1 ∈ lw_good ∧ Cond.selects y.1.cls y.1 y.1 ∈ lw_good ∧ (parseMethodDescriptor y.1.desc).map (fun d => d.parameters.length) = some (np - 1) ∧ 1 ≤ np ∧ (y.2.2.2.2.1 < 5 ∨ y.2.2.2.2.1 = 6)) ∨
     (kd = 2 ∧ Cond.static y.1 ∈ lw_good ∧ (parseMethodDescriptor y.1.desc).map (fun d => d.parameters.length) = some np ∧ ((cn = 0 ∧ ix = 43 ∧ y.1 = yX3_heartAs) ∨ (cn = 0 ∧ ix = 68 ∧ y.1 = yX3_mixing)))) := by
  unfold sx_ml at h
  obtain ⟨e, he, hh⟩ := Option.map_eq_some_iff.mp h
  have h1 := List.find?_some he
  simp only [beq_iff_eq] at h1
  obtain ⟨h2, hcode⟩ := sx_mlT_ok (List.mem_of_find?_eq_some he)
  obtain ⟨e1, e2, e3, e4, e5⟩ := e
  dsimp only at h1
  subst h1
  cases hh
  unfold sx_mlC at h2
  simp only [Bool.and_eq_true, decide_eq_true_eq] at h2
  obtain ⟨⟨⟨⟨q1, q2⟩, q3⟩, q5, q6⟩, h3⟩ := h2
  refine ⟨⟨q1, q2⟩, sx_at_ok q3, List.mem_filter.mpr ⟨List.mem_of_getElem? hcode, sx_gcode _ _ _ _⟩, ⟨q5, q6⟩, ?_⟩
  rcases e2 with _ | _ | _ | e2
  · simp only [Bool.and_eq_true, decide_eq_true_eq] at h3
    exact Or.inl ⟨rfl, sx_at_ok h3.1.1, sx_at_ok h3.1.2, h3.2⟩
  · simp only [Bool.and_eq_true, decide_eq_true_eq] at h3
    exact Or.inr (Or.inl ⟨rfl, sx_at_ok h3.1.1.1, sx_at_ok h3.1.1.2, sx_at_ok h3.1.2, h3.2.1, h3.2.2.1, h3.2.2.2⟩)
  · simp only [Bool.and_eq_true, decide_eq_true_eq] at h3
    exact Or.inr (Or.inr ⟨rfl, sx_at_ok h3.1.1, h3.1.2, h3.2⟩)
  · simp at h3
def sx_rm (y : sx_M) : Room := { frames := y.2.2.2.2.2.1, cells := 0, slots := 0, locals := y.2.2.2.2.2.2.1 }
def sx_wd (y : sx_M) : List Cond := .code y.1 y.2.1 y.2.2.1 y.2.2.2.1 :: lw_good
theorem sx_goodIn {y : sx_M} (h : Cond.code y.1 y.2.1 y.2.2.1 y.2.2.2.1 ∈ lw_good) : GoodIn lw_good (sx_wd y) := fun w hw => by
  have hg : w ∈ lw_good := by
    rcases List.mem_cons.mp hw with rfl | h1
    · exact h
    · exact h1
  exact ⟨hg, good_of_word (sx_good_good hg)⟩
/-- a method's locals at its start -/
def sx_fm (as : List Value) : sx_L := as.flatMap (fun v => match v with | .long _ => [some v, (none : Option Value)] | _ => [some v])
section SXN
variable {η : Nat → Nat} {vF : Value} {D : va_G} {cI cJ cS : ClassId} {B : Nat → Prop} {G : sx_G}
theorem sx_fm_ok (hF : vF.category = 1) : ∀ (as : List Value), (∀ z, some (.double z) ∉ sx_fm as) → (sx_fm as).length = (lg_sl (as.map (sx_cv η vF))).length ∧ ∀ (i : Nat) (v : Value), (sx_fm as)[i]? = some (some v) → (lg_sl (as.map (sx_cv η vF)))[i]? = some (.val (sx_cv η vF v)) := by
  intro as
  induction as with
  | nil => intro _; exact ⟨rfl, fun i v h => by simp [sx_fm] at h⟩
  | cons a as ih =>
    intro hd
    have key1 : ∀ a : Value, a.category = 1 → sx_fm (a :: as) = some a :: sx_fm as := by
      intro a ha
      cases a <;> first | rfl | (exact absurd ha (by simp [Value.category]))
      all_goals rfl
    rcases lv_cat a with hc | hc
    · have e1 := key1 a hc
      have e2 : lg_sl ((a :: as).map (sx_cv η vF)) = .val (sx_cv η vF a) :: lg_sl (as.map (sx_cv η vF)) := by
        have : (sx_cv η vF a).category = 1 := by rw [sx_cv_cat hF]; exact hc
        simp [lg_sl, this]
      obtain ⟨h1, h2⟩ := ih (fun z hz => hd z (by rw [e1]; exact List.mem_cons_of_mem _ hz))
      rw [e1, e2]
      refine ⟨by simp [h1], fun i v h => ?_⟩
      cases i with
      | zero => simp at h; subst h; rfl
      | succ i => rw [List.getElem?_cons_succ] at h ⊢; exact h2 i v h
    · cases a with
      | long z =>
        have e1 : sx_fm (.long z :: as) = some (.long z) :: none :: sx_fm as := rfl
        have e2 : lg_sl ((Value.long z :: as).map (sx_cv η vF)) = .val (.long z) :: .second :: lg_sl (as.map (sx_cv η vF)) := by
          simp [lg_sl, sx_cv, Value.category]
        obtain ⟨h1, h2⟩ := ih (fun z hz => hd z (by rw [e1]; exact List.mem_cons_of_mem _ (List.mem_cons_of_mem _ hz)))
        rw [e1, e2]
        refine ⟨by simp [h1], fun i v h => ?_⟩
        rcases i with _ | _ | i
        · simp at h; subst h; rfl
        · simp at h
        · rw [List.getElem?_cons_succ, List.getElem?_cons_succ] at h ⊢; exact h2 i v h
      | double z => exact absurd (List.mem_cons_self) (hd z)
      | int z => simp [Value.category] at hc
      | float z => simp [Value.category] at hc
      | null => simp [Value.category] at hc
      | ref z => simp [Value.category] at hc
      | retAddr z => simp [Value.category] at hc
theorem sx_ent_eq (y : sx_M) (as : List Value) : sx_ent y as = sx_fm as ++ List.replicate (y.2.2.1 - (sx_fm as).length) none := rfl
theorem sx_ent_lv (hF : vF.category = 1) {y : sx_M} {as : List Value} (h : sx_eok y as = true) : sx_lv η vF y.2.2.2.2.2.2.2 y.2.2.1 (sx_ent y as) (lg_sl (as.map (sx_cv η vF)) ++ List.replicate (y.2.2.1 - (lg_sl (as.map (sx_cv η vF))).length) Slot.unset).toArray := by
  have h0 : (sx_fm as).length ≤ y.2.2.1 ∧ ∀ q ∈ (sx_ent y as).zipIdx, (match q.1 with | some (.long _) => y.2.2.2.2.2.2.2.contains q.2 | some (.double _) => false | _ => true) = true := by
    unfold sx_eok at h
    simp only [Bool.and_eq_true, decide_eq_true_eq, List.all_eq_true] at h
    exact h
  obtain ⟨hlen, hall⟩ := h0
  have hin : ∀ (i : Nat) (o : Option Value), (sx_ent y as)[i]? = some o → (o, i) ∈ (sx_ent y as).zipIdx := by
    intro i o hi
    refine List.mem_of_getElem? (i := i) ?_
    rw [List.getElem?_zipIdx, hi]
    simp
  have hfm : ∀ (i : Nat) (v : Value), (sx_ent y as)[i]? = some (some v) → (sx_fm as)[i]? = some (some v) := by
    intro i v hi
    rw [sx_ent_eq] at hi
    by_cases hl : i < (sx_fm as).length
    · rw [List.getElem?_append_left hl] at hi; exact hi
    · rw [List.getElem?_append_right (by omega), List.getElem?_replicate] at hi
      split at hi
      · cases hi
      · cases hi
  have hnd : ∀ z, some (Value.double z) ∉ sx_fm as := by
    intro z hz
    obtain ⟨i, hi⟩ := List.getElem?_of_mem hz
    have hi' : (sx_ent y as)[i]? = some (some (.double z)) := by
      rw [sx_ent_eq, List.getElem?_append_left (List.getElem?_eq_some_iff.mp hi).1]
      exact hi
    have := hall _ (hin i _ hi')
    simp at this
  obtain ⟨h1, h2⟩ := sx_fm_ok (η := η) (vF := vF) hF as hnd
  have he := lv_entry (as.map (sx_cv η vF)) (n := y.2.2.1) (by rw [← h1]; exact hlen)
  refine ⟨he.1, he.2.1, fun i v hi => ?_, fun i v hi hc => ?_⟩
  · have h3 := h2 i v (hfm i v hi)
    have hl := (List.getElem?_eq_some_iff.mp h3).1
    rw [List.getElem?_toArray, List.getElem?_append_left hl]
    exact h3
  · have h3 := hall _ (hin i _ hi)
    cases v with
    | long z => simpa using h3
    | double z => simp at h3
    | int z => simp [Value.category] at hc
    | float z => simp [Value.category] at hc
    | null => simp [Value.category] at hc
    | ref z => simp [Value.category] at hc
    | retAddr z => simp [Value.category] at hc
/-- a method's end -/
def sx_Qc (η : Nat → Nat) (vF : Value) (D : va_G) (cI cJ cS : ClassId) (B : Nat → Prop) (r : List Value) (A : sx_A) (Z : sx_Z) : Array Value → State → Outcome → State → Prop := fun _ st oc t => (∃ o : Option Value, oc = .returned o ∧ o.toList = r.map (sx_cv η vF) ∧ va_P D vwCl (sx_ws η cI cJ cS A Z) t.heap) ∧ va_F B st t
theorem sx_callW {p : Program} {l : Launch} {e : Env} {R : Room} {s : State} {m : MethodId} {args : Array Value} {below : List Frame} {meth : Method} {c : Code} {H : Heap} {locs : List Loc} {cells slots pc : Nat} {ls : Array Slot} {Q : State → Prop} {st0 rest : List Value} {a : Array Value} {r : List Value} {A : sx_A} {Z : sx_Z}
    (hr : va_Run p l e R s m args below meth c H locs cells slots 0 0 (F0 m pc ls st0) rest (sx_Qc η vF D cI cJ cS B r A Z a) B) (hS : va_S B s.heap H locs)
    (kk : ∀ (H1 : Heap) (locs1 : List Loc), va_P D vwCl (sx_ws η cI cJ cS A Z) H1 → va_S B s.heap H1 locs1 → W p l e R s m args below meth c H1 locs1 cells slots Q (F0 m (pc + 3) ls (r.map (sx_cv η vF) ++ rest))) : W p l e R s m args below meth c H locs cells slots Q (F0 m pc ls st0) := by
  intro T hT X
  obtain ⟨v, st₀, t, T', L, h0, X', hL, e1, e2, ⟨⟨o, hv, ho, hp⟩, hz, hk⟩, st⟩ := hr T hT X
  cases hv
  rw [h0] at hz hk
  have kk' := kk T'.heap (locs ++ L) (by rw [e1]; exact hp) ⟨Nat.le_trans hS.1 (by rw [e1]; exact hz), fun q h1 h2 => by rw [e1, hk q (Nat.lt_of_lt_of_le h1 hS.1) h2]; exact hS.2.1 q h1 h2, fun q hq => by
    rcases List.mem_append.mp hq with h | h
    · exact hS.2.2 q h
    · exact hL q h⟩
  rw [← ho] at kk'
  obtain ⟨t2, a1, b1⟩ := kk' T' rfl X'
  exact ⟨t2, st t2 a1, b1⟩
/-- what the pure run says of the machine -/
def sx_Snd (l : Launch) (η : Nat → Nat) (vF : Value) (D : va_G) (cI cJ cS : ClassId) (B : Nat → Prop) (G : sx_G) (n : Nat) : Prop := ∀ (y : sx_M) (pc : Nat) (L : sx_L) (st : List Value) (A : sx_A) (Z : sx_Z) (r : List Value) (A' : sx_A) (Z' : sx_Z), sx_run G n y pc L st A Z = some (r, A', Z') →
  ∀ (p : Program) (e : Env) (R : Room) (s : State) (m : MethodId) (args : Array Value) (below : List Frame) (meth : Method) (c : Code) (H : Heap) (locs : List Loc) (cells slots : Nat) (ls : Array Slot) (Zf : State → Prop), p.tables.exec = Jvm.exec → c.code = y.2.1 → c.maxLocals = y.2.2.1 → s.vm.findClass (sx_cls y.2.2.2.2.1) = some m.cls → (∀ w ∈ lw_good, w.before args s = true) → sx_Cx η vF D cI cJ cS B G s → (y.2.2.2.2.2.1 ≤ R.frames ∧ y.2.2.2.2.2.2.1 ≤ R.locals) → (cells ≤ R.cells ∧ slots ≤ R.slots) →
  va_S B s.heap H locs → va_P D vwCl (sx_ws η cI cJ cS A Z) H → va_D B (sx_ws η cI cJ cS A Z) → sx_lv η vF y.2.2.2.2.2.2.2 y.2.2.1 L ls →
  (∀ (H : Heap) (locs : List Loc) (ls : Array Slot) (pc : Nat) (i : Instr), decode y.2.1 pc = .ok (i, 1) → sx_ret y i r = some r → va_P D vwCl (sx_ws η cI cJ cS A' Z') H → va_S B s.heap H locs → W p l e R s m args below meth c H locs cells slots Zf (F0 m pc ls (r.map (sx_cv η vF)))) →
  W p l e R s m args below meth c H locs cells slots Zf (F0 m pc ls (st.map (sx_cv η vF)))
theorem sx_D_any {A A' : sx_A} {Z Z' : sx_Z} (h : va_D B (sx_ws η cI cJ cS A Z)) : va_D B (sx_ws η cI cJ cS A' Z') := by
  have key : ∀ (k : Nat) (q : Nat × va_E), (sx_ws η cI cJ cS A' Z')[k]? = some q → ∃ q0, (sx_ws η cI cJ cS A Z)[k]? = some q0 ∧ q0.1 = q.1 := by
    intro k q hk
    have hl : k < 50 := by
      have := (List.getElem?_eq_some_iff.mp hk).1
      simpa [sx_ws] using this
    rw [sx_ws_at hl] at hk
    cases hk
    exact ⟨_, sx_ws_at hl, rfl⟩
  refine ⟨fun i j x y hi hj hxy => ?_, fun k q hk => ?_⟩
  · obtain ⟨x0, h1, h2⟩ := key i x hi
    obtain ⟨y0, h3, h4⟩ := key j y hj
    exact h.1 i j x0 y0 h1 h3 (h2.trans (hxy.trans h4.symm))
  · obtain ⟨q0, h1, h2⟩ := key k q hk
    rw [← h2]
    exact h.2 k q0 h1
theorem sx_ret_r {y : sx_M} {i : Instr} {st r : List Value} (h : sx_ret y i st = some r) : st = r ∧ sx_ln i = 1 := by
  unfold sx_ret at h
  split at h
  · split at h
    · obtain ⟨-, e⟩ := sx_if_ok h; exact ⟨e, rfl⟩
    · cases h
  · split at h
    · cases h; exact ⟨rfl, rfl⟩
    · cases h
  · split at h
    · cases h; exact ⟨rfl, rfl⟩
    · cases h
  · split at h
    · cases h; exact ⟨rfl, rfl⟩
    · cases h
  · cases h
theorem sx_met {l : Launch} (hF : vF.category = 1) {n : Nat} (IH : sx_Snd l η vF D cI cJ cS B G n) {y : sx_M} (hPM : sx_PM y) {as r : List Value} {A A' : sx_A} {Z Z' : sx_Z} (he : sx_eok y as = true) (hrun : sx_run G n y 0 (sx_ent y as) [] A Z = some (r, A', Z')) (hD : va_D B (sx_ws η cI cJ cS A Z)) :
    Met l y.1 (sx_wd y) (sx_rm y) (va_Pc (as.map (sx_cv η vF)) (fun U => sx_Cx η vF D cI cJ cS B G U ∧ va_P D vwCl (sx_ws η cI cJ cS A Z) U.heap)) (sx_Qc η vF D cI cJ cS B r A' Z') 0 0 B := by
  refine Met.ofW (cc := y.2.1) (maxL := y.2.2.1) (ret := y.2.2.2.1) hPM.1 rfl ?_
  intro p e s m args below meth c s₁ Bd hml hv
  obtain ⟨rfl, hcx, hP⟩ := hv
  have hx := Bd.exec
  have hb := Bd.bytes
  have hr := Bd.returns
  have hlocks := Bd.notSynchronized
  have hts0 := atoms_spec (ws := sx_wd y) Bd.pre
  have hts : ∀ w ∈ lw_good, w.before (as.map (sx_cv η vF)).toArray s = true := fun w hw => hts0 w (List.mem_cons_of_mem _ hw)
  have hown : s.vm.findClass (sx_cls y.2.2.2.2.1) = some m.cls := by rw [hPM.2]; exact findClass_of_methodNamed Bd.named
  rw [lg_entry_eq]
  refine IH y 0 _ [] A Z r A' Z' hrun p e _ s m _ below meth c s.heap [] 0 0 _ _ hx hb hml hown hts hcx ⟨Nat.le_refl _, Nat.le_refl _⟩ ⟨Nat.zero_le _, Nat.zero_le _⟩ va_S.rf hP hD (sx_ent_lv hF he) ?_
  intro H locs ls pc i hd hret hP' hS'
  have hq : ∀ o : Option Value, o.toList = r.map (sx_cv η vF) → ∀ t : State, t.heap = H → s.WarmedH t.vm → sx_Qc η vF D cI cJ cS B r A' Z' (as.map (sx_cv η vF)).toArray s (.returned o) t := fun o ho t ht _ => ⟨⟨o, rfl, ho, by rw [ht]; exact hP'⟩, hS'.F ht⟩
  unfold sx_ret at hret
  split at hret
  · rename_i v
    split at hret
    · rename_i ty hty
      obtain ⟨hn, -⟩ := sx_if_ok hret
      exact W.zret hx hb (hr.trans hty) hn (hq (some (.int v)) rfl) hS'.2.2 hd
    · cases hret
  · rename_i v
    split at hret
    · rename_i hty
      exact W.lret hx hb (hr.trans hty) (hq (some (.long v)) rfl) hS'.2.2 hd
    · cases hret
  · split at hret
    · rename_i hty
      exact W.vret hx hb (hr.trans hty) (hq none rfl) hS'.2.2 hd
    · cases hret
  · rename_i v
    split at hret
    · rename_i C hty
      exact W.aret hx hb (hr.trans hty) (Or.inl ⟨_, rfl⟩) (Or.inr ⟨_, rfl⟩) (hq (some (.ref (η v))) rfl) hS'.2.2 hd
    · cases hret
  · cases hret
theorem sx_blind {as : List Value} {A : sx_A} {Z : sx_Z} : FrameBlind (va_Pc (as.map (sx_cv η vF)) (fun U => sx_Cx η vF D cI cJ cS B G U ∧ va_P D vwCl (sx_ws η cI cJ cS A Z) U.heap)) := fun a U g mk q => ⟨q.1, sx_Cx_same (u := U) (U := U.calling g mk a) rfl rfl q.2.1, q.2.2⟩
set_option maxHeartbeats 4000000 in
theorem sx_inv_ok {l : Launch} (hF : vF.category = 1) {n : Nat} (IH : sx_Snd l η vF D cI cJ cS B G n) {p : Program} {e : Env} {R : Room} {s : State} {m : MethodId} {args : Array Value} {below : List Frame} {meth : Method} {c : Code} {H : Heap} {locs : List Loc} {cells slots pc : Nat} {ls : Array Slot} {Q : State → Prop} {y y' : sx_M} {i : Instr} {st as rs r : List Value} {A A' : sx_A} {Z Z' : sx_Z}
    (hx : p.tables.exec = Jvm.exec) (hb : c.code = y.2.1) (hml : c.maxLocals = y.2.2.1) (hls : ls.size = y.2.2.1) (hown : s.vm.findClass (sx_cls y.2.2.2.2.1) = some m.cls) (hts : ∀ w ∈ lw_good, w.before args s = true) (hcx : sx_Cx η vF D cI cJ cS B G s) (hR : y.2.2.2.2.2.1 ≤ R.frames ∧ y.2.2.2.2.2.2.1 ≤ R.locals) (hcs : cells ≤ R.cells ∧ slots ≤ R.slots)
    (hS : va_S B s.heap H locs) (hP : va_P D vwCl (sx_ws η cI cJ cS A Z) H) (hD : va_D B (sx_ws η cI cJ cS A Z)) (hd : decode y.2.1 pc = .ok (i, sx_ln i)) (h : sx_inv y i st = some (y', as, rs)) (he : (sx_eok y' as && sx_rok i as y') = true) (hrun : sx_run G n y' 0 (sx_ent y' as) [] A Z = some (r, A', Z'))
    (kk : ∀ (H1 : Heap) (locs1 : List Loc), va_P D vwCl (sx_ws η cI cJ cS A' Z') H1 → va_S B s.heap H1 locs1 → W p l e R s m args below meth c H1 locs1 cells slots Q (F0 m (pc + sx_ln i) ls ((r ++ rs).map (sx_cv η vF)))) : W p l e R s m args below meth c H locs cells slots Q (F0 m pc ls (st.map (sx_cv η vF))) := by
  rw [Bool.and_eq_true] at he
  obtain ⟨heok, hrok⟩ := he
  have pre : ∀ U : State, U.heap = H → s.WarmedH U.vm → va_Pc (as.map (sx_cv η vF)) (fun U => sx_Cx η vF D cI cJ cS B G U ∧ va_P D vwCl (sx_ws η cI cJ cS A Z) U.heap) (as.map (sx_cv η vF)).toArray U := fun U hU hW => ⟨rfl, sx_Cx_moved hW (fun a h1 h2 => by rw [hU]; exact hS.2.1 a h1 h2) hcx, by rw [hU]; exact hP⟩
  unfold sx_inv at h
  split at h
  · rename_i ix b hib
    cases hm : sx_ml y.2.2.2.2.1 ix with
    | none => rw [hm] at h; cases h
    | some q =>
      obtain ⟨kd, np, y2⟩ := q
      rw [hm] at h
      dsimp only at h
      split at h
      · rename_i hcond
        obtain ⟨⟨hkb, hfr, hlc⟩, hnp, hrs4⟩ := hcond
        simp only [Option.some.injEq, Prod.mk.injEq] at h
        obtain ⟨rfl, has, hrs⟩ := h
        obtain ⟨hPM, hini, hcode, hmh, hkd⟩ := sx_ml_ok hm
        have hMet := sx_met (l := l) hF IH hPM heok hrun hD
        have hsum := sx_lenSum (η := η) (vF := vF) hrs4
        have hfit : (sx_rm y2).frames + 1 ≤ R.frames ∧ 8 + (y2.2.2.1 + 11) + (sx_rm y2).locals ≤ R.locals := ⟨Nat.le_trans hfr hR.1, Nat.le_trans hlc hR.2⟩
        have hlen : as.length = np := by rw [← has, List.length_reverse, List.length_take]; omega
        have hst : st.map (sx_cv η vF) = (as.map (sx_cv η vF)).reverse ++ rs.map (sx_cv η vF) := by
          rw [← has, ← hrs, List.map_reverse, List.reverse_reverse, ← List.map_append, List.take_append_drop]
        have kk2 : ∀ (H1 : Heap) (locs1 : List Loc), va_P D vwCl (sx_ws η cI cJ cS A' Z') H1 → va_S B s.heap H1 locs1 → sx_ln i = 3 → W p l e R s m args below meth c H1 locs1 cells slots Q (F0 m (pc + 3) ls (r.map (sx_cv η vF) ++ rs.map (sx_cv η vF))) := fun H1 locs1 h1 h2 h3 => by
          have := kk H1 locs1 h1 h2
          rw [h3, List.map_append] at this
          exact this
        rw [← hrs] at hst kk2
        have hroom : 2 * (F0 m pc ls (st.map (sx_cv η vF))).monitorRoom + (((st.drop np).map (sx_cv η vF)).map fun v => v.category).sum ≤ 8 := by show 2 * 0 + _ ≤ 8; omega
        rcases hkd with ⟨rfl, hlk, hsta, hpar⟩ | ⟨rfl, hlk, hinst, hsel, hpar, hnp1, hcn⟩ | ⟨rfl, hsta, hpar, hnest⟩
        · have hi : i = .invokestatic ix := by
            split at hib
            · cases hib; rfl
            · cases hib; simp at hkb
            · cases hib
          subst hi
          refine sx_callW (va_runS (As := as.map (sx_cv η vF)) (rest := (st.drop np).map (sx_cv η vF)) ⟨hx, hb, hml, hown, hts⟩ hMet ⟨callB_of np hts (sx_goodIn hcode) rfl rfl rfl (hts _ hini) (hts _ hlk) ⟨hmh.1, hmh.2, hpar⟩ hfit, hts _ hsta⟩ ⟨sx_blind, pre⟩ rfl (by rw [List.length_map]; exact hlen) hls hst hroom hd ⟨hcs.1, hcs.2⟩) hS (fun H1 locs1 h1 h2 => kk2 H1 locs1 h1 h2 rfl)
        · have hi : i = .invokevirtual ix := by
            split at hib
            · cases hib; simp at hkb
            · cases hib; rfl
            · cases hib
          subst hi
          cases has' : as with
          | nil => rw [has'] at hlen; simp at hlen; omega
          | cons a0 as0 =>
            rw [has'] at hrok
            cases a0 with
            | ref k0 =>
              have hk0 : sx_kd k0 = sx_kcl y2.2.2.2.2.1 := of_decide_eq_true hrok
              have hst2 : st.map (sx_cv η vF) = (as0.map (sx_cv η vF)).reverse ++ .ref (η k0) :: (st.drop np).map (sx_cv η vF) := by
                rw [hst, has']
                simp [sx_cv]
              have hrecv : ∃ cellB : Cell, H[η k0]? = some cellB ∧ cellB.vm.isStatics = false ∧ s.vm.findClass y2.1.cls = some cellB.cls := by
                rcases hcn with hc5 | hc6
                · have hkd5 : sx_kd k0 = y2.2.2.2.2.1 := by rw [hk0]; unfold sx_kcl; rw [if_neg (by omega)]
                  have hl := sx_kd_lt hkd5 hc5
                  have hat := sx_ws_at (η := η) (cI := cI) (cJ := cJ) (cS := cS) (A := A) (Z := Z) hl
                  rw [sx_cellO hkd5 hc5] at hat
                  obtain ⟨C, T, N, ty0, hcl, -, -, -, hC⟩ := sx_cls5 hc5
                  have := va_recv hcx.1 hP hcl hat
                  rw [← hPM.2, ← hC]
                  exact this
                · have hk20 : sx_kd k0 = 20 := by rw [hk0, hc6]; rfl
                  obtain ⟨i0, hi0, rfl⟩ := sx_frS hk20
                  have hC : y2.1.cls = "java/lang/String" := by rw [← hPM.2, hc6]; rfl
                  rw [hC]
                  exact vk_recv (i := i0) hcx.2.2.2.2.2.2.1 hi0 hS
              rw [has'] at pre hMet
              refine sx_callW (va_runV (As := as0.map (sx_cv η vF)) (b := η k0) (C := y2.1.cls) (rest := (st.drop np).map (sx_cv η vF)) ⟨hx, hb, hml, hown, hts⟩ hMet ⟨callB_of (np - 1) hts (sx_goodIn hcode) rfl rfl rfl (hts _ hini) (hts _ hlk) ⟨hmh.1, hmh.2, hpar⟩ hfit, hts _ hinst, hts _ hsel⟩ ⟨sx_blind, hrecv, pre⟩ rfl (by rw [List.length_map]; rw [has'] at hlen; simp at hlen; omega) hls hst2 hroom hd ⟨hcs.1, hcs.2⟩) hS (fun H1 locs1 h1 h2 => kk2 H1 locs1 h1 h2 rfl)
            | int z => simp [sx_rok] at hrok
            | long z => simp [sx_rok] at hrok
            | float z => simp [sx_rok] at hrok
            | double z => simp [sx_rok] at hrok
            | null => simp [sx_rok] at hrok
            | retAddr z => simp [sx_rok] at hrok
        · have hi : i = .invokestatic ix := by
            split at hib
            · cases hib; rfl
            · cases hib; simp at hkb
            · cases hib
          subst hi
          have hnw : va_Nw (.methodLinkNest (sx_cls y.2.2.2.2.1) ix y2.1 RX3) s := by
            rcases hnest with ⟨h1, h2, h3⟩ | ⟨h1, h2, h3⟩
            · rw [h1, h2, h3]; exact hcx.2.2.2.2.2.2.2.2.1
            · rw [h1, h2, h3]; exact hcx.2.2.2.2.2.2.2.2.2
          refine sx_callW (va_runSN (As := as.map (sx_cv η vF)) (host := RX3) (rest := (st.drop np).map (sx_cv η vF)) ⟨hx, hb, hml, hown, hts⟩ hMet ⟨va_cnB np hts (sx_goodIn hcode) rfl rfl rfl hnw (hts _ hini) ⟨hmh.1, hmh.2, hpar⟩ hfit, hts _ hsta, trivial⟩ ⟨sx_blind, pre⟩ rfl (by rw [List.length_map]; exact hlen) hls hst hroom hd ⟨hcs.1, hcs.2⟩) hS (fun H1 locs1 h1 h2 => kk2 H1 locs1 h1 h2 rfl)
      · cases h
  · cases h
end SXN
