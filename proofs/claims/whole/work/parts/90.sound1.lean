/-! THE PURE MACHINE IS THE MACHINE, part 1: words, stacks, locals, branches -/
def lw_good : List Cond := lw_tbl.filter goodWord
def sx_at (i : Nat) (w : Cond) : Bool := decide (lw_tbl[i]? = some w) && goodWord w
theorem sx_at_ok {i : Nat} {w : Cond} (h : sx_at i w = true) : w ∈ lw_good := by
  simp only [sx_at, Bool.and_eq_true, decide_eq_true_eq] at h
  exact List.mem_filter.mpr ⟨List.mem_of_getElem? h.1, h.2⟩
theorem sx_good_tbl {w : Cond} (h : w ∈ lw_good) : w ∈ lw_tbl := (List.mem_filter.mp h).1
theorem sx_good_good {w : Cond} (h : w ∈ lw_good) : goodWord w = true := (List.mem_filter.mp h).2
set_option maxRecDepth 100000 in
theorem sx_ilT_ok : sx_ilT.all (fun e => sx_at e.2.2.2 (.constant (sx_cls e.1) e.2.1 e.2.2.1)) = true := by decide +kernel
set_option maxRecDepth 100000 in
theorem sx_llT_ok : sx_llT.all (fun e => sx_at e.2.2.2 (.constantLong (sx_cls e.1) e.2.1 e.2.2.1)) = true := by decide +kernel
theorem sx_il_ok {cn ix : Nat} {v : Int32} (h : sx_il cn ix = some v) : Cond.constant (sx_cls cn) ix v ∈ lw_good := by
  unfold sx_il at h
  obtain ⟨e, he, rfl⟩ := Option.map_eq_some_iff.mp h
  have h1 := List.find?_some he
  simp only [Bool.and_eq_true, beq_iff_eq] at h1
  have h2 := List.all_eq_true.mp sx_ilT_ok e (List.mem_of_find?_eq_some he)
  rw [← h1.1, ← h1.2]
  exact sx_at_ok h2
theorem sx_ll_ok {cn ix : Nat} {v : Int64} (h : sx_ll cn ix = some v) : Cond.constantLong (sx_cls cn) ix v ∈ lw_good := by
  unfold sx_ll at h
  obtain ⟨e, he, rfl⟩ := Option.map_eq_some_iff.mp h
  have h1 := List.find?_some he
  simp only [Bool.and_eq_true, beq_iff_eq] at h1
  have h2 := List.all_eq_true.mp sx_llT_ok e (List.mem_of_find?_eq_some he)
  rw [← h1.1, ← h1.2]
  exact sx_at_ok h2
/-- an abstract value's own -/
def sx_cv (η : Nat → Nat) (vF : Value) : Value → Value
  | .ref k => .ref (η k)
  | .retAddr _ => vF
  | v => v
theorem sx_cv_cat {η : Nat → Nat} {vF : Value} (hF : vF.category = 1) (v : Value) : (sx_cv η vF v).category = v.category := by
  cases v <;> first | rfl | exact hF
section SXW
variable {p : Program} {l : Launch} {e : Env} {R : Room} {s : State} {m : MethodId} {args : Array Value} {below : List Frame} {meth : Method} {c : Code} {H : Heap} {locs : List Loc} {cells slots : Nat} {Q : State → Prop}
variable {cc : ByteArray} {pc : Nat} {ls : Array Slot} {η : Nat → Nat} {vF : Value}
set_option maxHeartbeats 4000000 in
theorem sx_stk_ok (hx : p.tables.exec = Jvm.exec) (hb : c.code = cc) {cn : Nat} (hown : s.vm.findClass (sx_cls cn) = some m.cls) (hts : ∀ w ∈ lw_good, w.before args s = true) (hstr : ∀ ix k, sx_sl cn ix = some k → ∃ tx, vk_R (sx_cls cn) ix tx (η k) s) {i : Instr} {st st' : List Value} (hd : decode cc pc = .ok (i, sx_ln i)) (h : sx_stk cn i st = some st')
    (k : W p l e R s m args below meth c H locs cells slots Q (F0 m (pc + sx_ln i) ls (st'.map (sx_cv η vF)))) : W p l e R s m args below meth c H locs cells slots Q (F0 m pc ls (st.map (sx_cv η vF))) := by
  unfold sx_stk at h
  split at h
  · cases h; exact lv_iconst hx hb hd rfl k
  · cases h; exact lv_bipush hx hb hd rfl k
  · cases h; exact lv_sipush hx hb hd rfl k
  · cases h; exact lv_lconst hx hb hd rfl k
  · rename_i ix
    cases h1 : sx_il cn ix with
    | some v => rw [h1] at h; cases h; exact lv_ldc hx hb hown (hts _ (sx_il_ok h1)) hd k
    | none =>
      rw [h1] at h
      cases h2 : sx_sl cn ix with
      | none => rw [h2] at h; cases h
      | some q =>
        rw [h2] at h
        cases h
        obtain ⟨tx, htx⟩ := hstr _ _ h2
        exact va_ldcS hx hb hown htx hd k
  · rename_i ix
    cases h1 : sx_il cn ix with
    | some v => rw [h1] at h; cases h; exact lv_ldcw hx hb hown (hts _ (sx_il_ok h1)) hd k
    | none => rw [h1] at h; cases h
  · rename_i ix
    cases h1 : sx_ll cn ix with
    | some v => rw [h1] at h; cases h; exact lv_ldc2 hx hb hown (hts _ (sx_ll_ok h1)) hd k
    | none => rw [h1] at h; cases h
  · cases h; exact lv_iadd hx hb hd k
  · cases h; exact lv_isub hx hb hd k
  · cases h; exact lv_imul hx hb hd k
  · cases h; exact lv_iand hx hb hd k
  · cases h; exact lv_ior hx hb hd k
  · cases h; exact lv_ixor hx hb hd k
  · split at h
    · cases h
    · rename_i hz; cases h; exact lv_idiv hx hb hd hz k
  · split at h
    · cases h
    · rename_i hz; cases h; exact lv_irem hx hb hd hz k
  · cases h; exact lv_ineg hx hb hd k
  · cases h; exact lv_ishl hx hb hd k
  · cases h; exact lv_ishr hx hb hd k
  · cases h; exact lv_iushr hx hb hd rfl k
  · cases h; exact lv_ladd hx hb hd k
  · cases h; exact lv_lmul hx hb hd k
  · cases h; exact lv_land hx hb hd k
  · cases h; exact lv_lor hx hb hd k
  · cases h; exact lv_lshl hx hb hd rfl k
  · cases h; exact W.lcmp hx hb hd k
  · cases h; exact lv_i2l hx hb hd rfl k
  · cases h; exact lv_l2i hx hb hd rfl k
  · cases h; exact lv_i2b hx hb hd rfl k
  · cases h; exact lv_i2s hx hb hd rfl k
  · cases h; exact lv_i2c hx hb hd rfl k
  · cases h; exact lv_dup hx hb hd rfl k
  · cases h; exact lv_dup hx hb hd rfl k
  · cases h; exact lv_dup2_11 hx hb hd rfl rfl k
  · cases h; exact lv_pop hx hb hd rfl k
  · cases h
/-- the locals -/
def sx_lv (η : Nat → Nat) (vF : Value) (lg : List Nat) (mx : Nat) (L : sx_L) (ls : Array Slot) : Prop := ls.size = mx ∧ lv_wf ls ∧ (∀ (i : Nat) (v : Value), L[i]? = some (some v) → ls[i]? = some (.val (sx_cv η vF v))) ∧ ∀ (i : Nat) (v : Value), L[i]? = some (some v) → v.category = 2 → i ∈ lg
def sx_as (η : Nat → Nat) (vF : Value) (L : sx_L) : List (Nat × Value) := (List.range L.length).filterMap (fun i => match L[i]? with
  | some (some v) => some (i, sx_cv η vF v)
  | _ => none)
theorem sx_as_mem {L : sx_L} {i : Nat} {v : Value} (h : L[i]? = some (some v)) : (i, sx_cv η vF v) ∈ sx_as η vF L := by
  refine List.mem_filterMap.mpr ⟨i, List.mem_range.mpr (List.getElem?_eq_some_iff.mp h).1, ?_⟩
  rw [h]
theorem sx_as_of {L : sx_L} {q : Nat × Value} (h : q ∈ sx_as η vF L) : ∃ v, L[q.1]? = some (some v) ∧ q.2 = sx_cv η vF v := by
  obtain ⟨i, -, hi⟩ := List.mem_filterMap.mp h
  split at hi
  · rename_i v hv
    cases hi
    exact ⟨v, hv, rfl⟩
  · cases hi
theorem sx_lv_has {lg : List Nat} {mx : Nat} {L : sx_L} (h : sx_lv η vF lg mx L ls) : lv_has ls mx (sx_as η vF L) := ⟨h.1, h.2.1, fun q hq => by
  obtain ⟨v, h1, h2⟩ := sx_as_of hq
  rw [h2]
  exact h.2.2.1 _ _ h1⟩
theorem sx_lv_st1 {lg : List Nat} {mx i : Nat} {L : sx_L} {ls' : Array Slot} {v : Value} (hF : vF.category = 1) (h : sx_lv η vF lg mx L ls) (ho : sx_ok1 lg mx i = true) (hv : v.category = 1) (h' : lv_has ls' mx ((i, sx_cv η vF v) :: (sx_as η vF L).filter (fun q => !(q.1 == i) && !(q.1 + 1 == i && q.2.category == 2)))) : sx_lv η vF lg mx (L.set i (some v)) ls' := by
  simp only [sx_ok1, Bool.and_eq_true, decide_eq_true_eq, List.all_eq_true] at ho
  have key : ∀ (j : Nat) (w : Value), (L.set i (some v))[j]? = some (some w) → (j = i ∧ w = v) ∨ (j ≠ i ∧ L[j]? = some (some w)) := by
    intro j w hj
    by_cases hji : j = i
    · subst hji
      have hl : j < L.length := by
        have := (List.getElem?_eq_some_iff.mp hj).1
        simpa using this
      rw [List.getElem?_set_self hl] at hj
      cases hj
      exact Or.inl ⟨rfl, rfl⟩
    · rw [List.getElem?_set_ne (Ne.symm hji)] at hj
      exact Or.inr ⟨hji, hj⟩
  refine ⟨h'.1, h'.2.1, fun j w hj => ?_, fun j w hj hc => ?_⟩
  · rcases key j w hj with ⟨rfl, rfl⟩ | ⟨hji, hj'⟩
    · exact h'.2.2 _ List.mem_cons_self
    · refine h'.2.2 (j, sx_cv η vF w) (List.mem_cons_of_mem _ (List.mem_filter.mpr ⟨sx_as_mem hj', ?_⟩))
      simp only [Bool.and_eq_true, Bool.not_eq_true', beq_eq_false_iff_ne, ne_eq, Bool.and_eq_false_iff]
      refine ⟨hji, ?_⟩
      by_cases hc : w.category = 2
      · left
        have := ho.2 j (h.2.2.2 j w hj' hc)
        simpa using this
      · right
        rw [sx_cv_cat hF]
        exact hc
  · rcases key j w hj with ⟨rfl, rfl⟩ | ⟨hji, hj'⟩
    · rw [hv] at hc; cases hc
    · exact h.2.2.2 j w hj' hc
theorem sx_lv_st2 {lg : List Nat} {mx i : Nat} {L : sx_L} {ls' : Array Slot} {v : Value} (hF : vF.category = 1) (h : sx_lv η vF lg mx L ls) (ho : sx_ok2 lg mx i = true) (hv : v.category = 2) (h' : lv_has ls' mx ((i, sx_cv η vF v) :: (sx_as η vF L).filter (fun q => !(q.1 == i) && (!(q.1 == i + 1) && !(q.1 + 1 == i && q.2.category == 2))))) : sx_lv η vF lg mx ((L.set i (some v)).set (i + 1) none) ls' := by
  simp only [sx_ok2, Bool.and_eq_true, decide_eq_true_eq, List.all_eq_true, List.contains_iff_mem] at ho
  have key : ∀ (j : Nat) (w : Value), ((L.set i (some v)).set (i + 1) none)[j]? = some (some w) → (j = i ∧ w = v) ∨ ((j ≠ i ∧ j ≠ i + 1) ∧ L[j]? = some (some w)) := by
    intro j w hj
    by_cases hj1 : j = i + 1
    · subst hj1
      have hl : i + 1 < (L.set i (some v)).length := by
        have := (List.getElem?_eq_some_iff.mp hj).1
        simpa using this
      rw [List.getElem?_set_self hl] at hj
      cases hj
    · rw [List.getElem?_set_ne (Ne.symm hj1)] at hj
      by_cases hji : j = i
      · subst hji
        have hl : j < L.length := by
          have := (List.getElem?_eq_some_iff.mp hj).1
          simpa using this
        rw [List.getElem?_set_self hl] at hj
        cases hj
        exact Or.inl ⟨rfl, rfl⟩
      · rw [List.getElem?_set_ne (Ne.symm hji)] at hj
        exact Or.inr ⟨⟨hji, hj1⟩, hj⟩
  refine ⟨h'.1, h'.2.1, fun j w hj => ?_, fun j w hj hc => ?_⟩
  · rcases key j w hj with ⟨rfl, rfl⟩ | ⟨⟨hji, hj1⟩, hj'⟩
    · exact h'.2.2 _ List.mem_cons_self
    · refine h'.2.2 (j, sx_cv η vF w) (List.mem_cons_of_mem _ (List.mem_filter.mpr ⟨sx_as_mem hj', ?_⟩))
      simp only [Bool.and_eq_true, Bool.not_eq_true', beq_eq_false_iff_ne, ne_eq, Bool.and_eq_false_iff]
      refine ⟨hji, hj1, ?_⟩
      by_cases hc : w.category = 2
      · left
        have := ho.2.2 j (h.2.2.2 j w hj' hc)
        simpa using this
      · right
        rw [sx_cv_cat hF]
        exact hc
  · rcases key j w hj with ⟨rfl, rfl⟩ | ⟨-, hj'⟩
    · exact ho.2.1
    · exact h.2.2.2 j w hj' hc
theorem sx_sto1_ok {lg : List Nat} {mx i : Nat} {L L' : sx_L} {v : Value} {st st' : List Value} (h : sx_sto1 lg mx L i v st = some (L', st')) : sx_ok1 lg mx i = true ∧ L' = L.set i (some v) ∧ st' = st := by
  unfold sx_sto1 at h
  cases ho : sx_ok1 lg mx i with
  | false => rw [ho] at h; cases h
  | true => rw [ho] at h; cases h; exact ⟨rfl, rfl, rfl⟩
theorem sx_sto2_ok {lg : List Nat} {mx i : Nat} {L L' : sx_L} {v : Value} {st st' : List Value} (h : sx_sto2 lg mx L i v st = some (L', st')) : sx_ok2 lg mx i = true ∧ L' = (L.set i (some v)).set (i + 1) none ∧ st' = st := by
  unfold sx_sto2 at h
  cases ho : sx_ok2 lg mx i with
  | false => rw [ho] at h; cases h
  | true => rw [ho] at h; cases h; exact ⟨rfl, rfl, rfl⟩
theorem sx_ok1_lt {lg : List Nat} {mx i : Nat} (h : sx_ok1 lg mx i = true) : i < mx := by
  simp only [sx_ok1, Bool.and_eq_true, decide_eq_true_eq] at h
  exact h.1
theorem sx_ok2_lt {lg : List Nat} {mx i : Nat} (h : sx_ok2 lg mx i = true) : i + 1 < mx := by
  simp only [sx_ok2, Bool.and_eq_true, decide_eq_true_eq] at h
  exact h.1
theorem sx_ldI_ok {L L' : sx_L} {i : Nat} {st st' : List Value} (h : sx_ldI L i st = some (L', st')) : ∃ x, L[i]? = some (some (.int x)) ∧ L' = L ∧ st' = .int x :: st := by
  unfold sx_ldI at h
  split at h
  · rename_i x hx; cases h; exact ⟨x, hx, rfl, rfl⟩
  · cases h
theorem sx_ldA_ok {L L' : sx_L} {i : Nat} {st st' : List Value} (h : sx_ldA L i st = some (L', st')) : ∃ x, L[i]? = some (some (.ref x)) ∧ L' = L ∧ st' = .ref x :: st := by
  unfold sx_ldA at h
  split at h
  · rename_i x hx; cases h; exact ⟨x, hx, rfl, rfl⟩
  · cases h
theorem sx_ldL_ok {L L' : sx_L} {i : Nat} {st st' : List Value} (h : sx_ldL L i st = some (L', st')) : ∃ x, L[i]? = some (some (.long x)) ∧ L' = L ∧ st' = .long x :: st := by
  unfold sx_ldL at h
  split at h
  · rename_i x hx; cases h; exact ⟨x, hx, rfl, rfl⟩
  · cases h
set_option maxHeartbeats 4000000 in
theorem sx_loc_ok (hF : vF.category = 1) (hx : p.tables.exec = Jvm.exec) (hb : c.code = cc) {lg : List Nat} {mx : Nat} {L L' : sx_L} {i : Instr} {st st' : List Value} (hl : sx_lv η vF lg mx L ls) (hd : decode cc pc = .ok (i, sx_ln i)) (h : sx_loc lg mx L i st = some (L', st'))
    (k : ∀ ls', sx_lv η vF lg mx L' ls' → W p l e R s m args below meth c H locs cells slots Q (F0 m (pc + sx_ln i) ls' (st'.map (sx_cv η vF)))) : W p l e R s m args below meth c H locs cells slots Q (F0 m pc ls (st.map (sx_cv η vF))) := by
  have hh := sx_lv_has hl
  unfold sx_loc at h
  split at h
  · obtain ⟨x, h1, rfl, rfl⟩ := sx_ldI_ok h; exact lv_iload hx hb hd (hl.2.2.1 _ _ h1) (k ls hl)
  · obtain ⟨x, h1, rfl, rfl⟩ := sx_ldI_ok h; exact lv_iload_n hx hb hd rfl (hl.2.2.1 _ _ h1) (k ls hl)
  · obtain ⟨x, h1, rfl, rfl⟩ := sx_ldA_ok h; exact lv_aload hx hb hd (hl.2.2.1 _ _ h1) (k ls hl)
  · obtain ⟨x, h1, rfl, rfl⟩ := sx_ldA_ok h; exact lv_aload_n hx hb hd rfl (hl.2.2.1 _ _ h1) (k ls hl)
  · obtain ⟨x, h1, rfl, rfl⟩ := sx_ldL_ok h; exact lv_lload hx hb hd (hl.2.2.1 _ _ h1) (k ls hl)
  · obtain ⟨x, h1, rfl, rfl⟩ := sx_ldL_ok h; exact lv_lload_n hx hb hd rfl (hl.2.2.1 _ _ h1) (k ls hl)
  · obtain ⟨ho, rfl, rfl⟩ := sx_sto1_ok h; exact lv_istore hx hb hd hh (sx_ok1_lt ho) rfl (fun ls' h' => k ls' (sx_lv_st1 hF hl ho rfl h'))
  · obtain ⟨ho, rfl, rfl⟩ := sx_sto1_ok h; exact lv_istore_n hx hb hd rfl hh (sx_ok1_lt ho) rfl (fun ls' h' => k ls' (sx_lv_st1 hF hl ho rfl h'))
  · obtain ⟨ho, rfl, rfl⟩ := sx_sto1_ok h; exact lv_astore hx hb hd hh (sx_ok1_lt ho) rfl (fun ls' h' => k ls' (sx_lv_st1 hF hl ho rfl h'))
  · obtain ⟨ho, rfl, rfl⟩ := sx_sto1_ok h; exact lv_astore_n hx hb hd rfl hh (sx_ok1_lt ho) rfl (fun ls' h' => k ls' (sx_lv_st1 hF hl ho rfl h'))
  · obtain ⟨ho, rfl, rfl⟩ := sx_sto2_ok h; exact lv_lstore hx hb hd hh (sx_ok2_lt ho) rfl (fun ls' h' => k ls' (sx_lv_st2 hF hl ho rfl h'))
  · obtain ⟨ho, rfl, rfl⟩ := sx_sto2_ok h; exact lv_lstore_n hx hb hd rfl hh (sx_ok2_lt ho) rfl (fun ls' h' => k ls' (sx_lv_st2 hF hl ho rfl h'))
  · rename_i i n
    unfold sx_inc at h
    split at h
    · rename_i x hxx
      obtain ⟨ho, rfl, rfl⟩ := sx_sto1_ok h
      obtain ⟨q, hq⟩ := List.getElem?_of_mem (sx_as_mem (η := η) (vF := vF) hxx)
      exact lv_iinc hx hb hd hh (k := q) hq rfl (sx_ok1_lt ho) rfl (fun ls' h' => k ls' (sx_lv_st1 hF hl ho rfl h'))
    · cases h
  · cases h
theorem sx_tg_ok {off : Int} {t : Nat} (h : sx_tg pc off = some t) : (pc : Int) + off = (t : Int) := by
  unfold sx_tg at h
  split at h
  · rename_i h0
    cases h
    omega
  · cases h
theorem sx_go_ok {off : Int} {q : Prop} [Decidable q] {t : Nat} {st st' : List Value} (h : sx_go pc off (decide q) st = some (t, st')) : ∃ t' : Nat, (pc : Int) + off = (t' : Int) ∧ st' = st ∧ (q → t = t') ∧ (¬ q → t = pc + 3) := by
  unfold sx_go at h
  cases ht : sx_tg pc off with
  | none => rw [ht] at h; cases h
  | some t' =>
    rw [ht] at h
    cases h
    exact ⟨t', sx_tg_ok ht, rfl, fun hq => by rw [decide_eq_true hq]; rfl, fun hq => by rw [decide_eq_false hq]; rfl⟩
set_option maxHeartbeats 4000000 in
theorem sx_br_ok (hx : p.tables.exec = Jvm.exec) (hb : c.code = cc) {i : Instr} {st st' : List Value} {t : Nat} (hd : decode cc pc = .ok (i, sx_ln i)) (h : sx_br pc i st = some (t, st'))
    (k : W p l e R s m args below meth c H locs cells slots Q (F0 m t ls (st'.map (sx_cv η vF)))) : W p l e R s m args below meth c H locs cells slots Q (F0 m pc ls (st.map (sx_cv η vF))) := by
  unfold sx_br at h
  split at h
  · rename_i off
    unfold sx_go at h
    cases ht : sx_tg pc off with
    | none => rw [ht] at h; cases h
    | some t' => rw [ht] at h; cases h; exact lv_goto hx hb hd (sx_tg_ok ht) k
  · obtain ⟨t', h1, rfl, h2, h3⟩ := sx_go_ok h; exact lv_if_eq hx hb hd h1 (fun q => by rw [← h2 q]; exact k) (fun q => by rw [← h3 q]; exact k)
  · obtain ⟨t', h1, rfl, h2, h3⟩ := sx_go_ok h; exact lv_if_ne hx hb hd h1 (fun q => by rw [← h2 q]; exact k) (fun q => by rw [← h3 (fun z => z q)]; exact k)
  · obtain ⟨t', h1, rfl, h2, h3⟩ := sx_go_ok h; exact lv_if_lt hx hb hd h1 (fun q => by rw [← h2 q]; exact k) (fun q => by rw [← h3 q]; exact k)
  · obtain ⟨t', h1, rfl, h2, h3⟩ := sx_go_ok h; exact lv_if_ge hx hb hd h1 (fun q => by rw [← h2 q]; exact k) (fun q => by rw [← h3 q]; exact k)
  · obtain ⟨t', h1, rfl, h2, h3⟩ := sx_go_ok h; exact lv_if_gt hx hb hd h1 (fun q => by rw [← h2 q]; exact k) (fun q => by rw [← h3 q]; exact k)
  · obtain ⟨t', h1, rfl, h2, h3⟩ := sx_go_ok h; exact lv_if_le hx hb hd h1 (fun q => by rw [← h2 q]; exact k) (fun q => by rw [← h3 q]; exact k)
  · obtain ⟨t', h1, rfl, h2, h3⟩ := sx_go_ok h; exact lv_icmp_eq hx hb hd h1 (fun q => by rw [← h2 q]; exact k) (fun q => by rw [← h3 q]; exact k)
  · obtain ⟨t', h1, rfl, h2, h3⟩ := sx_go_ok h; exact lv_icmp_ne hx hb hd h1 (fun q => by rw [← h2 q]; exact k) (fun q => by rw [← h3 (fun z => z q)]; exact k)
  · obtain ⟨t', h1, rfl, h2, h3⟩ := sx_go_ok h; exact lv_icmp_lt hx hb hd h1 (fun q => by rw [← h2 q]; exact k) (fun q => by rw [← h3 q]; exact k)
  · obtain ⟨t', h1, rfl, h2, h3⟩ := sx_go_ok h; exact lv_icmp_ge hx hb hd h1 (fun q => by rw [← h2 q]; exact k) (fun q => by rw [← h3 q]; exact k)
  · obtain ⟨t', h1, rfl, h2, h3⟩ := sx_go_ok h; exact lv_icmp_gt hx hb hd h1 (fun q => by rw [← h2 q]; exact k) (fun q => by rw [← h3 q]; exact k)
  · obtain ⟨t', h1, rfl, h2, h3⟩ := sx_go_ok h; exact lv_icmp_le hx hb hd h1 (fun q => by rw [← h2 q]; exact k) (fun q => by rw [← h3 q]; exact k)
  · cases h
theorem sx_tab_ok (hx : p.tables.exec = Jvm.exec) (hb : c.code = cc) {d lo hi : Int} {offs : Array Int} {len t : Nat} {x : Int32} {st : List Value} (hd : decode cc pc = .ok (.tableswitch d lo hi offs, len)) (h : sx_tab pc d lo hi offs x = some t)
    (k : W p l e R s m args below meth c H locs cells slots Q (F0 m t ls (st.map (sx_cv η vF)))) : W p l e R s m args below meth c H locs cells slots Q (F0 m pc ls ((.int x :: st).map (sx_cv η vF))) := by
  unfold sx_tab at h
  split at h
  · rename_i h0; exact lv_tableOut hx hb hd h0 (sx_tg_ok h) k
  · rename_i h0
    cases ho : offs[(x.toInt - lo).toNat]? with
    | none => rw [ho] at h; cases h
    | some off => rw [ho] at h; exact lv_tableIn hx hb hd (fun q => h0 (Or.inl q)) (fun q => h0 (Or.inr q)) ho (sx_tg_ok h) k
end SXW
