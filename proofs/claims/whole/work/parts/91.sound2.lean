/-! THE PURE MACHINE IS THE MACHINE, part 2: cells -/
def sx_cell (η : Nat → Nat) (cI cJ cS : ClassId) (A : sx_A) (Z : sx_Z) (k : Nat) : va_E :=
  if sx_kd k = 5 then .inl (cI, sx_anL.getD k 0, .inl (A k)) else if sx_kd k = 6 then .inl (cJ, sx_anL.getD k 0, .inr (.inl (Z k))) else if sx_kd k = 7 then .inl (cS, sx_anL.getD k 0, .inr (.inr (.inr (.inr (fun j => some (η (sx_fr k j))))))) else .inr (sx_kd k, (sx_rfL.getD (sx_kd k) []).zipIdx.map (fun q => if q.1 = true then .ref (η (sx_fr k q.2)) else .int (A k q.2)))
def sx_ws (η : Nat → Nat) (cI cJ cS : ClassId) (A : sx_A) (Z : sx_Z) : va_W := (List.range 50).map (fun k => (η k, sx_cell η cI cJ cS A Z k))
section SXC
variable {η : Nat → Nat} {vF : Value} {D : va_G} {cI cJ cS : ClassId} {A A' : sx_A} {Z Z' : sx_Z} {k : Nat}
theorem sx_ws_at (hk : k < 50) : (sx_ws η cI cJ cS A Z)[k]? = some (η k, sx_cell η cI cJ cS A Z k) := by
  unfold sx_ws
  rw [List.getElem?_map, List.getElem?_range hk]
  rfl
theorem sx_cell_other (h : A' k = A k) (h2 : Z' k = Z k) : sx_cell η cI cJ cS A' Z' k = sx_cell η cI cJ cS A Z k := by
  unfold sx_cell
  rw [h, h2]
theorem sx_ws_set (hk : k < 50) (hA : ∀ j, j ≠ k → A' j = A j) (hZ : ∀ j, j ≠ k → Z' j = Z j) : (sx_ws η cI cJ cS A Z).set k (η k, sx_cell η cI cJ cS A' Z' k) = sx_ws η cI cJ cS A' Z' := by
  apply List.ext_getElem?
  intro j
  have hlen : (sx_ws η cI cJ cS A Z).length = 50 := by simp [sx_ws]
  by_cases hj : j = k
  · subst hj
    rw [List.getElem?_set_self (by omega), sx_ws_at hk]
  · rw [List.getElem?_set_ne (Ne.symm hj)]
    by_cases hj5 : j < 50
    · rw [sx_ws_at hj5, sx_ws_at hj5, sx_cell_other (hA j hj) (hZ j hj)]
    · have h2 : (sx_ws η cI cJ cS A' Z').length = 50 := by simp [sx_ws]
      rw [List.getElem?_eq_none (by omega), List.getElem?_eq_none (by omega)]
theorem sx_cell5 (h : sx_kd k = 5) : sx_cell η cI cJ cS A Z k = .inl (cI, sx_anL.getD k 0, .inl (A k)) := by
  unfold sx_cell
  rw [if_pos h]
theorem sx_cell6 (h : sx_kd k = 6) : sx_cell η cI cJ cS A Z k = .inl (cJ, sx_anL.getD k 0, .inr (.inl (Z k))) := by
  unfold sx_cell
  rw [if_neg (by omega), if_pos h]
theorem sx_cell7 (h : sx_kd k = 7) : sx_cell η cI cJ cS A Z k = .inl (cS, sx_anL.getD k 0, .inr (.inr (.inr (.inr (fun j => some (η (sx_fr k j))))))) := by
  unfold sx_cell
  rw [if_neg (by omega), if_neg (by omega), if_pos h]
theorem sx_cellO {ci : Nat} (h : sx_kd k = ci) (hc : ci < 5) : sx_cell η cI cJ cS A Z k = .inr (ci, (sx_rfL.getD ci []).zipIdx.map (fun q => if q.1 = true then .ref (η (sx_fr k q.2)) else .int (A k q.2))) := by
  unfold sx_cell
  rw [if_neg (by omega), if_neg (by omega), if_neg (by omega), h]
theorem sx_kd_lt8 (h : sx_kd k < 8) : k < 50 := by
  unfold sx_kd at h
  split at h
  · assumption
  · repeat' (split at h)
    all_goals omega
theorem sx_fld {ci j : Nat} {b : Bool} (h : (sx_rfL.getD ci [])[j]? = some b) : ((sx_rfL.getD ci []).zipIdx.map (fun q => if q.1 = true then (.ref (η (sx_fr k q.2)) : Value) else .int (A k q.2)))[j]? = some (if b = true then .ref (η (sx_fr k j)) else .int (A k j)) := by
  rw [List.getElem?_map, List.getElem?_zipIdx, h]
  simp
theorem sx_fld_set {ci j : Nat} {v : Int32} (h : (sx_rfL.getD ci [])[j]? = some false) : ((sx_rfL.getD ci []).zipIdx.map (fun q => if q.1 = true then (.ref (η (sx_fr k q.2)) : Value) else .int (A k q.2))).set j (.int v) = (sx_rfL.getD ci []).zipIdx.map (fun q => if q.1 = true then (.ref (η (sx_fr k q.2)) : Value) else .int (va_up A k (upd (A k) j v) k q.2)) := by
  apply List.ext_getElem?
  intro i
  have hj := (List.getElem?_eq_some_iff.mp h).1
  by_cases hij : i = j
  · subst hij
    rw [List.getElem?_set_self (by simpa using hj), List.getElem?_map, List.getElem?_zipIdx, h]
    simp [va_up, upd]
  · rw [List.getElem?_set_ne (Ne.symm hij), List.getElem?_map, List.getElem?_map, List.getElem?_zipIdx]
    cases hb : (sx_rfL.getD ci [])[i]? with
    | none => rfl
    | some b => cases b <;> simp [va_up, upd, hij]
end SXC
set_option maxRecDepth 100000 in
theorem sx_u0 : ((u_ws RX0 TX0 8).all (fun w => decide (w ∈ lw_tbl) && goodWord w)) = true := by decide +kernel
set_option maxRecDepth 100000 in
theorem sx_u1 : ((u_ws RX1 TX1 3).all (fun w => decide (w ∈ lw_tbl) && goodWord w)) = true := by decide +kernel
set_option maxRecDepth 100000 in
theorem sx_u2 : ((u_ws RX2 TX2 6).all (fun w => decide (w ∈ lw_tbl) && goodWord w)) = true := by decide +kernel
set_option maxRecDepth 100000 in
theorem sx_u3 : ((u_ws RX3 TX3 10).all (fun w => decide (w ∈ lw_tbl) && goodWord w)) = true := by decide +kernel
set_option maxRecDepth 100000 in
theorem sx_u4 : ((u_ws RX4 TX4 16).all (fun w => decide (w ∈ lw_tbl) && goodWord w)) = true := by decide +kernel
theorem sx_u_in {ws : List Cond} (h : (ws.all (fun w => decide (w ∈ lw_tbl) && goodWord w)) = true) : ∀ w ∈ ws, w ∈ lw_good := fun w hw => by
  have h1 := List.all_eq_true.mp h w hw
  simp only [Bool.and_eq_true, decide_eq_true_eq] at h1
  exact List.mem_filter.mpr h1
theorem sx_cls5 {ci : Nat} (h : ci < 5) : ∃ (C : String) (T : u_T) (N : Nat) (ty0 : Nat → FieldType), vwCl[ci]? = some (C, T, N) ∧ (∀ w ∈ u_ws C T N, w ∈ lw_good) ∧ (∀ k, k < N → parseFieldDescriptor (T k).2.2.1 = some (ty0 k)) ∧ (∀ a, a < N → ∀ b, b < N → a ≠ b → (T a).2.1 ≠ (T b).2.1) ∧ C = sx_cls ci := by
  rcases (show ci = 0 ∨ ci = 1 ∨ ci = 2 ∨ ci = 3 ∨ ci = 4 by omega) with rfl | rfl | rfl | rfl | rfl
  · exact ⟨_, _, _, tyX0, rfl, sx_u_in sx_u0, tyX0_ok, nmX0, rfl⟩
  · exact ⟨_, _, _, tyX1, rfl, sx_u_in sx_u1, tyX1_ok, nmX1, rfl⟩
  · exact ⟨_, _, _, tyX2, rfl, sx_u_in sx_u2, tyX2_ok, nmX2, rfl⟩
  · exact ⟨_, _, _, tyX3, rfl, sx_u_in sx_u3, tyX3_ok, nmX3, rfl⟩
  · exact ⟨_, _, _, tyX4, rfl, sx_u_in sx_u4, tyX4_ok, nmX4, rfl⟩
/-- a field's link -/
def sx_flC (e : Nat × Nat × Nat × Nat × Nat × Nat) : Bool := match vwCl[e.2.2.1]? with
  | some (_, T, N) => (decide (e.2.2.2.1 < N) && sx_at e.2.2.2.2.2 (.fieldLink (sx_cls e.1) e.2.1 (T e.2.2.2.1).1 (T e.2.2.2.1).2.1 (T e.2.2.2.1).2.2.1)) && (decide ((sx_rfL.getD e.2.2.1 [])[e.2.2.2.1]? = some (e.2.2.2.2.1 == 2)) && (match e.2.2.2.2.1 with | 0 => (T e.2.2.2.1).2.2.1 == "I" && !(T e.2.2.2.1).2.2.2 | 1 => (T e.2.2.2.1).2.2.1 == "Z" && !(T e.2.2.2.1).2.2.2 | 2 => true | _ => false))
  | none => e.2.2.1 == 20 && ((e.2.2.2.1 == 0 && e.2.2.2.2.1 == 2 && sx_at e.2.2.2.2.2 (.fieldLink (sx_cls e.1) e.2.1 "java/lang/String" "value" "[B")) || (e.2.2.2.1 == 1 && e.2.2.2.2.1 == 0 && sx_at e.2.2.2.2.2 (.fieldLink (sx_cls e.1) e.2.1 "java/lang/String" "coder" "B")))
set_option maxRecDepth 100000 in
theorem sx_flT_ok : sx_flT.all sx_flC = true := by decide +kernel
theorem sx_fl_ok {cn ix ci j t : Nat} (h : sx_fl cn ix = some (ci, j, t)) : ∃ w : Nat, sx_flC (cn, ix, ci, j, t, w) = true := by
  unfold sx_fl at h
  obtain ⟨e, he, hh⟩ := Option.map_eq_some_iff.mp h
  have h1 := List.find?_some he
  simp only [Bool.and_eq_true, beq_iff_eq] at h1
  have h2 := List.all_eq_true.mp sx_flT_ok e (List.mem_of_find?_eq_some he)
  obtain ⟨e1, e2, e3, e4, e5, e6⟩ := e
  obtain ⟨rfl, rfl⟩ := h1
  cases hh
  exact ⟨e6, h2⟩
/-- a field of the five classes -/
theorem sx_fl_5 {cn ix ci j t : Nat} (h : sx_fl cn ix = some (ci, j, t)) (hc : ci < 5) : ∃ (C : String) (T : u_T) (N : Nat), vwCl[ci]? = some (C, T, N) ∧ j < N ∧ Cond.fieldLink (sx_cls cn) ix (T j).1 (T j).2.1 (T j).2.2.1 ∈ lw_good ∧ (sx_rfL.getD ci [])[j]? = some (t == 2) ∧ (t = 0 → (T j).2.2.1 = "I" ∧ (T j).2.2.2 = false) ∧ (t = 1 → (T j).2.2.1 = "Z" ∧ (T j).2.2.2 = false) ∧ t < 3 := by
  obtain ⟨w, hw⟩ := sx_fl_ok h
  obtain ⟨C, T, N, ty0, hcl, -⟩ := sx_cls5 hc
  refine ⟨C, T, N, hcl, ?_⟩
  simp only [sx_flC, hcl, Bool.and_eq_true, decide_eq_true_eq] at hw
  obtain ⟨⟨h1, h2⟩, h3, h4⟩ := hw
  refine ⟨h1, sx_at_ok h2, h3, ?_, ?_, ?_⟩
  · rintro rfl; simpa using h4
  · rintro rfl; simpa using h4
  · rcases t with _ | _ | _ | t
    · omega
    · omega
    · omega
    · simp at h4
theorem sx_fl_20 {cn ix j t : Nat} (h : sx_fl cn ix = some (20, j, t)) : (j = 0 ∧ t = 2 ∧ Cond.fieldLink (sx_cls cn) ix "java/lang/String" "value" "[B" ∈ lw_good) ∨ (j = 1 ∧ t = 0 ∧ Cond.fieldLink (sx_cls cn) ix "java/lang/String" "coder" "B" ∈ lw_good) := by
  obtain ⟨w, hw⟩ := sx_fl_ok h
  have hv : vwCl[20]? = none := rfl
  simp only [sx_flC, hv, Bool.and_eq_true, Bool.or_eq_true, beq_iff_eq] at hw
  rcases hw.2 with h1 | h1
  · exact Or.inl ⟨h1.1.1, h1.1.2, sx_at_ok h1.2⟩
  · exact Or.inr ⟨h1.1.1, h1.1.2, sx_at_ok h1.2⟩
theorem sx_fl_ci {cn ix ci j t : Nat} (h : sx_fl cn ix = some (ci, j, t)) : ci < 5 ∨ ci = 20 := by
  obtain ⟨w, hw⟩ := sx_fl_ok h
  by_cases hc : ci < 5
  · exact Or.inl hc
  · right
    have hv : vwCl[ci]? = none := List.getElem?_eq_none (by show 5 ≤ ci; omega)
    simp only [sx_flC, hv, Bool.and_eq_true, beq_iff_eq] at hw
    exact hw.1
def sx_gsC (e : Nat × Nat × Value × Nat × Nat) : Bool := match e.2.2.2.1 with
  | 0 => decide (e.2.2.1 = .ref 62) && sx_at e.2.2.2.2 (.fieldLink (sx_cls e.1) e.2.1 RX3 "KIND_ABOVE" "[I")
  | 1 => decide (e.2.2.1 = .int 1) && sx_at e.2.2.2.2 (.fieldLink (sx_cls e.1) e.2.1 "java/lang/String" "COMPACT_STRINGS" "Z")
  | 2 => decide (e.2.2.1 = .retAddr 0) && sx_at e.2.2.2.2 (.fieldLink (sx_cls e.1) e.2.1 "jdk/internal/util/Preconditions" "SIOOBE_FORMATTER" "Ljava/util/function/BiFunction;")
  | _ => false
set_option maxRecDepth 100000 in
theorem sx_gsT_ok : sx_gsT.all sx_gsC = true := by decide +kernel
theorem sx_gs_ok {cn ix : Nat} {v : Value} (h : sx_gs cn ix = some v) : (v = .ref 62 ∧ Cond.fieldLink (sx_cls cn) ix RX3 "KIND_ABOVE" "[I" ∈ lw_good) ∨ (v = .int 1 ∧ Cond.fieldLink (sx_cls cn) ix "java/lang/String" "COMPACT_STRINGS" "Z" ∈ lw_good) ∨ (v = .retAddr 0 ∧ Cond.fieldLink (sx_cls cn) ix "jdk/internal/util/Preconditions" "SIOOBE_FORMATTER" "Ljava/util/function/BiFunction;" ∈ lw_good) := by
  unfold sx_gs at h
  obtain ⟨e, he, hh⟩ := Option.map_eq_some_iff.mp h
  have h1 := List.find?_some he
  simp only [Bool.and_eq_true, beq_iff_eq] at h1
  have h2 := List.all_eq_true.mp sx_gsT_ok e (List.mem_of_find?_eq_some he)
  obtain ⟨e1, e2, e3, e4, e5⟩ := e
  obtain ⟨rfl, rfl⟩ := h1
  cases hh
  rcases e4 with _ | _ | _ | e4
  · simp only [sx_gsC, Bool.and_eq_true, decide_eq_true_eq] at h2; exact Or.inl ⟨h2.1, sx_at_ok h2.2⟩
  · simp only [sx_gsC, Bool.and_eq_true, decide_eq_true_eq] at h2; exact Or.inr (Or.inl ⟨h2.1, sx_at_ok h2.2⟩)
  · simp only [sx_gsC, Bool.and_eq_true, decide_eq_true_eq] at h2; exact Or.inr (Or.inr ⟨h2.1, sx_at_ok h2.2⟩)
  · simp [sx_gsC] at h2
set_option maxRecDepth 100000 in
theorem sx_acw : sx_at 577 (.methodLink RX3 sx_acix arraycopyName) = true ∧ sx_at 579 (.native arraycopyName) = true ∧ sx_at 578 (.static arraycopyName) = true := by decide +kernel
set_option maxRecDepth 100000 in
theorem sx_aci : ((([.initialized "java/lang/System"] : List Cond)).all (fun w => decide (w ∈ lw_tbl) && goodWord w)) = true := by decide +kernel
def sx_mmC (e : Nat × Nat × Nat × Nat) : Bool := match e.2.2.1 with
  | 0 => sx_at e.2.2.2 (.methodLink (sx_cls e.1) e.2.1 Lib.Math.min.name)
  | 1 => sx_at e.2.2.2 (.methodLink (sx_cls e.1) e.2.1 Lib.Math.abs.name)
  | _ => false
set_option maxRecDepth 100000 in
theorem sx_mmT_ok : sx_mmT.all sx_mmC = true := by decide +kernel
theorem sx_mm_ok {cn ix t : Nat} (h : sx_mm cn ix = some t) : (Cond.methodLink (sx_cls cn) ix (if t = 0 then Lib.Math.min.name else Lib.Math.abs.name) ∈ lw_good) := by
  unfold sx_mm at h
  obtain ⟨e, he, hh⟩ := Option.map_eq_some_iff.mp h
  have h1 := List.find?_some he
  simp only [Bool.and_eq_true, beq_iff_eq] at h1
  have h2 := List.all_eq_true.mp sx_mmT_ok e (List.mem_of_find?_eq_some he)
  obtain ⟨e1, e2, e3, e4⟩ := e
  obtain ⟨rfl, rfl⟩ := h1
  cases hh
  rcases e3 with _ | _ | e3
  · exact sx_at_ok h2
  · exact sx_at_ok h2
  · simp [sx_mmC] at h2
set_option maxRecDepth 100000 in
theorem sx_mmw : sx_at 274 (.static Lib.Math.min.name) = true ∧ sx_at 329 (.static Lib.Math.abs.name) = true := by decide +kernel
set_option maxRecDepth 100000 in
theorem sx_mmi : ((([.initialized "java/lang/Math"] : List Cond)).all (fun w => decide (w ∈ lw_tbl) && goodWord w)) = true := by decide +kernel
set_option maxRecDepth 100000 in
theorem sx_mmc1 : sx_at 275 (.code Lib.Math.min.name Lib.Math.min.code 2 (some .int)) = true := by decide +kernel
set_option maxRecDepth 100000 in
theorem sx_mmc2 : sx_at 330 (.code Lib.Math.abs.name Lib.Math.abs.code 1 (some .int)) = true := by decide +kernel
theorem sx_mmc : Cond.code Lib.Math.min.name Lib.Math.min.code 2 (some .int) ∈ lw_good ∧ Cond.code Lib.Math.abs.name Lib.Math.abs.code 1 (some .int) ∈ lw_good := ⟨sx_at_ok sx_mmc1, sx_at_ok sx_mmc2⟩
