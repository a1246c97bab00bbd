/-! a rule for each kind of instruction -/
section SXR
variable {G : sx_G} {y : sx_M} {pc : Nat} {L : sx_L} {st : List Value} {A : sx_A} {Z : sx_Z} {Q : List Value → sx_A → sx_Z → Prop}
theorem sx_r_iadd {a b : Int32} (hd : decode y.2.1 pc = .ok (.iadd, 1)) : sx_ev G y pc L (.int b :: .int a :: st) A Z Q ↔ sx_ev G y (pc + 1) L (.int (a + b) :: st) A Z Q := sx_e_go hd (fun _ => rfl)
theorem sx_r_isub {a b : Int32} (hd : decode y.2.1 pc = .ok (.isub, 1)) : sx_ev G y pc L (.int b :: .int a :: st) A Z Q ↔ sx_ev G y (pc + 1) L (.int (a - b) :: st) A Z Q := sx_e_go hd (fun _ => rfl)
theorem sx_r_imul {a b : Int32} (hd : decode y.2.1 pc = .ok (.imul, 1)) : sx_ev G y pc L (.int b :: .int a :: st) A Z Q ↔ sx_ev G y (pc + 1) L (.int (a * b) :: st) A Z Q := sx_e_go hd (fun _ => rfl)
theorem sx_r_iand {a b : Int32} (hd : decode y.2.1 pc = .ok (.iand, 1)) : sx_ev G y pc L (.int b :: .int a :: st) A Z Q ↔ sx_ev G y (pc + 1) L (.int (a &&& b) :: st) A Z Q := sx_e_go hd (fun _ => rfl)
theorem sx_r_ior {a b : Int32} (hd : decode y.2.1 pc = .ok (.ior, 1)) : sx_ev G y pc L (.int b :: .int a :: st) A Z Q ↔ sx_ev G y (pc + 1) L (.int (a ||| b) :: st) A Z Q := sx_e_go hd (fun _ => rfl)
theorem sx_r_ixor {a b : Int32} (hd : decode y.2.1 pc = .ok (.ixor, 1)) : sx_ev G y pc L (.int b :: .int a :: st) A Z Q ↔ sx_ev G y (pc + 1) L (.int (a ^^^ b) :: st) A Z Q := sx_e_go hd (fun _ => rfl)
theorem sx_r_ishl {a b : Int32} (hd : decode y.2.1 pc = .ok (.ishl, 1)) : sx_ev G y pc L (.int b :: .int a :: st) A Z Q ↔ sx_ev G y (pc + 1) L (.int (a <<< (b &&& 31)) :: st) A Z Q := sx_e_go hd (fun _ => rfl)
theorem sx_r_ishr {a b : Int32} (hd : decode y.2.1 pc = .ok (.ishr, 1)) : sx_ev G y pc L (.int b :: .int a :: st) A Z Q ↔ sx_ev G y (pc + 1) L (.int (a >>> (b &&& 31)) :: st) A Z Q := sx_e_go hd (fun _ => rfl)
theorem sx_r_iushr {a b : Int32} (hd : decode y.2.1 pc = .ok (.iushr, 1)) : sx_ev G y pc L (.int b :: .int a :: st) A Z Q ↔ sx_ev G y (pc + 1) L (.int (a.toUInt32 >>> (b.toUInt32 &&& Int32.toUInt32 31)).toInt32 :: st) A Z Q := sx_e_go hd (fun _ => rfl)
theorem sx_r_idiv {a b : Int32} (hd : decode y.2.1 pc = .ok (.idiv, 1)) (hb : ¬ b = 0) : sx_ev G y pc L (.int b :: .int a :: st) A Z Q ↔ sx_ev G y (pc + 1) L (.int (a / b) :: st) A Z Q := sx_e_go hd (fun rec => by
  have e : sx_stk y.2.2.2.2.1 .idiv (.int b :: .int a :: st) = some (.int (a / b) :: st) := by show (if b = 0 then none else _) = _; rw [if_neg hb]
  show sx_step G rec y pc .idiv L (.int b :: .int a :: st) A Z = _
  unfold sx_step
  rw [e]
  rfl)
theorem sx_r_irem {a b : Int32} (hd : decode y.2.1 pc = .ok (.irem, 1)) (hb : ¬ b = 0) : sx_ev G y pc L (.int b :: .int a :: st) A Z Q ↔ sx_ev G y (pc + 1) L (.int (a - a / b * b) :: st) A Z Q := sx_e_go hd (fun rec => by
  have e : sx_stk y.2.2.2.2.1 .irem (.int b :: .int a :: st) = some (.int (a - a / b * b) :: st) := by show (if b = 0 then none else _) = _; rw [if_neg hb]
  show sx_step G rec y pc .irem L (.int b :: .int a :: st) A Z = _
  unfold sx_step
  rw [e]
  rfl)
theorem sx_r_ladd {a b : Int64} (hd : decode y.2.1 pc = .ok (.ladd, 1)) : sx_ev G y pc L (.long b :: .long a :: st) A Z Q ↔ sx_ev G y (pc + 1) L (.long (a + b) :: st) A Z Q := sx_e_go hd (fun _ => rfl)
theorem sx_r_lmul {a b : Int64} (hd : decode y.2.1 pc = .ok (.lmul, 1)) : sx_ev G y pc L (.long b :: .long a :: st) A Z Q ↔ sx_ev G y (pc + 1) L (.long (a * b) :: st) A Z Q := sx_e_go hd (fun _ => rfl)
theorem sx_r_land {a b : Int64} (hd : decode y.2.1 pc = .ok (.land, 1)) : sx_ev G y pc L (.long b :: .long a :: st) A Z Q ↔ sx_ev G y (pc + 1) L (.long (a &&& b) :: st) A Z Q := sx_e_go hd (fun _ => rfl)
theorem sx_r_lor {a b : Int64} (hd : decode y.2.1 pc = .ok (.lor, 1)) : sx_ev G y pc L (.long b :: .long a :: st) A Z Q ↔ sx_ev G y (pc + 1) L (.long (a ||| b) :: st) A Z Q := sx_e_go hd (fun _ => rfl)
theorem sx_r_lshl {a : Int64} {b : Int32} (hd : decode y.2.1 pc = .ok (.lshl, 1)) : sx_ev G y pc L (.int b :: .long a :: st) A Z Q ↔ sx_ev G y (pc + 1) L (.long (a <<< (b.toInt64 &&& 63)) :: st) A Z Q := sx_e_go hd (fun _ => rfl)
theorem sx_r_lcmp {a b : Int64} (hd : decode y.2.1 pc = .ok (.lcmp, 1)) : sx_ev G y pc L (.long b :: .long a :: st) A Z Q ↔ sx_ev G y (pc + 1) L (.int (lg_cmp a b) :: st) A Z Q := sx_e_go hd (fun _ => rfl)
theorem sx_r_ineg {a : Int32} (hd : decode y.2.1 pc = .ok (.ineg, 1)) : sx_ev G y pc L (.int a :: st) A Z Q ↔ sx_ev G y (pc + 1) L (.int (-a) :: st) A Z Q := sx_e_go hd (fun _ => rfl)
theorem sx_r_i2b {a : Int32} (hd : decode y.2.1 pc = .ok (.i2b, 1)) : sx_ev G y pc L (.int a :: st) A Z Q ↔ sx_ev G y (pc + 1) L (.int a.toInt8.toInt32 :: st) A Z Q := sx_e_go hd (fun _ => rfl)
theorem sx_r_i2s {a : Int32} (hd : decode y.2.1 pc = .ok (.i2s, 1)) : sx_ev G y pc L (.int a :: st) A Z Q ↔ sx_ev G y (pc + 1) L (.int a.toInt16.toInt32 :: st) A Z Q := sx_e_go hd (fun _ => rfl)
theorem sx_r_i2c {a : Int32} (hd : decode y.2.1 pc = .ok (.i2c, 1)) : sx_ev G y pc L (.int a :: st) A Z Q ↔ sx_ev G y (pc + 1) L (.int (a.toUInt32 % 65536).toInt32 :: st) A Z Q := sx_e_go hd (fun _ => rfl)
theorem sx_r_i2l {a : Int32} (hd : decode y.2.1 pc = .ok (.i2l, 1)) : sx_ev G y pc L (.int a :: st) A Z Q ↔ sx_ev G y (pc + 1) L (.long a.toInt64 :: st) A Z Q := sx_e_go hd (fun _ => rfl)
theorem sx_r_pop {a : Int32} (hd : decode y.2.1 pc = .ok (.pop, 1)) : sx_ev G y pc L (.int a :: st) A Z Q ↔ sx_ev G y (pc + 1) L (st) A Z Q := sx_e_go hd (fun _ => rfl)
theorem sx_r_l2i {a : Int64} (hd : decode y.2.1 pc = .ok (.l2i, 1)) : sx_ev G y pc L (.long a :: st) A Z Q ↔ sx_ev G y (pc + 1) L (.int a.toInt32 :: st) A Z Q := sx_e_go hd (fun _ => rfl)
theorem sx_r_dupI {a : Int32} (hd : decode y.2.1 pc = .ok (.dup, 1)) : sx_ev G y pc L (.int a :: st) A Z Q ↔ sx_ev G y (pc + 1) L (.int a :: .int a :: st) A Z Q := sx_e_go hd (fun _ => rfl)
theorem sx_r_dupA {a : Nat} (hd : decode y.2.1 pc = .ok (.dup, 1)) : sx_ev G y pc L (.ref a :: st) A Z Q ↔ sx_ev G y (pc + 1) L (.ref a :: .ref a :: st) A Z Q := sx_e_go hd (fun _ => rfl)
theorem sx_r_dup2 {a : Int32} {k : Nat} (hd : decode y.2.1 pc = .ok (.dup2, 1)) : sx_ev G y pc L (.int a :: .ref k :: st) A Z Q ↔ sx_ev G y (pc + 1) L (.int a :: .ref k :: .int a :: .ref k :: st) A Z Q := sx_e_go hd (fun _ => rfl)
theorem sx_r_iconst {n : Int} {v : Int32} (hd : decode y.2.1 pc = .ok (.iconst n, 1)) (hv : Int32.ofInt n = v) : sx_ev G y pc L (st) A Z Q ↔ sx_ev G y (pc + 1) L (.int v :: st) A Z Q := by subst hv; exact sx_e_go hd (fun _ => rfl)
theorem sx_r_bipush {n : Int} {v : Int32} (hd : decode y.2.1 pc = .ok (.bipush n, 2)) (hv : (Int8.ofInt n).toInt32 = v) : sx_ev G y pc L (st) A Z Q ↔ sx_ev G y (pc + 2) L (.int v :: st) A Z Q := by subst hv; exact sx_e_go hd (fun _ => rfl)
theorem sx_r_sipush {n : Int} {v : Int32} (hd : decode y.2.1 pc = .ok (.sipush n, 3)) (hv : (Int16.ofInt n).toInt32 = v) : sx_ev G y pc L (st) A Z Q ↔ sx_ev G y (pc + 3) L (.int v :: st) A Z Q := by subst hv; exact sx_e_go hd (fun _ => rfl)
theorem sx_r_lconst {n : Fin 2} {v : Int64} (hd : decode y.2.1 pc = .ok (.lconst n, 1)) (hv : Int64.ofNat n.val = v) : sx_ev G y pc L (st) A Z Q ↔ sx_ev G y (pc + 1) L (.long v :: st) A Z Q := by subst hv; exact sx_e_go hd (fun _ => rfl)
theorem sx_r_stk {i : Instr} {len : Nat} {st' : List Value} (hd : decode y.2.1 pc = .ok (i, len)) (h0 : ∀ rec, sx_one G rec y pc i len L st A Z = sx_step G rec y pc i L st A Z) (h : sx_stk y.2.2.2.2.1 i st = some st') : sx_ev G y pc L st A Z Q ↔ sx_ev G y (pc + sx_ln i) L st' A Z Q := sx_e_go hd (fun rec => by rw [h0]; unfold sx_step; rw [h])
theorem sx_r_ldc {ix : Nat} {v : Int32} (hd : decode y.2.1 pc = .ok (.ldc ix, 2)) (hv : sx_il y.2.2.2.2.1 ix = some v) : sx_ev G y pc L st A Z Q ↔ sx_ev G y (pc + 2) L (.int v :: st) A Z Q := sx_r_stk hd (fun _ => rfl) (by simp only [sx_stk, hv])
theorem sx_r_ldcS {ix k : Nat} (hd : decode y.2.1 pc = .ok (.ldc ix, 2)) (hv : sx_il y.2.2.2.2.1 ix = none) (hs : sx_sl y.2.2.2.2.1 ix = some k) : sx_ev G y pc L st A Z Q ↔ sx_ev G y (pc + 2) L (.ref k :: st) A Z Q := sx_r_stk hd (fun _ => rfl) (by simp only [sx_stk, hv, hs])
theorem sx_r_ldcw {ix : Nat} {v : Int32} (hd : decode y.2.1 pc = .ok (.ldc_w ix, 3)) (hv : sx_il y.2.2.2.2.1 ix = some v) : sx_ev G y pc L st A Z Q ↔ sx_ev G y (pc + 3) L (.int v :: st) A Z Q := sx_r_stk hd (fun _ => rfl) (by simp only [sx_stk, hv])
theorem sx_r_ldc2 {ix : Nat} {v : Int64} (hd : decode y.2.1 pc = .ok (.ldc2_w ix, 3)) (hv : sx_ll y.2.2.2.2.1 ix = some v) : sx_ev G y pc L st A Z Q ↔ sx_ev G y (pc + 3) L (.long v :: st) A Z Q := sx_r_stk hd (fun _ => rfl) (by simp only [sx_stk, hv])
theorem sx_r_loc {i : Instr} {len : Nat} {L' : sx_L} {st' : List Value} (hd : decode y.2.1 pc = .ok (i, len)) (h0 : ∀ rec, sx_one G rec y pc i len L st A Z = sx_step G rec y pc i L st A Z) (h1 : sx_stk y.2.2.2.2.1 i st = none) (h : sx_loc y.2.2.2.2.2.2.2 y.2.2.1 L i st = some (L', st')) : sx_ev G y pc L st A Z Q ↔ sx_ev G y (pc + sx_ln i) L' st' A Z Q := sx_e_go hd (fun rec => by rw [h0]; unfold sx_step; rw [h1, h])
theorem sx_r_iload {i : Nat} {x : Int32} (hd : decode y.2.1 pc = .ok (.iload i, 2)) (hl : L[i]? = some (some (.int x))) : sx_ev G y pc L st A Z Q ↔ sx_ev G y (pc + 2) L (.int x :: st) A Z Q := sx_r_loc hd (fun _ => rfl) rfl (by show sx_ldI L i st = _; unfold sx_ldI; rw [hl])
theorem sx_r_iload_n {i : Fin 4} {x : Int32} (hd : decode y.2.1 pc = .ok (.iload_n i, 1)) (hl : L[i.val]? = some (some (.int x))) : sx_ev G y pc L st A Z Q ↔ sx_ev G y (pc + 1) L (.int x :: st) A Z Q := sx_r_loc hd (fun _ => rfl) rfl (by show sx_ldI L i.val st = _; unfold sx_ldI; rw [hl])
theorem sx_r_istore {i : Nat} {x : Int32} {L' : sx_L} (hd : decode y.2.1 pc = .ok (.istore i, 2)) (ho : sx_ok1 y.2.2.2.2.2.2.2 y.2.2.1 i = true) (hl : L.set i (some (.int x)) = L') : sx_ev G y pc L (.int x :: st) A Z Q ↔ sx_ev G y (pc + 2) L' st A Z Q := sx_r_loc hd (fun _ => rfl) rfl (by show sx_sto1 _ _ L i _ st = _; unfold sx_sto1; rw [ho, ← hl])
theorem sx_r_istore_n {i : Fin 4} {x : Int32} {L' : sx_L} (hd : decode y.2.1 pc = .ok (.istore_n i, 1)) (ho : sx_ok1 y.2.2.2.2.2.2.2 y.2.2.1 i.val = true) (hl : L.set i.val (some (.int x)) = L') : sx_ev G y pc L (.int x :: st) A Z Q ↔ sx_ev G y (pc + 1) L' st A Z Q := sx_r_loc hd (fun _ => rfl) rfl (by show sx_sto1 _ _ L i.val _ st = _; unfold sx_sto1; rw [ho, ← hl])
theorem sx_r_aload {i : Nat} {x : Nat} (hd : decode y.2.1 pc = .ok (.aload i, 2)) (hl : L[i]? = some (some (.ref x))) : sx_ev G y pc L st A Z Q ↔ sx_ev G y (pc + 2) L (.ref x :: st) A Z Q := sx_r_loc hd (fun _ => rfl) rfl (by show sx_ldA L i st = _; unfold sx_ldA; rw [hl])
theorem sx_r_aload_n {i : Fin 4} {x : Nat} (hd : decode y.2.1 pc = .ok (.aload_n i, 1)) (hl : L[i.val]? = some (some (.ref x))) : sx_ev G y pc L st A Z Q ↔ sx_ev G y (pc + 1) L (.ref x :: st) A Z Q := sx_r_loc hd (fun _ => rfl) rfl (by show sx_ldA L i.val st = _; unfold sx_ldA; rw [hl])
theorem sx_r_astore {i : Nat} {x : Nat} {L' : sx_L} (hd : decode y.2.1 pc = .ok (.astore i, 2)) (ho : sx_ok1 y.2.2.2.2.2.2.2 y.2.2.1 i = true) (hl : L.set i (some (.ref x)) = L') : sx_ev G y pc L (.ref x :: st) A Z Q ↔ sx_ev G y (pc + 2) L' st A Z Q := sx_r_loc hd (fun _ => rfl) rfl (by show sx_sto1 _ _ L i _ st = _; unfold sx_sto1; rw [ho, ← hl])
theorem sx_r_astore_n {i : Fin 4} {x : Nat} {L' : sx_L} (hd : decode y.2.1 pc = .ok (.astore_n i, 1)) (ho : sx_ok1 y.2.2.2.2.2.2.2 y.2.2.1 i.val = true) (hl : L.set i.val (some (.ref x)) = L') : sx_ev G y pc L (.ref x :: st) A Z Q ↔ sx_ev G y (pc + 1) L' st A Z Q := sx_r_loc hd (fun _ => rfl) rfl (by show sx_sto1 _ _ L i.val _ st = _; unfold sx_sto1; rw [ho, ← hl])
theorem sx_r_lload {i : Nat} {x : Int64} (hd : decode y.2.1 pc = .ok (.lload i, 2)) (hl : L[i]? = some (some (.long x))) : sx_ev G y pc L st A Z Q ↔ sx_ev G y (pc + 2) L (.long x :: st) A Z Q := sx_r_loc hd (fun _ => rfl) rfl (by show sx_ldL L i st = _; unfold sx_ldL; rw [hl])
theorem sx_r_lload_n {i : Fin 4} {x : Int64} (hd : decode y.2.1 pc = .ok (.lload_n i, 1)) (hl : L[i.val]? = some (some (.long x))) : sx_ev G y pc L st A Z Q ↔ sx_ev G y (pc + 1) L (.long x :: st) A Z Q := sx_r_loc hd (fun _ => rfl) rfl (by show sx_ldL L i.val st = _; unfold sx_ldL; rw [hl])
theorem sx_r_lstore {i : Nat} {x : Int64} {L' : sx_L} (hd : decode y.2.1 pc = .ok (.lstore i, 2)) (ho : sx_ok2 y.2.2.2.2.2.2.2 y.2.2.1 i = true) (hl : (L.set i (some (.long x))).set (i + 1) none = L') : sx_ev G y pc L (.long x :: st) A Z Q ↔ sx_ev G y (pc + 2) L' st A Z Q := sx_r_loc hd (fun _ => rfl) rfl (by show sx_sto2 _ _ L i _ st = _; unfold sx_sto2; rw [ho, ← hl])
theorem sx_r_lstore_n {i : Fin 4} {x : Int64} {L' : sx_L} (hd : decode y.2.1 pc = .ok (.lstore_n i, 1)) (ho : sx_ok2 y.2.2.2.2.2.2.2 y.2.2.1 i.val = true) (hl : (L.set i.val (some (.long x))).set (i.val + 1) none = L') : sx_ev G y pc L (.long x :: st) A Z Q ↔ sx_ev G y (pc + 1) L' st A Z Q := sx_r_loc hd (fun _ => rfl) rfl (by show sx_sto2 _ _ L i.val _ st = _; unfold sx_sto2; rw [ho, ← hl])
theorem sx_r_iinc {i : Nat} {n : Int} {x v : Int32} {L' : sx_L} (hd : decode y.2.1 pc = .ok (.iinc i n, 3)) (hx : L[i]? = some (some (.int x))) (hv : Int32.ofInt n = v) (ho : sx_ok1 y.2.2.2.2.2.2.2 y.2.2.1 i = true) (hl : L.set i (some (.int (x + v))) = L') : sx_ev G y pc L st A Z Q ↔ sx_ev G y (pc + 3) L' st A Z Q := sx_r_loc hd (fun _ => rfl) rfl (by show sx_inc _ _ L i n st = _; unfold sx_inc; rw [hx]; show sx_sto1 _ _ L i _ st = _; unfold sx_sto1; rw [ho, hv, ← hl])
theorem sx_r_br {i : Instr} {len : Nat} {c : Prop} [Decidable c] {st' : List Value} {t : Nat} {off : Int} (hd : decode y.2.1 pc = .ok (i, len)) (h0 : ∀ rec, sx_one G rec y pc i len L st A Z = sx_step G rec y pc i L st A Z) (h1 : sx_stk y.2.2.2.2.1 i st = none) (h2 : sx_loc y.2.2.2.2.2.2.2 y.2.2.1 L i st = none) (h3 : sx_br pc i st = sx_go pc off (decide c) st') (ht : sx_tg pc off = some t) : sx_ev G y pc L st A Z Q ↔ if c then sx_ev G y t L st' A Z Q else sx_ev G y (pc + 3) L st' A Z Q := sx_e_br hd (fun rec => by rw [h0]; unfold sx_step; rw [h1, h2, h3]; unfold sx_go; rw [ht])
theorem sx_r_goto {off : Int} {t : Nat} (hd : decode y.2.1 pc = .ok (.goto off, 3)) (ht : sx_tg pc off = some t) : sx_ev G y pc L st A Z Q ↔ sx_ev G y t L st A Z Q := sx_e_go hd (fun rec => by
  show sx_step G rec y pc (.goto off) L st A Z = _
  unfold sx_step
  have e : sx_br pc (.goto off) st = some (t, st) := by show sx_go pc off true st = _; unfold sx_go; rw [ht]; rfl
  rw [show sx_stk y.2.2.2.2.1 (.goto off) st = none from rfl, show sx_loc y.2.2.2.2.2.2.2 y.2.2.1 L (.goto off) st = none from rfl, e])
theorem sx_r_if_eq {off : Int} {t : Nat} {x : Int32} (hd : decode y.2.1 pc = .ok (.ifCond .eq off, 3)) (ht : sx_tg pc off = some t) : sx_ev G y pc L (.int x :: st) A Z Q ↔ if x = 0 then sx_ev G y t L st A Z Q else sx_ev G y (pc + 3) L st A Z Q := sx_r_br hd (fun _ => rfl) rfl rfl rfl ht
theorem sx_r_if_ne {off : Int} {t : Nat} {x : Int32} (hd : decode y.2.1 pc = .ok (.ifCond .ne off, 3)) (ht : sx_tg pc off = some t) : sx_ev G y pc L (.int x :: st) A Z Q ↔ if ¬ x = 0 then sx_ev G y t L st A Z Q else sx_ev G y (pc + 3) L st A Z Q := sx_r_br hd (fun _ => rfl) rfl rfl rfl ht
theorem sx_r_if_lt {off : Int} {t : Nat} {x : Int32} (hd : decode y.2.1 pc = .ok (.ifCond .lt off, 3)) (ht : sx_tg pc off = some t) : sx_ev G y pc L (.int x :: st) A Z Q ↔ if x < 0 then sx_ev G y t L st A Z Q else sx_ev G y (pc + 3) L st A Z Q := sx_r_br hd (fun _ => rfl) rfl rfl rfl ht
theorem sx_r_if_ge {off : Int} {t : Nat} {x : Int32} (hd : decode y.2.1 pc = .ok (.ifCond .ge off, 3)) (ht : sx_tg pc off = some t) : sx_ev G y pc L (.int x :: st) A Z Q ↔ if 0 ≤ x then sx_ev G y t L st A Z Q else sx_ev G y (pc + 3) L st A Z Q := sx_r_br hd (fun _ => rfl) rfl rfl rfl ht
theorem sx_r_if_gt {off : Int} {t : Nat} {x : Int32} (hd : decode y.2.1 pc = .ok (.ifCond .gt off, 3)) (ht : sx_tg pc off = some t) : sx_ev G y pc L (.int x :: st) A Z Q ↔ if 0 < x then sx_ev G y t L st A Z Q else sx_ev G y (pc + 3) L st A Z Q := sx_r_br hd (fun _ => rfl) rfl rfl rfl ht
theorem sx_r_if_le {off : Int} {t : Nat} {x : Int32} (hd : decode y.2.1 pc = .ok (.ifCond .le off, 3)) (ht : sx_tg pc off = some t) : sx_ev G y pc L (.int x :: st) A Z Q ↔ if x ≤ 0 then sx_ev G y t L st A Z Q else sx_ev G y (pc + 3) L st A Z Q := sx_r_br hd (fun _ => rfl) rfl rfl rfl ht
theorem sx_r_icmp_eq {off : Int} {t : Nat} {x z : Int32} (hd : decode y.2.1 pc = .ok (.if_icmp .eq off, 3)) (ht : sx_tg pc off = some t) : sx_ev G y pc L (.int z :: .int x :: st) A Z Q ↔ if x = z then sx_ev G y t L st A Z Q else sx_ev G y (pc + 3) L st A Z Q := sx_r_br hd (fun _ => rfl) rfl rfl rfl ht
theorem sx_r_icmp_ne {off : Int} {t : Nat} {x z : Int32} (hd : decode y.2.1 pc = .ok (.if_icmp .ne off, 3)) (ht : sx_tg pc off = some t) : sx_ev G y pc L (.int z :: .int x :: st) A Z Q ↔ if ¬ x = z then sx_ev G y t L st A Z Q else sx_ev G y (pc + 3) L st A Z Q := sx_r_br hd (fun _ => rfl) rfl rfl rfl ht
theorem sx_r_icmp_lt {off : Int} {t : Nat} {x z : Int32} (hd : decode y.2.1 pc = .ok (.if_icmp .lt off, 3)) (ht : sx_tg pc off = some t) : sx_ev G y pc L (.int z :: .int x :: st) A Z Q ↔ if x < z then sx_ev G y t L st A Z Q else sx_ev G y (pc + 3) L st A Z Q := sx_r_br hd (fun _ => rfl) rfl rfl rfl ht
theorem sx_r_icmp_ge {off : Int} {t : Nat} {x z : Int32} (hd : decode y.2.1 pc = .ok (.if_icmp .ge off, 3)) (ht : sx_tg pc off = some t) : sx_ev G y pc L (.int z :: .int x :: st) A Z Q ↔ if z ≤ x then sx_ev G y t L st A Z Q else sx_ev G y (pc + 3) L st A Z Q := sx_r_br hd (fun _ => rfl) rfl rfl rfl ht
theorem sx_r_icmp_gt {off : Int} {t : Nat} {x z : Int32} (hd : decode y.2.1 pc = .ok (.if_icmp .gt off, 3)) (ht : sx_tg pc off = some t) : sx_ev G y pc L (.int z :: .int x :: st) A Z Q ↔ if z < x then sx_ev G y t L st A Z Q else sx_ev G y (pc + 3) L st A Z Q := sx_r_br hd (fun _ => rfl) rfl rfl rfl ht
theorem sx_r_icmp_le {off : Int} {t : Nat} {x z : Int32} (hd : decode y.2.1 pc = .ok (.if_icmp .le off, 3)) (ht : sx_tg pc off = some t) : sx_ev G y pc L (.int z :: .int x :: st) A Z Q ↔ if x ≤ z then sx_ev G y t L st A Z Q else sx_ev G y (pc + 3) L st A Z Q := sx_r_br hd (fun _ => rfl) rfl rfl rfl ht
theorem sx_kd_lt {k ci : Nat} (h : sx_kd k = ci) (hc : ci < 5) : k < 50 := by
  unfold sx_kd at h
  split at h
  · assumption
  · repeat' (split at h)
    all_goals omega
theorem sx_r_getA {ix k ci j : Nat} (hd : decode y.2.1 pc = .ok (.getfield ix, 3)) (hf : sx_fl y.2.2.2.2.1 ix = some (ci, j, 2)) : sx_ev G y pc L (.ref k :: st) A Z Q ↔ (sx_kd k = ci ∧ sx_ev G y (pc + 3) L (.ref (sx_fr k j) :: st) A Z Q) := sx_e_mem hd (fun _ => rfl) rfl rfl rfl (by simp only [sx_mem, hf]) rfl rfl
theorem sx_r_getF {ix k ci j t : Nat} (hd : decode y.2.1 pc = .ok (.getfield ix, 3)) (hf : sx_fl y.2.2.2.2.1 ix = some (ci, j, t)) (ht : t < 2) : sx_ev G y pc L (.ref k :: st) A Z Q ↔ (sx_kd k = ci ∧ sx_ev G y (pc + 3) L (.int (sx_rf A k j) :: st) A Z Q) := sx_e_mem hd (fun _ => rfl) rfl rfl rfl (by
  rcases (show t = 0 ∨ t = 1 by omega) with rfl | rfl <;> simp only [sx_mem, hf]) rfl rfl
theorem sx_r_getI {ix k ci j t : Nat} (hd : decode y.2.1 pc = .ok (.getfield ix, 3)) (hf : sx_fl y.2.2.2.2.1 ix = some (ci, j, t)) (ht : t < 2) (hc : ci < 5) : sx_ev G y pc L (.ref k :: st) A Z Q ↔ (sx_kd k = ci ∧ sx_ev G y (pc + 3) L (.int (A k j) :: st) A Z Q) := by
  rw [sx_r_getF hd hf ht]
  refine and_congr_right fun hk => ?_
  rw [show sx_rf A k j = A k j from if_pos (sx_kd_lt hk hc)]
theorem sx_r_putI {ix k ci j : Nat} {v : Int32} (hd : decode y.2.1 pc = .ok (.putfield ix, 3)) (hf : sx_fl y.2.2.2.2.1 ix = some (ci, j, 0)) (hc : ci < 5) : sx_ev G y pc L (.int v :: .ref k :: st) A Z Q ↔ (sx_kd k = ci ∧ sx_ev G y (pc + 3) L st (va_up A k (upd (A k) j v)) Z Q) := by
  rw [sx_e_mem (c := sx_kd k = ci ∧ ci < 5) (st' := st) (A' := va_up A k (upd (A k) j v)) (Z' := Z) hd (fun _ => rfl) rfl rfl rfl (by simp only [sx_mem, hf]) rfl rfl]
  simp only [hc, and_true]
  rfl
theorem sx_r_putZ {ix k ci j : Nat} {v : Int32} (hd : decode y.2.1 pc = .ok (.putfield ix, 3)) (hf : sx_fl y.2.2.2.2.1 ix = some (ci, j, 1)) (hc : ci < 5) : sx_ev G y pc L (.int v :: .ref k :: st) A Z Q ↔ ((sx_kd k = ci ∧ (v = 0 ∨ v = 1)) ∧ sx_ev G y (pc + 3) L st (va_up A k (upd (A k) j v)) Z Q) := by
  rw [sx_e_mem (c := (sx_kd k = ci ∧ ci < 5) ∧ (v = 0 ∨ v = 1)) (st' := st) (A' := va_up A k (upd (A k) j v)) (Z' := Z) hd (fun _ => rfl) rfl rfl rfl (by simp only [sx_mem, hf]) rfl rfl]
  simp only [hc, and_true]
  rfl
theorem sx_r_iaload {i : Int32} {k : Nat}  (hd : decode y.2.1 pc = .ok (.iaload, 1)) : sx_ev G y pc L (.int i :: .ref k :: st) A Z Q ↔ (((sx_kd k = 5 ∨ sx_kd k = 8) ∧ ¬ (i < 0 ∨ sx_an G k ≤ i.toNatClampNeg)) ∧ sx_ev G y (pc + 1) L (.int (sx_rd G A k i.toNatClampNeg) :: st) A Z Q) := sx_e_mem hd (fun _ => rfl) rfl rfl rfl rfl rfl rfl
theorem sx_r_baload {i : Int32} {k : Nat}  (hd : decode y.2.1 pc = .ok (.baload, 1)) : sx_ev G y pc L (.int i :: .ref k :: st) A Z Q ↔ ((sx_kd k = 9 ∧ ¬ (i < 0 ∨ sx_an G k ≤ i.toNatClampNeg)) ∧ sx_ev G y (pc + 1) L (.int (sx_rd G A k i.toNatClampNeg) :: st) A Z Q) := sx_e_mem hd (fun _ => rfl) rfl rfl rfl rfl rfl rfl
theorem sx_r_laload {i : Int32} {k : Nat}  (hd : decode y.2.1 pc = .ok (.laload, 1)) : sx_ev G y pc L (.int i :: .ref k :: st) A Z Q ↔ ((sx_kd k = 6 ∧ ¬ (i < 0 ∨ sx_an G k ≤ i.toNatClampNeg)) ∧ sx_ev G y (pc + 1) L (.long (Z k i.toNatClampNeg) :: st) A Z Q) := sx_e_mem hd (fun _ => rfl) rfl rfl rfl rfl rfl rfl
theorem sx_r_aaload {i : Int32} {k : Nat}  (hd : decode y.2.1 pc = .ok (.aaload, 1)) : sx_ev G y pc L (.int i :: .ref k :: st) A Z Q ↔ ((sx_kd k = 7 ∧ ¬ (i < 0 ∨ sx_an G k ≤ i.toNatClampNeg)) ∧ sx_ev G y (pc + 1) L (.ref (sx_fr k i.toNatClampNeg) :: st) A Z Q) := sx_e_mem hd (fun _ => rfl) rfl rfl rfl rfl rfl rfl
theorem sx_r_iastore {i : Int32} {k : Nat} {v : Int32} (hd : decode y.2.1 pc = .ok (.iastore, 1)) : sx_ev G y pc L (.int v :: .int i :: .ref k :: st) A Z Q ↔ ((sx_kd k = 5 ∧ ¬ (i < 0 ∨ sx_an G k ≤ i.toNatClampNeg)) ∧ sx_ev G y (pc + 1) L (st) (va_up A k (upd (A k) i.toNatClampNeg v)) Z Q) := sx_e_mem hd (fun _ => rfl) rfl rfl rfl rfl rfl rfl
theorem sx_r_lastore {i : Int32} {k : Nat} {v : Int64} (hd : decode y.2.1 pc = .ok (.lastore, 1)) : sx_ev G y pc L (.long v :: .int i :: .ref k :: st) A Z Q ↔ ((sx_kd k = 6 ∧ ¬ (i < 0 ∨ sx_an G k ≤ i.toNatClampNeg)) ∧ sx_ev G y (pc + 1) L (st) A (va_up Z k (vp_updL (Z k) i.toNatClampNeg v)) Q) := sx_e_mem hd (fun _ => rfl) rfl rfl rfl rfl rfl rfl
theorem sx_r_alen {k : Nat} (hd : decode y.2.1 pc = .ok (.arraylength, 1)) : sx_ev G y pc L (.ref k :: st) A Z Q ↔ ((sx_kd k = 5 ∨ sx_kd k = 6 ∨ sx_kd k = 8 ∨ sx_kd k = 9) ∧ sx_ev G y (pc + 1) L (.int (Int32.ofNat (sx_an G k)) :: st) A Z Q) := sx_e_mem hd (fun _ => rfl) rfl rfl rfl rfl rfl rfl
theorem sx_r_gets {ix : Nat} {v : Value} (hd : decode y.2.1 pc = .ok (.getstatic ix, 3)) (hg : sx_gs y.2.2.2.2.1 ix = some v) : sx_ev G y pc L st A Z Q ↔ sx_ev G y (pc + 3) L (v :: st) A Z Q := sx_e_go hd (fun rec => by
  show sx_step G rec y pc (.getstatic ix) L st A Z = _
  unfold sx_step
  rw [show sx_stk y.2.2.2.2.1 (.getstatic ix) st = none from rfl, show sx_loc y.2.2.2.2.2.2.2 y.2.2.1 L (.getstatic ix) st = none from rfl, show sx_br pc (.getstatic ix) st = none from rfl, show sx_mem G y A Z (.getstatic ix) st = some (v :: st, A, Z) by simp only [sx_mem, hg]]
  rfl)
theorem sx_r_acp {ix k0 k1 : Nat} {n dp sp : Int32} (hd : decode y.2.1 pc = .ok (.invokestatic ix, 3)) (hc : (y.2.2.2.2.1 = 3 ∧ ix = sx_acix) ∧ (1 ≤ y.2.2.2.2.2.1 ∧ 26 ≤ y.2.2.2.2.2.2.1)) (hi : sx_inv y (.invokestatic ix) (.int n :: .int dp :: .ref k1 :: .int sp :: .ref k0 :: st) = none) : sx_ev G y pc L (.int n :: .int dp :: .ref k1 :: .int sp :: .ref k0 :: st) A Z Q ↔ ((((sx_kd k0 = 6 ∧ sx_kd k1 = 6) ∧ st.length ≤ 4) ∧ (¬ sp < 0 ∧ ¬ dp < 0 ∧ ¬ n < 0 ∧ sp.toNatClampNeg + n.toNatClampNeg ≤ sx_an G k0 ∧ dp.toNatClampNeg + n.toNatClampNeg ≤ sx_an G k1)) ∧ sx_ev G y (pc + 3) L st A (va_up Z k1 (va_cpy (Z k0) (Z k1) sp.toNatClampNeg dp.toNatClampNeg n.toNatClampNeg)) Q) := sx_e_mem hd (fun _ => rfl) rfl rfl rfl (by simp only [sx_mem, decide_eq_true hc, sx_acp]) hi rfl
theorem sx_r_min {ix : Nat} {a b : Int32} (hd : decode y.2.1 pc = .ok (.invokestatic ix, 3)) (hm : sx_mm y.2.2.2.2.1 ix = some 0) (ha : ¬ (y.2.2.2.2.1 = 3 ∧ ix = sx_acix)) (hc : (1 ≤ y.2.2.2.2.2.1 ∧ 20 ≤ y.2.2.2.2.2.2.1) ∧ st.length ≤ 3) : sx_ev G y pc L (.int b :: .int a :: st) A Z Q ↔ sx_ev G y (pc + 3) L (.int (if b < a then b else a) :: st) A Z Q := sx_e_go hd (fun rec => by
  have e : sx_mem G y A Z (.invokestatic ix) (.int b :: .int a :: st) = some (.int (if b < a then b else a) :: st, A, Z) := by
    simp only [sx_mem, decide_eq_false (fun z : (y.2.2.2.2.1 = 3 ∧ ix = sx_acix) ∧ (1 ≤ y.2.2.2.2.2.1 ∧ 26 ≤ y.2.2.2.2.2.2.1) => ha z.1), sx_mth, hm, decide_eq_true hc]
  show sx_step G rec y pc (.invokestatic ix) L (.int b :: .int a :: st) A Z = _
  unfold sx_step
  rw [show sx_stk y.2.2.2.2.1 (.invokestatic ix) (.int b :: .int a :: st) = none from rfl, show sx_loc y.2.2.2.2.2.2.2 y.2.2.1 L (.invokestatic ix) (.int b :: .int a :: st) = none from rfl, show sx_br pc (.invokestatic ix) (.int b :: .int a :: st) = none from rfl, e]
  rfl)
theorem sx_r_abs {ix : Nat} {a : Int32} (hd : decode y.2.1 pc = .ok (.invokestatic ix, 3)) (hm : sx_mm y.2.2.2.2.1 ix = some 1) (ha : ¬ (y.2.2.2.2.1 = 3 ∧ ix = sx_acix)) (hc : (1 ≤ y.2.2.2.2.2.1 ∧ 20 ≤ y.2.2.2.2.2.2.1) ∧ st.length ≤ 3) : sx_ev G y pc L (.int a :: st) A Z Q ↔ sx_ev G y (pc + 3) L (.int (if 0 ≤ a then a else 0 - a) :: st) A Z Q := sx_e_go hd (fun rec => by
  have e : sx_mem G y A Z (.invokestatic ix) (.int a :: st) = some (.int (if 0 ≤ a then a else 0 - a) :: st, A, Z) := by
    simp only [sx_mem, decide_eq_false (fun z : (y.2.2.2.2.1 = 3 ∧ ix = sx_acix) ∧ (1 ≤ y.2.2.2.2.2.1 ∧ 26 ≤ y.2.2.2.2.2.2.1) => ha z.1), sx_mth, hm, decide_eq_true hc]
  show sx_step G rec y pc (.invokestatic ix) L (.int a :: st) A Z = _
  unfold sx_step
  rw [show sx_stk y.2.2.2.2.1 (.invokestatic ix) (.int a :: st) = none from rfl, show sx_loc y.2.2.2.2.2.2.2 y.2.2.1 L (.invokestatic ix) (.int a :: st) = none from rfl, show sx_br pc (.invokestatic ix) (.int a :: st) = none from rfl, e]
  rfl)
theorem sx_r_callS {ix kd np : Nat} {y' : sx_M} {ys rs : List Value} (hd : decode y.2.1 pc = .ok (.invokestatic ix, 3)) (hmm : sx_mm y.2.2.2.2.1 ix = none) (hm : sx_ml y.2.2.2.2.1 ix = some (kd, np, y')) (hc : (kd = 0 ∨ kd = 2) ∧ y'.2.2.2.2.2.1 + 1 ≤ y.2.2.2.2.2.1 ∧ 8 + (y'.2.2.1 + 11) + y'.2.2.2.2.2.2.1 ≤ y.2.2.2.2.2.2.1) (ha : ¬ (y.2.2.2.2.1 = 3 ∧ ix = sx_acix)) (hl : np ≤ st.length ∧ (st.drop np).length ≤ 4) (h1 : (st.take np).reverse = ys) (h2 : st.drop np = rs) : sx_ev G y pc L st A Z Q ↔ sx_call G y' ys A Z (fun r A Z => sx_ev G y (pc + 3) L (r ++ rs) A Z Q) := by
  rw [sx_e_call (as := ys) (rs := rs) (y' := y') hd (fun _ => rfl) rfl rfl rfl (by simp only [sx_mem, decide_eq_false (fun z : (y.2.2.2.2.1 = 3 ∧ ix = sx_acix) ∧ (1 ≤ y.2.2.2.2.2.1 ∧ 26 ≤ y.2.2.2.2.2.2.1) => ha z.1), sx_mth, hmm]) (by
    subst h1; subst h2
    show (match sx_ml y.2.2.2.2.1 ix with | some (kd, np, y') => if (((kd = 1 ∧ false = true) ∨ ((kd = 0 ∨ kd = 2) ∧ false = false)) ∧ y'.2.2.2.2.2.1 + 1 ≤ y.2.2.2.2.2.1 ∧ 8 + (y'.2.2.1 + 11) + y'.2.2.2.2.2.2.1 ≤ y.2.2.2.2.2.2.1) ∧ (np ≤ st.length ∧ (st.drop np).length ≤ 4) then some (y', (st.take np).reverse, st.drop np) else none | none => none) = _
    rw [hm]
    exact if_pos ⟨⟨Or.inr ⟨hc.1, rfl⟩, hc.2⟩, hl⟩)]
  show (true = true ∧ _) ↔ _
  simp only [true_and]
  rfl
theorem sx_r_callV {ix np k kc : Nat} {y' : sx_M} {ys rs : List Value} (hd : decode y.2.1 pc = .ok (.invokevirtual ix, 3)) (hm : sx_ml y.2.2.2.2.1 ix = some (1, np, y')) (hk : sx_kcl y'.2.2.2.2.1 = kc) (hc : y'.2.2.2.2.2.1 + 1 ≤ y.2.2.2.2.2.1 ∧ 8 + (y'.2.2.1 + 11) + y'.2.2.2.2.2.2.1 ≤ y.2.2.2.2.2.2.1) (hl : np ≤ st.length ∧ (st.drop np).length ≤ 4) (h1 : (st.take np).reverse = .ref k :: ys) (h2 : st.drop np = rs) : sx_ev G y pc L st A Z Q ↔ (sx_kd k = kc ∧ sx_call G y' (.ref k :: ys) A Z (fun r A Z => sx_ev G y (pc + 3) L (r ++ rs) A Z Q)) := by
  rw [sx_e_call (as := .ref k :: ys) (rs := rs) (y' := y') hd (fun _ => rfl) rfl rfl rfl rfl (by
    rw [← h1]; subst h2
    show (match sx_ml y.2.2.2.2.1 ix with | some (kd, np, y') => if (((kd = 1 ∧ true = true) ∨ ((kd = 0 ∨ kd = 2) ∧ true = false)) ∧ y'.2.2.2.2.2.1 + 1 ≤ y.2.2.2.2.2.1 ∧ 8 + (y'.2.2.1 + 11) + y'.2.2.2.2.2.2.1 ≤ y.2.2.2.2.2.2.1) ∧ (np ≤ st.length ∧ (st.drop np).length ≤ 4) then some (y', (st.take np).reverse, st.drop np) else none | none => none) = _
    rw [hm]
    exact if_pos ⟨⟨Or.inl ⟨rfl, rfl⟩, hc⟩, hl⟩)]
  show (decide (sx_kd k = sx_kcl y'.2.2.2.2.1) = true ∧ _) ↔ _
  rw [decide_eq_true_iff, hk]
  rfl
theorem sx_r_iret {x : Int32} (hd : decode y.2.1 pc = .ok (.ireturn, 1)) (hr : y.2.2.2.1 = some .int) : sx_ev G y pc L [.int x] A Z Q ↔ Q [.int x] A Z := sx_e_ret hd (fun rec => by
  show sx_step G rec y pc .ireturn L [.int x] A Z = _
  show (match sx_ret y .ireturn [.int x] with | some r => some (r, A, Z) | none => none) = _
  rw [show sx_ret y .ireturn [.int x] = some [.int x] by simp only [sx_ret, hr]; exact if_pos rfl])
theorem sx_r_lret {x : Int64} (hd : decode y.2.1 pc = .ok (.lreturn, 1)) (hr : y.2.2.2.1 = some .long) : sx_ev G y pc L [.long x] A Z Q ↔ Q [.long x] A Z := sx_e_ret hd (fun rec => by
  show (match sx_ret y .lreturn [.long x] with | some r => some (r, A, Z) | none => none) = _
  rw [show sx_ret y .lreturn [.long x] = some [.long x] by simp only [sx_ret, hr]])
theorem sx_r_vret (hd : decode y.2.1 pc = .ok (.return_, 1)) (hr : y.2.2.2.1 = none) : sx_ev G y pc L [] A Z Q ↔ Q [] A Z := sx_e_ret hd (fun rec => by
  show (match sx_ret y .return_ [] with | some r => some (r, A, Z) | none => none) = _
  rw [show sx_ret y .return_ [] = some [] by simp only [sx_ret, hr]])
theorem sx_r_aret {x : Nat} {C : String} (hd : decode y.2.1 pc = .ok (.areturn, 1)) (hr : y.2.2.2.1 = some (.object C)) : sx_ev G y pc L [.ref x] A Z Q ↔ Q [.ref x] A Z := sx_e_ret hd (fun rec => by
  show (match sx_ret y .areturn [.ref x] with | some r => some (r, A, Z) | none => none) = _
  rw [show sx_ret y .areturn [.ref x] = some [.ref x] by simp only [sx_ret, hr]])
end SXR
theorem sx_e_nret {G : sx_G} {y : sx_M} {pc : Nat} {L : sx_L} {A : sx_A} {Z : sx_Z} {Q : List Value → sx_A → sx_Z → Prop} {len : Nat} {v : Int32} {ty : FieldType} (hd : decode y.2.1 pc = .ok (.ireturn, len)) (hl : len = 1) (hr : y.2.2.2.1 = some ty) : sx_ev G y pc L [.int v] A Z Q ↔ (narrow ty (.int v) = .int v ∧ Q [.int v] A Z) := by
  subst hl
  rw [sx_ev_one hd]
  have e : ∀ rec, sx_one G rec y pc .ireturn 1 L [.int v] A Z = if narrow ty (.int v) = .int v then some ([.int v], A, Z) else none := by
    intro rec
    have e1 : sx_ret y .ireturn [.int v] = if narrow ty (.int v) = .int v then some [.int v] else none := by
      simp only [sx_ret, hr, sx_if]
    show (match sx_ret y .ireturn [.int v] with | some r => some (r, A, Z) | none => none) = _
    rw [e1]
    by_cases h : narrow ty (.int v) = .int v
    · rw [if_pos h, if_pos h]
    · rw [if_neg h, if_neg h]
  simp only [e]
  by_cases h : narrow ty (.int v) = .int v
  · simp only [h, if_true, true_and]
    constructor
    · rintro ⟨n, r', A', Z', e, hq⟩
      cases e
      exact hq
    · intro hq
      exact ⟨0, _, A, Z, rfl, hq⟩
  · simp only [h, if_false, false_and]
    simp

