/-! THE PURE MACHINE: the bytecode over a graph of cells that stays as it was made; only ints and longs change -/
abbrev sx_G : Type := Nat × (Nat → Int32)
abbrev sx_A : Type := Nat → Nat → Int32
abbrev sx_Z : Type := Nat → Nat → Int64
abbrev sx_L : Type := List (Option Value)
/-- a cell's kind: 0 to 4 an object of that class, 5 ints, 6 longs, 7 the row of sheets, 8 ints that nobody writes, 9 a text's bytes, 20 a text -/
def sx_kd (k : Nat) : Nat := if k < 50 then sx_kdL.getD k 99 else if k = 60 then 8 else if k = 62 then 8 else if k < 100 then 99 else if k < 111 then 20 else if k < 200 then 99 else if k < 211 then 9 else 99
def sx_kab : List Int32 := [-1, 0, 0, 0, 2, 1]
def sx_an (G : sx_G) (k : Nat) : Nat := if k < 50 then sx_anL.getD k 0 else if k = 60 then G.1 else if k = 62 then 6 else sx_sn.getD (k - 200) 0
def sx_rd (G : sx_G) (A : sx_A) (k j : Nat) : Int32 := if k < 50 then A k j else if k = 60 then G.2 j else if k = 62 then sx_kab.getD j 0 else (sx_sb.getD (k - 200) []).getD j 0
def sx_fr (k j : Nat) : Nat := if k < 50 then (sx_frL.getD k []).getD j 0 else k + 100
def sx_rf (A : sx_A) (k j : Nat) : Int32 := if k < 50 then A k j else 0
def sx_ln : Instr → Nat
  | .bipush _ | .ldc _ | .iload _ | .lload _ | .aload _ | .istore _ | .lstore _ | .astore _ => 2
  | .sipush _ | .ldc_w _ | .ldc2_w _ | .iinc _ _ | .getfield _ | .putfield _ | .getstatic _ | .goto _ | .ifCond _ _ | .if_icmp _ _ | .invokestatic _ | .invokevirtual _ => 3
  | _ => 1
def sx_stk (cn : Nat) : Instr → List Value → Option (List Value)
  | .iconst n, st => some (.int (Int32.ofInt n) :: st)
  | .bipush n, st => some (.int (Int8.ofInt n).toInt32 :: st)
  | .sipush n, st => some (.int (Int16.ofInt n).toInt32 :: st)
  | .lconst n, st => some (.long (Int64.ofNat n.val) :: st)
  | .ldc ix, st => match sx_il cn ix with
    | some v => some (.int v :: st)
    | none => match sx_sl cn ix with
      | some k => some (.ref k :: st)
      | none => none
  | .ldc_w ix, st => match sx_il cn ix with
    | some v => some (.int v :: st)
    | none => none
  | .ldc2_w ix, st => match sx_ll cn ix with
    | some v => some (.long v :: st)
    | none => none
  | .iadd, .int y :: .int x :: st => some (.int (x + y) :: st)
  | .isub, .int y :: .int x :: st => some (.int (x - y) :: st)
  | .imul, .int y :: .int x :: st => some (.int (x * y) :: st)
  | .iand, .int y :: .int x :: st => some (.int (x &&& y) :: st)
  | .ior, .int y :: .int x :: st => some (.int (x ||| y) :: st)
  | .ixor, .int y :: .int x :: st => some (.int (x ^^^ y) :: st)
  | .idiv, .int y :: .int x :: st => if y = 0 then none else some (.int (x / y) :: st)
  | .irem, .int y :: .int x :: st => if y = 0 then none else some (.int (x - x / y * y) :: st)
  | .ineg, .int x :: st => some (.int (-x) :: st)
  | .ishl, .int y :: .int x :: st => some (.int (x <<< (y &&& 31)) :: st)
  | .ishr, .int y :: .int x :: st => some (.int (x >>> (y &&& 31)) :: st)
  | .iushr, .int y :: .int x :: st => some (.int (x.toUInt32 >>> (y.toUInt32 &&& Int32.toUInt32 31)).toInt32 :: st)
  | .ladd, .long y :: .long x :: st => some (.long (x + y) :: st)
  | .lmul, .long y :: .long x :: st => some (.long (x * y) :: st)
  | .land, .long y :: .long x :: st => some (.long (x &&& y) :: st)
  | .lor, .long y :: .long x :: st => some (.long (x ||| y) :: st)
  | .lshl, .int y :: .long x :: st => some (.long (x <<< (y.toInt64 &&& 63)) :: st)
  | .lcmp, .long y :: .long x :: st => some (.int (lg_cmp x y) :: st)
  | .i2l, .int x :: st => some (.long x.toInt64 :: st)
  | .l2i, .long x :: st => some (.int x.toInt32 :: st)
  | .i2b, .int x :: st => some (.int x.toInt8.toInt32 :: st)
  | .i2s, .int x :: st => some (.int x.toInt16.toInt32 :: st)
  | .i2c, .int x :: st => some (.int (x.toUInt32 % 65536).toInt32 :: st)
  | .dup, .int x :: st => some (.int x :: .int x :: st)
  | .dup, .ref x :: st => some (.ref x :: .ref x :: st)
  | .dup2, .int x :: .ref k :: st => some (.int x :: .ref k :: .int x :: .ref k :: st)
  | .pop, .int _ :: st => some st
  | _, _ => none
def sx_ldI (L : sx_L) (i : Nat) (st : List Value) : Option (sx_L × List Value) := match L[i]? with
  | some (some (.int x)) => some (L, .int x :: st)
  | _ => none
def sx_ldA (L : sx_L) (i : Nat) (st : List Value) : Option (sx_L × List Value) := match L[i]? with
  | some (some (.ref x)) => some (L, .ref x :: st)
  | _ => none
def sx_ldL (L : sx_L) (i : Nat) (st : List Value) : Option (sx_L × List Value) := match L[i]? with
  | some (some (.long x)) => some (L, .long x :: st)
  | _ => none
def sx_ok1 (lg : List Nat) (mx i : Nat) : Bool := decide (i < mx) && lg.all (fun j => !(j + 1 == i))
def sx_ok2 (lg : List Nat) (mx i : Nat) : Bool := decide (i + 1 < mx) && (lg.contains i && lg.all (fun j => !(j + 1 == i)))
def sx_sto1 (lg : List Nat) (mx : Nat) (L : sx_L) (i : Nat) (v : Value) (st : List Value) : Option (sx_L × List Value) := match sx_ok1 lg mx i with
  | true => some (L.set i (some v), st)
  | false => none
def sx_sto2 (lg : List Nat) (mx : Nat) (L : sx_L) (i : Nat) (v : Value) (st : List Value) : Option (sx_L × List Value) := match sx_ok2 lg mx i with
  | true => some ((L.set i (some v)).set (i + 1) none, st)
  | false => none
def sx_inc (lg : List Nat) (mx : Nat) (L : sx_L) (i : Nat) (n : Int) (st : List Value) : Option (sx_L × List Value) := match L[i]? with
  | some (some (.int x)) => sx_sto1 lg mx L i (.int (x + Int32.ofInt n)) st
  | _ => none
def sx_loc (lg : List Nat) (mx : Nat) (L : sx_L) : Instr → List Value → Option (sx_L × List Value)
  | .iload i, st => sx_ldI L i st
  | .iload_n i, st => sx_ldI L i.val st
  | .aload i, st => sx_ldA L i st
  | .aload_n i, st => sx_ldA L i.val st
  | .lload i, st => sx_ldL L i st
  | .lload_n i, st => sx_ldL L i.val st
  | .istore i, .int x :: st => sx_sto1 lg mx L i (.int x) st
  | .istore_n i, .int x :: st => sx_sto1 lg mx L i.val (.int x) st
  | .astore i, .ref x :: st => sx_sto1 lg mx L i (.ref x) st
  | .astore_n i, .ref x :: st => sx_sto1 lg mx L i.val (.ref x) st
  | .lstore i, .long x :: st => sx_sto2 lg mx L i (.long x) st
  | .lstore_n i, .long x :: st => sx_sto2 lg mx L i.val (.long x) st
  | .iinc i n, st => sx_inc lg mx L i n st
  | _, _ => none
/-- where a jump goes -/
def sx_tg (pc : Nat) (off : Int) : Option Nat := if 0 ≤ (pc : Int) + off then some ((pc : Int) + off).toNat else none
def sx_go (pc : Nat) (off : Int) (c : Bool) (st : List Value) : Option (Nat × List Value) := match sx_tg pc off with
  | some t => some (cond c t (pc + 3), st)
  | none => none
def sx_br (pc : Nat) : Instr → List Value → Option (Nat × List Value)
  | .goto off, st => sx_go pc off true st
  | .ifCond .eq off, .int x :: st => sx_go pc off (decide (x = 0)) st
  | .ifCond .ne off, .int x :: st => sx_go pc off (decide (¬ x = 0)) st
  | .ifCond .lt off, .int x :: st => sx_go pc off (decide (x < 0)) st
  | .ifCond .ge off, .int x :: st => sx_go pc off (decide (0 ≤ x)) st
  | .ifCond .gt off, .int x :: st => sx_go pc off (decide (0 < x)) st
  | .ifCond .le off, .int x :: st => sx_go pc off (decide (x ≤ 0)) st
  | .if_icmp .eq off, .int y :: .int x :: st => sx_go pc off (decide (x = y)) st
  | .if_icmp .ne off, .int y :: .int x :: st => sx_go pc off (decide (¬ x = y)) st
  | .if_icmp .lt off, .int y :: .int x :: st => sx_go pc off (decide (x < y)) st
  | .if_icmp .ge off, .int y :: .int x :: st => sx_go pc off (decide (y ≤ x)) st
  | .if_icmp .gt off, .int y :: .int x :: st => sx_go pc off (decide (y < x)) st
  | .if_icmp .le off, .int y :: .int x :: st => sx_go pc off (decide (x ≤ y)) st
  | _, _ => none
def sx_tab (pc : Nat) (d lo hi : Int) (offs : Array Int) (x : Int32) : Option Nat := if x.toInt < lo ∨ hi < x.toInt then sx_tg pc d else match offs[(x.toInt - lo).toNat]? with
  | some off => sx_tg pc off
  | none => none
def sx_if {α : Type} (c : Prop) [Decidable c] (x : α) : Option α := if c then some x else none
def sx_acp (G : sx_G) (A : sx_A) (Z : sx_Z) : List Value → Option (List Value × sx_A × sx_Z)
  | .int n :: .int dp :: .ref k1 :: .int sp :: .ref k0 :: st => sx_if (((sx_kd k0 = 6 ∧ sx_kd k1 = 6) ∧ st.length ≤ 4) ∧ (¬ sp < 0 ∧ ¬ dp < 0 ∧ ¬ n < 0 ∧ sp.toNatClampNeg + n.toNatClampNeg ≤ sx_an G k0 ∧ dp.toNatClampNeg + n.toNatClampNeg ≤ sx_an G k1)) (st, A, va_up Z k1 (va_cpy (Z k0) (Z k1) sp.toNatClampNeg dp.toNatClampNeg n.toNatClampNeg))
  | _ => none
def sx_mth (y : sx_M) (ix : Nat) (A : sx_A) (Z : sx_Z) (st : List Value) : Option (List Value × sx_A × sx_Z) := match sx_mm y.2.2.2.2.1 ix with
  | some 0 => match st with
    | .int b :: .int a :: st => match decide ((1 ≤ y.2.2.2.2.2.1 ∧ 20 ≤ y.2.2.2.2.2.2.1) ∧ st.length ≤ 3) with
      | true => some (.int (if b < a then b else a) :: st, A, Z)
      | false => none
    | _ => none
  | some 1 => match st with
    | .int a :: st => match decide ((1 ≤ y.2.2.2.2.2.1 ∧ 20 ≤ y.2.2.2.2.2.2.1) ∧ st.length ≤ 3) with
      | true => some (.int (if 0 ≤ a then a else 0 - a) :: st, A, Z)
      | false => none
    | _ => none
  | _ => none
def sx_mem (G : sx_G) (y : sx_M) (A : sx_A) (Z : sx_Z) : Instr → List Value → Option (List Value × sx_A × sx_Z)
  | .getfield ix, .ref k :: st => match sx_fl y.2.2.2.2.1 ix with
    | some (ci, j, t) => match t with
      | 2 => sx_if (sx_kd k = ci) (.ref (sx_fr k j) :: st, A, Z)
      | _ => sx_if (sx_kd k = ci) (.int (sx_rf A k j) :: st, A, Z)
    | none => none
  | .putfield ix, .int v :: .ref k :: st => match sx_fl y.2.2.2.2.1 ix with
    | some (ci, j, t) => match t with
      | 0 => sx_if (sx_kd k = ci ∧ ci < 5) (st, va_up A k (upd (A k) j v), Z)
      | 1 => sx_if ((sx_kd k = ci ∧ ci < 5) ∧ (v = 0 ∨ v = 1)) (st, va_up A k (upd (A k) j v), Z)
      | _ => none
    | none => none
  | .iaload, .int i :: .ref k :: st => sx_if ((sx_kd k = 5 ∨ sx_kd k = 8) ∧ ¬ (i < 0 ∨ sx_an G k ≤ i.toNatClampNeg)) (.int (sx_rd G A k i.toNatClampNeg) :: st, A, Z)
  | .baload, .int i :: .ref k :: st => sx_if (sx_kd k = 9 ∧ ¬ (i < 0 ∨ sx_an G k ≤ i.toNatClampNeg)) (.int (sx_rd G A k i.toNatClampNeg) :: st, A, Z)
  | .laload, .int i :: .ref k :: st => sx_if (sx_kd k = 6 ∧ ¬ (i < 0 ∨ sx_an G k ≤ i.toNatClampNeg)) (.long (Z k i.toNatClampNeg) :: st, A, Z)
  | .aaload, .int i :: .ref k :: st => sx_if (sx_kd k = 7 ∧ ¬ (i < 0 ∨ sx_an G k ≤ i.toNatClampNeg)) (.ref (sx_fr k i.toNatClampNeg) :: st, A, Z)
  | .iastore, .int v :: .int i :: .ref k :: st => sx_if (sx_kd k = 5 ∧ ¬ (i < 0 ∨ sx_an G k ≤ i.toNatClampNeg)) (st, va_up A k (upd (A k) i.toNatClampNeg v), Z)
  | .lastore, .long v :: .int i :: .ref k :: st => sx_if (sx_kd k = 6 ∧ ¬ (i < 0 ∨ sx_an G k ≤ i.toNatClampNeg)) (st, A, va_up Z k (vp_updL (Z k) i.toNatClampNeg v))
  | .arraylength, .ref k :: st => sx_if (sx_kd k = 5 ∨ sx_kd k = 6 ∨ sx_kd k = 8 ∨ sx_kd k = 9) (.int (Int32.ofNat (sx_an G k)) :: st, A, Z)
  | .getstatic ix, st => match sx_gs y.2.2.2.2.1 ix with
    | some v => some (v :: st, A, Z)
    | none => none
  | .invokestatic ix, st => match decide ((y.2.2.2.2.1 = 3 ∧ ix = sx_acix) ∧ (1 ≤ y.2.2.2.2.2.1 ∧ 26 ≤ y.2.2.2.2.2.2.1)) with
    | true => sx_acp G A Z st
    | false => sx_mth y ix A Z st
  | _, _ => none
/-- a method's locals at its start -/
def sx_ent (y : sx_M) (as : List Value) : sx_L := (as.flatMap (fun v => match v with | .long _ => [some v, none] | _ => [some v])) ++ List.replicate (y.2.2.1 - (as.flatMap (fun v => match v with | .long _ => [some v, (none : Option Value)] | _ => [some v])).length) none
def sx_eok (y : sx_M) (as : List Value) : Bool := decide ((as.flatMap (fun v => match v with | .long _ => [some v, (none : Option Value)] | _ => [some v])).length ≤ y.2.2.1) && ((sx_ent y as).zipIdx.all (fun p => match p.1 with
  | some (.long _) => y.2.2.2.2.2.2.2.contains p.2
  | some (.double _) => false
  | _ => true))
def sx_inv (y : sx_M) (i : Instr) (st : List Value) : Option (sx_M × List Value × List Value) :=
  match (match i with | .invokestatic ix => some (ix, false) | .invokevirtual ix => some (ix, true) | _ => none) with
  | some (ix, b) => match sx_ml y.2.2.2.2.1 ix with
    | some (kd, np, y') => if (((kd = 1 ∧ b = true) ∨ ((kd = 0 ∨ kd = 2) ∧ b = false)) ∧ y'.2.2.2.2.2.1 + 1 ≤ y.2.2.2.2.2.1 ∧ 8 + (y'.2.2.1 + 11) + y'.2.2.2.2.2.2.1 ≤ y.2.2.2.2.2.2.1) ∧ (np ≤ st.length ∧ (st.drop np).length ≤ 4) then some (y', (st.take np).reverse, st.drop np) else none
    | none => none
  | none => none
def sx_ret (y : sx_M) (i : Instr) (st : List Value) : Option (List Value) := match i, st with
  | .ireturn, [.int v] => match y.2.2.2.1 with
    | some ty => sx_if (narrow ty (.int v) = .int v) [.int v]
    | none => none
  | .lreturn, [.long v] => match y.2.2.2.1 with
    | some .long => some [.long v]
    | _ => none
  | .return_, [] => match y.2.2.2.1 with
    | none => some []
    | _ => none
  | .areturn, [.ref v] => match y.2.2.2.1 with
    | some (.object _) => some [.ref v]
    | _ => none
  | _, _ => none
/-- the class number that a receiver's cell bears -/
def sx_kcl (cn : Nat) : Nat := if cn = 6 then 20 else cn
def sx_rok (i : Instr) (as : List Value) (y : sx_M) : Bool := match i with
  | .invokevirtual _ => match as with
    | .ref k :: _ => decide (sx_kd k = sx_kcl y.2.2.2.2.1)
    | _ => false
  | _ => true
def sx_step (G : sx_G) (rec : sx_M → Nat → sx_L → List Value → sx_A → sx_Z → Option (List Value × sx_A × sx_Z)) (y : sx_M) (pc : Nat) (i : Instr) (L : sx_L) (st : List Value) (A : sx_A) (Z : sx_Z) : Option (List Value × sx_A × sx_Z) :=
  match sx_stk y.2.2.2.2.1 i st with
  | some st' => rec y (pc + sx_ln i) L st' A Z
  | none => match sx_loc y.2.2.2.2.2.2.2 y.2.2.1 L i st with
    | some (L', st') => rec y (pc + sx_ln i) L' st' A Z
    | none => match sx_br pc i st with
      | some (pc', st') => rec y pc' L st' A Z
      | none => match sx_mem G y A Z i st with
        | some (st', A', Z') => rec y (pc + sx_ln i) L st' A' Z'
        | none => match sx_inv y i st with
          | some (y', as, rs) => match sx_eok y' as && sx_rok i as y' with
            | true => match rec y' 0 (sx_ent y' as) [] A Z with
              | some (r, A', Z') => rec y (pc + sx_ln i) L (r ++ rs) A' Z'
              | none => none
            | false => none
          | none => match sx_ret y i st with
            | some r => some (r, A, Z)
            | none => none
def sx_one (G : sx_G) (rec : sx_M → Nat → sx_L → List Value → sx_A → sx_Z → Option (List Value × sx_A × sx_Z)) (y : sx_M) (pc : Nat) (i : Instr) (len : Nat) (L : sx_L) (st : List Value) (A : sx_A) (Z : sx_Z) : Option (List Value × sx_A × sx_Z) := match i, st with
  | .tableswitch d lo hi offs, .int x :: st' => match sx_tab pc d lo hi offs x with
    | some t => rec y t L st' A Z
    | none => none
  | i, st => if len = sx_ln i then sx_step G rec y pc i L st A Z else none
def sx_run (G : sx_G) : Nat → sx_M → Nat → sx_L → List Value → sx_A → sx_Z → Option (List Value × sx_A × sx_Z)
  | 0, _, _, _, _, _, _ => none
  | n + 1, y, pc, L, st, A, Z => match decode y.2.1 pc with
    | .error _ => none
    | .ok (i, len) => sx_one G (sx_run G n) y pc i len L st A Z
