/-! ===== THE SMALL MACHINE: memory is a layout (kind, length a cell), ints, longs and references by cell and place; kinds 0 to 11: objects of tm_cl; 12 char, 13 int, 14 long, 15 boolean, 16 State rows. References of 1000 on are strings, 1100 on their bytes, 2000 the script; retAddr stands for what is never looked at ===== -/
/-- methods with longs among their locals -/
def tm_hl (k : Nat) : Bool := Nat.beq k 47 || Nat.beq k 138 || Nat.beq k 139
abbrev tm_Mem : Type := List (Nat × Nat) × (Nat → Nat → Int32) × (Nat → Nat → Int64) × (Nat → Nat → Option Nat)
abbrev tm_St : Type := tm_Mem × Nat × Nat
abbrev tm_Out : Type := Nat × List Value × List Value × tm_St
abbrev tm_Env : Type := (Nat → Int32) × Nat
def tm_dum : Value := .retAddr 0
/-- the strings' bytes: nsew, the first house, the words -/
def tm_B0 : List Int32 := [110, 115, 101, 119]
def tm_B1 : List Int32 := [114, 49, 59, 114, 49, 59, 114, 48, 59, 116, 102, 45, 114, 48, 57, 115, 102, 59, 116, 97, 97, 48, 48, 50, 99, 111, 59, 116, 97, 98, 114, 48, 50, 99, 111, 59, 116, 98, 103, 48, 49, 49, 59, 116, 98, 104, 114, 49, 49, 59, 116, 99, 99, 48, 48, 51, 108, 59, 116, 100, 103, 48, 50, 49, 59, 116, 103, 101, 114, 50, 57, 99, 111, 102, 107, 48, 51, 59, 116, 100, 99, 48, 55, 49, 59, 116, 108, 104, 114, 49, 57, 111, 102, 107, 48, 52, 59, 100, 48, 49, 110, 59, 100, 49, 50, 101, 48, 57, 59]
def tm_B2 : List Int32 := [98, 111, 120, 32, 107, 101, 121, 32, 108, 97, 109, 112, 32, 99, 111, 105, 110, 32, 98, 97, 103, 32, 116, 97, 98, 108, 101, 32, 99, 104, 101, 115, 116, 32, 98, 111, 111, 107, 32, 99, 117, 112, 32, 114, 111, 112, 101, 32, 98, 97, 108, 108, 32, 100, 111, 111, 114, 32, 114, 101, 100, 32, 98, 108, 117, 101, 32, 111, 108, 100, 32, 110, 101, 119, 32, 98, 105, 103, 32, 115, 109, 97, 108, 108, 32, 103, 111, 108, 100, 32, 105, 114, 111, 110, 32, 116, 97, 107, 101, 32, 100, 114, 111, 112, 32, 112, 117, 116, 32, 111, 112, 101, 110, 32, 99, 108, 111, 115, 101, 32, 108, 111, 99, 107, 32, 117, 110, 108, 111, 99, 107, 32, 108, 105, 103, 104, 116, 32, 100, 111, 117, 115, 101, 32, 103, 111, 32, 108, 111, 111, 107, 32, 119, 97, 105, 116, 32, 105, 110, 32, 111, 110, 32, 102, 114, 111, 109, 32, 119, 105, 116, 104, 32, 116, 104, 101, 32, 105, 116, 32, 97, 108, 108, 32, 110, 32, 115, 32, 101, 32, 119, 32]
def tm_len : List Nat := [4, 109, 192]
def tm_byt : List (List Int32) := [tm_B0, tm_B1, tm_B2]
def tm_inb (i : Int32) (n : Nat) : Bool := !(decide (i < 0) || decide (n ≤ i.toNatClampNeg))
def tm_c0 (c : Jvm.ClassFile.Cond) (x : Int32) : Bool := match c with
  | .eq => decide (x = 0)
  | .ne => decide (¬ x = 0)
  | .lt => decide (x < 0)
  | .ge => decide (0 ≤ x)
  | .gt => decide (0 < x)
  | .le => decide (x ≤ 0)
def tm_c2 (c : Jvm.ClassFile.Cond) (x y : Int32) : Bool := match c with
  | .eq => decide (x = y)
  | .ne => decide (¬ x = y)
  | .lt => decide (x < y)
  | .ge => decide (y ≤ x)
  | .gt => decide (y < x)
  | .le => decide (x ≤ y)
/-- is a field a reference -/
def tm_isr (ci j : Nat) : Bool := match tm_ty ci j with
  | .int => false
  | .boolean => false
  | _ => true
def tm_nx (pc : Nat) (ls st : List Value) (S : tm_St) : Option tm_Out := some (pc, ls, st, S)
def tm_tgt (pc : Nat) (off : Int) : Nat := ((pc : Int) + off).toNat
/-- may a local be written (no long just below it) -/
def tm_free (k : Nat) (ls : List Value) (i : Nat) : Bool := !(tm_hl k) || (match i with
  | 0 => true
  | i + 1 => match ls[i]? with
    | some v => decide (v.category ≠ 2)
    | none => true)
def tm_load (pc : Nat) (i : Nat) (ty : Nat) (ls st : List Value) (S : tm_St) : Option tm_Out := match ls[i]? with
  | some (.int x) => if ty = 0 then tm_nx pc ls (.int x :: st) S else none
  | some (.ref a) => if ty = 1 then tm_nx pc ls (.ref a :: st) S else none
  | some (.long x) => if ty = 2 then tm_nx pc ls (.long x :: st) S else none
  | _ => none
def tm_store (k pc : Nat) (i : Nat) (ty : Nat) (ls st : List Value) (S : tm_St) : Option tm_Out := match st with
  | .int x :: r => if ty = 0 ∧ i < ls.length ∧ tm_free k ls i = true then tm_nx pc (ls.set i (.int x)) r S else none
  | .ref x :: r => if ty = 1 ∧ i < ls.length ∧ tm_free k ls i = true then tm_nx pc (ls.set i (.ref x)) r S else none
  | .long x :: r => if ty = 2 ∧ tm_hl k = true ∧ i + 1 < ls.length ∧ tm_free k ls i = true then tm_nx pc ((ls.set i (.long x)).set (i + 1) tm_dum) r S else none
  | _ => none
def tm_op2 (pc : Nat) (f : Int32 → Int32 → Option Int32) (ls st : List Value) (S : tm_St) : Option tm_Out := match st with
  | .int y :: .int x :: r => match f x y with
    | some z => tm_nx pc ls (.int z :: r) S
    | none => none
  | _ => none
def tm_op2l (pc : Nat) (f : Int64 → Int64 → Option Int64) (ls st : List Value) (S : tm_St) : Option tm_Out := match st with
  | .long y :: .long x :: r => match f x y with
    | some z => tm_nx pc ls (.long z :: r) S
    | none => none
  | _ => none
def tm_op1 (pc : Nat) (f : Int32 → Int32) (ls st : List Value) (S : tm_St) : Option tm_Out := match st with
  | .int x :: r => tm_nx pc ls (.int (f x) :: r) S
  | _ => none
def tm_if (t pc : Nat) (b : Bool) (ls st : List Value) (S : tm_St) : Option tm_Out := if b = true then tm_nx t ls st S else tm_nx pc ls st S
def tm_getf (pc : Nat) (a b d : Nat) (ls st : List Value) (S : tm_St) : Option tm_Out := match st with
  | .ref o :: r =>
    if d = 0 then match S.1.1[o]? with
      | some (ci, _) => if ci = a then (if tm_isr a b = true then tm_nx pc ls (va_rf (S.1.2.2.2 o b) :: r) S else tm_nx pc ls (.int (S.1.2.1 o b) :: r) S) else none
      | none => none
    else if 1000 ≤ o ∧ o < 1003 then (if d = 4 then tm_nx pc ls (.ref (o + 100) :: r) S else if d = 5 then tm_nx pc ls (.int 0 :: r) S else none)
    else none
  | _ => none
def tm_putf (pc : Nat) (a b d : Nat) (ls st : List Value) (S : tm_St) : Option tm_Out := match st with
  | .int x :: .ref o :: r => match S.1.1[o]? with
    | some (ci, _) => if ci = a ∧ d = 0 ∧ tm_isr a b = false ∧ vp_nar (tm_ty a b) x = x ∧ fits (tm_ty a b) (.int x) = true then tm_nx pc ls r ((S.1.1, va_up S.1.2.1 o (upd (S.1.2.1 o) b x), S.1.2.2.1, S.1.2.2.2), S.2) else none
    | none => none
  | .ref x :: .ref o :: r => match S.1.1[o]? with
    | some (ci, _) => if ci = a ∧ d = 0 ∧ x < S.1.1.length ∧ tm_isr a b = true then tm_nx pc ls r ((S.1.1, S.1.2.1, S.1.2.2.1, va_up S.1.2.2.2 o (va_up (S.1.2.2.2 o) b (some x))), S.2) else none
    | none => none
  | _ => none
/-- ints out of a row of a kind -/
def tm_ald (E : tm_Env) (pc : Nat) (kd : Nat) (ls st : List Value) (S : tm_St) : Option tm_Out := match st with
  | .int i :: .ref o :: r =>
    if o = 2000 then (if kd = 13 ∧ tm_inb i E.2 = true then tm_nx pc ls (.int (E.1 i.toNatClampNeg) :: r) S else none)
    else if 1100 ≤ o ∧ o < 1103 then (if kd = 15 ∧ tm_inb i (tm_len.getD (o - 1100) 0) = true then tm_nx pc ls (.int ((tm_byt.getD (o - 1100) []).getD i.toNatClampNeg 0) :: r) S else none)
    else match S.1.1[o]? with
    | some (k, n) => if k = kd ∧ tm_inb i n = true then tm_nx pc ls (.int (S.1.2.1 o i.toNatClampNeg) :: r) S else none
    | none => none
  | _ => none
def tm_akt (kd : Nat) : FieldType := if kd = 12 then .char else if kd = 13 then .int else if kd = 14 then .long else if kd = 15 then .boolean else .object "TypedRooms$State"
def tm_ast (pc : Nat) (kd : Nat) (ls st : List Value) (S : tm_St) : Option tm_Out := match st with
  | .int x :: .int i :: .ref o :: r => match S.1.1[o]? with
    | some (k, n) => if k = kd ∧ tm_inb i n = true then tm_nx pc ls r ((S.1.1, va_up S.1.2.1 o (upd (S.1.2.1 o) i.toNatClampNeg (vp_nar (tm_akt kd) x)), S.1.2.2.1, S.1.2.2.2), S.2) else none
    | none => none
  | _ => none
def tm_lald (pc : Nat) (ls st : List Value) (S : tm_St) : Option tm_Out := match st with
  | .int i :: .ref o :: r => match S.1.1[o]? with
    | some (k, n) => if k = 14 ∧ tm_inb i n = true then tm_nx pc ls (.long (S.1.2.2.1 o i.toNatClampNeg) :: r) S else none
    | none => none
  | _ => none
def tm_last (pc : Nat) (ls st : List Value) (S : tm_St) : Option tm_Out := match st with
  | .long x :: .int i :: .ref o :: r => match S.1.1[o]? with
    | some (k, n) => if k = 14 ∧ tm_inb i n = true then tm_nx pc ls r ((S.1.1, S.1.2.1, va_up S.1.2.2.1 o (vp_updL (S.1.2.2.1 o) i.toNatClampNeg x), S.1.2.2.2), S.2) else none
    | none => none
  | _ => none
def tm_aald (pc : Nat) (ls st : List Value) (S : tm_St) : Option tm_Out := match st with
  | .int i :: .ref o :: r => match S.1.1[o]? with
    | some (k, n) => if k = 16 ∧ tm_inb i n = true then tm_nx pc ls (va_rf (S.1.2.2.2 o i.toNatClampNeg) :: r) S else none
    | none => none
  | _ => none
def tm_aast (pc : Nat) (ls st : List Value) (S : tm_St) : Option tm_Out := match st with
  | .ref v :: .int i :: .ref o :: r => match S.1.1[o]?, S.1.1[v]? with
    | some (k, n), some (kv, _) => if k = 16 ∧ kv = 7 ∧ tm_inb i n = true then tm_nx pc ls r ((S.1.1, S.1.2.1, S.1.2.2.1, va_up S.1.2.2.2 o (va_up (S.1.2.2.2 o) i.toNatClampNeg (some v))), S.2) else none
    | _, _ => none
  | _ => none
def tm_alen (E : tm_Env) (pc : Nat) (ls st : List Value) (S : tm_St) : Option tm_Out := match st with
  | .ref o :: r =>
    if o = 2000 then tm_nx pc ls (.int (Int32.ofNat E.2) :: r) S
    else if 1100 ≤ o ∧ o < 1103 then tm_nx pc ls (.int (Int32.ofNat (tm_len.getD (o - 1100) 0)) :: r) S
    else match S.1.1[o]? with
    | some (k, n) => if 12 ≤ k then tm_nx pc ls (.int (Int32.ofNat n) :: r) S else none
    | none => none
  | _ => none
/-- references are cells that there are, or the fixed ones -/
def tm_vb (n : Nat) (vs : List Value) : Bool := vs.all (fun v => match v with
  | .ref a => decide (a < n ∨ 1000 ≤ a)
  | _ => true)
def tm_new (pc k a : Nat) (ls st : List Value) (S : tm_St) : Option tm_Out :=
  if a < 12 ∧ S.1.1.length < 999 ∧ tm_vb S.1.1.length (ls ++ st) = true ∧ S.2.1 + 1 ≤ tm_mc k ∧ S.2.2 + tm_nf a ≤ tm_ms k then
    tm_nx pc ls (.ref S.1.1.length :: st) ((S.1.1 ++ [(a, tm_nf a)], va_up S.1.2.1 S.1.1.length (fun _ => 0), S.1.2.2.1, va_up S.1.2.2.2 S.1.1.length (fun _ => none)), S.2.1 + 1, S.2.2 + tm_nf a)
  else none
def tm_nak (t : ArrayType) : Nat := match t with
  | .char => 12
  | .int => 13
  | .long => 14
  | .boolean => 15
  | _ => 0
def tm_newa (pc k kd : Nat) (ls st : List Value) (S : tm_St) : Option tm_Out := match st with
  | .int n :: r =>
    if 12 ≤ kd ∧ S.1.1.length < 999 ∧ tm_vb S.1.1.length (ls ++ st) = true ∧ ¬ n < 0 ∧ n.toNatClampNeg ≤ 10000 ∧ S.2.1 + 1 ≤ tm_mc k ∧ S.2.2 + n.toNatClampNeg ≤ tm_ms k then
      tm_nx pc ls (.ref S.1.1.length :: r) ((S.1.1 ++ [(kd, n.toNatClampNeg)], va_up S.1.2.1 S.1.1.length (fun _ => 0), va_up S.1.2.2.1 S.1.1.length (fun _ => 0), va_up S.1.2.2.2 S.1.1.length (fun _ => none)), S.2.1 + 1, S.2.2 + n.toNatClampNeg)
    else none
  | _ => none
def tm_copy (pc : Nat) (ls st : List Value) (S : tm_St) : Option tm_Out := match st with
  | .int n :: .int dp :: .ref a :: .int sp :: .ref a0 :: r => match S.1.1[a0]?, S.1.1[a]? with
    | some (k0, n0), some (k1, n1) =>
      if k0 = 13 ∧ k1 = 13 ∧ ¬ sp < 0 ∧ ¬ dp < 0 ∧ ¬ n < 0 ∧ sp.toNatClampNeg + n.toNatClampNeg ≤ n0 ∧ dp.toNatClampNeg + n.toNatClampNeg ≤ n1 ∧ r = [] then
        tm_nx pc ls r ((S.1.1, va_up S.1.2.1 a (va_cpy (S.1.2.1 a0) (S.1.2.1 a) sp.toNatClampNeg dp.toNatClampNeg n.toNatClampNeg), S.1.2.2.1, S.1.2.2.2), S.2)
      else none
    | _, _ => none
  | _ => none
def tm_exp : List Value → List Value
  | [] => []
  | v :: vs => if v.category = 2 then v :: tm_dum :: tm_exp vs else v :: tm_exp vs
/-- no long among them -/
def tm_n2 (vs : List Value) : Bool := vs.all (fun v => decide (v.category ≠ 2))
def tm_ent (k : Nat) (as : List Value) : List Value := tm_exp as ++ List.replicate (tm_x k - (tm_exp as).length) tm_dum
def tm_sum (st : List Value) : Nat := (st.map fun v => v.category).sum
/-- is a cell an object of method k's class -/
def tm_recv (k o : Nat) (S : tm_St) : Bool :=
  if 1000 ≤ o ∧ o < 1003 then tm_o k == 13 else match S.1.1[o]? with
  | some (ci, _) => decide (ci < 12 ∧ ci = tm_o k)
  | none => false
def tm_call (k a n md : Nat) (ls st : List Value) (S : tm_St) : Option (List Value × List Value) :=
  if md = 1 then
    (if (tm_mc a = 0 ∨ tm_vb S.1.1.length (ls ++ st) = true) ∧ (st.take n).length = n ∧ tm_sum (st.drop n) ≤ 8 ∧ (tm_exp (st.take n).reverse).length ≤ tm_x a ∧ (tm_hl a = true ∨ tm_n2 (st.take n).reverse = true) ∧ S.2.1 + tm_mc a ≤ tm_mc k ∧ S.2.2 + tm_ms a ≤ tm_ms k then some ((st.take n).reverse, st.drop n) else none)
  else match st.drop n with
    | .ref o :: r => if (tm_mc a = 0 ∨ tm_vb S.1.1.length (ls ++ st) = true) ∧ (st.take n).length = n ∧ tm_sum r ≤ 8 ∧ (tm_exp (.ref o :: (st.take n).reverse)).length ≤ tm_x a ∧ (tm_hl a = true ∨ tm_n2 (.ref o :: (st.take n).reverse) = true) ∧ tm_recv a o S = true ∧ S.2.1 + tm_mc a ≤ tm_mc k ∧ S.2.2 + tm_ms a ≤ tm_ms k then some (.ref o :: (st.take n).reverse, r) else none
    | _ => none
def tm_exec (E : tm_Env) (k pc : Nat) (x : tm_Ins) (ls st : List Value) (S : tm_St) : Option tm_Out :=
  match x with
  | (i, ln, a, b, c, d) => match i with
    | .iconst n => tm_nx (pc + 1) ls (.int (Int32.ofInt n) :: st) S
    | .bipush n => tm_nx (pc + 2) ls (.int (Int8.ofInt n).toInt32 :: st) S
    | .sipush n => tm_nx (pc + 3) ls (.int (Int16.ofInt n).toInt32 :: st) S
    | .lconst n => tm_nx (pc + 1) ls (.long (Int64.ofNat (n : Nat)) :: st) S
    | .ldc _ => if d = 0 then tm_nx (pc + 2) ls (.int (Int32.ofNat a) :: st) S else tm_nx (pc + 2) ls (.ref (1000 + a) :: st) S
    | .ldc_w _ => tm_nx (pc + 3) ls (.int (Int32.ofNat a) :: st) S
    | .ldc2_w _ => tm_nx (pc + 3) ls (.long (Int64.ofNat a) :: st) S
    | .iload_n n => tm_load (pc + 1) n 0 ls st S
    | .iload n => tm_load (pc + 2) n 0 ls st S
    | .aload_n n => tm_load (pc + 1) n 1 ls st S
    | .aload n => tm_load (pc + 2) n 1 ls st S
    | .lload_n n => tm_load (pc + 1) n 2 ls st S
    | .lload n => tm_load (pc + 2) n 2 ls st S
    | .istore_n n => tm_store k (pc + 1) n 0 ls st S
    | .istore n => tm_store k (pc + 2) n 0 ls st S
    | .astore_n n => tm_store k (pc + 1) n 1 ls st S
    | .astore n => tm_store k (pc + 2) n 1 ls st S
    | .lstore_n n => tm_store k (pc + 1) n 2 ls st S
    | .lstore n => tm_store k (pc + 2) n 2 ls st S
    | .iinc n v => match ls[n]? with
      | some (.int x) => if tm_free k ls n = true then tm_nx (pc + 3) (ls.set n (.int (x + Int32.ofInt v))) st S else none
      | _ => none
    | .iadd => tm_op2 (pc + 1) (fun x y => some (x + y)) ls st S
    | .isub => tm_op2 (pc + 1) (fun x y => some (x - y)) ls st S
    | .imul => tm_op2 (pc + 1) (fun x y => some (x * y)) ls st S
    | .idiv => tm_op2 (pc + 1) (fun x y => if y = 0 then none else some (x / y)) ls st S
    | .irem => tm_op2 (pc + 1) (fun x y => if y = 0 then none else some (x - x / y * y)) ls st S
    | .iand => tm_op2 (pc + 1) (fun x y => some (x &&& y)) ls st S
    | .ior => tm_op2 (pc + 1) (fun x y => some (x ||| y)) ls st S
    | .ixor => tm_op2 (pc + 1) (fun x y => some (x ^^^ y)) ls st S
    | .ishl => tm_op2 (pc + 1) (fun x y => some (x <<< (y &&& 31))) ls st S
    | .ishr => tm_op2 (pc + 1) (fun x y => some (x >>> (y &&& 31))) ls st S
    | .iushr => tm_op2 (pc + 1) (fun x y => some ((x.toUInt32 >>> (y.toUInt32 &&& Int32.toUInt32 31)).toInt32)) ls st S
    | .ineg => tm_op1 (pc + 1) (fun x => -x) ls st S
    | .i2c => tm_op1 (pc + 1) (fun x => (x.toUInt32 % 65536).toInt32) ls st S
    | .i2b => tm_op1 (pc + 1) (fun x => x.toInt8.toInt32) ls st S
    | .ladd => tm_op2l (pc + 1) (fun x y => some (x + y)) ls st S
    | .lmul => tm_op2l (pc + 1) (fun x y => some (x * y)) ls st S
    | .lrem => tm_op2l (pc + 1) (fun x y => if y = 0 then none else some (x - x / y * y)) ls st S
    | .land => tm_op2l (pc + 1) (fun x y => some (x &&& y)) ls st S
    | .lshr => match st with
      | .int y :: .long x :: r => tm_nx (pc + 1) ls (.long (x >>> (y.toInt64 &&& 63)) :: r) S
      | _ => none
    | .lcmp => match st with
      | .long y :: .long x :: r => tm_nx (pc + 1) ls (.int (lg_cmp x y) :: r) S
      | _ => none
    | .i2l => match st with
      | .int x :: r => tm_nx (pc + 1) ls (.long x.toInt64 :: r) S
      | _ => none
    | .l2i => match st with
      | .long x :: r => tm_nx (pc + 1) ls (.int x.toInt32 :: r) S
      | _ => none
    | .dup => match st with
      | v :: r => if v.category = 1 then tm_nx (pc + 1) ls (v :: v :: r) S else none
      | _ => none
    | .dup2 => match st with
      | v :: w :: r => if v.category = 1 ∧ w.category = 1 then tm_nx (pc + 1) ls (v :: w :: v :: w :: r) S else none
      | _ => none
    | .pop => match st with
      | v :: r => if v.category = 1 then tm_nx (pc + 1) ls r S else none
      | _ => none
    | .ifCond cd off => match st with
      | .int x :: r => tm_if (tm_tgt pc off) (pc + 3) (tm_c0 cd x) ls r S
      | _ => none
    | .if_icmp cd off => match st with
      | .int y :: .int x :: r => tm_if (tm_tgt pc off) (pc + 3) (tm_c2 cd x y) ls r S
      | _ => none
    | .goto off => tm_nx (tm_tgt pc off) ls st S
    | .tableswitch df lo hi offs => match st with
      | .int x :: r => if x.toInt < lo ∨ hi < x.toInt then tm_nx (tm_tgt pc df) ls r S else match offs[(x.toInt - lo).toNat]? with
        | some off => tm_nx (tm_tgt pc off) ls r S
        | none => none
      | _ => none
    | .lookupswitch df ps => match st with
      | .int x :: r => tm_nx (tm_tgt pc (Op.lookupswitch.offset ps.toList df x.toInt)) ls r S
      | _ => none
    | .getfield _ => tm_getf (pc + 3) a b d ls st S
    | .putfield _ => tm_putf (pc + 3) a b d ls st S
    | .getstatic _ => if d = 0 then tm_nx (pc + 3) ls (.int 1 :: st) S else tm_nx (pc + 3) ls (.retAddr 1 :: st) S
    | .iaload => tm_ald E (pc + 1) 13 ls st S
    | .caload => tm_ald E (pc + 1) 12 ls st S
    | .baload => tm_ald E (pc + 1) 15 ls st S
    | .iastore => tm_ast (pc + 1) 13 ls st S
    | .castore => tm_ast (pc + 1) 12 ls st S
    | .bastore => tm_ast (pc + 1) 15 ls st S
    | .laload => tm_lald (pc + 1) ls st S
    | .lastore => tm_last (pc + 1) ls st S
    | .aaload => tm_aald (pc + 1) ls st S
    | .aastore => tm_aast (pc + 1) ls st S
    | .arraylength => tm_alen E (pc + 1) ls st S
    | .new _ => tm_new (pc + 3) k a ls st S
    | .newarray t => tm_newa (pc + 2) k (tm_nak t) ls st S
    | .anewarray _ => tm_newa (pc + 3) k 16 ls st S
    | .invokestatic _ => if d = 9 then tm_copy (pc + 3) ls st S
      else if d = 6 then (if tm_sum (st.drop 2) ≤ 8 then tm_op2 (pc + 3) (fun x y => some (if y < x then y else x)) ls st S else none)
      else if d = 7 then (if tm_sum (st.drop 2) ≤ 8 then tm_op2 (pc + 3) (fun x y => some (if x < y then y else x)) ls st S else none) else none
    | .invokespecial _ => if d = 8 then (match st with
      | .ref _ :: r => if tm_sum r ≤ 8 then tm_nx (pc + 3) ls r S else none
      | _ => none) else none
    | _ => none
/-- calls of the tables' methods -/
def tm_isc (x : tm_Ins) : Bool := match x.1 with
  | .invokevirtual _ => x.2.2.2.2.2 == 0
  | .invokestatic _ => x.2.2.2.2.2 == 1
  | .invokespecial _ => x.2.2.2.2.2 == 2
  | _ => false
/-- returns: what is answered -/
def tm_retx (k : Nat) (x : tm_Ins) (st : List Value) : Option (Option Int32) := match x.1 with
  | .ireturn => match st with
    | [.int x] => match tm_t k with
      | some ty => if narrow ty (.int x) = .int x then some (some x) else none
      | none => none
    | _ => none
  | .return_ => match st with
    | [] => match tm_t k with
      | none => some none
      | some _ => none
    | _ => none
  | _ => none
def tm_isret (x : tm_Ins) : Bool := match x.1 with
  | .ireturn => true
  | .return_ => true
  | _ => false
def tm_push (r : Option Int32) (st : List Value) : List Value := match r with
  | some x => .int x :: st
  | none => st
def tm_run (E : tm_Env) : Nat → Nat → Nat → List Value → List Value → tm_St → Option (Option Int32 × tm_St)
  | 0, _, _, _, _, _ => none
  | n + 1, k, pc, ls, st, S => match tm_prog k pc with
    | none => none
    | some x =>
      if tm_isc x = true then match tm_call k x.2.2.1 x.2.2.2.1 x.2.2.2.2.2 ls st S with
        | none => none
        | some c => match tm_run E n x.2.2.1 0 (tm_ent x.2.2.1 c.1) [] (S.1, 0, 0) with
          | none => none
          | some q => tm_run E n k (pc + 3) ls (tm_push q.1 c.2) (q.2.1, S.2.1 + tm_mc x.2.2.1, S.2.2 + tm_ms x.2.2.1)
      else if tm_isret x = true then match tm_retx k x st with
        | none => none
        | some r => some (r, S)
      else match tm_exec E k pc x ls st S with
        | none => none
        | some z => tm_run E n k z.1 z.2.1 z.2.2.1 z.2.2.2
