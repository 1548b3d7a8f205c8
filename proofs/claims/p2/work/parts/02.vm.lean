/-! THE SMALL MACHINE. A store: shapes of cells (inl (type, length): an array; inr c: an object of class number c), ints, longs, references by (cell, slot). References are numbers of cells; from 100000 on: static tables. -/
abbrev mv_Sh : Type := (Nat × Nat) ⊕ Nat
abbrev mv_S : Type := List mv_Sh × (Nat → Nat → Int32) × (Nat → Nat → Int64) × (Nat → Nat → Option Nat)
abbrev mv_L : Type := List (Option Value)
/-- a row of a method's table: its place, the instruction, its length, four numbers -/
abbrev mv_E : Type := Nat × ClassFile.Instr × Nat × Nat × Nat × Nat × Nat
/-- a frame: place, locals, stack, cells and slots made, store -/
abbrev mv_F : Type := Nat × mv_L × List Value × Nat × Nat × mv_S
/-- a method: name, bytes, locals, answer, owner, table, the cells that it makes, the slots at most, its room: frames and words of locals -/
abbrev mv_Me : Type := MethodName × ByteArray × Nat × Option FieldType × String × List mv_E × Nat × Nat × Nat × Nat
abbrev mv_cc (M : mv_Me) : ByteArray := M.2.1
abbrev mv_ml (M : mv_Me) : Nat := M.2.2.1
abbrev mv_rt (M : mv_Me) : Option FieldType := M.2.2.2.1
abbrev mv_ow (M : mv_Me) : String := M.2.2.2.2.1
abbrev mv_tb (M : mv_Me) : List mv_E := M.2.2.2.2.2.1
abbrev mv_mc (M : mv_Me) : Nat := M.2.2.2.2.2.2.1
abbrev mv_ms (M : mv_Me) : Nat := M.2.2.2.2.2.2.2.1
abbrev mv_fr (M : mv_Me) : Nat := M.2.2.2.2.2.2.2.2.1
abbrev mv_lo (M : mv_Me) : Nat := M.2.2.2.2.2.2.2.2.2
def mv_at : List mv_E → Nat → Option (ClassFile.Instr × Nat × Nat × Nat × Nat × Nat)
  | [], _ => none
  | e :: r, pc => bif Nat.beq e.1 pc then some e.2 else mv_at r pc
def mv_len (i : ClassFile.Instr) : Nat := match i with
  | .bipush _ | .iload _ | .lload _ | .aload _ | .istore _ | .lstore _ | .astore _ | .ldc _ | .newarray _ => 2
  | .sipush _ | .ldc_w _ | .ldc2_w _ | .iinc _ _ | .getfield _ | .putfield _ | .getstatic _ | .new _ | .invokevirtual _ | .invokespecial _ | .invokestatic _ | .ifCond _ _ | .if_icmp _ _ | .goto _ => 3
  | _ => 1
def mv_up {α : Type} (f : Nat → Nat → α) (k j : Nat) (x : α) : Nat → Nat → α := fun a b => if a = k then (if b = j then x else f a b) else f a b
def mv_clr {α : Type} (f : Nat → Nat → α) (k : Nat) (x : α) : Nat → Nat → α := fun a b => if a = k then x else f a b
/-- instructions on the stack alone -/
def mv_ii (f : Int32 → Int32 → Int32) (st : List Value) : Option (List Value) := match st with
  | .int y :: .int x :: r => some (.int (f x y) :: r)
  | _ => none
def mv_i1 (f : Int32 → Value) (st : List Value) : Option (List Value) := match st with
  | .int x :: r => some (f x :: r)
  | _ => none
def mv_ll (f : Int64 → Int64 → Value) (st : List Value) : Option (List Value) := match st with
  | .long y :: .long x :: r => some (f x y :: r)
  | _ => none
def mv_li (f : Int64 → Int32 → Int64) (st : List Value) : Option (List Value) := match st with
  | .int y :: .long x :: r => some (.long (f x y) :: r)
  | _ => none
def mv_l1 (f : Int64 → Value) (st : List Value) : Option (List Value) := match st with
  | .long x :: r => some (f x :: r)
  | _ => none
def mv_c1 (v : Value) : Bool := Nat.beq v.category 1
def mv_pure (i : ClassFile.Instr) (st : List Value) : Option (List Value) := match i with
  | .iconst n => some (.int (Int32.ofInt n) :: st)
  | .bipush n => some (.int (Int8.ofInt n).toInt32 :: st)
  | .sipush n => some (.int (Int16.ofInt n).toInt32 :: st)
  | .lconst n => some (.long (Int64.ofNat (n : Nat)) :: st)
  | .aconst_null => some (.null :: st)
  | .iadd => mv_ii (fun x y => x + y) st
  | .isub => mv_ii (fun x y => x - y) st
  | .imul => mv_ii (fun x y => x * y) st
  | .iand => mv_ii (fun x y => x &&& y) st
  | .ior => mv_ii (fun x y => x ||| y) st
  | .ixor => mv_ii (fun x y => x ^^^ y) st
  | .ishl => mv_ii (fun x y => x <<< (y &&& 31)) st
  | .ishr => mv_ii (fun x y => x >>> (y &&& 31)) st
  | .iushr => mv_ii (fun x y => (x.toUInt32 >>> (y.toUInt32 &&& Int32.toUInt32 31)).toInt32) st
  | .ineg => mv_i1 (fun x => .int (-x)) st
  | .ladd => mv_ll (fun x y => .long (x + y)) st
  | .lsub => mv_ll (fun x y => .long (x - y)) st
  | .land => mv_ll (fun x y => .long (x &&& y)) st
  | .lor => mv_ll (fun x y => .long (x ||| y)) st
  | .lxor => mv_ll (fun x y => .long (x ^^^ y)) st
  | .lcmp => mv_ll (fun x y => .int (lg_cmp x y)) st
  | .lshl => mv_li (fun x y => x <<< (y.toInt64 &&& 63)) st
  | .lshr => mv_li (fun x y => x >>> (y.toInt64 &&& 63)) st
  | .lushr => mv_li (fun x y => (x.toUInt64 >>> (y.toInt64.toUInt64 &&& Int64.toUInt64 63)).toInt64) st
  | .i2l => mv_i1 (fun x => .long x.toInt64) st
  | .l2i => mv_l1 (fun x => .int x.toInt32) st
  | .i2b => mv_i1 (fun x => .int x.toInt8.toInt32) st
  | .dup => match st with
    | v :: r => bif mv_c1 v then some (v :: v :: r) else none
    | _ => none
  | .pop => match st with
    | v :: r => bif mv_c1 v then some r else none
    | _ => none
  | .dup_x1 => match st with
    | v :: w :: r => bif mv_c1 v && mv_c1 w then some (v :: w :: v :: r) else none
    | _ => none
  | .dup_x2 => match st with
    | v :: w :: x :: r => bif mv_c1 v && (mv_c1 w && mv_c1 x) then some (v :: w :: x :: v :: r) else none
    | _ => none
  | .dup2 => match st with
    | v :: w :: r => bif mv_c1 v && mv_c1 w then some (v :: w :: v :: w :: r) else none
    | _ => none
  | _ => none
/-- instructions on locals -/
def mv_ldi (lc : mv_L) (n : Nat) (st : List Value) : Option (mv_L × List Value) := match lc[n]? with
  | some (some (.int x)) => some (lc, .int x :: st)
  | _ => none
def mv_ldl (lc : mv_L) (n : Nat) (st : List Value) : Option (mv_L × List Value) := match lc[n]? with
  | some (some (.long x)) => some (lc, .long x :: st)
  | _ => none
def mv_lda (lc : mv_L) (n : Nat) (st : List Value) : Option (mv_L × List Value) := match lc[n]? with
  | some (some (.ref x)) => some (lc, .ref x :: st)
  | _ => none
/-- nothing of two slots stands right ahead of it -/
def mv_ok1 (lc : mv_L) (n : Nat) : Bool := match n with
  | 0 => true
  | k + 1 => match lc[k]? with
    | some (some v) => mv_c1 v
    | _ => true
def mv_sti (lc : mv_L) (n : Nat) (st : List Value) : Option (mv_L × List Value) := match st with
  | .int x :: r => bif mv_ok1 lc n && Nat.blt n lc.length then some (lc.set n (some (.int x)), r) else none
  | _ => none
def mv_stl (lc : mv_L) (n : Nat) (st : List Value) : Option (mv_L × List Value) := match st with
  | .long x :: r => bif mv_ok1 lc n && Nat.blt (n + 1) lc.length then some ((lc.set n (some (.long x))).set (n + 1) none, r) else none
  | _ => none
def mv_sta (lc : mv_L) (n : Nat) (st : List Value) : Option (mv_L × List Value) := match st with
  | .ref x :: r => bif mv_ok1 lc n && Nat.blt n lc.length then some (lc.set n (some (.ref x)), r) else none
  | _ => none
def mv_inc (lc : mv_L) (n : Nat) (z : Int) (st : List Value) : Option (mv_L × List Value) := match lc[n]? with
  | some (some (.int x)) => bif mv_ok1 lc n && Nat.blt n lc.length then some (lc.set n (some (.int (x + Int32.ofInt z))), st) else none
  | _ => none
def mv_loc (i : ClassFile.Instr) (lc : mv_L) (st : List Value) : Option (mv_L × List Value) := match i with
  | .iload n => mv_ldi lc n st
  | .iload_n k => mv_ldi lc k.val st
  | .lload n => mv_ldl lc n st
  | .lload_n k => mv_ldl lc k.val st
  | .aload n => mv_lda lc n st
  | .aload_n k => mv_lda lc k.val st
  | .istore n => mv_sti lc n st
  | .istore_n k => mv_sti lc k.val st
  | .lstore n => mv_stl lc n st
  | .lstore_n k => mv_stl lc k.val st
  | .astore n => mv_sta lc n st
  | .astore_n k => mv_sta lc k.val st
  | .iinc n z => mv_inc lc n z st
  | _ => none
/-- a field's value by its kind: 3 a long, 4 a reference, else an int -/
def mv_fval (c : Nat) (S : mv_S) (k j : Nat) : Value := bif Nat.beq c 3 then .long (S.2.2.1 k j) else bif Nat.beq c 4 then (match S.2.2.2 k j with
  | none => .null
  | some q => .ref q) else .int (S.2.1 k j)
def mv_put (c : Nat) (v : Value) (S : mv_S) (k j : Nat) : Option mv_S := match c, v with
  | 0, .int x => some (S.1, mv_up S.2.1 k j x, S.2.2.1, S.2.2.2)
  | 1, .int x => bif x == 0 || x == 1 then some (S.1, mv_up S.2.1 k j x, S.2.2.1, S.2.2.2) else none
  | 3, .long x => some (S.1, S.2.1, mv_up S.2.2.1 k j x, S.2.2.2)
  | 4, .ref q => some (S.1, S.2.1, S.2.2.1, mv_up S.2.2.2 k j (some q))
  | _, _ => none
def mv_new (S : mv_S) (sh : mv_Sh) : mv_S := (S.1 ++ [sh], mv_clr S.2.1 S.1.length 0, mv_clr S.2.2.1 S.1.length 0, mv_clr S.2.2.2 S.1.length none)
def mv_ty (t : Nat) : FieldType := match t with
  | 1 => .boolean
  | 2 => .byte
  | 3 => .long
  | _ => .int
/-- the numbers a b c of a row: of a field its class, its place, its kind; of new the class and how many fields; of newarray c the type; of a constant a the number; of getstatic a the table; of a call a the method, b how many arguments, c the kind of call -/
def mv_heap (sta : Nat → List Int32) (mc ms : Nat) (i : ClassFile.Instr) (a b c : Nat) (st : List Value) (vc vs : Nat) (S : mv_S) : Option (List Value × Nat × Nat × mv_S) := match i with
  | .getfield _ => match st with
    | .ref k :: r => match S.1[k]? with
      | some (.inr ci) => bif Nat.beq ci a then some (mv_fval c S k b :: r, vc, vs, S) else none
      | _ => none
    | _ => none
  | .putfield _ => match st with
    | v :: .ref k :: r => match S.1[k]? with
      | some (.inr ci) => bif Nat.beq ci a then (match mv_put c v S k b with
        | some S' => some (r, vc, vs, S')
        | none => none) else none
      | _ => none
    | _ => none
  | .arraylength => match st with
    | .ref k :: r => match S.1[k]? with
      | some (.inl (t, n)) => bif Nat.ble t 3 then some (.int (Int32.ofNat n) :: r, vc, vs, S) else none
      | some (.inr _) => none
      | none => bif Nat.ble 100000 k && Nat.ble 1 (sta (k - 100000)).length then some (.int (Int32.ofNat (sta (k - 100000)).length) :: r, vc, vs, S) else none
    | _ => none
  | .new _ => bif Nat.ble (vc + 1) mc && (Nat.ble (vs + b) ms && Nat.blt S.1.length 100000) then some (.ref S.1.length :: st, vc + 1, vs + b, mv_new S (.inr a)) else none
  | .newarray _ => match st with
    | .int x :: r => bif Nat.ble (vc + 1) mc && (Nat.ble (vs + x.toNatClampNeg) ms && (Nat.blt S.1.length 100000 && (Nat.ble x.toNatClampNeg 1000000 && decide (¬ x < 0)))) then some (.ref S.1.length :: r, vc + 1, vs + x.toNatClampNeg, mv_new S (.inl (c, x.toNatClampNeg))) else none
    | _ => none
  | .ldc _ => some (.int (Int32.ofNat a) :: st, vc, vs, S)
  | .ldc_w _ => some (.int (Int32.ofNat a) :: st, vc, vs, S)
  | .ldc2_w _ => some (.long (Int64.ofNat a) :: st, vc, vs, S)
  | .getstatic _ => some (.ref (100000 + a) :: st, vc, vs, S)
  | .invokespecial _ => match c with
    | 3 => match st with
      | .ref _ :: r => bif Nat.ble ((r.map fun v => v.category).sum) 8 then some (r, vc, vs, S) else none
      | _ => none
    | _ => none
  | .invokestatic _ => match c, st with
    | 4, .int y :: .int x :: r => bif Nat.ble ((r.map fun v => v.category).sum) 8 then some (.int (if x < y then y else x) :: r, vc, vs, S) else none
    | 5, .int y :: .int x :: r => bif Nat.ble ((r.map fun v => v.category).sum) 8 then some (.int (if y < x then y else x) :: r, vc, vs, S) else none
    | _, _ => none
  | _ => none
/-- one step, where it is a function -/
def mv_one (sta : Nat → List Int32) (M : mv_Me) (F : mv_F) : Option mv_F := match F with
  | (pc, lc, st, vc, vs, S) => match mv_at (mv_tb M) pc with
    | none => none
    | some (i, _, a, b, c, _) => match mv_pure i st with
      | some st' => some (pc + mv_len i, lc, st', vc, vs, S)
      | none => match mv_loc i lc st with
        | some (lc', st') => some (pc + mv_len i, lc', st', vc, vs, S)
        | none => match mv_heap sta (mv_mc M) (mv_ms M) i a b c st vc vs S with
          | some (st', vc', vs', S') => some (pc + mv_len i, lc, st', vc', vs', S')
          | none => match i with
            | .goto off => match (pc : Int) + off with
              | .ofNat t => some (t, lc, st, vc, vs, S)
              | .negSucc _ => none
            | _ => none
def mv_run (sta : Nat → List Int32) (M : mv_Me) : Nat → mv_F → Option mv_F
  | 0, F => some F
  | n + 1, F => match mv_one sta M F with
    | none => none
    | some F' => mv_run sta M n F'
/-- branches: what is asked, how far, what stays on the stack -/
def mv_cond (i : ClassFile.Instr) (st : List Value) : Option (Prop × Int × List Value) := match i with
  | .ifCond cd off => match st with
    | .int x :: r => match cd with
      | .eq => some (x = 0, off, r)
      | .ne => some (¬ x = 0, off, r)
      | .lt => some (x < 0, off, r)
      | .ge => some (0 ≤ x, off, r)
      | .gt => some (0 < x, off, r)
      | .le => some (x ≤ 0, off, r)
    | _ => none
  | .if_icmp cd off => match st with
    | .int y :: .int x :: r => match cd with
      | .eq => some (x = y, off, r)
      | .ne => some (¬ x = y, off, r)
      | .lt => some (x < y, off, r)
      | .ge => some (y ≤ x, off, r)
      | .gt => some (y < x, off, r)
      | .le => some (x ≤ y, off, r)
    | _ => none
  | _ => none
/-- how far a switch goes -/
def mv_sw (i : ClassFile.Instr) (x : Int32) : Option Int := match i with
  | .lookupswitch d ps => bif (ps.toList.zip (ps.toList.drop 1)).all (fun q => decide (q.1.1 < q.2.1)) then some (Op.lookupswitch.offset ps.toList d x.toInt) else none
  | .tableswitch d lo hi offs => if x.toInt < lo ∨ hi < x.toInt then some d else offs[(x.toInt - lo).toNat]?
  | _ => none
/-- an array is read: its length, the value -/
def mv_ald (sta : Nat → List Int32) (i : ClassFile.Instr) (S : mv_S) (k : Nat) (x : Int32) : Option (Nat × Value) := match S.1[k]? with
  | some (.inl (t, n)) => match i, t with
    | .iaload, 0 => some (n, .int (S.2.1 k x.toNatClampNeg))
    | .baload, 1 => some (n, .int (S.2.1 k x.toNatClampNeg))
    | .baload, 2 => some (n, .int (S.2.1 k x.toNatClampNeg))
    | .laload, 3 => some (n, .long (S.2.2.1 k x.toNatClampNeg))
    | _, _ => none
  | some (.inr _) => none
  | none => match i with
    | .iaload => bif Nat.ble 100000 k then some ((sta (k - 100000)).length, .int ((sta (k - 100000)).getD x.toNatClampNeg 0)) else none
    | _ => none
/-- an array is written: its length, the store -/
def mv_ast (i : ClassFile.Instr) (S : mv_S) (k : Nat) (x : Int32) (v : Value) : Option (Nat × mv_S) := match S.1[k]? with
  | some (.inl (t, n)) => match i, t, v with
    | .iastore, 0, .int y => some (n, (S.1, mv_up S.2.1 k x.toNatClampNeg y, S.2.2.1, S.2.2.2))
    | .bastore, 1, .int y => some (n, (S.1, mv_up S.2.1 k x.toNatClampNeg (y &&& 1), S.2.2.1, S.2.2.2))
    | .bastore, 2, .int y => some (n, (S.1, mv_up S.2.1 k x.toNatClampNeg y.toInt8.toInt32, S.2.2.1, S.2.2.2))
    | .lastore, 3, .long y => some (n, (S.1, S.2.1, mv_up S.2.2.1 k x.toNatClampNeg y, S.2.2.2))
    | _, _, _ => none
  | _ => none
/-- an answer: what, and what it must keep to -/
def mv_ret (ret : Option FieldType) (i : ClassFile.Instr) (st : List Value) : Option (Option Value × Prop) := match ret, i, st with
  | none, .return_, [] => some (none, True)
  | some .int, .ireturn, [.int v] => some (some (.int v), True)
  | some .boolean, .ireturn, [.int v] => some (some (.int v), v = 0 ∨ v = 1)
  | some .long, .lreturn, [.long v] => some (some (.long v), True)
  | _, _, _ => none
/-- divisions -/
def mv_div (i : ClassFile.Instr) (x y : Int32) : Option Int32 := match i with
  | .idiv => some (x / y)
  | .irem => some (x - x / y * y)
  | _ => none
/-- is it a call of the kind c (0 virtual, on an object of class number d; 1 static; 2 a constructor) with these arguments -/
def mv_isCall (i : ClassFile.Instr) (c d : Nat) (S : mv_S) (as : List Value) : Bool := match i, c with
  | .invokevirtual _, 0 => match as with
    | .ref k :: _ => match S.1[k]? with
      | some (.inr ci) => Nat.beq ci d
      | _ => false
    | _ => false
  | .invokestatic _, 1 => true
  | .invokespecial _, 2 => match as with
    | .ref _ :: _ => true
    | _ => false
  | _, _ => false
/-- fewer locals are known -/
def mv_le : mv_L → mv_L → Prop
  | [], [] => True
  | none :: a, _ :: b => mv_le a b
  | some v :: a, w :: b => w = some v ∧ mv_le a b
  | _, _ => False
/-- what comes next is enough -/
def mv_Rule (prog : List mv_Me) (sta : Nat → List Int32) (cal : Nat → List Value → mv_S → (Option Value → mv_S → Prop) → Prop) (M : mv_Me) (Q : Option Value → mv_S → Prop) (P : mv_F → Prop) (F : mv_F) : Prop :=
  (∃ F', mv_one sta M F = some F' ∧ P F') ∨ (∃ lc' : mv_L, mv_le lc' F.2.1 ∧ P (F.1, lc', F.2.2)) ∨
  ∃ (pc : Nat) (lc : mv_L) (st : List Value) (vc vs : Nat) (S : mv_S) (i : ClassFile.Instr) (n a b c d : Nat), F = (pc, lc, st, vc, vs, S) ∧ mv_at (mv_tb M) pc = some (i, n, a, b, c, d) ∧
    ((∃ (cn : Prop) (off : Int) (r : List Value) (tgt : Nat), mv_cond i st = some (cn, off, r) ∧ (pc : Int) + off = (tgt : Int) ∧ (cn → P (tgt, lc, r, vc, vs, S)) ∧ (¬ cn → P (pc + 3, lc, r, vc, vs, S))) ∨
     (∃ (x : Int32) (r : List Value) (off : Int) (tgt : Nat), st = .int x :: r ∧ mv_sw i x = some off ∧ (pc : Int) + off = (tgt : Int) ∧ P (tgt, lc, r, vc, vs, S)) ∨
     (∃ (x : Int32) (k : Nat) (r : List Value) (N : Nat) (v : Value), st = .int x :: .ref k :: r ∧ mv_ald sta i S k x = some (N, v) ∧ vp_in x N ∧ P (pc + 1, lc, v :: r, vc, vs, S)) ∨
     (∃ (v : Value) (x : Int32) (k : Nat) (r : List Value) (N : Nat) (S' : mv_S), st = v :: .int x :: .ref k :: r ∧ mv_ast i S k x v = some (N, S') ∧ vp_in x N ∧ P (pc + 1, lc, r, vc, vs, S')) ∨
     (∃ (Mj : mv_Me) (as r : List Value) (Q' : Option Value → mv_S → Prop), prog[a]? = some Mj ∧ st = as.reverse ++ r ∧ as.length = b ∧ mv_isCall i c d S as = true ∧ (r.map fun v => v.category).sum ≤ 8 ∧ vc + (mv_mc Mj) ≤ (mv_mc M) ∧ vs + (mv_ms Mj) ≤ (mv_ms M) ∧ cal a as S Q' ∧ ∀ (v : Option Value) (S' : mv_S), Q' v S' → P (pc + 3, lc, v.toList ++ r, vc + (mv_mc Mj), vs + (mv_ms Mj), S')) ∨
     (∃ (v : Option Value) (ok : Prop), mv_ret (mv_rt M) i st = some (v, ok) ∧ vc = (mv_mc M) ∧ vs ≤ (mv_ms M) ∧ ok ∧ Q v S) ∨
     (∃ (x y : Int32) (r : List Value) (v : Int32), st = .int y :: .int x :: r ∧ ¬ y = 0 ∧ mv_div i x y = some v ∧ P (pc + 1, lc, .int v :: r, vc, vs, S)))
/-- from this frame the method comes to an answer with Q -/
def mv_G (prog : List mv_Me) (sta : Nat → List Int32) (cal : Nat → List Value → mv_S → (Option Value → mv_S → Prop) → Prop) (M : mv_Me) (Q : Option Value → mv_S → Prop) (F : mv_F) : Prop :=
  ∀ P : mv_F → Prop, (∀ F, mv_Rule prog sta cal M Q P F → P F) → P F
/-- the locals at a method's entry -/
def mv_ent (n : Nat) (as : List Value) : mv_L := match as with
  | [] => List.replicate n none
  | v :: r => bif mv_c1 v then some v :: mv_ent (n - 1) r else some v :: none :: mv_ent (n - 2) r
/-- method i, called with these arguments in this store, with at most d frames, ends with Q -/
def mv_C (prog : List mv_Me) (sta : Nat → List Int32) : Nat → Nat → List Value → mv_S → (Option Value → mv_S → Prop) → Prop
  | 0 => fun _ _ _ _ => False
  | d + 1 => fun i as S Q => ∃ M, prog[i]? = some M ∧ (mv_ent (mv_ml M) as).length = (mv_ml M) ∧ mv_G prog sta (mv_C prog sta d) M Q (0, mv_ent (mv_ml M) as, [], 0, 0, S)
