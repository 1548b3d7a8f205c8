section
/-! THE SMALL MACHINE. A store: shapes of cells (inl (type, length): an array; inr c: an object of class number c), ints, longs, references by (cell, slot). References are numbers of cells; from 100000 on: static tables. -/
abbrev mv_Sh : Type := (Nat × Nat) ⊕ Nat
abbrev mv_S : Type := List mv_Sh × (Nat → Nat → Int32) × (Nat → Nat → Int64) × (Nat → Nat → Option Nat)
abbrev mv_L : Type := List (Option Value)
/-- a row of a method's table: its place, the instruction, its length, four numbers -/
abbrev mv_E : Type := Nat × ClassFile.Instr × Nat × Nat × Nat × Nat × Nat
/-- a frame: place, locals, stack, cells and slots made, store -/
abbrev mv_F : Type := Nat × mv_L × List Value × Nat × Nat × mv_S
/-- a method: name, bytes, locals, answer, owner, table, the cells that it makes, the slots at most, its room: frames and words of locals -/
abbrev mv_Me : Type := MethodName × ByteArray × Nat × Option FieldType × String × List mv_E × Nat × Nat × Nat × Nat
abbrev mv_cc (M : mv_Me) : ByteArray := M.2.1
abbrev mv_ml (M : mv_Me) : Nat := M.2.2.1
abbrev mv_rt (M : mv_Me) : Option FieldType := M.2.2.2.1
abbrev mv_ow (M : mv_Me) : String := M.2.2.2.2.1
abbrev mv_tb (M : mv_Me) : List mv_E := M.2.2.2.2.2.1
abbrev mv_mc (M : mv_Me) : Nat := M.2.2.2.2.2.2.1
abbrev mv_ms (M : mv_Me) : Nat := M.2.2.2.2.2.2.2.1
abbrev mv_fr (M : mv_Me) : Nat := M.2.2.2.2.2.2.2.2.1
abbrev mv_lo (M : mv_Me) : Nat := M.2.2.2.2.2.2.2.2.2
def mv_at : List mv_E → Nat → Option (ClassFile.Instr × Nat × Nat × Nat × Nat × Nat)
  | [], _ => none
  | e :: r, pc => bif Nat.beq e.1 pc then some e.2 else mv_at r pc
def mv_len (i : ClassFile.Instr) : Nat := match i with
  | .bipush _ | .iload _ | .lload _ | .aload _ | .istore _ | .lstore _ | .astore _ | .ldc _ | .newarray _ => 2
  | .sipush _ | .ldc_w _ | .ldc2_w _ | .iinc _ _ | .getfield _ | .putfield _ | .getstatic _ | .new _ | .invokevirtual _ | .invokespecial _ | .invokestatic _ | .ifCond _ _ | .if_icmp _ _ | .goto _ => 3
  | _ => 1
def mv_up {α : Type} (f : Nat → Nat → α) (k j : Nat) (x : α) : Nat → Nat → α := fun a b => if a = k then (if b = j then x else f a b) else f a b
def mv_clr {α : Type} (f : Nat → Nat → α) (k : Nat) (x : α) : Nat → Nat → α := fun a b => if a = k then x else f a b
/-- instructions on the stack alone -/
def mv_ii (f : Int32 → Int32 → Int32) (st : List Value) : Option (List Value) := match st with
  | .int y :: .int x :: r => some (.int (f x y) :: r)
  | _ => none
def mv_i1 (f : Int32 → Value) (st : List Value) : Option (List Value) := match st with
  | .int x :: r => some (f x :: r)
  | _ => none
def mv_ll (f : Int64 → Int64 → Value) (st : List Value) : Option (List Value) := match st with
  | .long y :: .long x :: r => some (f x y :: r)
  | _ => none
def mv_li (f : Int64 → Int32 → Int64) (st : List Value) : Option (List Value) := match st with
  | .int y :: .long x :: r => some (.long (f x y) :: r)
  | _ => none
def mv_l1 (f : Int64 → Value) (st : List Value) : Option (List Value) := match st with
  | .long x :: r => some (f x :: r)
  | _ => none
def mv_c1 (v : Value) : Bool := Nat.beq v.category 1
def mv_pure (i : ClassFile.Instr) (st : List Value) : Option (List Value) := match i with
  | .iconst n => some (.int (Int32.ofInt n) :: st)
  | .bipush n => some (.int (Int8.ofInt n).toInt32 :: st)
  | .sipush n => some (.int (Int16.ofInt n).toInt32 :: st)
  | .lconst n => some (.long (Int64.ofNat (n : Nat)) :: st)
  | .aconst_null => some (.null :: st)
  | .iadd => mv_ii (fun x y => x + y) st
  | .isub => mv_ii (fun x y => x - y) st
  | .imul => mv_ii (fun x y => x * y) st
  | .iand => mv_ii (fun x y => x &&& y) st
  | .ior => mv_ii (fun x y => x ||| y) st
  | .ixor => mv_ii (fun x y => x ^^^ y) st
  | .ishl => mv_ii (fun x y => x <<< (y &&& 31)) st
  | .ishr => mv_ii (fun x y => x >>> (y &&& 31)) st
  | .iushr => mv_ii (fun x y => (x.toUInt32 >>> (y.toUInt32 &&& Int32.toUInt32 31)).toInt32) st
  | .ineg => mv_i1 (fun x => .int (-x)) st
  | .ladd => mv_ll (fun x y => .long (x + y)) st
  | .lsub => mv_ll (fun x y => .long (x - y)) st
  | .land => mv_ll (fun x y => .long (x &&& y)) st
  | .lor => mv_ll (fun x y => .long (x ||| y)) st
  | .lxor => mv_ll (fun x y => .long (x ^^^ y)) st
  | .lcmp => mv_ll (fun x y => .int (lg_cmp x y)) st
  | .lshl => mv_li (fun x y => x <<< (y.toInt64 &&& 63)) st
  | .lshr => mv_li (fun x y => x >>> (y.toInt64 &&& 63)) st
  | .lushr => mv_li (fun x y => (x.toUInt64 >>> (y.toInt64.toUInt64 &&& Int64.toUInt64 63)).toInt64) st
  | .i2l => mv_i1 (fun x => .long x.toInt64) st
  | .l2i => mv_l1 (fun x => .int x.toInt32) st
  | .i2b => mv_i1 (fun x => .int x.toInt8.toInt32) st
  | .dup => match st with
    | v :: r => bif mv_c1 v then some (v :: v :: r) else none
    | _ => none
  | .pop => match st with
    | v :: r => bif mv_c1 v then some r else none
    | _ => none
  | .dup_x1 => match st with
    | v :: w :: r => bif mv_c1 v && mv_c1 w then some (v :: w :: v :: r) else none
    | _ => none
  | .dup_x2 => match st with
    | v :: w :: x :: r => bif mv_c1 v && (mv_c1 w && mv_c1 x) then some (v :: w :: x :: v :: r) else none
    | _ => none
  | .dup2 => match st with
    | v :: w :: r => bif mv_c1 v && mv_c1 w then some (v :: w :: v :: w :: r) else none
    | _ => none
  | _ => none
/-- instructions on locals -/
def mv_ldi (lc : mv_L) (n : Nat) (st : List Value) : Option (mv_L × List Value) := match lc[n]? with
  | some (some (.int x)) => some (lc, .int x :: st)
  | _ => none
def mv_ldl (lc : mv_L) (n : Nat) (st : List Value) : Option (mv_L × List Value) := match lc[n]? with
  | some (some (.long x)) => some (lc, .long x :: st)
  | _ => none
def mv_lda (lc : mv_L) (n : Nat) (st : List Value) : Option (mv_L × List Value) := match lc[n]? with
  | some (some (.ref x)) => some (lc, .ref x :: st)
  | _ => none
/-- nothing of two slots stands right ahead of it -/
def mv_ok1 (lc : mv_L) (n : Nat) : Bool := match n with
  | 0 => true
  | k + 1 => match lc[k]? with
    | some (some v) => mv_c1 v
    | _ => true
def mv_sti (lc : mv_L) (n : Nat) (st : List Value) : Option (mv_L × List Value) := match st with
  | .int x :: r => bif mv_ok1 lc n && Nat.blt n lc.length then some (lc.set n (some (.int x)), r) else none
  | _ => none
def mv_stl (lc : mv_L) (n : Nat) (st : List Value) : Option (mv_L × List Value) := match st with
  | .long x :: r => bif mv_ok1 lc n && Nat.blt (n + 1) lc.length then some ((lc.set n (some (.long x))).set (n + 1) none, r) else none
  | _ => none
def mv_sta (lc : mv_L) (n : Nat) (st : List Value) : Option (mv_L × List Value) := match st with
  | .ref x :: r => bif mv_ok1 lc n && Nat.blt n lc.length then some (lc.set n (some (.ref x)), r) else none
  | _ => none
def mv_inc (lc : mv_L) (n : Nat) (z : Int) (st : List Value) : Option (mv_L × List Value) := match lc[n]? with
  | some (some (.int x)) => bif mv_ok1 lc n && Nat.blt n lc.length then some (lc.set n (some (.int (x + Int32.ofInt z))), st) else none
  | _ => none
def mv_loc (i : ClassFile.Instr) (lc : mv_L) (st : List Value) : Option (mv_L × List Value) := match i with
  | .iload n => mv_ldi lc n st
  | .iload_n k => mv_ldi lc k.val st
  | .lload n => mv_ldl lc n st
  | .lload_n k => mv_ldl lc k.val st
  | .aload n => mv_lda lc n st
  | .aload_n k => mv_lda lc k.val st
  | .istore n => mv_sti lc n st
  | .istore_n k => mv_sti lc k.val st
  | .lstore n => mv_stl lc n st
  | .lstore_n k => mv_stl lc k.val st
  | .astore n => mv_sta lc n st
  | .astore_n k => mv_sta lc k.val st
  | .iinc n z => mv_inc lc n z st
  | _ => none
/-- a field's value by its kind: 3 a long, 4 a reference, else an int -/
def mv_fval (c : Nat) (S : mv_S) (k j : Nat) : Value := bif Nat.beq c 3 then .long (S.2.2.1 k j) else bif Nat.beq c 4 then (match S.2.2.2 k j with
  | none => .null
  | some q => .ref q) else .int (S.2.1 k j)
def mv_put (c : Nat) (v : Value) (S : mv_S) (k j : Nat) : Option mv_S := match c, v with
  | 0, .int x => some (S.1, mv_up S.2.1 k j x, S.2.2.1, S.2.2.2)
  | 1, .int x => bif x == 0 || x == 1 then some (S.1, mv_up S.2.1 k j x, S.2.2.1, S.2.2.2) else none
  | 3, .long x => some (S.1, S.2.1, mv_up S.2.2.1 k j x, S.2.2.2)
  | 4, .ref q => some (S.1, S.2.1, S.2.2.1, mv_up S.2.2.2 k j (some q))
  | _, _ => none
def mv_new (S : mv_S) (sh : mv_Sh) : mv_S := (S.1 ++ [sh], mv_clr S.2.1 S.1.length 0, mv_clr S.2.2.1 S.1.length 0, mv_clr S.2.2.2 S.1.length none)
def mv_ty (t : Nat) : FieldType := match t with
  | 1 => .boolean
  | 2 => .byte
  | 3 => .long
  | _ => .int
/-- the numbers a b c of a row: of a field its class, its place, its kind; of new the class and how many fields; of newarray c the type; of a constant a the number; of getstatic a the table; of a call a the method, b how many arguments, c the kind of call -/
def mv_heap (sta : Nat → List Int32) (mc ms : Nat) (i : ClassFile.Instr) (a b c : Nat) (st : List Value) (vc vs : Nat) (S : mv_S) : Option (List Value × Nat × Nat × mv_S) := match i with
  | .getfield _ => match st with
    | .ref k :: r => match S.1[k]? with
      | some (.inr ci) => bif Nat.beq ci a then some (mv_fval c S k b :: r, vc, vs, S) else none
      | _ => none
    | _ => none
  | .putfield _ => match st with
    | v :: .ref k :: r => match S.1[k]? with
      | some (.inr ci) => bif Nat.beq ci a then (match mv_put c v S k b with
        | some S' => some (r, vc, vs, S')
        | none => none) else none
      | _ => none
    | _ => none
  | .arraylength => match st with
    | .ref k :: r => match S.1[k]? with
      | some (.inl (t, n)) => bif Nat.ble t 3 then some (.int (Int32.ofNat n) :: r, vc, vs, S) else none
      | _ => none
    | _ => none
  | .new _ => bif Nat.ble (vc + 1) mc && (Nat.ble (vs + b) ms && Nat.blt S.1.length 100000) then some (.ref S.1.length :: st, vc + 1, vs + b, mv_new S (.inr a)) else none
  | .newarray _ => match st with
    | .int x :: r => bif Nat.ble (vc + 1) mc && (Nat.ble (vs + x.toNatClampNeg) ms && (Nat.blt S.1.length 100000 && (Nat.ble x.toNatClampNeg 1000000 && decide (¬ x < 0)))) then some (.ref S.1.length :: r, vc + 1, vs + x.toNatClampNeg, mv_new S (.inl (c, x.toNatClampNeg))) else none
    | _ => none
  | .ldc _ => some (.int (Int32.ofNat a) :: st, vc, vs, S)
  | .ldc_w _ => some (.int (Int32.ofNat a) :: st, vc, vs, S)
  | .ldc2_w _ => some (.long (Int64.ofNat a) :: st, vc, vs, S)
  | .getstatic _ => some (.ref (100000 + a) :: st, vc, vs, S)
  | .invokespecial _ => match c with
    | 3 => match st with
      | .ref _ :: r => bif Nat.ble ((r.map fun v => v.category).sum) 8 then some (r, vc, vs, S) else none
      | _ => none
    | _ => none
  | .invokestatic _ => match c, st with
    | 4, .int y :: .int x :: r => bif Nat.ble ((r.map fun v => v.category).sum) 8 then some (.int (if x < y then y else x) :: r, vc, vs, S) else none
    | 5, .int y :: .int x :: r => bif Nat.ble ((r.map fun v => v.category).sum) 8 then some (.int (if y < x then y else x) :: r, vc, vs, S) else none
    | _, _ => none
  | _ => none
/-- one step, where it is a function -/
def mv_one (sta : Nat → List Int32) (M : mv_Me) (F : mv_F) : Option mv_F := match F with
  | (pc, lc, st, vc, vs, S) => match mv_at (mv_tb M) pc with
    | none => none
    | some (i, _, a, b, c, _) => match mv_pure i st with
      | some st' => some (pc + mv_len i, lc, st', vc, vs, S)
      | none => match mv_loc i lc st with
        | some (lc', st') => some (pc + mv_len i, lc', st', vc, vs, S)
        | none => match mv_heap sta (mv_mc M) (mv_ms M) i a b c st vc vs S with
          | some (st', vc', vs', S') => some (pc + mv_len i, lc, st', vc', vs', S')
          | none => match i with
            | .goto off => match (pc : Int) + off with
              | .ofNat t => some (t, lc, st, vc, vs, S)
              | .negSucc _ => none
            | _ => none
def mv_run (sta : Nat → List Int32) (M : mv_Me) : Nat → mv_F → Option mv_F
  | 0, F => some F
  | n + 1, F => match mv_one sta M F with
    | none => none
    | some F' => mv_run sta M n F'
/-- branches: what is asked, how far, what stays on the stack -/
def mv_cond (i : ClassFile.Instr) (st : List Value) : Option (Prop × Int × List Value) := match i with
  | .ifCond cd off => match st with
    | .int x :: r => match cd with
      | .eq => some (x = 0, off, r)
      | .ne => some (¬ x = 0, off, r)
      | .lt => some (x < 0, off, r)
      | .ge => some (0 ≤ x, off, r)
      | .gt => some (0 < x, off, r)
      | .le => some (x ≤ 0, off, r)
    | _ => none
  | .if_icmp cd off => match st with
    | .int y :: .int x :: r => match cd with
      | .eq => some (x = y, off, r)
      | .ne => some (¬ x = y, off, r)
      | .lt => some (x < y, off, r)
      | .ge => some (y ≤ x, off, r)
      | .gt => some (y < x, off, r)
      | .le => some (x ≤ y, off, r)
    | _ => none
  | _ => none
/-- how far a switch goes -/
def mv_sw (i : ClassFile.Instr) (x : Int32) : Option Int := match i with
  | .lookupswitch d ps => bif (ps.toList.zip (ps.toList.drop 1)).all (fun q => decide (q.1.1 < q.2.1)) then some (Op.lookupswitch.offset ps.toList d x.toInt) else none
  | .tableswitch d lo hi offs => if x.toInt < lo ∨ hi < x.toInt then some d else offs[(x.toInt - lo).toNat]?
  | _ => none
/-- an array is read: its length, the value -/
def mv_ald (sta : Nat → List Int32) (i : ClassFile.Instr) (S : mv_S) (k : Nat) (x : Int32) : Option (Nat × Value) := match S.1[k]? with
  | some (.inl (t, n)) => match i, t with
    | .iaload, 0 => some (n, .int (S.2.1 k x.toNatClampNeg))
    | .baload, 1 => some (n, .int (S.2.1 k x.toNatClampNeg))
    | .baload, 2 => some (n, .int (S.2.1 k x.toNatClampNeg))
    | .laload, 3 => some (n, .long (S.2.2.1 k x.toNatClampNeg))
    | _, _ => none
  | some (.inr _) => none
  | none => match i with
    | .iaload => bif Nat.ble 100000 k then some ((sta (k - 100000)).length, .int ((sta (k - 100000)).getD x.toNatClampNeg 0)) else none
    | _ => none
/-- an array is written: its length, the store -/
def mv_ast (i : ClassFile.Instr) (S : mv_S) (k : Nat) (x : Int32) (v : Value) : Option (Nat × mv_S) := match S.1[k]? with
  | some (.inl (t, n)) => match i, t, v with
    | .iastore, 0, .int y => some (n, (S.1, mv_up S.2.1 k x.toNatClampNeg y, S.2.2.1, S.2.2.2))
    | .bastore, 1, .int y => some (n, (S.1, mv_up S.2.1 k x.toNatClampNeg (y &&& 1), S.2.2.1, S.2.2.2))
    | .bastore, 2, .int y => some (n, (S.1, mv_up S.2.1 k x.toNatClampNeg y.toInt8.toInt32, S.2.2.1, S.2.2.2))
    | .lastore, 3, .long y => some (n, (S.1, S.2.1, mv_up S.2.2.1 k x.toNatClampNeg y, S.2.2.2))
    | _, _, _ => none
  | _ => none
/-- an answer: what, and what it must keep to -/
def mv_ret (ret : Option FieldType) (i : ClassFile.Instr) (st : List Value) : Option (Option Value × Prop) := match ret, i, st with
  | none, .return_, [] => some (none, True)
  | some .int, .ireturn, [.int v] => some (some (.int v), True)
  | some .boolean, .ireturn, [.int v] => some (some (.int v), v = 0 ∨ v = 1)
  | some .long, .lreturn, [.long v] => some (some (.long v), True)
  | _, _, _ => none
/-- is it a call of the kind c (0 virtual, on an object of class number d; 1 static; 2 a constructor) with these arguments -/
def mv_isCall (i : ClassFile.Instr) (c d : Nat) (S : mv_S) (as : List Value) : Bool := match i, c with
  | .invokevirtual _, 0 => match as with
    | .ref k :: _ => match S.1[k]? with
      | some (.inr ci) => Nat.beq ci d
      | _ => false
    | _ => false
  | .invokestatic _, 1 => true
  | .invokespecial _, 2 => match as with
    | .ref _ :: _ => true
    | _ => false
  | _, _ => false
/-- what comes next is enough -/
def mv_Rule (prog : List mv_Me) (sta : Nat → List Int32) (cal : Nat → List Value → mv_S → (Option Value → mv_S → Prop) → Prop) (M : mv_Me) (Q : Option Value → mv_S → Prop) (P : mv_F → Prop) (F : mv_F) : Prop :=
  (∃ F', mv_one sta M F = some F' ∧ P F') ∨
  ∃ (pc : Nat) (lc : mv_L) (st : List Value) (vc vs : Nat) (S : mv_S) (i : ClassFile.Instr) (n a b c d : Nat), F = (pc, lc, st, vc, vs, S) ∧ mv_at (mv_tb M) pc = some (i, n, a, b, c, d) ∧
    ((∃ (cn : Prop) (off : Int) (r : List Value) (tgt : Nat), mv_cond i st = some (cn, off, r) ∧ (pc : Int) + off = (tgt : Int) ∧ (cn → P (tgt, lc, r, vc, vs, S)) ∧ (¬ cn → P (pc + 3, lc, r, vc, vs, S))) ∨
     (∃ (x : Int32) (r : List Value) (off : Int) (tgt : Nat), st = .int x :: r ∧ mv_sw i x = some off ∧ (pc : Int) + off = (tgt : Int) ∧ P (tgt, lc, r, vc, vs, S)) ∨
     (∃ (x : Int32) (k : Nat) (r : List Value) (N : Nat) (v : Value), st = .int x :: .ref k :: r ∧ mv_ald sta i S k x = some (N, v) ∧ vp_in x N ∧ P (pc + 1, lc, v :: r, vc, vs, S)) ∨
     (∃ (v : Value) (x : Int32) (k : Nat) (r : List Value) (N : Nat) (S' : mv_S), st = v :: .int x :: .ref k :: r ∧ mv_ast i S k x v = some (N, S') ∧ vp_in x N ∧ P (pc + 1, lc, r, vc, vs, S')) ∨
     (∃ (Mj : mv_Me) (as r : List Value) (Q' : Option Value → mv_S → Prop), prog[a]? = some Mj ∧ st = as.reverse ++ r ∧ as.length = b ∧ mv_isCall i c d S as = true ∧ (r.map fun v => v.category).sum ≤ 8 ∧ vc + (mv_mc Mj) ≤ (mv_mc M) ∧ vs + (mv_ms Mj) ≤ (mv_ms M) ∧ cal a as S Q' ∧ ∀ (v : Option Value) (S' : mv_S), Q' v S' → P (pc + 3, lc, v.toList ++ r, vc + (mv_mc Mj), vs + (mv_ms Mj), S')) ∨
     (∃ (v : Option Value) (ok : Prop), mv_ret (mv_rt M) i st = some (v, ok) ∧ vc = (mv_mc M) ∧ vs ≤ (mv_ms M) ∧ ok ∧ Q v S))
/-- from this frame the method comes to an answer with Q -/
def mv_G (prog : List mv_Me) (sta : Nat → List Int32) (cal : Nat → List Value → mv_S → (Option Value → mv_S → Prop) → Prop) (M : mv_Me) (Q : Option Value → mv_S → Prop) (F : mv_F) : Prop :=
  ∀ P : mv_F → Prop, (∀ F, mv_Rule prog sta cal M Q P F → P F) → P F
/-- the locals at a method's entry -/
def mv_ent (n : Nat) (as : List Value) : mv_L := match as with
  | [] => List.replicate n none
  | v :: r => bif mv_c1 v then some v :: mv_ent (n - 1) r else some v :: none :: mv_ent (n - 2) r
/-- method i, called with these arguments in this store, with at most d frames, ends with Q -/
def mv_C (prog : List mv_Me) (sta : Nat → List Int32) : Nat → Nat → List Value → mv_S → (Option Value → mv_S → Prop) → Prop
  | 0 => fun _ _ _ _ => False
  | d + 1 => fun i as S Q => ∃ M, prog[i]? = some M ∧ (mv_ent (mv_ml M) as).length = (mv_ml M) ∧ mv_G prog sta (mv_C prog sta d) M Q (0, mv_ent (mv_ml M) as, [], 0, 0, S)
end
section
section MVR
variable {prog : List mv_Me} {sta : Nat → List Int32} {cal : Nat → List Value → mv_S → (Option Value → mv_S → Prop) → Prop} {M : mv_Me} {Q : Option Value → mv_S → Prop}
theorem mv_Rule_mono {P P' : mv_F → Prop} (hp : ∀ F, P F → P' F) {F : mv_F} (h : mv_Rule prog sta cal M Q P F) : mv_Rule prog sta cal M Q P' F := by
  rcases h with ⟨F', h1, h2⟩ | ⟨pc, lc, st, vc, vs, S, i, n, a, b, c, d, e, h0, h⟩
  · exact Or.inl ⟨F', h1, hp _ h2⟩
  · refine Or.inr ⟨pc, lc, st, vc, vs, S, i, n, a, b, c, d, e, h0, ?_⟩
    rcases h with ⟨cn, off, r, tgt, h1, h2, h3, h4⟩ | ⟨x, r, off, tgt, h1, h2, h3, h4⟩ | ⟨x, k, r, N, v, h1, h2, h3, h4⟩ | ⟨v, x, k, r, N, S', h1, h2, h3, h4⟩ | ⟨Mj, as, r, Q', h1, h2, h3, h4, h5, h6, h7, h8, h9⟩ | h
    · exact Or.inl ⟨cn, off, r, tgt, h1, h2, fun z => hp _ (h3 z), fun z => hp _ (h4 z)⟩
    · exact Or.inr (Or.inl ⟨x, r, off, tgt, h1, h2, h3, hp _ h4⟩)
    · exact Or.inr (Or.inr (Or.inl ⟨x, k, r, N, v, h1, h2, h3, hp _ h4⟩))
    · exact Or.inr (Or.inr (Or.inr (Or.inl ⟨v, x, k, r, N, S', h1, h2, h3, hp _ h4⟩)))
    · exact Or.inr (Or.inr (Or.inr (Or.inr (Or.inl ⟨Mj, as, r, Q', h1, h2, h3, h4, h5, h6, h7, h8, fun v S' z => hp _ (h9 v S' z)⟩))))
    · exact Or.inr (Or.inr (Or.inr (Or.inr (Or.inr h))))
theorem mv_G_rule {F : mv_F} (h : mv_Rule prog sta cal M Q (mv_G prog sta cal M Q) F) : mv_G prog sta cal M Q F := fun P hP => hP F (mv_Rule_mono (fun _ k => k P hP) h)
/-- n steps that are functions -/
theorem mv_G_run (n : Nat) {F F' : mv_F} (h : mv_run sta M n F = some F') (k : mv_G prog sta cal M Q F') : mv_G prog sta cal M Q F := by
  induction n generalizing F with
  | zero =>
    have e : F = F' := Option.some.inj h
    rw [e]
    exact k
  | succ n ih =>
    unfold mv_run at h
    cases h1 : mv_one sta M F with
    | none => rw [h1] at h; cases h
    | some F1 =>
      rw [h1] at h
      exact mv_G_rule (Or.inl ⟨F1, h1, ih h⟩)
variable {pc : Nat} {lc : mv_L} {st r : List Value} {vc vs : Nat} {S : mv_S} {i : ClassFile.Instr} {n a b c d : Nat}
theorem mv_G_br {cn : Prop} {off : Int} {tgt : Nat} (h0 : mv_at (mv_tb M) pc = some (i, n, a, b, c, d)) (h1 : mv_cond i st = some (cn, off, r)) (h2 : (pc : Int) + off = (tgt : Int)) (h3 : cn → mv_G prog sta cal M Q (tgt, lc, r, vc, vs, S)) (h4 : ¬ cn → mv_G prog sta cal M Q (pc + 3, lc, r, vc, vs, S)) : mv_G prog sta cal M Q (pc, lc, st, vc, vs, S) :=
  mv_G_rule (Or.inr ⟨pc, lc, st, vc, vs, S, i, n, a, b, c, d, rfl, h0, Or.inl ⟨cn, off, r, tgt, h1, h2, h3, h4⟩⟩)
theorem mv_G_sw {x : Int32} {off : Int} {tgt : Nat} (h0 : mv_at (mv_tb M) pc = some (i, n, a, b, c, d)) (h1 : mv_sw i x = some off) (h2 : (pc : Int) + off = (tgt : Int)) (h3 : mv_G prog sta cal M Q (tgt, lc, r, vc, vs, S)) : mv_G prog sta cal M Q (pc, lc, .int x :: r, vc, vs, S) :=
  mv_G_rule (Or.inr ⟨pc, lc, _, vc, vs, S, i, n, a, b, c, d, rfl, h0, Or.inr (Or.inl ⟨x, r, off, tgt, rfl, h1, h2, h3⟩)⟩)
theorem mv_G_ald {x : Int32} {k N : Nat} {v : Value} (h0 : mv_at (mv_tb M) pc = some (i, n, a, b, c, d)) (h1 : mv_ald sta i S k x = some (N, v)) (h2 : vp_in x N) (h3 : mv_G prog sta cal M Q (pc + 1, lc, v :: r, vc, vs, S)) : mv_G prog sta cal M Q (pc, lc, .int x :: .ref k :: r, vc, vs, S) :=
  mv_G_rule (Or.inr ⟨pc, lc, _, vc, vs, S, i, n, a, b, c, d, rfl, h0, Or.inr (Or.inr (Or.inl ⟨x, k, r, N, v, rfl, h1, h2, h3⟩))⟩)
theorem mv_G_ast {x : Int32} {k N : Nat} {v : Value} {S' : mv_S} (h0 : mv_at (mv_tb M) pc = some (i, n, a, b, c, d)) (h1 : mv_ast i S k x v = some (N, S')) (h2 : vp_in x N) (h3 : mv_G prog sta cal M Q (pc + 1, lc, r, vc, vs, S')) : mv_G prog sta cal M Q (pc, lc, v :: .int x :: .ref k :: r, vc, vs, S) :=
  mv_G_rule (Or.inr ⟨pc, lc, _, vc, vs, S, i, n, a, b, c, d, rfl, h0, Or.inr (Or.inr (Or.inr (Or.inl ⟨v, x, k, r, N, S', rfl, h1, h2, h3⟩)))⟩)
theorem mv_G_call {Mj : mv_Me} {as : List Value} {Q' : Option Value → mv_S → Prop} (hc : cal a as S Q') (h0 : mv_at (mv_tb M) pc = some (i, n, a, b, c, d)) (h1 : prog[a]? = some Mj) (h2 : st = as.reverse ++ r) (h3 : as.length = b) (h4 : mv_isCall i c d S as = true) (h5 : (r.map fun v => v.category).sum ≤ 8) (h6 : vc + (mv_mc Mj) ≤ (mv_mc M)) (h7 : vs + (mv_ms Mj) ≤ (mv_ms M))
    (h9 : ∀ (v : Option Value) (S' : mv_S), Q' v S' → mv_G prog sta cal M Q (pc + 3, lc, v.toList ++ r, vc + (mv_mc Mj), vs + (mv_ms Mj), S')) : mv_G prog sta cal M Q (pc, lc, st, vc, vs, S) :=
  mv_G_rule (Or.inr ⟨pc, lc, st, vc, vs, S, i, n, a, b, c, d, rfl, h0, Or.inr (Or.inr (Or.inr (Or.inr (Or.inl ⟨Mj, as, r, Q', h1, h2, h3, h4, h5, h6, h7, hc, h9⟩))))⟩)
theorem mv_G_ret {v : Option Value} {ok : Prop} (h0 : mv_at (mv_tb M) pc = some (i, n, a, b, c, d)) (h1 : mv_ret (mv_rt M) i st = some (v, ok)) (h4 : vc = (mv_mc M)) (h5 : vs ≤ (mv_ms M)) (h2 : ok) (h3 : Q v S) : mv_G prog sta cal M Q (pc, lc, st, vc, vs, S) :=
  mv_G_rule (Or.inr ⟨pc, lc, st, vc, vs, S, i, n, a, b, c, d, rfl, h0, Or.inr (Or.inr (Or.inr (Or.inr (Or.inr ⟨v, ok, h1, h4, h5, h2, h3⟩))))⟩)
theorem mv_G_mono {Q' : Option Value → mv_S → Prop} (hq : ∀ v S, Q v S → Q' v S) {F : mv_F} (h : mv_G prog sta cal M Q F) : mv_G prog sta cal M Q' F := by
  refine h _ (fun F k => mv_G_rule ?_)
  rcases k with h | ⟨pc, lc, st, vc, vs, S, i, n, a, b, c, d, e, h0, k⟩
  · exact Or.inl h
  · refine Or.inr ⟨pc, lc, st, vc, vs, S, i, n, a, b, c, d, e, h0, ?_⟩
    rcases k with k | k | k | k | k | ⟨v, ok, k1, k4, k5, k2, k3⟩
    · exact Or.inl k
    · exact Or.inr (Or.inl k)
    · exact Or.inr (Or.inr (Or.inl k))
    · exact Or.inr (Or.inr (Or.inr (Or.inl k)))
    · exact Or.inr (Or.inr (Or.inr (Or.inr (Or.inl k))))
    · exact Or.inr (Or.inr (Or.inr (Or.inr (Or.inr ⟨v, ok, k1, k4, k5, k2, hq _ _ k3⟩))))
end MVR
theorem mv_C_mono {prog : List mv_Me} {sta : Nat → List Int32} {d i : Nat} {as : List Value} {S : mv_S} {Q Q' : Option Value → mv_S → Prop} (hq : ∀ v S, Q v S → Q' v S) (h : mv_C prog sta d i as S Q) : mv_C prog sta d i as S Q' := by
  cases d with
  | zero => exact h
  | succ d =>
    obtain ⟨M, h1, h2, h3⟩ := h
    exact ⟨M, h1, h2, mv_G_mono hq h3⟩
/-- more frames do no harm -/
theorem mv_C_up {prog : List mv_Me} {sta : Nat → List Int32} : ∀ (d i : Nat) (as : List Value) (S : mv_S) (Q : Option Value → mv_S → Prop), mv_C prog sta d i as S Q → mv_C prog sta (d + 1) i as S Q
  | 0, _, _, _, _, h => h.elim
  | d + 1, i, as, S, Q, h => by
    obtain ⟨M, h1, h2, h3⟩ := h
    refine ⟨M, h1, h2, h3 _ (fun F k => mv_G_rule ?_)⟩
    rcases k with h | ⟨pc, lc, st, vc, vs, S, i, n, a, b, c, d, e, h0, k⟩
    · exact Or.inl h
    · refine Or.inr ⟨pc, lc, st, vc, vs, S, i, n, a, b, c, d, e, h0, ?_⟩
      rcases k with k | k | k | k | ⟨Mj, as, r, Q', k1, k2, k3, k4, k5, k6, k7, k8, k9⟩ | k
      · exact Or.inl k
      · exact Or.inr (Or.inl k)
      · exact Or.inr (Or.inr (Or.inl k))
      · exact Or.inr (Or.inr (Or.inr (Or.inl k)))
      · exact Or.inr (Or.inr (Or.inr (Or.inr (Or.inl ⟨Mj, as, r, Q', k1, k2, k3, k4, k5, k6, k7, mv_C_up _ _ _ _ _ k8, k9⟩))))
      · exact Or.inr (Or.inr (Or.inr (Or.inr (Or.inr k))))
end
section
/-! The small machine's values and locals over the great one's; the instructions that touch no cell. -/
def mv_tr (ad : Nat → Nat) (v : Value) : Value := match v with
  | .ref k => .ref (ad k)
  | v => v
theorem mv_tr_cat (ad : Nat → Nat) (v : Value) : (mv_tr ad v).category = v.category := by cases v <;> rfl
theorem mv_c1_cat {v : Value} (h : mv_c1 v = true) : v.category = 1 := Nat.eq_of_beq_eq_true h
theorem mv_tr_c1 (ad : Nat → Nat) {v : Value} (h : mv_c1 v = true) : (mv_tr ad v).category = 1 := (mv_tr_cat ad v).trans (mv_c1_cat h)
theorem mv_tr_sum (ad : Nat → Nat) (r : List Value) : ((r.map (mv_tr ad)).map fun v => v.category).sum = (r.map fun v => v.category).sum := by
  rw [List.map_map]
  congr 1
  exact List.map_congr_left (fun v _ => mv_tr_cat ad v)
theorem mv_ii_inv {f : Int32 → Int32 → Int32} {st st' : List Value} (h : mv_ii f st = some st') : ∃ (x y : Int32) (r : List Value), st = .int y :: .int x :: r ∧ st' = .int (f x y) :: r := by
  unfold mv_ii at h
  split at h
  · exact ⟨_, _, _, rfl, (Option.some.inj h).symm⟩
  · cases h
theorem mv_i1_inv {f : Int32 → Value} {st st' : List Value} (h : mv_i1 f st = some st') : ∃ (x : Int32) (r : List Value), st = .int x :: r ∧ st' = f x :: r := by
  unfold mv_i1 at h
  split at h
  · exact ⟨_, _, rfl, (Option.some.inj h).symm⟩
  · cases h
theorem mv_ll_inv {f : Int64 → Int64 → Value} {st st' : List Value} (h : mv_ll f st = some st') : ∃ (x y : Int64) (r : List Value), st = .long y :: .long x :: r ∧ st' = f x y :: r := by
  unfold mv_ll at h
  split at h
  · exact ⟨_, _, _, rfl, (Option.some.inj h).symm⟩
  · cases h
theorem mv_li_inv {f : Int64 → Int32 → Int64} {st st' : List Value} (h : mv_li f st = some st') : ∃ (x : Int64) (y : Int32) (r : List Value), st = .int y :: .long x :: r ∧ st' = .long (f x y) :: r := by
  unfold mv_li at h
  split at h
  · exact ⟨_, _, _, rfl, (Option.some.inj h).symm⟩
  · cases h
theorem mv_l1_inv {f : Int64 → Value} {st st' : List Value} (h : mv_l1 f st = some st') : ∃ (x : Int64) (r : List Value), st = .long x :: r ∧ st' = f x :: r := by
  unfold mv_l1 at h
  split at h
  · exact ⟨_, _, rfl, (Option.some.inj h).symm⟩
  · cases h
theorem mv_bif {α : Type} {b : Bool} {x y : α} (h : (bif b then some x else none) = some y) : b = true ∧ x = y := by
  cases b with
  | true => exact ⟨rfl, Option.some.inj h⟩
  | false => cases h
section MVP
variable {p : Program} {l : Launch} {e : Env} {R : Room} {s : State} {m : MethodId} {args : Array Value} {below : List Frame} {meth : Method} {cod : Code} {H : Heap} {locs : List Loc} {cells slots : Nat} {Qz : State → Prop}
variable {cc : ByteArray} {pc : Nat} {ls : Array Slot} {ad : Nat → Nat}
set_option maxHeartbeats 4000000 in
theorem mv_pure_ok (hx : p.tables.exec = Jvm.exec) (hb : cod.code = cc) {i : ClassFile.Instr} {st st' : List Value} (hd : decode cc pc = .ok (i, mv_len i)) (h : mv_pure i st = some st')
    (k : W p l e R s m args below meth cod H locs cells slots Qz (F0 m (pc + mv_len i) ls (st'.map (mv_tr ad)))) : W p l e R s m args below meth cod H locs cells slots Qz (F0 m pc ls (st.map (mv_tr ad))) := by
  cases i
  case iconst n => obtain rfl := Option.some.inj h; exact lv_iconst hx hb hd rfl k
  case bipush n => obtain rfl := Option.some.inj h; exact lv_bipush hx hb hd rfl k
  case sipush n => obtain rfl := Option.some.inj h; exact lv_sipush hx hb hd rfl k
  case lconst n => obtain rfl := Option.some.inj h; exact lv_lconst hx hb hd rfl k
  case aconst_null => obtain rfl := Option.some.inj h; exact lv_null hx hb hd k
  case iadd => obtain ⟨x, y, r, rfl, rfl⟩ := mv_ii_inv h; exact lv_iadd hx hb hd k
  case isub => obtain ⟨x, y, r, rfl, rfl⟩ := mv_ii_inv h; exact lv_isub hx hb hd k
  case imul => obtain ⟨x, y, r, rfl, rfl⟩ := mv_ii_inv h; exact lv_imul hx hb hd k
  case iand => obtain ⟨x, y, r, rfl, rfl⟩ := mv_ii_inv h; exact lv_iand hx hb hd k
  case ior => obtain ⟨x, y, r, rfl, rfl⟩ := mv_ii_inv h; exact lv_ior hx hb hd k
  case ixor => obtain ⟨x, y, r, rfl, rfl⟩ := mv_ii_inv h; exact lv_ixor hx hb hd k
  case ishl => obtain ⟨x, y, r, rfl, rfl⟩ := mv_ii_inv h; exact lv_ishl hx hb hd k
  case ishr => obtain ⟨x, y, r, rfl, rfl⟩ := mv_ii_inv h; exact lv_ishr hx hb hd k
  case iushr => obtain ⟨x, y, r, rfl, rfl⟩ := mv_ii_inv h; exact lv_iushr hx hb hd rfl k
  case ineg => obtain ⟨x, r, rfl, rfl⟩ := mv_i1_inv h; exact lv_ineg hx hb hd k
  case ladd => obtain ⟨x, y, r, rfl, rfl⟩ := mv_ll_inv h; exact lv_ladd hx hb hd k
  case lsub => obtain ⟨x, y, r, rfl, rfl⟩ := mv_ll_inv h; exact lv_lsub hx hb hd k
  case land => obtain ⟨x, y, r, rfl, rfl⟩ := mv_ll_inv h; exact lv_land hx hb hd k
  case lor => obtain ⟨x, y, r, rfl, rfl⟩ := mv_ll_inv h; exact lv_lor hx hb hd k
  case lxor => obtain ⟨x, y, r, rfl, rfl⟩ := mv_ll_inv h; exact lv_lxor hx hb hd k
  case lcmp => obtain ⟨x, y, r, rfl, rfl⟩ := mv_ll_inv h; exact W.lcmp hx hb hd k
  case lshl => obtain ⟨x, y, r, rfl, rfl⟩ := mv_li_inv h; exact lv_lshl hx hb hd rfl k
  case lshr => obtain ⟨x, y, r, rfl, rfl⟩ := mv_li_inv h; exact lv_lshr hx hb hd rfl k
  case lushr => obtain ⟨x, y, r, rfl, rfl⟩ := mv_li_inv h; exact lv_lushr hx hb hd rfl k
  case i2l => obtain ⟨x, r, rfl, rfl⟩ := mv_i1_inv h; exact lv_i2l hx hb hd rfl k
  case l2i => obtain ⟨x, r, rfl, rfl⟩ := mv_l1_inv h; exact lv_l2i hx hb hd rfl k
  case i2b => obtain ⟨x, r, rfl, rfl⟩ := mv_i1_inv h; exact lv_i2b hx hb hd rfl k
  case dup =>
    rcases st with _ | ⟨v, r⟩
    · exact absurd h (by simp [mv_pure])
    · obtain ⟨h1, rfl⟩ := mv_bif h
      exact lv_dup hx hb hd (mv_tr_c1 ad h1) k
  case pop =>
    rcases st with _ | ⟨v, r⟩
    · exact absurd h (by simp [mv_pure])
    · obtain ⟨h1, rfl⟩ := mv_bif h
      exact lv_pop hx hb hd (mv_tr_c1 ad h1) k
  case dup_x1 =>
    rcases st with _ | ⟨v, _ | ⟨w, r⟩⟩
    · exact absurd h (by simp [mv_pure])
    · exact absurd h (by simp [mv_pure])
    · obtain ⟨h1, rfl⟩ := mv_bif h
      rw [Bool.and_eq_true] at h1
      exact lv_dup_x1 hx hb hd (mv_tr_c1 ad h1.1) (mv_tr_c1 ad h1.2) k
  case dup_x2 =>
    rcases st with _ | ⟨v, _ | ⟨w, _ | ⟨x, r⟩⟩⟩
    · exact absurd h (by simp [mv_pure])
    · exact absurd h (by simp [mv_pure])
    · exact absurd h (by simp [mv_pure])
    · obtain ⟨h1, rfl⟩ := mv_bif h
      rw [Bool.and_eq_true, Bool.and_eq_true] at h1
      exact lv_dup_x2 hx hb hd (mv_tr_c1 ad h1.1) (mv_tr_c1 ad h1.2.1) (mv_tr_c1 ad h1.2.2) k
  case dup2 =>
    rcases st with _ | ⟨v, _ | ⟨w, r⟩⟩
    · exact absurd h (by simp [mv_pure])
    · exact absurd h (by simp [mv_pure])
    · obtain ⟨h1, rfl⟩ := mv_bif h
      rw [Bool.and_eq_true] at h1
      exact lv_dup2_11 hx hb hd (mv_tr_c1 ad h1.1) (mv_tr_c1 ad h1.2) k
  all_goals (exact absurd h (by simp [mv_pure]))
/-- locals: those that the small machine knows are held -/
def mv_Lc (ad : Nat → Nat) (ls : Array Slot) (nL : Nat) (lc : mv_L) : Prop := lv_has ls nL [] ∧ lc.length = nL ∧ ∀ (j : Nat) (v : Value), lc[j]? = some (some v) → ls[j]? = some (.val (mv_tr ad v))
def mv_lst (ad : Nat → Nat) (lc : mv_L) : List (Nat × Value) := (List.range lc.length).filterMap (fun j => match lc[j]? with
  | some (some v) => some (j, mv_tr ad v)
  | _ => none)
theorem mv_lst_in {ad : Nat → Nat} {lc : mv_L} {j : Nat} {v : Value} (h : lc[j]? = some (some v)) : (j, mv_tr ad v) ∈ mv_lst ad lc := by
  refine List.mem_filterMap.mpr ⟨j, List.mem_range.mpr (List.getElem?_eq_some_iff.mp h).1, ?_⟩
  rw [h]
theorem mv_lst_of {ad : Nat → Nat} {lc : mv_L} {q : Nat × Value} (h : q ∈ mv_lst ad lc) : ∃ v, lc[q.1]? = some (some v) ∧ q.2 = mv_tr ad v := by
  obtain ⟨j, -, hj⟩ := List.mem_filterMap.mp h
  split at hj
  · rename_i v hv
    cases hj
    exact ⟨v, hv, rfl⟩
  · cases hj
theorem mv_Lc_has {nL : Nat} {lc : mv_L} (h : mv_Lc ad ls nL lc) : lv_has ls nL (mv_lst ad lc) := ⟨h.1.1, h.1.2.1, fun q hq => by
  obtain ⟨v, h1, h2⟩ := mv_lst_of hq
  rw [h2]
  exact h.2.2 _ _ h1⟩
theorem mv_ok1_of {lc : mv_L} {n j : Nat} {w : Value} (h : mv_ok1 lc n = true) (hj : lc[j]? = some (some w)) (e : j + 1 = n) : w.category = 1 := by
  subst e
  unfold mv_ok1 at h
  simp only [hj] at h
  exact mv_c1_cat h
theorem mv_Lc_st1 {nL n : Nat} {lc : mv_L} {v : Value} {ls' : Array Slot} (h : mv_Lc ad ls nL lc) (hok : mv_ok1 lc n = true) (h' : lv_has ls' nL ((n, mv_tr ad v) :: (mv_lst ad lc).filter (fun q => !(q.1 == n) && !(q.1 + 1 == n && q.2.category == 2)))) : mv_Lc ad ls' nL (lc.set n (some v)) := by
  refine ⟨⟨h'.1, h'.2.1, fun q hq => by cases hq⟩, by rw [List.length_set]; exact h.2.1, fun j w hj => ?_⟩
  by_cases e : n = j
  · subst e
    rw [List.getElem?_set] at hj
    rw [if_pos rfl] at hj
    split at hj
    · cases hj
      exact h'.2.2 _ List.mem_cons_self
    · cases hj
  · rw [List.getElem?_set_ne e] at hj
    refine h'.2.2 (j, mv_tr ad w) (List.mem_cons_of_mem _ (List.mem_filter.mpr ⟨mv_lst_in hj, ?_⟩))
    have h1 : (j == n) = false := by simp; exact fun q => e q.symm
    have h2 : (j + 1 == n && (mv_tr ad w).category == 2) = false := by
      by_cases e2 : j + 1 = n
      · rw [mv_tr_cat, mv_ok1_of hok hj e2]; simp
      · have : (j + 1 == n) = false := by simp; exact e2
        rw [this]; rfl
    simp only [h1, h2]; rfl
theorem mv_Lc_st2 {nL n : Nat} {lc : mv_L} {x : Int64} {ls' : Array Slot} (h : mv_Lc ad ls nL lc) (hok : mv_ok1 lc n = true) (h' : lv_has ls' nL ((n, Value.long x) :: (mv_lst ad lc).filter (fun q => !(q.1 == n) && (!(q.1 == n + 1) && !(q.1 + 1 == n && q.2.category == 2))))) : mv_Lc ad ls' nL ((lc.set n (some (.long x))).set (n + 1) none) := by
  refine ⟨⟨h'.1, h'.2.1, fun q hq => by cases hq⟩, by rw [List.length_set, List.length_set]; exact h.2.1, fun j w hj => ?_⟩
  by_cases e3 : n + 1 = j
  · subst e3
    rw [List.getElem?_set] at hj
    rw [if_pos rfl] at hj
    split at hj
    · cases hj
    · cases hj
  rw [List.getElem?_set_ne e3] at hj
  by_cases e : n = j
  · subst e
    rw [List.getElem?_set] at hj
    rw [if_pos rfl] at hj
    split at hj
    · cases hj
      exact h'.2.2 _ List.mem_cons_self
    · cases hj
  · rw [List.getElem?_set_ne e] at hj
    refine h'.2.2 (j, mv_tr ad w) (List.mem_cons_of_mem _ (List.mem_filter.mpr ⟨mv_lst_in hj, ?_⟩))
    have h1 : (j == n) = false := by simp; exact fun q => e q.symm
    have h3 : (j == n + 1) = false := by simp; exact fun q => e3 q.symm
    have h2 : (j + 1 == n && (mv_tr ad w).category == 2) = false := by
      by_cases e2 : j + 1 = n
      · rw [mv_tr_cat, mv_ok1_of hok hj e2]; simp
      · have : (j + 1 == n) = false := by simp; exact e2
        rw [this]; rfl
    simp only [h1, h2, h3]; rfl
theorem mv_sti_inv {lc lc' : mv_L} {n : Nat} {st st' : List Value} (h : mv_sti lc n st = some (lc', st')) : ∃ x, st = .int x :: st' ∧ lc' = lc.set n (some (.int x)) ∧ mv_ok1 lc n = true ∧ n < lc.length := by
  unfold mv_sti at h
  split at h
  · obtain ⟨h1, h2⟩ := mv_bif h
    rw [Bool.and_eq_true] at h1
    cases h2
    exact ⟨_, rfl, rfl, h1.1, Nat.le_of_ble_eq_true h1.2⟩
  · cases h
theorem mv_sta_inv {lc lc' : mv_L} {n : Nat} {st st' : List Value} (h : mv_sta lc n st = some (lc', st')) : ∃ x, st = .ref x :: st' ∧ lc' = lc.set n (some (.ref x)) ∧ mv_ok1 lc n = true ∧ n < lc.length := by
  unfold mv_sta at h
  split at h
  · obtain ⟨h1, h2⟩ := mv_bif h
    rw [Bool.and_eq_true] at h1
    cases h2
    exact ⟨_, rfl, rfl, h1.1, Nat.le_of_ble_eq_true h1.2⟩
  · cases h
theorem mv_stl_inv {lc lc' : mv_L} {n : Nat} {st st' : List Value} (h : mv_stl lc n st = some (lc', st')) : ∃ x, st = .long x :: st' ∧ lc' = (lc.set n (some (.long x))).set (n + 1) none ∧ mv_ok1 lc n = true ∧ n + 1 < lc.length := by
  unfold mv_stl at h
  split at h
  · obtain ⟨h1, h2⟩ := mv_bif h
    rw [Bool.and_eq_true] at h1
    cases h2
    exact ⟨_, rfl, rfl, h1.1, Nat.le_of_ble_eq_true h1.2⟩
  · cases h
theorem mv_inc_inv {lc lc' : mv_L} {n : Nat} {z : Int} {st st' : List Value} (h : mv_inc lc n z st = some (lc', st')) : ∃ x, lc[n]? = some (some (.int x)) ∧ st' = st ∧ lc' = lc.set n (some (.int (x + Int32.ofInt z))) ∧ mv_ok1 lc n = true ∧ n < lc.length := by
  unfold mv_inc at h
  split at h
  · rename_i x hx
    obtain ⟨h1, h2⟩ := mv_bif h
    rw [Bool.and_eq_true] at h1
    cases h2
    exact ⟨x, hx, rfl, rfl, h1.1, Nat.le_of_ble_eq_true h1.2⟩
  · cases h
theorem mv_ldi_inv {lc lc' : mv_L} {n : Nat} {st st' : List Value} (h : mv_ldi lc n st = some (lc', st')) : ∃ x, lc[n]? = some (some (.int x)) ∧ lc' = lc ∧ st' = .int x :: st := by
  unfold mv_ldi at h
  split at h
  · rename_i x hx
    cases h
    exact ⟨x, hx, rfl, rfl⟩
  · cases h
theorem mv_ldl_inv {lc lc' : mv_L} {n : Nat} {st st' : List Value} (h : mv_ldl lc n st = some (lc', st')) : ∃ x, lc[n]? = some (some (.long x)) ∧ lc' = lc ∧ st' = .long x :: st := by
  unfold mv_ldl at h
  split at h
  · rename_i x hx
    cases h
    exact ⟨x, hx, rfl, rfl⟩
  · cases h
theorem mv_lda_inv {lc lc' : mv_L} {n : Nat} {st st' : List Value} (h : mv_lda lc n st = some (lc', st')) : ∃ x, lc[n]? = some (some (.ref x)) ∧ lc' = lc ∧ st' = .ref x :: st := by
  unfold mv_lda at h
  split at h
  · rename_i x hx
    cases h
    exact ⟨x, hx, rfl, rfl⟩
  · cases h
set_option maxHeartbeats 4000000 in
theorem mv_loc_ok (hx : p.tables.exec = Jvm.exec) (hb : cod.code = cc) {i : ClassFile.Instr} {nL : Nat} {lc lc' : mv_L} {st st' : List Value} (hd : decode cc pc = .ok (i, mv_len i)) (h : mv_loc i lc st = some (lc', st')) (hl : mv_Lc ad ls nL lc)
    (k : ∀ ls', mv_Lc ad ls' nL lc' → W p l e R s m args below meth cod H locs cells slots Qz (F0 m (pc + mv_len i) ls' (st'.map (mv_tr ad)))) : W p l e R s m args below meth cod H locs cells slots Qz (F0 m pc ls (st.map (mv_tr ad))) := by
  have hh := mv_Lc_has hl
  cases i
  case iload n => obtain ⟨x, h1, rfl, rfl⟩ := mv_ldi_inv h; exact lv_iload hx hb hd (hl.2.2 _ _ h1) (k _ hl)
  case iload_n n => obtain ⟨x, h1, rfl, rfl⟩ := mv_ldi_inv h; exact lv_iload_n hx hb hd rfl (hl.2.2 _ _ h1) (k _ hl)
  case lload n => obtain ⟨x, h1, rfl, rfl⟩ := mv_ldl_inv h; exact lv_lload hx hb hd (hl.2.2 _ _ h1) (k _ hl)
  case lload_n n => obtain ⟨x, h1, rfl, rfl⟩ := mv_ldl_inv h; exact lv_lload_n hx hb hd rfl (hl.2.2 _ _ h1) (k _ hl)
  case aload n => obtain ⟨x, h1, rfl, rfl⟩ := mv_lda_inv h; exact lv_aload hx hb hd (hl.2.2 _ _ h1) (k _ hl)
  case aload_n n => obtain ⟨x, h1, rfl, rfl⟩ := mv_lda_inv h; exact lv_aload_n hx hb hd rfl (hl.2.2 _ _ h1) (k _ hl)
  case istore n => obtain ⟨x, rfl, rfl, h1, h2⟩ := mv_sti_inv h; exact lv_istore hx hb hd hh (by rw [← hl.2.1]; exact h2) rfl (fun ls' h' => k ls' (mv_Lc_st1 hl h1 h'))
  case istore_n n => obtain ⟨x, rfl, rfl, h1, h2⟩ := mv_sti_inv h; exact lv_istore_n hx hb hd rfl hh (by rw [← hl.2.1]; exact h2) rfl (fun ls' h' => k ls' (mv_Lc_st1 hl h1 h'))
  case lstore n => obtain ⟨x, rfl, rfl, h1, h2⟩ := mv_stl_inv h; exact lv_lstore hx hb hd hh (by rw [← hl.2.1]; exact h2) rfl (fun ls' h' => k ls' (mv_Lc_st2 hl h1 h'))
  case lstore_n n => obtain ⟨x, rfl, rfl, h1, h2⟩ := mv_stl_inv h; exact lv_lstore_n hx hb hd rfl hh (by rw [← hl.2.1]; exact h2) rfl (fun ls' h' => k ls' (mv_Lc_st2 hl h1 h'))
  case astore n => obtain ⟨x, rfl, rfl, h1, h2⟩ := mv_sta_inv h; exact lv_astore hx hb hd hh (by rw [← hl.2.1]; exact h2) rfl (fun ls' h' => k ls' (mv_Lc_st1 (v := .ref x) hl h1 h'))
  case astore_n n => obtain ⟨x, rfl, rfl, h1, h2⟩ := mv_sta_inv h; exact lv_astore_n hx hb hd rfl hh (by rw [← hl.2.1]; exact h2) rfl (fun ls' h' => k ls' (mv_Lc_st1 (v := .ref x) hl h1 h'))
  case iinc n z =>
    obtain ⟨x, h0, rfl, rfl, h1, h2⟩ := mv_inc_inv h
    obtain ⟨q, hq⟩ := List.getElem?_of_mem (mv_lst_in (ad := ad) h0)
    exact lv_iinc hx hb hd hh hq rfl (by rw [← hl.2.1]; exact h2) rfl (fun ls' h' => k ls' (mv_Lc_st1 (v := .int (x + Int32.ofInt z)) hl h1 h'))
  all_goals (exact absurd h (by simp [mv_loc]))
theorem mv_cond_ok (hx : p.tables.exec = Jvm.exec) (hb : cod.code = cc) {i : ClassFile.Instr} {st r : List Value} {cn : Prop} {off : Int} {tgt : Nat} (hd : decode cc pc = .ok (i, mv_len i)) (h : mv_cond i st = some (cn, off, r)) (ht : (pc : Int) + off = (tgt : Int))
    (kt : cn → W p l e R s m args below meth cod H locs cells slots Qz (F0 m tgt ls (r.map (mv_tr ad)))) (kf : ¬ cn → W p l e R s m args below meth cod H locs cells slots Qz (F0 m (pc + 3) ls (r.map (mv_tr ad)))) : W p l e R s m args below meth cod H locs cells slots Qz (F0 m pc ls (st.map (mv_tr ad))) := by
  unfold mv_cond at h
  split at h
  · split at h
    · split at h
      · cases h; exact lv_if_eq hx hb hd ht kt kf
      · cases h; exact lv_if_ne hx hb hd ht kt (fun z => kf (fun g => g z))
      · cases h; exact lv_if_lt hx hb hd ht kt kf
      · cases h; exact lv_if_ge hx hb hd ht kt kf
      · cases h; exact lv_if_gt hx hb hd ht kt kf
      · cases h; exact lv_if_le hx hb hd ht kt kf
    · cases h
  · split at h
    · split at h
      · cases h; exact lv_icmp_eq hx hb hd ht kt kf
      · cases h; exact lv_icmp_ne hx hb hd ht kt (fun z => kf (fun g => g z))
      · cases h; exact lv_icmp_lt hx hb hd ht kt kf
      · cases h; exact lv_icmp_ge hx hb hd ht kt kf
      · cases h; exact lv_icmp_gt hx hb hd ht kt kf
      · cases h; exact lv_icmp_le hx hb hd ht kt kf
    · cases h
  · cases h
theorem mv_sw_ok (hx : p.tables.exec = Jvm.exec) (hb : cod.code = cc) {i : ClassFile.Instr} {n : Nat} {x : Int32} {r : List Value} {off : Int} {tgt : Nat} (hd : decode cc pc = .ok (i, n)) (h : mv_sw i x = some off) (ht : (pc : Int) + off = (tgt : Int))
    (k : W p l e R s m args below meth cod H locs cells slots Qz (F0 m tgt ls (r.map (mv_tr ad)))) : W p l e R s m args below meth cod H locs cells slots Qz (F0 m pc ls ((Value.int x :: r).map (mv_tr ad))) := by
  unfold mv_sw at h
  split at h
  · obtain ⟨h1, rfl⟩ := mv_bif h
    exact lv_lookup hx hb hd h1 rfl ht k
  · split at h
    · rename_i hc
      cases h
      exact lv_tableOut hx hb hd hc ht k
    · rename_i hc
      exact lv_tableIn hx hb hd (fun z => hc (Or.inl z)) (fun z => hc (Or.inr z)) h ht k
  · cases h
end MVP
end
