/-! ===== a small machine: the methods' bytecode over numbers and cells that are counted; what it does the machine does too (next parts) ===== -/
abbrev cv_V : Type := Int32 ⊕ (Int64 ⊕ (Option Nat ⊕ Nat))
abbrev cv_i (x : Int32) : cv_V := .inl x
abbrev cv_l (x : Int64) : cv_V := .inr (.inl x)
abbrev cv_r (k : Nat) : cv_V := .inr (.inr (.inl (some k)))
abbrev cv_n : cv_V := .inr (.inr (.inl none))
abbrev cv_s (j : Nat) : cv_V := .inr (.inr (.inr j))
/-- a cell: a row of ints (0 int, 1 byte, 2 boolean), a row of longs, a row of references (4, 5), an object -/
abbrev cv_C : Type := (Nat × List Int32) ⊕ (List Int64 ⊕ ((Nat × List (Option Nat)) ⊕ (Nat × List cv_V)))
abbrev cv_ci (t : Nat) (xs : List Int32) : cv_C := .inl (t, xs)
abbrev cv_cl (xs : List Int64) : cv_C := .inr (.inl xs)
abbrev cv_cr (t : Nat) (xs : List (Option Nat)) : cv_C := .inr (.inr (.inl (t, xs)))
abbrev cv_co (k : Nat) (xs : List cv_V) : cv_C := .inr (.inr (.inr (k, xs)))
abbrev cv_H : Type := List cv_C
abbrev cv_Q : Type := Nat × Instr × Nat × Nat × Nat × Int
abbrev cv_L : Type := List (Nat × cv_V)
abbrev cv_S : Type := Nat × cv_L × List cv_V × cv_H × Nat × Nat
abbrev cv_M : Type := (String × MethodName × ByteArray × Nat × Option FieldType) × List cv_Q × Nat × Nat × Nat × Nat
/-- static rows: 1 the bytes of the text, 2 the script, 4 and 5 the tables of ints -/
abbrev cv_X : Type := Nat → Option (List Int32)
def cv_isL : cv_V → Bool
  | .inr (.inl _) => true
  | _ => false
def cv_isI : cv_V → Bool
  | .inl _ => true
  | _ => false
def cv_isA : cv_V → Bool
  | .inr (.inr _) => true
  | _ => false
def cv_isR : cv_V → Bool
  | .inr (.inr (.inl (some _))) => true
  | _ => false
/-- binary operations on ints -/
def cv_bin (q : Instr) : Option (Int32 → Int32 → Option Int32) := match q with
  | .iadd => some fun x y => some (x + y)
  | .isub => some fun x y => some (x - y)
  | .imul => some fun x y => some (x * y)
  | .iand => some fun x y => some (x &&& y)
  | .ior => some fun x y => some (x ||| y)
  | .ishl => some fun x y => some (x <<< (y &&& 31))
  | .ishr => some fun x y => some (x >>> (y &&& 31))
  | .iushr => some fun x y => some (x.toUInt32 >>> (y.toUInt32 &&& Int32.toUInt32 31)).toInt32
  | .idiv => some fun x y => if y = 0 then none else some (x / y)
  | .irem => some fun x y => if y = 0 then none else some (x - x / y * y)
  | _ => none
/-- binary operations on longs -/
def cv_binL (q : Instr) : Option (Int64 → Int64 → Option Int64) := match q with
  | .ladd => some fun x y => some (x + y)
  | .lsub => some fun x y => some (x - y)
  | .lmul => some fun x y => some (x * y)
  | .land => some fun x y => some (x &&& y)
  | .ldiv => some fun x y => if y = 0 then none else some (x / y)
  | .lrem => some fun x y => if y = 0 then none else some (x - x / y * y)
  | _ => none
def cv_push (q : cv_Q) : Option cv_V := match q.2.1 with
  | .iconst n => some (cv_i (Int32.ofInt n))
  | .bipush n => some (cv_i (Int8.ofInt n).toInt32)
  | .sipush n => some (cv_i (Int16.ofInt n).toInt32)
  | .ldc _ => some (bif q.2.2.2.1 == 0 then cv_i (Int32.ofInt q.2.2.2.2.2) else cv_s 0)
  | .ldc_w _ => some (cv_i (Int32.ofInt q.2.2.2.2.2))
  | .ldc2_w _ => some (cv_l (Int64.ofInt q.2.2.2.2.2))
  | .lconst k => some (cv_l (Int64.ofNat k.val))
  | .getstatic _ => some (match q.2.2.2.1 with
    | 0 => cv_i 1
    | j => cv_s j)
  | _ => none
/-- 1: an int; 2: a reference; 3: a long -/
def cv_load (q : Instr) : Option (Nat × Nat) := match q with
  | .iload_n k => some (k.val, 1)
  | .iload k => some (k, 1)
  | .aload_n k => some (k.val, 2)
  | .aload k => some (k, 2)
  | .lload_n k => some (k.val, 3)
  | .lload k => some (k, 3)
  | _ => none
def cv_store (q : Instr) : Option (Nat × Nat) := match q with
  | .istore_n k => some (k.val, 1)
  | .istore k => some (k, 1)
  | .astore_n k => some (k.val, 2)
  | .astore k => some (k, 2)
  | .lstore_n k => some (k.val, 3)
  | .lstore k => some (k, 3)
  | _ => none
def cv_get (L : cv_L) (i : Nat) : Option cv_V := (L.find? (fun q => q.1 == i)).map Prod.snd
def cv_set (L : cv_L) (i : Nat) (v : cv_V) : cv_L := (i, v) :: L.filter (fun q => !(q.1 == i) && !(q.1 + 1 == i && cv_isL q.2))
def cv_setL (L : cv_L) (i : Nat) (v : cv_V) : cv_L := (i, v) :: L.filter (fun q => !(q.1 == i) && (!(q.1 == i + 1) && !(q.1 + 1 == i && cv_isL q.2)))
def cv_kind (k : Nat) (v : cv_V) : Bool := match k with
  | 1 => cv_isI v
  | 2 => cv_isA v
  | _ => cv_isL v
def cv_cmp (c : Jvm.ClassFile.Cond) (x y : Int32) : Bool := match c with
  | .lt => decide (x < y)
  | .ge => decide (y ≤ x)
  | .gt => decide (y < x)
  | .le => decide (x ≤ y)
  | .eq => decide (x = y)
  | .ne => !decide (x = y)
def cv_tgt (pc : Nat) (off : Int) : Nat := ((pc : Int) + off).toNat
def cv_jmp (pc : Nat) (off : Int) : Bool := decide (((pc : Int) + off) = ((((pc : Int) + off).toNat : Nat) : Int))
/-- does the value fit a field of this kind: 0 int, 2 boolean, 3 long, 4 a reference -/
def cv_fit (t : Nat) (v : cv_V) : Bool := match t, v with
  | 0, .inl _ => true
  | 2, .inl x => decide (x = 0) || decide (x = 1)
  | 3, .inr (.inl _) => true
  | 4, .inr (.inr (.inl _)) => true
  | _, _ => false
/-- an index within a row of n -/
def cv_ix (x : Int32) (n : Nat) : Bool := decide (0 ≤ x) && decide (x.toNatClampNeg < n)
abbrev cv_F : Type := List (List Nat)
def cv_dfl (t : Nat) : cv_V := match t with
  | 3 => cv_l 0
  | 4 => cv_n
  | _ => cv_i 0
/-- what a store into a row of ints keeps -/
def cv_nar (t : Nat) (x : Int32) : Int32 := match t with
  | 1 => x.toInt8.toInt32
  | 2 => x &&& 1
  | _ => x
def cv_one (X : cv_X) (q : cv_Q) (S : cv_S) : Option cv_S :=
  let pc := S.1
  let L := S.2.1
  let st := S.2.2.1
  let h := S.2.2.2.1
  let c := S.2.2.2.2.1
  let n := S.2.2.2.2.2
  let nx := pc + q.2.2.1
  match cv_push q with
  | some v => some (nx, L, v :: st, h, c, n)
  | none =>
  match cv_load q.2.1 with
  | some (i, k) => match cv_get L i with
    | some v => bif cv_kind k v then some (nx, L, v :: st, h, c, n) else none
    | none => none
  | none =>
  match cv_store q.2.1 with
  | some (i, k) => match st with
    | v :: st => bif (bif k == 2 then cv_isR v else cv_kind k v) then some (nx, (bif k == 3 then cv_setL L i v else cv_set L i v), st, h, c, n) else none
    | _ => none
  | none =>
  match cv_bin q.2.1 with
  | some f => match st with
    | .inl y :: .inl x :: st => (f x y).map fun r => (nx, L, cv_i r :: st, h, c, n)
    | _ => none
  | none =>
  match cv_binL q.2.1 with
  | some f => match st with
    | .inr (.inl y) :: .inr (.inl x) :: st => (f x y).map fun r => (nx, L, cv_l r :: st, h, c, n)
    | _ => none
  | none =>
  match q.2.1 with
  | .iaload => match st with
    | .inl i :: .inr (.inr (.inl (some k))) :: st => match h[k]? with
      | some (.inl (0, xs)) => bif cv_ix i xs.length then (xs[i.toNatClampNeg]?).map fun x => (nx, L, cv_i x :: st, h, c, n) else none
      | _ => none
    | .inl i :: .inr (.inr (.inr j)) :: st => match X j with
      | some xs => bif cv_ix i xs.length && !(j == 1) then (xs[i.toNatClampNeg]?).map fun x => (nx, L, cv_i x :: st, h, c, n) else none
      | none => none
    | _ => none
  | .baload => match st with
    | .inl i :: .inr (.inr (.inl (some k))) :: st => match h[k]? with
      | some (.inl (t, xs)) => bif (t == 1 || t == 2) && cv_ix i xs.length then (xs[i.toNatClampNeg]?).map fun x => (nx, L, cv_i x :: st, h, c, n) else none
      | _ => none
    | .inl i :: .inr (.inr (.inr 1)) :: st => match X 1 with
      | some xs => bif cv_ix i xs.length then (xs[i.toNatClampNeg]?).map fun x => (nx, L, cv_i x :: st, h, c, n) else none
      | none => none
    | _ => none
  | .laload => match st with
    | .inl i :: .inr (.inr (.inl (some k))) :: st => match h[k]? with
      | some (.inr (.inl xs)) => bif cv_ix i xs.length then (xs[i.toNatClampNeg]?).map fun x => (nx, L, cv_l x :: st, h, c, n) else none
      | _ => none
    | _ => none
  | .aaload => match st with
    | .inl i :: .inr (.inr (.inl (some k))) :: st => match h[k]? with
      | some (.inr (.inr (.inl (_, xs)))) => bif cv_ix i xs.length then (xs[i.toNatClampNeg]?).map fun x => (nx, L, .inr (.inr (.inl x)) :: st, h, c, n) else none
      | _ => none
    | _ => none
  | .iastore => match st with
    | .inl x :: .inl i :: .inr (.inr (.inl (some k))) :: st => match h[k]? with
      | some (.inl (0, xs)) => bif cv_ix i xs.length then some (nx, L, st, h.set k (cv_ci 0 (xs.set i.toNatClampNeg x)), c, n) else none
      | _ => none
    | _ => none
  | .bastore => match st with
    | .inl x :: .inl i :: .inr (.inr (.inl (some k))) :: st => match h[k]? with
      | some (.inl (t, xs)) => bif (t == 1 || t == 2) && cv_ix i xs.length then some (nx, L, st, h.set k (cv_ci t (xs.set i.toNatClampNeg (cv_nar t x))), c, n) else none
      | _ => none
    | _ => none
  | .lastore => match st with
    | .inr (.inl x) :: .inl i :: .inr (.inr (.inl (some k))) :: st => match h[k]? with
      | some (.inr (.inl xs)) => bif cv_ix i xs.length then some (nx, L, st, h.set k (cv_cl (xs.set i.toNatClampNeg x)), c, n) else none
      | _ => none
    | _ => none
  | .aastore => match st with
    | .inr (.inr (.inl (some o))) :: .inl i :: .inr (.inr (.inl (some k))) :: st => match h[k]?, h[o]? with
      | some (.inr (.inr (.inl (t, xs)))), some (.inr (.inr (.inr (ci, _)))) => bif cv_ix i xs.length && (ci == (bif t == 4 then 1 else 7)) then some (nx, L, st, h.set k (cv_cr t (xs.set i.toNatClampNeg (some o))), c, n) else none
      | _, _ => none
    | _ => none
  | .getfield _ => match st with
    | .inr (.inr (.inl (some k))) :: st => match h[k]? with
      | some (.inr (.inr (.inr (ci, fs)))) => bif ci == q.2.2.2.1 then (fs[q.2.2.2.2.1]?).map fun v => (nx, L, v :: st, h, c, n) else none
      | _ => none
    | .inr (.inr (.inr 0)) :: st => bif q.2.2.2.1 == 100 then some (nx, L, (bif q.2.2.2.2.1 == 0 then cv_s 1 else cv_i 0) :: st, h, c, n) else none
    | _ => none
  | .putfield _ => match st with
    | v :: .inr (.inr (.inl (some k))) :: st => match h[k]? with
      | some (.inr (.inr (.inr (ci, fs)))) => bif ci == q.2.2.2.1 && (decide (q.2.2.2.2.1 < fs.length) && cv_fit q.2.2.2.2.2.toNat v) then some (nx, L, st, h.set k (cv_co ci (fs.set q.2.2.2.2.1 v)), c, n) else none
      | _ => none
    | _ => none
  | .iinc i z => match cv_get L i with
    | some (.inl x) => some (nx, cv_set L i (cv_i (x + Int32.ofInt z)), st, h, c, n)
    | _ => none
  | .goto off => bif cv_jmp pc off then some (cv_tgt pc off, L, st, h, c, n) else none
  | .if_icmp o off => match st with
    | .inl y :: .inl x :: st => bif cv_jmp pc off then some ((bif cv_cmp o x y then cv_tgt pc off else nx), L, st, h, c, n) else none
    | _ => none
  | .ifCond o off => match st with
    | .inl x :: st => bif cv_jmp pc off then some ((bif cv_cmp o x 0 then cv_tgt pc off else nx), L, st, h, c, n) else none
    | _ => none
  | .dup => match st with
    | v :: st => bif !cv_isL v then some (nx, L, v :: v :: st, h, c, n) else none
    | _ => none
  | .pop => match st with
    | v :: st => bif !cv_isL v then some (nx, L, st, h, c, n) else none
    | _ => none
  | .dup2 => match st with
    | v :: w :: st => bif !cv_isL v && !cv_isL w then some (nx, L, v :: w :: v :: w :: st, h, c, n) else none
    | _ => none
  | .arraylength => match st with
    | .inr (.inr (.inl (some k))) :: st => match h[k]? with
      | some (.inl (_, xs)) => some (nx, L, cv_i (Int32.ofNat xs.length) :: st, h, c, n)
      | some (.inr (.inl xs)) => some (nx, L, cv_i (Int32.ofNat xs.length) :: st, h, c, n)
      | some (.inr (.inr (.inl (_, xs)))) => some (nx, L, cv_i (Int32.ofNat xs.length) :: st, h, c, n)
      | _ => none
    | .inr (.inr (.inr j)) :: st => (X j).map fun xs => (nx, L, cv_i (Int32.ofNat xs.length) :: st, h, c, n)
    | _ => none
  | .i2c => match st with
    | .inl x :: st => some (nx, L, cv_i (x.toUInt32 % 65536).toInt32 :: st, h, c, n)
    | _ => none
  | .i2b => match st with
    | .inl x :: st => some (nx, L, cv_i x.toInt8.toInt32 :: st, h, c, n)
    | _ => none
  | .i2l => match st with
    | .inl x :: st => some (nx, L, cv_l x.toInt64 :: st, h, c, n)
    | _ => none
  | .l2i => match st with
    | .inr (.inl x) :: st => some (nx, L, cv_i x.toInt32 :: st, h, c, n)
    | _ => none
  | .ineg => match st with
    | .inl x :: st => some (nx, L, cv_i (-x) :: st, h, c, n)
    | _ => none
  | .lneg => match st with
    | .inr (.inl x) :: st => some (nx, L, cv_l (-x) :: st, h, c, n)
    | _ => none
  | .lcmp => match st with
    | .inr (.inl y) :: .inr (.inl x) :: st => some (nx, L, cv_i (lg_cmp x y) :: st, h, c, n)
    | _ => none
  | .lshr => match st with
    | .inl y :: .inr (.inl x) :: st => some (nx, L, cv_l (x >>> (y.toInt64 &&& 63)) :: st, h, c, n)
    | _ => none
  | .tableswitch d lo hi offs => match st with
    | .inl x :: st => bif decide (x.toInt < lo) || decide (hi < x.toInt) then (bif cv_jmp pc d then some (cv_tgt pc d, L, st, h, c, n) else none) else
        (match offs[(x.toInt - lo).toNat]? with
        | some off => bif cv_jmp pc off then some (cv_tgt pc off, L, st, h, c, n) else none
        | none => none)
    | _ => none
  | _ => none
/-- what makes cells -/
def cv_mk (mc ms : Nat) (F : cv_F) (q : cv_Q) (S : cv_S) : Option cv_S :=
  let pc := S.1
  let L := S.2.1
  let st := S.2.2.1
  let h := S.2.2.2.1
  let c := S.2.2.2.2.1
  let n := S.2.2.2.2.2
  let nx := pc + q.2.2.1
  match q.2.1 with
  | .new _ => match F[q.2.2.2.1]? with
    | some ks => bif decide (c + 1 ≤ mc) && decide (n + ks.length ≤ ms) then some (nx, L, cv_r h.length :: st, h ++ [cv_co q.2.2.2.1 (ks.map cv_dfl)], c + 1, n + ks.length) else none
    | none => none
  | .newarray _ => match st with
    | .inl x :: st => bif decide (0 ≤ x) && (decide (x.toNatClampNeg ≤ 10000) && (decide (q.2.2.2.1 ≤ 3) && (decide (c + 1 ≤ mc) && decide (n + x.toNatClampNeg ≤ ms)))) then
        some (nx, L, cv_r h.length :: st, h ++ [bif q.2.2.2.1 == 3 then cv_cl (List.replicate x.toNatClampNeg 0) else cv_ci q.2.2.2.1 (List.replicate x.toNatClampNeg 0)], c + 1, n + x.toNatClampNeg) else none
    | _ => none
  | .anewarray _ => match st with
    | .inl x :: st => bif decide (0 ≤ x) && (decide (x.toNatClampNeg ≤ 10000) && ((q.2.2.2.1 == 4 || q.2.2.2.1 == 5) && (decide (c + 1 ≤ mc) && decide (n + x.toNatClampNeg ≤ ms)))) then
        some (nx, L, cv_r h.length :: st, h ++ [cv_cr q.2.2.2.1 (List.replicate x.toNatClampNeg none)], c + 1, n + x.toNatClampNeg) else none
    | _ => none
  | _ => none
def cv_wid (st : List cv_V) : Nat := (st.map fun v => bif cv_isL v then 2 else 1).sum
/-- Object.<init> (9999) and Math's (9001 max, 9002 min, 9003 abs of ints; 9004 max, 9005 min, 9006 abs of longs) -/
def cv_nat (M : cv_M) (q : cv_Q) (S : cv_S) : Option cv_S :=
  let c := S.2.2.2.2.1
  let n := S.2.2.2.2.2
  bif decide (1 ≤ M.2.2.2.2.1) && (decide (c ≤ M.2.2.1) && decide (n ≤ M.2.2.2.1)) then
    match q.2.1, q.2.2.2.1, S.2.2.1 with
    | .invokespecial _, 9999, .inr (.inr (.inl (some _))) :: rest => bif decide (cv_wid rest + 12 ≤ M.2.2.2.2.2) then some (S.1 + q.2.2.1, S.2.1, rest, S.2.2.2) else none
    | .invokestatic _, 9001, .inl y :: .inl x :: rest => bif decide (cv_wid rest + 15 ≤ M.2.2.2.2.2) then some (S.1 + q.2.2.1, S.2.1, cv_i (if x < y then y else x) :: rest, S.2.2.2) else none
    | .invokestatic _, 9002, .inl y :: .inl x :: rest => bif decide (cv_wid rest + 15 ≤ M.2.2.2.2.2) then some (S.1 + q.2.2.1, S.2.1, cv_i (if y < x then y else x) :: rest, S.2.2.2) else none
    | .invokestatic _, 9003, .inl x :: rest => bif decide (cv_wid rest + 15 ≤ M.2.2.2.2.2) then some (S.1 + q.2.2.1, S.2.1, cv_i (if 0 ≤ x then x else 0 - x) :: rest, S.2.2.2) else none
    | .invokestatic _, 9004, .inr (.inl y) :: .inr (.inl x) :: rest => bif decide (cv_wid rest + 15 ≤ M.2.2.2.2.2) then some (S.1 + q.2.2.1, S.2.1, cv_l (if y < x then x else y) :: rest, S.2.2.2) else none
    | .invokestatic _, 9005, .inr (.inl y) :: .inr (.inl x) :: rest => bif decide (cv_wid rest + 15 ≤ M.2.2.2.2.2) then some (S.1 + q.2.2.1, S.2.1, cv_l (if y < x then y else x) :: rest, S.2.2.2) else none
    | .invokestatic _, 9006, .inr (.inl x) :: rest => bif decide (cv_wid rest + 15 ≤ M.2.2.2.2.2) then some (S.1 + q.2.2.1, S.2.1, cv_l (if 0 < x then x else -x) :: rest, S.2.2.2) else none
    | _, _, _ => none
  else none
def cv_ent (i : Nat) : List cv_V → cv_L
  | [] => []
  | v :: l => (i, v) :: cv_ent (bif cv_isL v then i + 2 else i + 1) l
/-- a callee's room within the caller's -/
def cv_fits (M M' : cv_M) (c n na : Nat) (rest : List cv_V) : Bool :=
  decide (na ≤ M'.1.2.2.2.1) && (decide (c + M'.2.2.1 ≤ M.2.2.1) && (decide (n + M'.2.2.2.1 ≤ M.2.2.2.1) && (decide (M'.2.2.2.2.1 + 1 ≤ M.2.2.2.2.1) && (decide (8 + (M'.1.2.2.2.1 + 11) + M'.2.2.2.2.2 ≤ M.2.2.2.2.2) && decide (cv_wid rest ≤ 8)))))
/-- the call's callee, its arguments, the rest of the stack -/
def cv_call (q : cv_Q) (S : cv_S) : Option (Nat × List cv_V × List cv_V) :=
  let st := S.2.2.1
  let h := S.2.2.2.1
  let np := q.2.2.2.2.1
  bif decide (np ≤ st.length) then
    match q.2.1 with
    | .invokestatic _ => some (q.2.2.2.1, (st.take np).reverse, st.drop np)
    | .invokevirtual _ => match st.drop np with
      | .inr (.inr (.inl (some k))) :: rest => match h[k]? with
        | some (.inr (.inr (.inr (ci, _)))) => bif ci == q.2.2.2.2.2.toNat then some (q.2.2.2.1, cv_r k :: (st.take np).reverse, rest) else none
        | _ => none
      | .inr (.inr (.inr 0)) :: rest => bif q.2.2.2.2.2.toNat == 100 then some (q.2.2.2.1, cv_s 0 :: (st.take np).reverse, rest) else none
      | _ => none
    | .invokespecial _ => match st.drop np with
      | .inr (.inr (.inl (some k))) :: rest => some (q.2.2.2.1, cv_r k :: (st.take np).reverse, rest)
      | _ => none
    | _ => none
  else none
/-- a return: what is returned -/
def cv_ret (M : cv_M) (q : cv_Q) (S : cv_S) : Option (Option cv_V) :=
  bif decide (S.2.2.2.2.1 ≤ M.2.2.1) && decide (S.2.2.2.2.2 ≤ M.2.2.2.1) then
  match q.2.1, S.2.2.1, M.1.2.2.2.2 with
  | .ireturn, [.inl x], some .int => some (some (cv_i x))
  | .ireturn, [.inl x], some .boolean => bif decide (x = 0) || decide (x = 1) then some (some (cv_i x)) else none
  | .ireturn, [.inl x], some .byte => bif decide (x.toInt8.toInt32 = x) then some (some (cv_i x)) else none
  | .ireturn, [.inl x], some .char => bif decide (0 ≤ x.toInt) && decide (x.toInt ≤ 65535) then some (some (cv_i x)) else none
  | .lreturn, [.inr (.inl x)], some .long => some (some (cv_l x))
  | .return_, [], none => some none
  | _, _, _ => none
  else none
abbrev cv_O : Type := Option cv_V × cv_H
def cv_op (M : cv_M) (pc : Nat) : Option cv_Q := M.2.1.find? (fun q => q.1 == pc)
noncomputable def cv_run (F : cv_F) (mt : Nat → cv_M) (fuel : Nat) : cv_X → Nat → cv_S → Option cv_O :=
  Nat.rec (motive := fun _ => cv_X → Nat → cv_S → Option cv_O) (fun _ _ _ => none) (fun _ ih X mi S =>
    match cv_op (mt mi) S.1 with
    | none => none
    | some q =>
      match cv_one X q S with
      | some S' => ih X mi S'
      | none =>
      match cv_mk (mt mi).2.2.1 (mt mi).2.2.2.1 F q S with
      | some S' => ih X mi S'
      | none =>
      match cv_nat (mt mi) q S with
      | some S' => ih X mi S'
      | none =>
      match cv_call q S with
      | some (j, args, stk) =>
        bif cv_fits (mt mi) (mt j) S.2.2.2.2.1 S.2.2.2.2.2 (cv_wid args) stk then
          match ih (fun j => bif j == 2 then none else X j) j (0, cv_ent 0 args, [], S.2.2.2.1, 0, 0) with
          | some o => ih X mi (S.1 + q.2.2.1, S.2.1, o.1.toList ++ stk, o.2, S.2.2.2.2.1 + (mt j).2.2.1, S.2.2.2.2.2 + (mt j).2.2.2.1)
          | none => none
        else none
      | none =>
      match cv_ret (mt mi) q S with
      | some r => some (r, S.2.2.2.1)
      | none => none) fuel
