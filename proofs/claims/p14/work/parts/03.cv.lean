section
/-! ===== a small machine: the methods' bytecode over numbers and cells that are counted; what it does the machine does too (next parts) ===== -/
abbrev cv_V : Type := Int32 ⊕ (Int64 ⊕ (Option Nat ⊕ Nat))
abbrev cv_i (x : Int32) : cv_V := .inl x
abbrev cv_l (x : Int64) : cv_V := .inr (.inl x)
abbrev cv_r (k : Nat) : cv_V := .inr (.inr (.inl (some k)))
abbrev cv_n : cv_V := .inr (.inr (.inl none))
abbrev cv_s (j : Nat) : cv_V := .inr (.inr (.inr j))
/-- a cell: a row of ints (0 int, 1 byte, 2 boolean), a row of longs, a row of references (4, 5), an object -/
abbrev cv_C : Type := (Nat × List Int32) ⊕ (List Int64 ⊕ ((Nat × List (Option Nat)) ⊕ (Nat × List cv_V)))
abbrev cv_ci (t : Nat) (xs : List Int32) : cv_C := .inl (t, xs)
abbrev cv_cl (xs : List Int64) : cv_C := .inr (.inl xs)
abbrev cv_cr (t : Nat) (xs : List (Option Nat)) : cv_C := .inr (.inr (.inl (t, xs)))
abbrev cv_co (k : Nat) (xs : List cv_V) : cv_C := .inr (.inr (.inr (k, xs)))
abbrev cv_H : Type := List cv_C
abbrev cv_Q : Type := Nat × Instr × Nat × Nat × Nat × Int
abbrev cv_L : Type := List (Nat × cv_V)
abbrev cv_S : Type := Nat × cv_L × List cv_V × cv_H × Nat × Nat
abbrev cv_M : Type := (String × MethodName × ByteArray × Nat × Option FieldType) × List cv_Q × Nat × Nat × Nat × Nat
/-- static rows: 1 the bytes of the text, 2 the script, 4 and 5 the tables of ints -/
abbrev cv_X : Type := Nat → Option (List Int32)
def cv_isL : cv_V → Bool
  | .inr (.inl _) => true
  | _ => false
def cv_isI : cv_V → Bool
  | .inl _ => true
  | _ => false
def cv_isA : cv_V → Bool
  | .inr (.inr _) => true
  | _ => false
def cv_isR : cv_V → Bool
  | .inr (.inr (.inl (some _))) => true
  | _ => false
/-- binary operations on ints -/
def cv_bin (q : Instr) : Option (Int32 → Int32 → Option Int32) := match q with
  | .iadd => some fun x y => some (x + y)
  | .isub => some fun x y => some (x - y)
  | .imul => some fun x y => some (x * y)
  | .iand => some fun x y => some (x &&& y)
  | .ior => some fun x y => some (x ||| y)
  | .ishl => some fun x y => some (x <<< (y &&& 31))
  | .ishr => some fun x y => some (x >>> (y &&& 31))
  | .iushr => some fun x y => some (x.toUInt32 >>> (y.toUInt32 &&& Int32.toUInt32 31)).toInt32
  | .idiv => some fun x y => if y = 0 then none else some (x / y)
  | .irem => some fun x y => if y = 0 then none else some (x - x / y * y)
  | _ => none
/-- binary operations on longs -/
def cv_binL (q : Instr) : Option (Int64 → Int64 → Option Int64) := match q with
  | .ladd => some fun x y => some (x + y)
  | .lsub => some fun x y => some (x - y)
  | .lmul => some fun x y => some (x * y)
  | .land => some fun x y => some (x &&& y)
  | .ldiv => some fun x y => if y = 0 then none else some (x / y)
  | .lrem => some fun x y => if y = 0 then none else some (x - x / y * y)
  | _ => none
def cv_push (q : cv_Q) : Option cv_V := match q.2.1 with
  | .iconst n => some (cv_i (Int32.ofInt n))
  | .bipush n => some (cv_i (Int8.ofInt n).toInt32)
  | .sipush n => some (cv_i (Int16.ofInt n).toInt32)
  | .ldc _ => some (bif q.2.2.2.1 == 0 then cv_i (Int32.ofInt q.2.2.2.2.2) else cv_s 0)
  | .ldc_w _ => some (cv_i (Int32.ofInt q.2.2.2.2.2))
  | .ldc2_w _ => some (cv_l (Int64.ofInt q.2.2.2.2.2))
  | .lconst k => some (cv_l (Int64.ofNat k.val))
  | .getstatic _ => some (match q.2.2.2.1 with
    | 0 => cv_i 1
    | j => cv_s j)
  | _ => none
/-- 1: an int; 2: a reference; 3: a long -/
def cv_load (q : Instr) : Option (Nat × Nat) := match q with
  | .iload_n k => some (k.val, 1)
  | .iload k => some (k, 1)
  | .aload_n k => some (k.val, 2)
  | .aload k => some (k, 2)
  | .lload_n k => some (k.val, 3)
  | .lload k => some (k, 3)
  | _ => none
def cv_store (q : Instr) : Option (Nat × Nat) := match q with
  | .istore_n k => some (k.val, 1)
  | .istore k => some (k, 1)
  | .astore_n k => some (k.val, 2)
  | .astore k => some (k, 2)
  | .lstore_n k => some (k.val, 3)
  | .lstore k => some (k, 3)
  | _ => none
def cv_get (L : cv_L) (i : Nat) : Option cv_V := (L.find? (fun q => q.1 == i)).map Prod.snd
def cv_set (L : cv_L) (i : Nat) (v : cv_V) : cv_L := (i, v) :: L.filter (fun q => !(q.1 == i) && !(q.1 + 1 == i && cv_isL q.2))
def cv_setL (L : cv_L) (i : Nat) (v : cv_V) : cv_L := (i, v) :: L.filter (fun q => !(q.1 == i) && (!(q.1 == i + 1) && !(q.1 + 1 == i && cv_isL q.2)))
def cv_kind (k : Nat) (v : cv_V) : Bool := match k with
  | 1 => cv_isI v
  | 2 => cv_isA v
  | _ => cv_isL v
def cv_cmp (c : Jvm.ClassFile.Cond) (x y : Int32) : Bool := match c with
  | .lt => decide (x < y)
  | .ge => decide (y ≤ x)
  | .gt => decide (y < x)
  | .le => decide (x ≤ y)
  | .eq => decide (x = y)
  | .ne => !decide (x = y)
def cv_tgt (pc : Nat) (off : Int) : Nat := ((pc : Int) + off).toNat
def cv_jmp (pc : Nat) (off : Int) : Bool := decide (((pc : Int) + off) = ((((pc : Int) + off).toNat : Nat) : Int))
/-- does the value fit a field of this kind: 0 int, 2 boolean, 3 long, 4 a reference -/
def cv_fit (t : Nat) (v : cv_V) : Bool := match t, v with
  | 0, .inl _ => true
  | 2, .inl x => decide (x = 0) || decide (x = 1)
  | 3, .inr (.inl _) => true
  | 4, .inr (.inr (.inl _)) => true
  | _, _ => false
/-- an index within a row of n -/
def cv_ix (x : Int32) (n : Nat) : Bool := decide (0 ≤ x) && decide (x.toNatClampNeg < n)
abbrev cv_F : Type := List (List Nat)
def cv_dfl (t : Nat) : cv_V := match t with
  | 3 => cv_l 0
  | 4 => cv_n
  | _ => cv_i 0
/-- what a store into a row of ints keeps -/
def cv_nar (t : Nat) (x : Int32) : Int32 := match t with
  | 1 => x.toInt8.toInt32
  | 2 => x &&& 1
  | _ => x
def cv_one (X : cv_X) (q : cv_Q) (S : cv_S) : Option cv_S :=
  let pc := S.1
  let L := S.2.1
  let st := S.2.2.1
  let h := S.2.2.2.1
  let c := S.2.2.2.2.1
  let n := S.2.2.2.2.2
  let nx := pc + q.2.2.1
  match cv_push q with
  | some v => some (nx, L, v :: st, h, c, n)
  | none =>
  match cv_load q.2.1 with
  | some (i, k) => match cv_get L i with
    | some v => bif cv_kind k v then some (nx, L, v :: st, h, c, n) else none
    | none => none
  | none =>
  match cv_store q.2.1 with
  | some (i, k) => match st with
    | v :: st => bif (bif k == 2 then cv_isR v else cv_kind k v) then some (nx, (bif k == 3 then cv_setL L i v else cv_set L i v), st, h, c, n) else none
    | _ => none
  | none =>
  match cv_bin q.2.1 with
  | some f => match st with
    | .inl y :: .inl x :: st => (f x y).map fun r => (nx, L, cv_i r :: st, h, c, n)
    | _ => none
  | none =>
  match cv_binL q.2.1 with
  | some f => match st with
    | .inr (.inl y) :: .inr (.inl x) :: st => (f x y).map fun r => (nx, L, cv_l r :: st, h, c, n)
    | _ => none
  | none =>
  match q.2.1 with
  | .iaload => match st with
    | .inl i :: .inr (.inr (.inl (some k))) :: st => match h[k]? with
      | some (.inl (0, xs)) => bif cv_ix i xs.length then (xs[i.toNatClampNeg]?).map fun x => (nx, L, cv_i x :: st, h, c, n) else none
      | _ => none
    | .inl i :: .inr (.inr (.inr j)) :: st => match X j with
      | some xs => bif cv_ix i xs.length && !(j == 1) then (xs[i.toNatClampNeg]?).map fun x => (nx, L, cv_i x :: st, h, c, n) else none
      | none => none
    | _ => none
  | .baload => match st with
    | .inl i :: .inr (.inr (.inl (some k))) :: st => match h[k]? with
      | some (.inl (t, xs)) => bif (t == 1 || t == 2) && cv_ix i xs.length then (xs[i.toNatClampNeg]?).map fun x => (nx, L, cv_i x :: st, h, c, n) else none
      | _ => none
    | .inl i :: .inr (.inr (.inr 1)) :: st => match X 1 with
      | some xs => bif cv_ix i xs.length then (xs[i.toNatClampNeg]?).map fun x => (nx, L, cv_i x :: st, h, c, n) else none
      | none => none
    | _ => none
  | .laload => match st with
    | .inl i :: .inr (.inr (.inl (some k))) :: st => match h[k]? with
      | some (.inr (.inl xs)) => bif cv_ix i xs.length then (xs[i.toNatClampNeg]?).map fun x => (nx, L, cv_l x :: st, h, c, n) else none
      | _ => none
    | _ => none
  | .aaload => match st with
    | .inl i :: .inr (.inr (.inl (some k))) :: st => match h[k]? with
      | some (.inr (.inr (.inl (_, xs)))) => bif cv_ix i xs.length then (xs[i.toNatClampNeg]?).map fun x => (nx, L, .inr (.inr (.inl x)) :: st, h, c, n) else none
      | _ => none
    | _ => none
  | .iastore => match st with
    | .inl x :: .inl i :: .inr (.inr (.inl (some k))) :: st => match h[k]? with
      | some (.inl (0, xs)) => bif cv_ix i xs.length then some (nx, L, st, h.set k (cv_ci 0 (xs.set i.toNatClampNeg x)), c, n) else none
      | _ => none
    | _ => none
  | .bastore => match st with
    | .inl x :: .inl i :: .inr (.inr (.inl (some k))) :: st => match h[k]? with
      | some (.inl (t, xs)) => bif (t == 1 || t == 2) && cv_ix i xs.length then some (nx, L, st, h.set k (cv_ci t (xs.set i.toNatClampNeg (cv_nar t x))), c, n) else none
      | _ => none
    | _ => none
  | .lastore => match st with
    | .inr (.inl x) :: .inl i :: .inr (.inr (.inl (some k))) :: st => match h[k]? with
      | some (.inr (.inl xs)) => bif cv_ix i xs.length then some (nx, L, st, h.set k (cv_cl (xs.set i.toNatClampNeg x)), c, n) else none
      | _ => none
    | _ => none
  | .aastore => match st with
    | .inr (.inr (.inl (some o))) :: .inl i :: .inr (.inr (.inl (some k))) :: st => match h[k]?, h[o]? with
      | some (.inr (.inr (.inl (t, xs)))), some (.inr (.inr (.inr (ci, _)))) => bif cv_ix i xs.length && (ci == (bif t == 4 then 1 else 7)) then some (nx, L, st, h.set k (cv_cr t (xs.set i.toNatClampNeg (some o))), c, n) else none
      | _, _ => none
    | _ => none
  | .getfield _ => match st with
    | .inr (.inr (.inl (some k))) :: st => match h[k]? with
      | some (.inr (.inr (.inr (ci, fs)))) => bif ci == q.2.2.2.1 then (fs[q.2.2.2.2.1]?).map fun v => (nx, L, v :: st, h, c, n) else none
      | _ => none
    | .inr (.inr (.inr 0)) :: st => bif q.2.2.2.1 == 100 then some (nx, L, (bif q.2.2.2.2.1 == 0 then cv_s 1 else cv_i 0) :: st, h, c, n) else none
    | _ => none
  | .putfield _ => match st with
    | v :: .inr (.inr (.inl (some k))) :: st => match h[k]? with
      | some (.inr (.inr (.inr (ci, fs)))) => bif ci == q.2.2.2.1 && (decide (q.2.2.2.2.1 < fs.length) && cv_fit q.2.2.2.2.2.toNat v) then some (nx, L, st, h.set k (cv_co ci (fs.set q.2.2.2.2.1 v)), c, n) else none
      | _ => none
    | _ => none
  | .iinc i z => match cv_get L i with
    | some (.inl x) => some (nx, cv_set L i (cv_i (x + Int32.ofInt z)), st, h, c, n)
    | _ => none
  | .goto off => bif cv_jmp pc off then some (cv_tgt pc off, L, st, h, c, n) else none
  | .if_icmp o off => match st with
    | .inl y :: .inl x :: st => bif cv_jmp pc off then some ((bif cv_cmp o x y then cv_tgt pc off else nx), L, st, h, c, n) else none
    | _ => none
  | .ifCond o off => match st with
    | .inl x :: st => bif cv_jmp pc off then some ((bif cv_cmp o x 0 then cv_tgt pc off else nx), L, st, h, c, n) else none
    | _ => none
  | .dup => match st with
    | v :: st => bif !cv_isL v then some (nx, L, v :: v :: st, h, c, n) else none
    | _ => none
  | .pop => match st with
    | v :: st => bif !cv_isL v then some (nx, L, st, h, c, n) else none
    | _ => none
  | .dup2 => match st with
    | v :: w :: st => bif !cv_isL v && !cv_isL w then some (nx, L, v :: w :: v :: w :: st, h, c, n) else none
    | _ => none
  | .arraylength => match st with
    | .inr (.inr (.inl (some k))) :: st => match h[k]? with
      | some (.inl (_, xs)) => some (nx, L, cv_i (Int32.ofNat xs.length) :: st, h, c, n)
      | some (.inr (.inl xs)) => some (nx, L, cv_i (Int32.ofNat xs.length) :: st, h, c, n)
      | some (.inr (.inr (.inl (_, xs)))) => some (nx, L, cv_i (Int32.ofNat xs.length) :: st, h, c, n)
      | _ => none
    | .inr (.inr (.inr j)) :: st => (X j).map fun xs => (nx, L, cv_i (Int32.ofNat xs.length) :: st, h, c, n)
    | _ => none
  | .i2c => match st with
    | .inl x :: st => some (nx, L, cv_i (x.toUInt32 % 65536).toInt32 :: st, h, c, n)
    | _ => none
  | .i2b => match st with
    | .inl x :: st => some (nx, L, cv_i x.toInt8.toInt32 :: st, h, c, n)
    | _ => none
  | .i2l => match st with
    | .inl x :: st => some (nx, L, cv_l x.toInt64 :: st, h, c, n)
    | _ => none
  | .l2i => match st with
    | .inr (.inl x) :: st => some (nx, L, cv_i x.toInt32 :: st, h, c, n)
    | _ => none
  | .ineg => match st with
    | .inl x :: st => some (nx, L, cv_i (-x) :: st, h, c, n)
    | _ => none
  | .lneg => match st with
    | .inr (.inl x) :: st => some (nx, L, cv_l (-x) :: st, h, c, n)
    | _ => none
  | .lcmp => match st with
    | .inr (.inl y) :: .inr (.inl x) :: st => some (nx, L, cv_i (lg_cmp x y) :: st, h, c, n)
    | _ => none
  | .lshr => match st with
    | .inl y :: .inr (.inl x) :: st => some (nx, L, cv_l (x >>> (y.toInt64 &&& 63)) :: st, h, c, n)
    | _ => none
  | .tableswitch d lo hi offs => match st with
    | .inl x :: st => bif decide (x.toInt < lo) || decide (hi < x.toInt) then (bif cv_jmp pc d then some (cv_tgt pc d, L, st, h, c, n) else none) else
        (match offs[(x.toInt - lo).toNat]? with
        | some off => bif cv_jmp pc off then some (cv_tgt pc off, L, st, h, c, n) else none
        | none => none)
    | _ => none
  | _ => none
/-- what makes cells -/
def cv_mk (mc ms : Nat) (F : cv_F) (q : cv_Q) (S : cv_S) : Option cv_S :=
  let pc := S.1
  let L := S.2.1
  let st := S.2.2.1
  let h := S.2.2.2.1
  let c := S.2.2.2.2.1
  let n := S.2.2.2.2.2
  let nx := pc + q.2.2.1
  match q.2.1 with
  | .new _ => match F[q.2.2.2.1]? with
    | some ks => bif decide (c + 1 ≤ mc) && decide (n + ks.length ≤ ms) then some (nx, L, cv_r h.length :: st, h ++ [cv_co q.2.2.2.1 (ks.map cv_dfl)], c + 1, n + ks.length) else none
    | none => none
  | .newarray _ => match st with
    | .inl x :: st => bif decide (0 ≤ x) && (decide (x.toNatClampNeg ≤ 10000) && (decide (q.2.2.2.1 ≤ 3) && (decide (c + 1 ≤ mc) && decide (n + x.toNatClampNeg ≤ ms)))) then
        some (nx, L, cv_r h.length :: st, h ++ [bif q.2.2.2.1 == 3 then cv_cl (List.replicate x.toNatClampNeg 0) else cv_ci q.2.2.2.1 (List.replicate x.toNatClampNeg 0)], c + 1, n + x.toNatClampNeg) else none
    | _ => none
  | .anewarray _ => match st with
    | .inl x :: st => bif decide (0 ≤ x) && (decide (x.toNatClampNeg ≤ 10000) && ((q.2.2.2.1 == 4 || q.2.2.2.1 == 5) && (decide (c + 1 ≤ mc) && decide (n + x.toNatClampNeg ≤ ms)))) then
        some (nx, L, cv_r h.length :: st, h ++ [cv_cr q.2.2.2.1 (List.replicate x.toNatClampNeg none)], c + 1, n + x.toNatClampNeg) else none
    | _ => none
  | _ => none
def cv_wid (st : List cv_V) : Nat := (st.map fun v => bif cv_isL v then 2 else 1).sum
/-- Object.<init> (9999) and Math's (9001 max, 9002 min, 9003 abs of ints; 9004 max, 9005 min, 9006 abs of longs) -/
def cv_nat (M : cv_M) (q : cv_Q) (S : cv_S) : Option cv_S :=
  let c := S.2.2.2.2.1
  let n := S.2.2.2.2.2
  bif decide (1 ≤ M.2.2.2.2.1) && (decide (c ≤ M.2.2.1) && decide (n ≤ M.2.2.2.1)) then
    match q.2.1, q.2.2.2.1, S.2.2.1 with
    | .invokespecial _, 9999, .inr (.inr (.inl (some _))) :: rest => bif decide (cv_wid rest + 12 ≤ M.2.2.2.2.2) then some (S.1 + q.2.2.1, S.2.1, rest, S.2.2.2) else none
    | .invokestatic _, 9001, .inl y :: .inl x :: rest => bif decide (cv_wid rest + 15 ≤ M.2.2.2.2.2) then some (S.1 + q.2.2.1, S.2.1, cv_i (if x < y then y else x) :: rest, S.2.2.2) else none
    | .invokestatic _, 9002, .inl y :: .inl x :: rest => bif decide (cv_wid rest + 15 ≤ M.2.2.2.2.2) then some (S.1 + q.2.2.1, S.2.1, cv_i (if y < x then y else x) :: rest, S.2.2.2) else none
    | .invokestatic _, 9003, .inl x :: rest => bif decide (cv_wid rest + 15 ≤ M.2.2.2.2.2) then some (S.1 + q.2.2.1, S.2.1, cv_i (if 0 ≤ x then x else 0 - x) :: rest, S.2.2.2) else none
    | .invokestatic _, 9004, .inr (.inl y) :: .inr (.inl x) :: rest => bif decide (cv_wid rest + 15 ≤ M.2.2.2.2.2) then some (S.1 + q.2.2.1, S.2.1, cv_l (if y < x then x else y) :: rest, S.2.2.2) else none
    | .invokestatic _, 9005, .inr (.inl y) :: .inr (.inl x) :: rest => bif decide (cv_wid rest + 15 ≤ M.2.2.2.2.2) then some (S.1 + q.2.2.1, S.2.1, cv_l (if y < x then y else x) :: rest, S.2.2.2) else none
    | .invokestatic _, 9006, .inr (.inl x) :: rest => bif decide (cv_wid rest + 15 ≤ M.2.2.2.2.2) then some (S.1 + q.2.2.1, S.2.1, cv_l (if 0 < x then x else -x) :: rest, S.2.2.2) else none
    | _, _, _ => none
  else none
def cv_ent (i : Nat) : List cv_V → cv_L
  | [] => []
  | v :: l => (i, v) :: cv_ent (bif cv_isL v then i + 2 else i + 1) l
/-- a callee's room within the caller's -/
def cv_fits (M M' : cv_M) (c n na : Nat) (rest : List cv_V) : Bool :=
  decide (na ≤ M'.1.2.2.2.1) && (decide (c + M'.2.2.1 ≤ M.2.2.1) && (decide (n + M'.2.2.2.1 ≤ M.2.2.2.1) && (decide (M'.2.2.2.2.1 + 1 ≤ M.2.2.2.2.1) && (decide (8 + (M'.1.2.2.2.1 + 11) + M'.2.2.2.2.2 ≤ M.2.2.2.2.2) && decide (cv_wid rest ≤ 8)))))
/-- the call's callee, its arguments, the rest of the stack -/
def cv_call (q : cv_Q) (S : cv_S) : Option (Nat × List cv_V × List cv_V) :=
  let st := S.2.2.1
  let h := S.2.2.2.1
  let np := q.2.2.2.2.1
  bif decide (np ≤ st.length) then
    match q.2.1 with
    | .invokestatic _ => some (q.2.2.2.1, (st.take np).reverse, st.drop np)
    | .invokevirtual _ => match st.drop np with
      | .inr (.inr (.inl (some k))) :: rest => match h[k]? with
        | some (.inr (.inr (.inr (ci, _)))) => bif ci == q.2.2.2.2.2.toNat then some (q.2.2.2.1, cv_r k :: (st.take np).reverse, rest) else none
        | _ => none
      | .inr (.inr (.inr 0)) :: rest => bif q.2.2.2.2.2.toNat == 100 then some (q.2.2.2.1, cv_s 0 :: (st.take np).reverse, rest) else none
      | _ => none
    | .invokespecial _ => match st.drop np with
      | .inr (.inr (.inl (some k))) :: rest => some (q.2.2.2.1, cv_r k :: (st.take np).reverse, rest)
      | _ => none
    | _ => none
  else none
/-- a return: what is returned -/
def cv_ret (M : cv_M) (q : cv_Q) (S : cv_S) : Option (Option cv_V) :=
  bif decide (S.2.2.2.2.1 ≤ M.2.2.1) && decide (S.2.2.2.2.2 ≤ M.2.2.2.1) then
  match q.2.1, S.2.2.1, M.1.2.2.2.2 with
  | .ireturn, [.inl x], some .int => some (some (cv_i x))
  | .ireturn, [.inl x], some .boolean => bif decide (x = 0) || decide (x = 1) then some (some (cv_i x)) else none
  | .ireturn, [.inl x], some .byte => bif decide (x.toInt8.toInt32 = x) then some (some (cv_i x)) else none
  | .ireturn, [.inl x], some .char => bif decide (0 ≤ x.toInt) && decide (x.toInt ≤ 65535) then some (some (cv_i x)) else none
  | .lreturn, [.inr (.inl x)], some .long => some (some (cv_l x))
  | .return_, [], none => some none
  | _, _, _ => none
  else none
abbrev cv_O : Type := Option cv_V × cv_H
def cv_op (M : cv_M) (pc : Nat) : Option cv_Q := M.2.1.find? (fun q => q.1 == pc)
noncomputable def cv_run (F : cv_F) (mt : Nat → cv_M) (fuel : Nat) : cv_X → Nat → cv_S → Option cv_O :=
  Nat.rec (motive := fun _ => cv_X → Nat → cv_S → Option cv_O) (fun _ _ _ => none) (fun _ ih X mi S =>
    match cv_op (mt mi) S.1 with
    | none => none
    | some q =>
      match cv_one X q S with
      | some S' => ih X mi S'
      | none =>
      match cv_mk (mt mi).2.2.1 (mt mi).2.2.2.1 F q S with
      | some S' => ih X mi S'
      | none =>
      match cv_nat (mt mi) q S with
      | some S' => ih X mi S'
      | none =>
      match cv_call q S with
      | some (j, args, stk) =>
        bif cv_fits (mt mi) (mt j) S.2.2.2.2.1 S.2.2.2.2.2 (cv_wid args) stk then
          match ih (fun j => bif j == 2 then none else X j) j (0, cv_ent 0 args, [], S.2.2.2.1, 0, 0) with
          | some o => ih X mi (S.1 + q.2.2.1, S.2.1, o.1.toList ++ stk, o.2, S.2.2.2.2.1 + (mt j).2.2.1, S.2.2.2.2.2 + (mt j).2.2.2.1)
          | none => none
        else none
      | none =>
      match cv_ret (mt mi) q S with
      | some r => some (r, S.2.2.2.1)
      | none => none) fuel
end
section
/-! ===== what the abstract values, cells and frames say of the machine's ===== -/
def cv_dn (sv : Nat → Value) (as : List Nat) (v : cv_V) (x : Value) : Prop := match v with
  | .inl n => x = .int n
  | .inr (.inl n) => x = .long n
  | .inr (.inr (.inl none)) => x = .null
  | .inr (.inr (.inl (some k))) => ∃ a : Nat, as[k]? = some a ∧ x = .ref a
  | .inr (.inr (.inr j)) => x = sv j
theorem cv_pre {as as' : List Nat} (h : as <+: as') {k a : Nat} (hk : as[k]? = some a) : as'[k]? = some a := by
  obtain ⟨t, rfl⟩ := h
  rw [List.getElem?_append_left (List.getElem?_eq_some_iff.mp hk).1]
  exact hk
theorem cv_dn_up {sv : Nat → Value} {as as' : List Nat} (h : as <+: as') {v : cv_V} {x : Value} (hd : cv_dn sv as v x) : cv_dn sv as' v x := by
  match v, hd with
  | .inl n, hd => exact hd
  | .inr (.inl n), hd => exact hd
  | .inr (.inr (.inl none)), hd => exact hd
  | .inr (.inr (.inl (some k))), ⟨a, h1, h2⟩ => exact ⟨a, cv_pre h h1, h2⟩
  | .inr (.inr (.inr j)), hd => exact hd
def cv_relS (sv : Nat → Value) (as : List Nat) : List cv_V → List Value → Prop
  | [], [] => True
  | v :: l, x :: r => cv_dn sv as v x ∧ cv_relS sv as l r
  | _, _ => False
theorem cv_relS_up {sv : Nat → Value} {as as' : List Nat} (h : as <+: as') : ∀ {l : List cv_V} {r : List Value}, cv_relS sv as l r → cv_relS sv as' l r
  | [], [], _ => trivial
  | _ :: _, _ :: _, ⟨h1, h2⟩ => ⟨cv_dn_up h h1, cv_relS_up h h2⟩
  | [], _ :: _, hh => hh.elim
  | _ :: _, [], hh => hh.elim
theorem cv_relS_cons {sv : Nat → Value} {as : List Nat} {v : cv_V} {l : List cv_V} {r : List Value} (h : cv_relS sv as (v :: l) r) : ∃ x r', r = x :: r' ∧ cv_dn sv as v x ∧ cv_relS sv as l r' := by
  cases r with
  | nil => exact h.elim
  | cons x r' => exact ⟨x, r', rfl, h.1, h.2⟩
theorem cv_relS_nil {sv : Nat → Value} {as : List Nat} {r : List Value} (h : cv_relS sv as [] r) : r = [] := by
  cases r with
  | nil => rfl
  | cons x r' => exact h.elim
theorem cv_relS_len {sv : Nat → Value} {as : List Nat} : ∀ {l : List cv_V} {r : List Value}, cv_relS sv as l r → r.length = l.length
  | [], [], _ => rfl
  | _ :: _, _ :: _, ⟨_, h2⟩ => by simp [cv_relS_len h2]
  | [], _ :: _, hh => hh.elim
  | _ :: _, [], hh => hh.elim
theorem cv_relS_app {sv : Nat → Value} {as : List Nat} : ∀ {l1 l2 : List cv_V} {r1 r2 : List Value}, cv_relS sv as l1 r1 → cv_relS sv as l2 r2 → cv_relS sv as (l1 ++ l2) (r1 ++ r2)
  | [], _, [], _, _, h => h
  | _ :: _, _, _ :: _, _, ⟨a, b⟩, h => ⟨a, cv_relS_app b h⟩
  | [], _, _ :: _, _, hh, _ => hh.elim
  | _ :: _, _, [], _, hh, _ => hh.elim
theorem cv_relS_rev {sv : Nat → Value} {as : List Nat} : ∀ {l : List cv_V} {r : List Value}, cv_relS sv as l r → cv_relS sv as l.reverse r.reverse
  | [], [], _ => trivial
  | v :: l, x :: r, ⟨a, b⟩ => by
    rw [List.reverse_cons, List.reverse_cons]
    exact cv_relS_app (cv_relS_rev b) ⟨a, trivial⟩
  | [], _ :: _, hh => hh.elim
  | _ :: _, [], hh => hh.elim
theorem cv_relS_take {sv : Nat → Value} {as : List Nat} : ∀ (n : Nat) {l : List cv_V} {r : List Value}, cv_relS sv as l r → cv_relS sv as (l.take n) (r.take n)
  | 0, _, _, _ => trivial
  | n + 1, [], [], _ => trivial
  | n + 1, _ :: _, _ :: _, ⟨a, b⟩ => ⟨a, cv_relS_take n b⟩
  | _ + 1, [], _ :: _, hh => hh.elim
  | _ + 1, _ :: _, [], hh => hh.elim
theorem cv_relS_drop {sv : Nat → Value} {as : List Nat} : ∀ (n : Nat) {l : List cv_V} {r : List Value}, cv_relS sv as l r → cv_relS sv as (l.drop n) (r.drop n)
  | 0, _, _, h => h
  | n + 1, [], [], _ => trivial
  | n + 1, _ :: _, _ :: _, ⟨a, b⟩ => cv_relS_drop n b
  | _ + 1, [], _ :: _, hh => hh.elim
  | _ + 1, _ :: _, [], hh => hh.elim
theorem cv_cat {sv : Nat → Value} (hsv : ∀ j, sv j = .null ∨ ∃ a, sv j = .ref a) {as : List Nat} {v : cv_V} {x : Value} (h : cv_dn sv as v x) : x.category = bif cv_isL v then 2 else 1 := by
  match v, h with
  | .inl n, h => rw [show x = _ from h]; rfl
  | .inr (.inl n), h => rw [show x = _ from h]; rfl
  | .inr (.inr (.inl none)), h => rw [show x = _ from h]; rfl
  | .inr (.inr (.inl (some k))), ⟨a, _, h⟩ => subst h; rfl
  | .inr (.inr (.inr j)), h =>
    rcases hsv j with h' | ⟨a, h'⟩
    · rw [show x = sv j from h, h']; rfl
    · rw [show x = sv j from h, h']; rfl
theorem cv_wid_ok {sv : Nat → Value} (hsv : ∀ j, sv j = .null ∨ ∃ a, sv j = .ref a) {as : List Nat} : ∀ {l : List cv_V} {r : List Value}, cv_relS sv as l r → (r.map fun v => v.category).sum = cv_wid l
  | [], [], _ => rfl
  | v :: l, x :: r, ⟨a, b⟩ => by
    have h1 := cv_wid_ok hsv b
    have h2 := cv_cat hsv a
    simp only [cv_wid, List.map_cons, List.sum_cons] at h1 ⊢
    rw [h1, h2]
  | [], _ :: _, hh => hh.elim
  | _ :: _, [], hh => hh.elim
/-- locals -/
def cv_relL (sv : Nat → Value) (as : List Nat) (nL : Nat) (L : cv_L) (ls : Array Slot) : Prop := ∃ lv : List (Nat × Value), lv_has ls nL lv ∧ ∀ q ∈ L, ∃ x, cv_dn sv as q.2 x ∧ (q.1, x) ∈ lv
theorem cv_relL_up {sv : Nat → Value} {as as' : List Nat} (h : as <+: as') {nL : Nat} {L : cv_L} {ls : Array Slot} (hl : cv_relL sv as nL L ls) : cv_relL sv as' nL L ls := by
  obtain ⟨lv, h1, h2⟩ := hl
  exact ⟨lv, h1, fun q hq => by obtain ⟨x, a, b⟩ := h2 q hq; exact ⟨x, cv_dn_up h a, b⟩⟩
theorem cv_get_mem {L : cv_L} {i : Nat} {v : cv_V} (h : cv_get L i = some v) : (i, v) ∈ L := by
  unfold cv_get at h
  cases hf : L.find? (fun q => q.1 == i) with
  | none => rw [hf] at h; cases h
  | some q =>
    rw [hf] at h
    cases h
    have h1 := List.find?_some hf
    have h2 : q.1 = i := by simpa using h1
    have h3 := List.mem_of_find?_eq_some hf
    rw [← h2]
    exact h3
theorem cv_relL_get {sv : Nat → Value} {as : List Nat} {nL : Nat} {L : cv_L} {ls : Array Slot} (hl : cv_relL sv as nL L ls) {i : Nat} {v : cv_V} (h : cv_get L i = some v) : ∃ x, cv_dn sv as v x ∧ ls[i]? = some (.val x) := by
  obtain ⟨lv, h1, h2⟩ := hl
  obtain ⟨x, a, b⟩ := h2 _ (cv_get_mem h)
  exact ⟨x, a, h1.2.2 _ b⟩
theorem cv_relL_set {sv : Nat → Value} (hsv : ∀ j, sv j = .null ∨ ∃ a, sv j = .ref a) {as : List Nat} {L : cv_L} {lv : List (Nat × Value)} (h2 : ∀ q ∈ L, ∃ x, cv_dn sv as q.2 x ∧ (q.1, x) ∈ lv) {nL i : Nat} {v : cv_V} {x : Value} (hd : cv_dn sv as v x) {ls' : Array Slot}
    (h : lv_has ls' nL ((i, x) :: lv.filter (fun q => !(q.1 == i) && !(q.1 + 1 == i && q.2.category == 2)))) : cv_relL sv as nL (cv_set L i v) ls' := by
  refine ⟨_, h, fun q hq => ?_⟩
  rcases List.mem_cons.mp hq with rfl | hq
  · exact ⟨x, hd, List.mem_cons_self⟩
  · obtain ⟨hq1, hq2⟩ := List.mem_filter.mp hq
    obtain ⟨y, a, b⟩ := h2 q hq1
    refine ⟨y, a, List.mem_cons_of_mem _ (List.mem_filter.mpr ⟨b, ?_⟩)⟩
    have hc := cv_cat hsv a
    dsimp only at hq2 ⊢
    rw [hc]
    cases hL : cv_isL q.2 with
    | true => rw [hL] at hq2; simpa using hq2
    | false => rw [hL] at hq2; simpa using hq2
theorem cv_relL_setL {sv : Nat → Value} (hsv : ∀ j, sv j = .null ∨ ∃ a, sv j = .ref a) {as : List Nat} {L : cv_L} {lv : List (Nat × Value)} (h2 : ∀ q ∈ L, ∃ x, cv_dn sv as q.2 x ∧ (q.1, x) ∈ lv) {nL i : Nat} {v : cv_V} {x : Value} (hd : cv_dn sv as v x) {ls' : Array Slot}
    (h : lv_has ls' nL ((i, x) :: lv.filter (fun q => !(q.1 == i) && (!(q.1 == i + 1) && !(q.1 + 1 == i && q.2.category == 2))))) : cv_relL sv as nL (cv_setL L i v) ls' := by
  refine ⟨_, h, fun q hq => ?_⟩
  rcases List.mem_cons.mp hq with rfl | hq
  · exact ⟨x, hd, List.mem_cons_self⟩
  · obtain ⟨hq1, hq2⟩ := List.mem_filter.mp hq
    obtain ⟨y, a, b⟩ := h2 q hq1
    refine ⟨y, a, List.mem_cons_of_mem _ (List.mem_filter.mpr ⟨b, ?_⟩)⟩
    have hc := cv_cat hsv a
    dsimp only at hq2 ⊢
    rw [hc]
    cases hL : cv_isL q.2 with
    | true => rw [hL] at hq2; simpa using hq2
    | false => rw [hL] at hq2; simpa using hq2
/-- cells -/
def cv_relE (cy : Nat → ClassId) (sv : Nat → Value) (as : List Nat) (c : cv_C) (e : va_E) : Prop := match c with
  | .inl (t, xs) => t ≤ 2 ∧ ∃ f : Nat → Int32, e = .inl (cy t, xs.length, .inl f) ∧ ∀ (k : Nat) (x : Int32), xs[k]? = some x → f k = x
  | .inr (.inl xs) => ∃ f : Nat → Int64, e = .inl (cy 3, xs.length, .inr (.inl f)) ∧ ∀ (k : Nat) (x : Int64), xs[k]? = some x → f k = x
  | .inr (.inr (.inl (t, xs))) => (t = 4 ∨ t = 5) ∧ ∃ f : Nat → Option Nat, e = .inl (cy t, xs.length, .inr (.inr (.inr (.inr f)))) ∧ ∀ (k : Nat) (o : Option Nat), xs[k]? = some o → cv_dn sv as (.inr (.inr (.inl o))) (va_rf (f k))
  | .inr (.inr (.inr (ci, xs))) => ∃ fs : List Value, e = .inr (ci, fs) ∧ fs.length = xs.length ∧ ∀ (k : Nat) (v : cv_V), xs[k]? = some v → ∃ x, fs[k]? = some x ∧ cv_dn sv as v x
theorem cv_relE_up {cy : Nat → ClassId} {sv : Nat → Value} {as as' : List Nat} (h : as <+: as') {c : cv_C} {e : va_E} (hE : cv_relE cy sv as c e) : cv_relE cy sv as' c e := by
  match c, hE with
  | .inl (t, xs), hE => exact hE
  | .inr (.inl xs), hE => exact hE
  | .inr (.inr (.inl (t, xs))), ⟨h1, f, h2, h3⟩ => exact ⟨h1, f, h2, fun k o hk => cv_dn_up h (h3 k o hk)⟩
  | .inr (.inr (.inr (ci, xs))), ⟨fs, h1, h2, h3⟩ => exact ⟨fs, h1, h2, fun k v hk => by obtain ⟨x, a, b⟩ := h3 k v hk; exact ⟨x, a, cv_dn_up h b⟩⟩
def cv_relH (cy : Nat → ClassId) (sv : Nat → Value) (as : List Nat) (h : cv_H) (ws : va_W) : Prop :=
  as.length = h.length ∧ ws.length = h.length ∧ ∀ (k : Nat) (c : cv_C), h[k]? = some c → ∃ (a : Nat) (e : va_E), as[k]? = some a ∧ ws[k]? = some (a, e) ∧ cv_relE cy sv as c e
theorem cv_relH_set {cy : Nat → ClassId} {sv : Nat → Value} {as : List Nat} {h : cv_H} {ws : va_W} (hH : cv_relH cy sv as h ws) {k a : Nat} {c : cv_C} {e : va_E} (ha : as[k]? = some a) (hE : cv_relE cy sv as c e) : cv_relH cy sv as (h.set k c) (ws.set k (a, e)) := by
  obtain ⟨h1, h2, h3⟩ := hH
  refine ⟨by simpa using h1, by simpa using h2, fun j c' hj => ?_⟩
  by_cases hjk : k = j
  · subst hjk
    have hlt : k < h.length := by
      have := (List.getElem?_eq_some_iff.mp ha).1
      omega
    rw [List.getElem?_set_self hlt] at hj
    cases hj
    exact ⟨a, e, ha, List.getElem?_set_self (by omega), hE⟩
  · rw [List.getElem?_set_ne hjk] at hj
    obtain ⟨a', e', q1, q2, q3⟩ := h3 j c' hj
    exact ⟨a', e', q1, by rw [List.getElem?_set_ne hjk]; exact q2, q3⟩
theorem cv_relH_push {cy : Nat → ClassId} {sv : Nat → Value} {as : List Nat} {h : cv_H} {ws : va_W} (hH : cv_relH cy sv as h ws) {q : Nat} {c : cv_C} {e : va_E} (hE : cv_relE cy sv (as ++ [q]) c e) : cv_relH cy sv (as ++ [q]) (h ++ [c]) (ws ++ [(q, e)]) := by
  obtain ⟨h1, h2, h3⟩ := hH
  refine ⟨by simp [h1], by simp [h2], fun j c' hj => ?_⟩
  by_cases hjl : j < h.length
  · rw [List.getElem?_append_left hjl] at hj
    obtain ⟨a', e', q1, q2, q3⟩ := h3 j c' hj
    exact ⟨a', e', by rw [List.getElem?_append_left (by omega)]; exact q1, by rw [List.getElem?_append_left (by omega)]; exact q2, cv_relE_up (List.prefix_append _ _) q3⟩
  · have hj2 := (List.getElem?_eq_some_iff.mp hj).1
    simp only [List.length_append, List.length_cons, List.length_nil] at hj2
    have hj3 : j = h.length := by omega
    subst hj3
    rw [List.getElem?_append_right (Nat.le_refl _)] at hj
    simp only [Nat.sub_self, List.getElem?_cons_zero, Option.some.injEq] at hj
    subst hj
    exact ⟨q, e, by rw [List.getElem?_append_right (by omega)]; simp [h1], by rw [List.getElem?_append_right (by omega)]; simp [h2], hE⟩
def cv_tys (cy : Nat → ClassId) : List (ClassId × FieldType) := [(cy 0, .int), (cy 1, .byte), (cy 2, .boolean), (cy 3, .long), (cy 4, .object "SagGates$Gate"), (cy 5, .object "SagGates$Told")]
end
section
/-! ===== the context of a frame, what an instruction's row says, the goal at an abstract frame ===== -/
def cv_wd : String := "ground law gate work cause lean open bend knock hooks post brace latch child gap rise has up down square wire wheel stones rehang pull firm deep thick drop week fall and or not "
/-- private members that are called from the nest -/
def cv_nest : List (String × Nat × MethodName) := [(RX11, 36, ⟨"SagGates$Laws", "<init>", "()V"⟩), (RX11, 72, ⟨"SagGates$Notes", "<init>", "()V"⟩), (RX11, 91, ⟨"SagGates$Turns", "<init>", "()V"⟩), (RX5, 85, ⟨"SagGates", "placeOf", "(I[II)I"⟩), (RX1, 131, ⟨"SagGates", "isAngle", "(I)Z"⟩)]
def cv_tab (A : Nat → Prop) (ty : FieldType) (v : Value) (xs : List Int32) (U : State) (H : Heap) : Prop := ∃ (t : Nat) (f : Nat → Int32), v = .ref t ∧ va_T ty t xs.length (fun j => .int (f j)) A U H ∧ ∀ (k : Nat) (x : Int32), xs[k]? = some x → f k = x
theorem cv_tab_to {A : Nat → Prop} {ty : FieldType} {v : Value} {xs : List Int32} {u U : State} {H H1 : Heap} (h : cv_tab A ty v xs u H) (hvm : u.vm.Alike U.vm) (hq : ∀ a : Nat, a < H.size → ¬ A a → H1[a]? = H[a]?) : cv_tab A ty v xs U H1 := by
  obtain ⟨t, f, h1, h2, h3⟩ := h
  exact ⟨t, f, h1, (h2.moved hvm).kept hq, h3⟩
def cv_SF (A : Nat → Prop) (sv : Nat → Value) (X : cv_X) (U : State) (H : Heap) : Prop :=
  (∀ j, sv j = .null ∨ ∃ a, sv j = .ref a) ∧
  (∃ q0 q1 : Nat, sv 0 = .ref q0 ∧ sv 1 = .ref q1 ∧ vk_R RX6 19 cv_wd q0 U ∧ va_O "java/lang/String" q0 A U H ∧ va_OF "java/lang/String" "value" "[B" (.ref q1) q0 A U H ∧ va_OF "java/lang/String" "coder" "B" (.int 0) q0 A U H) ∧
  va_Z "java/lang/String" "COMPACT_STRINGS" "Z" (.int 1) A U H ∧ va_Z "jdk/internal/util/Preconditions" "SIOOBE_FORMATTER" "Ljava/util/function/BiFunction;" (sv 3) A U H ∧
  ((∀ q ∈ cv_nest, va_Nw (.methodLinkNest q.1 q.2.1 q.2.2 RX11) U) ∧ (va_Nw (.fieldLinkNest RX1 134 "SagGates" "COSINES" "[I" RX11) U ∧ va_Nw (.fieldLinkNest RX1 137 "SagGates" "SINES" "[I" RX11) U) ∧ va_AO "SagGates$Gate" U ∧ va_AO "SagGates$Told" U) ∧
  (va_Z "SagGates" "COSINES" "[I" (sv 4) A U H ∧ va_Z "SagGates" "SINES" "[I" (sv 5) A U H) ∧
  ((∀ xs, X 1 = some xs → cv_tab A .byte (sv 1) xs U H) ∧ (∀ xs, X 4 = some xs → cv_tab A .int (sv 4) xs U H) ∧ (∀ xs, X 5 = some xs → cv_tab A .int (sv 5) xs U H)) ∧
  (∀ j, X j ≠ none → j = 1 ∨ j = 2 ∨ j = 4 ∨ j = 5) ∧
  ∀ xs, X 2 = some xs → ∃ (b : Nat) (f : Nat → Int32), sv 2 = .ref b ∧ va_X b xs.length f U H ∧ b < H.size ∧ ¬ A b ∧ ∀ (k : Nat) (x : Int32), xs[k]? = some x → f k = x
def cv_no2 (X : cv_X) : cv_X := fun j => bif j == 2 then none else X j
theorem cv_SF_call {A : Nat → Prop} {sv : Nat → Value} {X : cv_X} {s U : State} {H : Heap} {locs : List Loc} (h : cv_SF A sv X s s.heap) (hW : s.WarmedH U.vm) (hU : U.heap = H) (hS : va_S A s.heap H locs) : cv_SF A sv (cv_no2 X) U U.heap := by
  obtain ⟨h0, ⟨q0, q1, a1, a2, a3, a4, a5, a6⟩, h2, h3, ⟨h4, ⟨h5, h6⟩, h7, h8⟩, ⟨h9, h10⟩, ⟨t1, t4, t5⟩, hj, -⟩ := h
  have hvm := hW.alike
  subst hU
  refine ⟨h0, ⟨q0, q1, a1, a2, a3.warm hW, (a4.moved hvm).kept hS.2.1, (a5.moved hvm).kept hS.2.1, (a6.moved hvm).kept hS.2.1⟩, (h2.moved hvm).kept hS.2.1, (h3.moved hvm).kept hS.2.1,
    ⟨fun q hq => va_Nw.warmM hW (h4 q hq), ⟨va_Nw.warmF hW h5, va_Nw.warmF hW h6⟩, h7.moved hvm, h8.moved hvm⟩, ⟨(h9.moved hvm).kept hS.2.1, (h10.moved hvm).kept hS.2.1⟩,
    ⟨fun xs hx => cv_tab_to (t1 xs hx) hvm hS.2.1, fun xs hx => cv_tab_to (t4 xs hx) hvm hS.2.1, fun xs hx => cv_tab_to (t5 xs hx) hvm hS.2.1⟩, fun j hx => hj j (fun q => hx (by unfold cv_no2; cases (j == 2) <;> simp [q])), fun xs hx => by cases hx⟩
theorem cv_SF_in {A : Nat → Prop} {sv : Nat → Value} {X : cv_X} {U : State} (h : cv_SF A sv X U U.heap) (g : JFrame) (mk : MethodId) (a : Array Value) : cv_SF A sv X (U.calling g mk a) (U.calling g mk a).heap := by
  obtain ⟨h0, ⟨q0, q1, a1, a2, a3, a4, a5, a6⟩, h2, h3, ⟨h4, ⟨h5, h6⟩, h7, h8⟩, ⟨h9, h10⟩, ⟨t1, t4, t5⟩, hj, h11⟩ := h
  have hvm : U.vm.Alike (U.calling g mk a).vm := Vm.Alike.refl U.vm
  exact ⟨h0, ⟨q0, q1, a1, a2, vk_R.same (u := U) rfl a3, a4.moved hvm, a5.moved hvm, a6.moved hvm⟩, h2.moved hvm, h3.moved hvm, ⟨fun q hq => va_Nw.same (u := U) rfl rfl (h4 q hq), ⟨va_Nw.same (u := U) rfl rfl h5, va_Nw.same (u := U) rfl rfl h6⟩, h7.moved hvm, h8.moved hvm⟩, ⟨h9.moved hvm, h10.moved hvm⟩,
    ⟨fun xs hx => cv_tab_to (t1 xs hx) hvm (fun _ _ _ => rfl), fun xs hx => cv_tab_to (t4 xs hx) hvm (fun _ _ _ => rfl), fun xs hx => cv_tab_to (t5 xs hx) hvm (fun _ _ _ => rfl)⟩, hj, fun xs hx => by
    obtain ⟨b, f, b1, b2, b3⟩ := h11 xs hx
    exact ⟨b, f, b1, b2.moved hvm, b3⟩⟩
def cv_Cx (Ts : List Jvm.Cond) (cl : List vw_C) (D : va_G) (cy : Nat → ClassId) (A : Nat → Prop) (sv : Nat → Value) (X : cv_X) (M : cv_M) (p : Program) (R : Room) (s : State) (m : MethodId) (args : Array Value) (meth : Method) (c : Code) : Prop :=
  p.tables.exec = Jvm.exec ∧ c.code = M.1.2.2.1 ∧ c.maxLocals = M.1.2.2.2.1 ∧ s.vm.findClass M.1.1 = some m.cls ∧ (∀ w ∈ Ts, w.before args s = true) ∧ meth.sig.returnType = M.1.2.2.2.2 ∧ meth.locks = false ∧ meth.name = M.1.2.1.name ∧
  va_K D cl (cv_tys cy) s ∧ (∀ q, s.heap.size ≤ q → A q) ∧ cv_SF A sv X s s.heap ∧ R.cells = M.2.2.1 ∧ R.slots = M.2.2.2.1 ∧ M.2.2.2.2.1 ≤ R.frames ∧ M.2.2.2.2.2 ≤ R.locals
def cv_Good (cl : List vw_C) (D : va_G) (cy : Nat → ClassId) (A : Nat → Prop) (sv : Nat → Value) (as0 : List Nat) (nL : Nat) (p : Program) (l : Launch) (e : Env) (R : Room) (s : State) (m : MethodId) (args : Array Value) (below : List Frame) (meth : Method) (c : Code) (Q : State → Prop) (S : cv_S) : Prop :=
  ∀ (as : List Nat) (ws : va_W) (H : Heap) (locs : List Loc) (ls : Array Slot) (stv : List Value), as0 <+: as → cv_relH cy sv as S.2.2.2.1 ws → va_P D cl ws H → va_D A ws → va_S A s.heap H locs → cv_relL sv as nL S.2.1 ls → cv_relS sv as S.2.2.1 stv →
    W p l e R s m args below meth c H locs S.2.2.2.2.1 S.2.2.2.2.2 Q (F0 m S.1 ls stv)
def cv_len (q : Instr) : Nat := match q with
  | .bipush _ => 2
  | .sipush _ => 3
  | .ldc _ => 2
  | .ldc_w _ => 3
  | .ldc2_w _ => 3
  | .getstatic _ => 3
  | .iload _ => 2
  | .lload _ => 2
  | .lstore _ => 2
  | .aload _ => 2
  | .istore _ => 2
  | .astore _ => 2
  | .getfield _ => 3
  | .putfield _ => 3
  | .iinc _ _ => 3
  | .goto _ => 3
  | .if_icmp _ _ => 3
  | .ifCond _ _ => 3
  | .new _ => 3
  | .newarray _ => 2
  | .anewarray _ => 3
  | .invokevirtual _ => 3
  | .invokespecial _ => 3
  | .invokestatic _ => 3
  | _ => 1
def cv_lenok (q : cv_Q) : Bool := match q.2.1 with
  | .tableswitch _ _ _ _ => true
  | i => q.2.2.1 == cv_len i
def cv_kd (t : FieldType) : Nat := match t with
  | .int => 0
  | .byte => 1
  | .boolean => 2
  | .long => 3
  | .object _ => 4
  | .array _ => 4
  | _ => 9
def cv_ak (t : ArrayType) : Nat := match t with
  | .int => 0
  | .byte => 1
  | .boolean => 2
  | .long => 3
  | _ => 9
def cv_lst (k : Nat) : String := bif k == 4 then "SagGates$Gate" else "SagGates$Told"
/-- a callee's own words -/
def cv_okM (Ts : List Jvm.Cond) (M : cv_M) : Prop :=
  Jvm.Cond.code M.1.2.1 M.1.2.2.1 M.1.2.2.2.1 M.1.2.2.2.2 ∈ Ts ∧ M.1.2.1.cls = M.1.1 ∧ Jvm.Cond.initialized M.1.1 ∈ Ts ∧ plainName M.1.2.1.cls = true ∧ (M.1.2.1.cls ≠ "java/lang/invoke/MethodHandle" ∧ M.1.2.1.cls ≠ "java/lang/invoke/VarHandle")
def cv_ok (Ts : List Jvm.Cond) (cl : List vw_C) (mt : Nat → cv_M) (M : cv_M) (q : cv_Q) : Prop :=
  decode M.1.2.2.1 q.1 = .ok (q.2.1, q.2.2.1) ∧ cv_lenok q = true ∧ (match q.2.1 with
    | .ldc i => (q.2.2.2.1 = 0 → Jvm.Cond.constant M.1.1 i (Int32.ofInt q.2.2.2.2.2) ∈ Ts) ∧ (¬ q.2.2.2.1 = 0 → M.1.1 = RX6 ∧ i = 19)
    | .ldc_w i => Jvm.Cond.constant M.1.1 i (Int32.ofInt q.2.2.2.2.2) ∈ Ts
    | .ldc2_w i => Jvm.Cond.constantLong M.1.1 i (Int64.ofInt q.2.2.2.2.2) ∈ Ts
    | .getstatic i => (q.2.2.2.1 = 0 → Jvm.Cond.fieldLink M.1.1 i "java/lang/String" "COMPACT_STRINGS" "Z" ∈ Ts) ∧ (q.2.2.2.1 = 3 → Jvm.Cond.fieldLink M.1.1 i "jdk/internal/util/Preconditions" "SIOOBE_FORMATTER" "Ljava/util/function/BiFunction;" ∈ Ts) ∧
        (q.2.2.2.1 = 4 → M.1.1 = RX1 ∧ i = 134) ∧ (q.2.2.2.1 = 5 → M.1.1 = RX1 ∧ i = 137) ∧ (q.2.2.2.1 = 0 ∨ q.2.2.2.1 = 3 ∨ q.2.2.2.1 = 4 ∨ q.2.2.2.1 = 5)
    | .getfield i => (q.2.2.2.1 = 100 → (q.2.2.2.2.1 = 0 → Jvm.Cond.fieldLink M.1.1 i "java/lang/String" "value" "[B" ∈ Ts) ∧ (¬ q.2.2.2.2.1 = 0 → Jvm.Cond.fieldLink M.1.1 i "java/lang/String" "coder" "B" ∈ Ts)) ∧
        (¬ q.2.2.2.1 = 100 → ∃ (C : String) (T : u_T) (N : Nat), cl[q.2.2.2.1]? = some (C, T, N) ∧ q.2.2.2.2.1 < N ∧ Jvm.Cond.fieldLink M.1.1 i (T q.2.2.2.2.1).1 (T q.2.2.2.2.1).2.1 (T q.2.2.2.2.1).2.2.1 ∈ Ts)
    | .putfield i => ∃ (C : String) (T : u_T) (N : Nat) (ty : FieldType), cl[q.2.2.2.1]? = some (C, T, N) ∧ q.2.2.2.2.1 < N ∧ Jvm.Cond.fieldLink M.1.1 i (T q.2.2.2.2.1).1 (T q.2.2.2.2.1).2.1 (T q.2.2.2.2.1).2.2.1 ∈ Ts ∧
        parseFieldDescriptor (T q.2.2.2.2.1).2.2.1 = some ty ∧ cv_kd ty = q.2.2.2.2.2.toNat ∧ ((T q.2.2.2.2.1).2.2.2 = true → M.1.2.1.name = "<init>" ∧ (T q.2.2.2.2.1).1 = M.1.1)
    | .new i => ∃ (C : String) (T : u_T) (N : Nat), cl[q.2.2.2.1]? = some (C, T, N) ∧ Jvm.Cond.classLink M.1.1 i C ∈ Ts ∧ Jvm.Cond.instantiable C N ∈ Ts ∧ Jvm.Cond.initialized C ∈ Ts
    | .newarray t => Jvm.Cond.arrayClass (newarray.typeOf t) ∈ Ts ∧ cv_ak t = q.2.2.2.1
    | .anewarray i => Jvm.Cond.classLink M.1.1 i (cv_lst q.2.2.2.1) ∈ Ts
    | .iload_n k => k.val < M.1.2.2.2.1
    | .istore_n k => k.val < M.1.2.2.2.1
    | .lstore_n k => k.val + 1 < M.1.2.2.2.1
    | .lstore k => k + 1 < M.1.2.2.2.1
    | .istore k => k < M.1.2.2.2.1
    | .astore_n k => k.val < M.1.2.2.2.1
    | .astore k => k < M.1.2.2.2.1
    | .iinc k _ => k < M.1.2.2.2.1
    | .invokespecial i => (q.2.2.2.1 = 9999 → Jvm.Cond.methodLink M.1.1 i Lib.objectInit ∈ Ts ∧ Jvm.Cond.instanceMethod Lib.objectInit ∈ Ts ∧ Jvm.Cond.code Lib.objectInit ⟨#[0xb1]⟩ 1 none ∈ Ts) ∧
        (q.2.2.2.1 < 9000 → cv_okM Ts (mt q.2.2.2.1) ∧ (mt q.2.2.2.1).1.2.1.name = "<init>" ∧ (mt q.2.2.2.1).1.2.2.2.2 = none ∧ Jvm.Cond.instanceMethod (mt q.2.2.2.1).1.2.1 ∈ Ts ∧ (parseMethodDescriptor (mt q.2.2.2.1).1.2.1.desc).map (fun d => d.parameters.length) = some q.2.2.2.2.1 ∧
          (Jvm.Cond.methodLink M.1.1 i (mt q.2.2.2.1).1.2.1 ∈ Ts ∨ (M.1.1, i, (mt q.2.2.2.1).1.2.1) ∈ cv_nest))
    | .invokestatic i => (q.2.2.2.1 = 9001 → Jvm.Cond.methodLink M.1.1 i Lib.Math.max.name ∈ Ts ∧ Jvm.Cond.static Lib.Math.max.name ∈ Ts ∧ Jvm.Cond.initialized "java/lang/Math" ∈ Ts ∧ Jvm.Cond.code Lib.Math.max.name Lib.Math.max.code 2 (some .int) ∈ Ts) ∧ (q.2.2.2.1 = 9002 → Jvm.Cond.methodLink M.1.1 i Lib.Math.min.name ∈ Ts ∧ Jvm.Cond.static Lib.Math.min.name ∈ Ts ∧ Jvm.Cond.initialized "java/lang/Math" ∈ Ts ∧ Jvm.Cond.code Lib.Math.min.name Lib.Math.min.code 2 (some .int) ∈ Ts) ∧ (q.2.2.2.1 = 9003 → Jvm.Cond.methodLink M.1.1 i Lib.Math.abs.name ∈ Ts ∧ Jvm.Cond.static Lib.Math.abs.name ∈ Ts ∧ Jvm.Cond.initialized "java/lang/Math" ∈ Ts ∧ Jvm.Cond.code Lib.Math.abs.name Lib.Math.abs.code 1 (some .int) ∈ Ts) ∧ (q.2.2.2.1 = 9004 → Jvm.Cond.methodLink M.1.1 i Lib.MathLoose.max_long.x ∈ Ts ∧ Jvm.Cond.static Lib.MathLoose.max_long.x ∈ Ts ∧ Jvm.Cond.initialized "java/lang/Math" ∈ Ts ∧ Jvm.Cond.code Lib.MathLoose.max_long.x Lib.MathLoose.max_long.code 4 (some .long) ∈ Ts) ∧ (q.2.2.2.1 = 9005 → Jvm.Cond.methodLink M.1.1 i Lib.MathLoose.min_long.x ∈ Ts ∧ Jvm.Cond.static Lib.MathLoose.min_long.x ∈ Ts ∧ Jvm.Cond.initialized "java/lang/Math" ∈ Ts ∧ Jvm.Cond.code Lib.MathLoose.min_long.x Lib.MathLoose.min_long.code 4 (some .long) ∈ Ts) ∧ (q.2.2.2.1 = 9006 → Jvm.Cond.methodLink M.1.1 i Lib.MathLoose.abs_long.x ∈ Ts ∧ Jvm.Cond.static Lib.MathLoose.abs_long.x ∈ Ts ∧ Jvm.Cond.initialized "java/lang/Math" ∈ Ts ∧ Jvm.Cond.code Lib.MathLoose.abs_long.x Lib.MathLoose.abs_long.code 2 (some .long) ∈ Ts) ∧
        (q.2.2.2.1 < 9000 → cv_okM Ts (mt q.2.2.2.1) ∧ Jvm.Cond.static (mt q.2.2.2.1).1.2.1 ∈ Ts ∧ (parseMethodDescriptor (mt q.2.2.2.1).1.2.1.desc).map (fun d => d.parameters.length) = some q.2.2.2.2.1 ∧ (Jvm.Cond.methodLink M.1.1 i (mt q.2.2.2.1).1.2.1 ∈ Ts ∨ (M.1.1, i, (mt q.2.2.2.1).1.2.1) ∈ cv_nest))
    | .invokevirtual i => cv_okM Ts (mt q.2.2.2.1) ∧ Jvm.Cond.instanceMethod (mt q.2.2.2.1).1.2.1 ∈ Ts ∧ Jvm.Cond.selects (mt q.2.2.2.1).1.1 (mt q.2.2.2.1).1.2.1 (mt q.2.2.2.1).1.2.1 ∈ Ts ∧ (parseMethodDescriptor (mt q.2.2.2.1).1.2.1.desc).map (fun d => d.parameters.length) = some q.2.2.2.2.1 ∧ Jvm.Cond.methodLink M.1.1 i (mt q.2.2.2.1).1.2.1 ∈ Ts ∧
        ((q.2.2.2.2.2.toNat = 100 ∧ (mt q.2.2.2.1).1.1 = "java/lang/String") ∨ ∃ (T : u_T) (N : Nat), cl[q.2.2.2.2.2.toNat]? = some ((mt q.2.2.2.1).1.1, T, N))
    | _ => True)
/-- the classes' tables -/
def cv_cls (Ts : List Jvm.Cond) (cl : List vw_C) (F : cv_F) : Prop := ∀ (ci : Nat) (C : String) (T : u_T) (N : Nat), cl[ci]? = some (C, T, N) →
  (∀ w ∈ u_ws C T N, w ∈ Ts) ∧ (∀ a, a < N → ∀ b, b < N → a ≠ b → (T a).2.1 ≠ (T b).2.1) ∧ ∃ (ty : Nat → FieldType) (ks : List Nat), (∀ k, k < N → parseFieldDescriptor (T k).2.2.1 = some (ty k)) ∧ F[ci]? = some ks ∧ ks.length = N ∧ ∀ k, k < N → ks[k]? = some (cv_kd (ty k)) ∧ cv_kd (ty k) ≤ 4 ∧ cv_kd (ty k) ≠ 1
end
section
/-! ===== rows of the kit, at frames of the small machine ===== -/
section CVR
variable {Ts : List Jvm.Cond} {cl : List vw_C} {D : va_G} {cy : Nat → ClassId} {A : Nat → Prop} {sv : Nat → Value} {as0 : List Nat} {X : cv_X} {M : cv_M} {mt : Nat → cv_M} {F : cv_F} {p : Program} {l : Launch} {e : Env} {R : Room} {s : State} {m : MethodId} {args : Array Value} {below : List Frame} {meth : Method} {c : Code} {Q : State → Prop}
theorem cv_push_ok {pc len a b : Nat} {z : Int} {L : cv_L} {st : List cv_V} {h : cv_H} {cN sN : Nat} {ins : Instr} {v : cv_V} (C0 : cv_Cx Ts cl D cy A sv X M p R s m args meth c) (ok : cv_ok Ts cl mt M (pc, ins, len, a, b, z)) (hv : cv_push (pc, ins, len, a, b, z) = some v)
    (kk : cv_Good cl D cy A sv as0 M.1.2.2.2.1 p l e R s m args below meth c Q (pc + len, L, v :: st, h, cN, sN)) : cv_Good cl D cy A sv as0 M.1.2.2.2.1 p l e R s m args below meth c Q (pc, L, st, h, cN, sN) := by
  obtain ⟨hx, hb, hml, hown, hts, hr, hlk, hnm, hK, hA, hSF, r1, r2, r3, r4⟩ := C0
  obtain ⟨hsv, ⟨q0, q1, a1, a2, a3, a4, a5, a6⟩, h2, h3, ⟨h4, ⟨h5, h6⟩, h7, h8⟩, ⟨h9, h10⟩, ⟨t1, t4, t5⟩, hj, h11⟩ := hSF
  obtain ⟨hd, hlen, hok⟩ := ok
  intro as ws H locs ls stv has hH hP hD hS hL hst
  have go := fun x (hx : cv_dn sv as v x) => kk as ws H locs ls (x :: stv) has hH hP hD hS hL ⟨hx, hst⟩
  dsimp only at go hok hd ⊢
  unfold cv_push at hv
  dsimp only at hv
  cases ins <;> first | (cases hv; done) | skip
  case iconst n =>
    cases hv
    have : len = 1 := by simpa [cv_lenok, cv_len] using hlen
    subst this
    exact lv_iconst hx hb hd rfl (go _ rfl)
  case bipush n =>
    cases hv
    have : len = 2 := by simpa [cv_lenok, cv_len] using hlen
    subst this
    exact lv_bipush hx hb hd rfl (go _ rfl)
  case sipush n =>
    cases hv
    have : len = 3 := by simpa [cv_lenok, cv_len] using hlen
    subst this
    exact lv_sipush hx hb hd rfl (go _ rfl)
  case lconst n =>
    cases hv
    have : len = 1 := by simpa [cv_lenok, cv_len] using hlen
    subst this
    exact lv_lconst hx hb hd rfl (go _ rfl)
  case ldc i =>
    have : len = 2 := by simpa [cv_lenok, cv_len] using hlen
    subst this
    by_cases ha : a = 0
    · subst ha
      cases hv
      exact lv_ldc hx hb hown (hts _ (hok.1 rfl)) hd (go _ rfl)
    · have e : (a == 0) = false := by simpa using ha
      rw [e] at hv
      cases hv
      obtain ⟨o1, o2⟩ := hok.2 ha
      subst o2
      exact va_ldcS hx hb hown (by rw [o1]; exact a3) hd (go _ a1.symm)
  case ldc_w i =>
    have : len = 3 := by simpa [cv_lenok, cv_len] using hlen
    subst this
    cases hv
    exact lv_ldcw hx hb hown (hts _ hok) hd (go _ rfl)
  case ldc2_w i =>
    have : len = 3 := by simpa [cv_lenok, cv_len] using hlen
    subst this
    cases hv
    exact lv_ldc2 hx hb hown (hts _ hok) hd (go _ rfl)
  case getstatic i =>
    have : len = 3 := by simpa [cv_lenok, cv_len] using hlen
    subst this
    obtain ⟨o0, o3, o4, o5, oo⟩ := hok
    rcases oo with rfl | rfl | rfl | rfl
    · cases hv
      exact va_gets hx hb h2 hS hown (hts _ (o0 rfl)) (fun x h => h) hd (go _ rfl)
    · cases hv
      exact va_gets hx hb h3 hS hown (hts _ (o3 rfl)) (fun x h => h) hd (go _ rfl)
    · cases hv
      obtain ⟨w1, w2⟩ := o4 rfl
      subst w2
      exact va_getsN hx hb h9 hS hown (by rw [w1]; exact va_Nw.use rfl h5) (fun x h => h) hd (go _ rfl)
    · cases hv
      obtain ⟨w1, w2⟩ := o5 rfl
      subst w2
      exact va_getsN hx hb h10 hS hown (by rw [w1]; exact va_Nw.use rfl h6) (fun x h => h) hd (go _ rfl)
theorem cv_load_ok {pc len a b : Nat} {z : Int} {L : cv_L} {st : List cv_V} {h : cv_H} {cN sN : Nat} {ins : Instr} {v : cv_V} {i kd : Nat} (C0 : cv_Cx Ts cl D cy A sv X M p R s m args meth c) (ok : cv_ok Ts cl mt M (pc, ins, len, a, b, z)) (hi : cv_load ins = some (i, kd)) (hg : cv_get L i = some v) (hv : cv_kind kd v = true)
    (kk : cv_Good cl D cy A sv as0 M.1.2.2.2.1 p l e R s m args below meth c Q (pc + len, L, v :: st, h, cN, sN)) : cv_Good cl D cy A sv as0 M.1.2.2.2.1 p l e R s m args below meth c Q (pc, L, st, h, cN, sN) := by
  obtain ⟨hx, hb, hml, hown, hts, hr, hlk, hnm, hK, hA, hSF, r1, r2, r3, r4⟩ := C0
  obtain ⟨hsv, -⟩ := hSF
  obtain ⟨hd, hlen, hok⟩ := ok
  intro as ws H locs ls stv has hH hP hD hS hL hst
  obtain ⟨x, hdn, hls⟩ := cv_relL_get hL hg
  have go := kk as ws H locs ls (x :: stv) has hH hP hD hS hL ⟨hdn, hst⟩
  dsimp only at go hd ⊢
  have hI : kd = 1 → ∃ n : Int32, x = .int n := by
    intro e
    subst e
    match v, hdn, hv with
    | .inl n, h1, _ => exact ⟨n, h1⟩
  have hLg : kd = 3 → ∃ n : Int64, x = .long n := by
    intro e
    subst e
    match v, hdn, hv with
    | .inr (.inl n), h1, _ => exact ⟨n, h1⟩
  have hR : kd = 2 → x = .null ∨ ∃ n : Nat, x = .ref n := by
    intro e
    subst e
    match v, hdn, hv with
    | .inr (.inr (.inl none)), h1, _ => exact .inl h1
    | .inr (.inr (.inl (some _))), ⟨n, _, h1⟩, _ => exact .inr ⟨n, h1⟩
    | .inr (.inr (.inr j)), h1, _ => rw [show x = sv j from h1]; exact hsv j
  cases ins <;> first | (cases hi; done) | skip
  case iload_n n =>
    cases hi
    have : len = 1 := by simpa [cv_lenok, cv_len] using hlen
    subst this
    obtain ⟨y, rfl⟩ := hI rfl
    exact lv_iload_n hx hb hd rfl hls go
  case iload n =>
    cases hi
    have : len = 2 := by simpa [cv_lenok, cv_len] using hlen
    subst this
    obtain ⟨y, rfl⟩ := hI rfl
    exact lv_iload hx hb hd hls go
  case lload_n n =>
    cases hi
    have : len = 1 := by simpa [cv_lenok, cv_len] using hlen
    subst this
    obtain ⟨y, rfl⟩ := hLg rfl
    exact lv_lload_n hx hb hd rfl hls go
  case lload n =>
    cases hi
    have : len = 2 := by simpa [cv_lenok, cv_len] using hlen
    subst this
    obtain ⟨y, rfl⟩ := hLg rfl
    exact lv_lload hx hb hd hls go
  case aload_n n =>
    cases hi
    have : len = 1 := by simpa [cv_lenok, cv_len] using hlen
    subst this
    rcases hR rfl with rfl | ⟨y, rfl⟩
    · exact lv_aload_nN hx hb hd rfl hls go
    · exact lv_aload_n hx hb hd rfl hls go
  case aload n =>
    cases hi
    have : len = 2 := by simpa [cv_lenok, cv_len] using hlen
    subst this
    rcases hR rfl with rfl | ⟨y, rfl⟩
    · exact lv_aloadN hx hb hd hls go
    · exact lv_aload hx hb hd hls go
theorem cv_store_ok {pc len a b : Nat} {z : Int} {L : cv_L} {st : List cv_V} {h : cv_H} {cN sN : Nat} {ins : Instr} {v : cv_V} {i kd : Nat} (C0 : cv_Cx Ts cl D cy A sv X M p R s m args meth c) (ok : cv_ok Ts cl mt M (pc, ins, len, a, b, z)) (hi : cv_store ins = some (i, kd)) (hv : (bif kd == 2 then cv_isR v else cv_kind kd v) = true)
    (kk : cv_Good cl D cy A sv as0 M.1.2.2.2.1 p l e R s m args below meth c Q (pc + len, (bif kd == 3 then cv_setL L i v else cv_set L i v), st, h, cN, sN)) : cv_Good cl D cy A sv as0 M.1.2.2.2.1 p l e R s m args below meth c Q (pc, L, v :: st, h, cN, sN) := by
  obtain ⟨hx, hb, hml, hown, hts, hr, hlk, hnm, hK, hA, hSF, r1, r2, r3, r4⟩ := C0
  obtain ⟨hsv, -⟩ := hSF
  obtain ⟨hd, hlen, hok⟩ := ok
  intro as ws H locs ls stv has hH hP hD hS hL hst
  obtain ⟨x, stv1, rfl, hdn, hst1⟩ := cv_relS_cons hst
  obtain ⟨lv, g1, g2⟩ := hL
  dsimp only at hd hok ⊢
  cases ins <;> first | (cases hi; done) | skip
  case istore_n n =>
    cases hi
    have : len = 1 := by simpa [cv_lenok, cv_len] using hlen
    subst this
    match v, hdn, hv with
    | .inl y, hdn, _ =>
      have hx1 : x = .int y := hdn
      subst hx1
      exact lv_istore_n hx hb hd rfl g1 hok rfl (fun ls' hl' => kk as ws H locs ls' stv1 has hH hP hD hS (cv_relL_set hsv g2 hdn hl') hst1)
  case istore n =>
    cases hi
    have : len = 2 := by simpa [cv_lenok, cv_len] using hlen
    subst this
    match v, hdn, hv with
    | .inl y, hdn, _ =>
      have hx1 : x = .int y := hdn
      subst hx1
      exact lv_istore hx hb hd g1 hok rfl (fun ls' hl' => kk as ws H locs ls' stv1 has hH hP hD hS (cv_relL_set hsv g2 hdn hl') hst1)
  case astore_n n =>
    cases hi
    have : len = 1 := by simpa [cv_lenok, cv_len] using hlen
    subst this
    match v, hdn, hv with
    | .inr (.inr (.inl (some y))), ⟨ad, had, hx1⟩, _ =>
      subst hx1
      exact lv_astore_n hx hb hd rfl g1 hok rfl (fun ls' hl' => kk as ws H locs ls' stv1 has hH hP hD hS (cv_relL_set hsv g2 (v := cv_r y) ⟨ad, had, rfl⟩ hl') hst1)
  case astore n =>
    cases hi
    have : len = 2 := by simpa [cv_lenok, cv_len] using hlen
    subst this
    match v, hdn, hv with
    | .inr (.inr (.inl (some y))), ⟨ad, had, hx1⟩, _ =>
      subst hx1
      exact lv_astore hx hb hd g1 hok rfl (fun ls' hl' => kk as ws H locs ls' stv1 has hH hP hD hS (cv_relL_set hsv g2 (v := cv_r y) ⟨ad, had, rfl⟩ hl') hst1)
  case lstore_n n =>
    cases hi
    have : len = 1 := by simpa [cv_lenok, cv_len] using hlen
    subst this
    match v, hdn, hv with
    | .inr (.inl y), hdn, _ =>
      have hx1 : x = .long y := hdn
      subst hx1
      exact lv_lstore_n hx hb hd rfl g1 hok rfl (fun ls' hl' => kk as ws H locs ls' stv1 has hH hP hD hS (cv_relL_setL hsv g2 hdn hl') hst1)
  case lstore n =>
    cases hi
    have : len = 2 := by simpa [cv_lenok, cv_len] using hlen
    subst this
    match v, hdn, hv with
    | .inr (.inl y), hdn, _ =>
      have hx1 : x = .long y := hdn
      subst hx1
      exact lv_lstore hx hb hd g1 hok rfl (fun ls' hl' => kk as ws H locs ls' stv1 has hH hP hD hS (cv_relL_setL hsv g2 hdn hl') hst1)
theorem cv_bin_ok {pc len a b : Nat} {z : Int} {L : cv_L} {st : List cv_V} {h : cv_H} {cN sN : Nat} {ins : Instr} {f : Int32 → Int32 → Option Int32} {x y r : Int32} (C0 : cv_Cx Ts cl D cy A sv X M p R s m args meth c) (ok : cv_ok Ts cl mt M (pc, ins, len, a, b, z)) (hf : cv_bin ins = some f) (hr0 : f x y = some r)
    (kk : cv_Good cl D cy A sv as0 M.1.2.2.2.1 p l e R s m args below meth c Q (pc + len, L, cv_i r :: st, h, cN, sN)) : cv_Good cl D cy A sv as0 M.1.2.2.2.1 p l e R s m args below meth c Q (pc, L, cv_i y :: cv_i x :: st, h, cN, sN) := by
  obtain ⟨hx, hb, hml, hown, hts, hr, hlk, hnm, hK, hA, hSF, r1, r2, r3, r4⟩ := C0
  obtain ⟨hd, hlen, hok⟩ := ok
  intro as ws H locs ls stv has hH hP hD hS hL hst
  obtain ⟨_, stv1, rfl, hy1, hst1⟩ := cv_relS_cons hst
  obtain ⟨_, stv2, rfl, hx1, hst2⟩ := cv_relS_cons hst1
  cases hy1
  cases hx1
  have go := kk as ws H locs ls (.int r :: stv2) has hH hP hD hS hL ⟨rfl, hst2⟩
  dsimp only at go hd ⊢
  cases ins <;> first | (cases hf; done) | skip
  case iadd =>
    have : len = 1 := by simpa [cv_lenok, cv_len] using hlen
    subst this
    cases hf
    cases hr0
    exact lv_iadd hx hb hd go
  case isub =>
    have : len = 1 := by simpa [cv_lenok, cv_len] using hlen
    subst this
    cases hf
    cases hr0
    exact lv_isub hx hb hd go
  case imul =>
    have : len = 1 := by simpa [cv_lenok, cv_len] using hlen
    subst this
    cases hf
    cases hr0
    exact lv_imul hx hb hd go
  case iand =>
    have : len = 1 := by simpa [cv_lenok, cv_len] using hlen
    subst this
    cases hf
    cases hr0
    exact lv_iand hx hb hd go
  case ior =>
    have : len = 1 := by simpa [cv_lenok, cv_len] using hlen
    subst this
    cases hf
    cases hr0
    exact lv_ior hx hb hd go
  case ishl =>
    have : len = 1 := by simpa [cv_lenok, cv_len] using hlen
    subst this
    cases hf
    cases hr0
    exact lv_ishl hx hb hd go
  case ishr =>
    have : len = 1 := by simpa [cv_lenok, cv_len] using hlen
    subst this
    cases hf
    cases hr0
    exact lv_ishr hx hb hd go
  case iushr =>
    have : len = 1 := by simpa [cv_lenok, cv_len] using hlen
    subst this
    cases hf
    cases hr0
    exact lv_iushr hx hb hd rfl go
  case idiv =>
    have : len = 1 := by simpa [cv_lenok, cv_len] using hlen
    subst this
    cases hf
    by_cases h0 : y = 0
    · dsimp only at hr0; rw [if_pos h0] at hr0; cases hr0
    · dsimp only at hr0; rw [if_neg h0] at hr0; cases hr0; exact lv_idiv hx hb hd h0 go
  case irem =>
    have : len = 1 := by simpa [cv_lenok, cv_len] using hlen
    subst this
    cases hf
    by_cases h0 : y = 0
    · dsimp only at hr0; rw [if_pos h0] at hr0; cases hr0
    · dsimp only at hr0; rw [if_neg h0] at hr0; cases hr0; exact lv_irem hx hb hd h0 go
theorem cv_binL_ok {pc len a b : Nat} {z : Int} {L : cv_L} {st : List cv_V} {h : cv_H} {cN sN : Nat} {ins : Instr} {f : Int64 → Int64 → Option Int64} {x y r : Int64} (C0 : cv_Cx Ts cl D cy A sv X M p R s m args meth c) (ok : cv_ok Ts cl mt M (pc, ins, len, a, b, z)) (hf : cv_binL ins = some f) (hr0 : f x y = some r)
    (kk : cv_Good cl D cy A sv as0 M.1.2.2.2.1 p l e R s m args below meth c Q (pc + len, L, cv_l r :: st, h, cN, sN)) : cv_Good cl D cy A sv as0 M.1.2.2.2.1 p l e R s m args below meth c Q (pc, L, cv_l y :: cv_l x :: st, h, cN, sN) := by
  obtain ⟨hx, hb, hml, hown, hts, hr, hlk, hnm, hK, hA, hSF, r1, r2, r3, r4⟩ := C0
  obtain ⟨hd, hlen, hok⟩ := ok
  intro as ws H locs ls stv has hH hP hD hS hL hst
  obtain ⟨_, stv1, rfl, hy1, hst1⟩ := cv_relS_cons hst
  obtain ⟨_, stv2, rfl, hx1, hst2⟩ := cv_relS_cons hst1
  cases hy1
  cases hx1
  have go := kk as ws H locs ls (.long r :: stv2) has hH hP hD hS hL ⟨rfl, hst2⟩
  dsimp only at go hd ⊢
  cases ins <;> first | (cases hf; done) | skip
  case ladd =>
    have : len = 1 := by simpa [cv_lenok, cv_len] using hlen
    subst this
    cases hf
    cases hr0
    exact lv_ladd hx hb hd go
  case lsub =>
    have : len = 1 := by simpa [cv_lenok, cv_len] using hlen
    subst this
    cases hf
    cases hr0
    exact lv_lsub hx hb hd go
  case lmul =>
    have : len = 1 := by simpa [cv_lenok, cv_len] using hlen
    subst this
    cases hf
    cases hr0
    exact lv_lmul hx hb hd go
  case land =>
    have : len = 1 := by simpa [cv_lenok, cv_len] using hlen
    subst this
    cases hf
    cases hr0
    exact lv_land hx hb hd go
  case ldiv =>
    have : len = 1 := by simpa [cv_lenok, cv_len] using hlen
    subst this
    cases hf
    by_cases h0 : y = 0
    · dsimp only at hr0; rw [if_pos h0] at hr0; cases hr0
    · dsimp only at hr0; rw [if_neg h0] at hr0; cases hr0; exact lv_ldiv hx hb hd h0 go
  case lrem =>
    have : len = 1 := by simpa [cv_lenok, cv_len] using hlen
    subst this
    cases hf
    by_cases h0 : y = 0
    · dsimp only at hr0; rw [if_pos h0] at hr0; cases hr0
    · dsimp only at hr0; rw [if_neg h0] at hr0; cases hr0; exact lv_lrem hx hb hd h0 go
end CVR
end
