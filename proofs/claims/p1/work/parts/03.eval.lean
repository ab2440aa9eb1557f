/-! ===== an evaluator of bytecode over intervals: abstract values, cells, frames; what it says of the machine is proved in the next parts ===== -/
abbrev av_V : Type := Option Nat ⊕ ((Int × Int) ⊕ ((Int × Int) ⊕ Nat))
abbrev av_C : Type := (Nat × List av_V) ⊕ (Nat × List av_V)
abbrev av_H : Type := List av_C
abbrev av_Q : Type := Nat × Instr × Nat × Nat × Nat × Int
abbrev av_L : Type := List (Nat × av_V)
abbrev av_S : Type := Nat × av_L × List av_V × av_H × Nat × Nat
abbrev av_M : Type := (String × MethodName × ByteArray × Nat × Option FieldType) × List av_Q × Nat × Nat × Nat × Nat
abbrev av_i (a : Int × Int) : av_V := .inr (.inl a)
abbrev av_l (a : Int × Int) : av_V := .inr (.inr (.inl a))
abbrev av_r (k : Nat) : av_V := .inl (some k)
abbrev av_s (j : Nat) : av_V := .inr (.inr (.inr j))
def av_top : Int × Int := (-2147483648, 2147483647)
def av_c (x : Int32) : av_V := av_i (x.toInt, x.toInt)
def av_b2 (f : Int32 → Int32 → Int32) (a b : Int × Int) : Int × Int :=
  bif decide (a.1 = a.2) && decide (b.1 = b.2) then ((f (Int32.ofInt a.1) (Int32.ofInt b.1)).toInt, (f (Int32.ofInt a.1) (Int32.ofInt b.1)).toInt) else av_top
def av_u1 (f : Int32 → Int32) (a : Int × Int) : Int × Int :=
  bif decide (a.1 = a.2) then ((f (Int32.ofInt a.1)).toInt, (f (Int32.ofInt a.1)).toInt) else av_top
def av_mul (a b : Int × Int) : Int × Int :=
  bif decide (b.1 = b.2) && (decide (0 ≤ a.1) && (decide (0 ≤ b.1) && (decide (a.1 < a.2) && decide (a.2 * b.1 ≤ 2147483647)))) then (a.1 * b.1, a.2 * b.1) else av_b2 (fun x y => x * y) a b
def av_div (a b : Int × Int) : Option (Int × Int) :=
  bif decide (b.1 = b.2) && (decide (0 < b.1) && (decide (0 ≤ a.1) && decide (a.1 < a.2))) then some (0, a.2) else
  bif decide (b.1 = b.2) && (decide (a.1 = a.2) && !decide (b.1 = 0)) then some (av_b2 (fun x y => x / y) a b) else none
def av_rem (a b : Int × Int) : Option (Int × Int) :=
  bif decide (b.1 = b.2) && (decide (0 < b.1) && (decide (0 ≤ a.1) && decide (a.1 < a.2))) then some (0, b.1 - 1) else
  bif decide (b.1 = b.2) && (decide (a.1 = a.2) && !decide (b.1 = 0)) then some (av_b2 (fun x y => x - x / y * y) a b) else none
/-- binary operations on ints -/
def av_bin (q : Instr) : Option ((Int × Int) → (Int × Int) → Option (Int × Int)) := match q with
  | .iadd => some fun a b => some (av_b2 (fun x y => x + y) a b)
  | .isub => some fun a b => some (av_b2 (fun x y => x - y) a b)
  | .imul => some fun a b => some (av_mul a b)
  | .iand => some fun a b => some (av_b2 (fun x y => x &&& y) a b)
  | .ior => some fun a b => some (av_b2 (fun x y => x ||| y) a b)
  | .ishl => some fun a b => some (av_b2 (fun x y => x <<< (y &&& 31)) a b)
  | .ishr => some fun a b => some (av_b2 (fun x y => x >>> (y &&& 31)) a b)
  | .iushr => some fun a b => some (av_b2 (fun x y => (x.toUInt32 >>> (y.toUInt32 &&& Int32.toUInt32 31)).toInt32) a b)
  | .idiv => some av_div
  | .irem => some av_rem
  | _ => none
/-- what is pushed -/
def av_push (q : av_Q) : Option av_V := match q.2.1 with
  | .iconst n => some (av_c (Int32.ofInt n))
  | .bipush n => some (av_c (Int8.ofInt n).toInt32)
  | .sipush n => some (av_c (Int16.ofInt n).toInt32)
  | .ldc _ => some (bif q.2.2.2.1 == 0 then av_c (Int32.ofInt q.2.2.2.2.2) else av_s 0)
  | .ldc_w _ => some (av_c (Int32.ofInt q.2.2.2.2.2))
  | .ldc2_w _ => some (av_l ((Int64.ofInt q.2.2.2.2.2).toInt, (Int64.ofInt q.2.2.2.2.2).toInt))
  | .getstatic _ => some (bif q.2.2.2.1 == 0 then av_c 1 else av_s 3)
  | _ => none
def av_load (q : Instr) : Option (Nat × Nat) := match q with
  | .iload_n k => some (k.val, 1)
  | .iload k => some (k, 1)
  | .aload_n k => some (k.val, 2)
  | .aload k => some (k, 2)
  | _ => none
/-- 1: the local i gets an int; 2: a reference -/
def av_store (q : Instr) : Option (Nat × Nat) := match q with
  | .istore_n k => some (k.val, 1)
  | .istore k => some (k, 1)
  | .astore_n k => some (k.val, 2)
  | .astore k => some (k, 2)
  | _ => none
def av_isI : av_V → Bool
  | .inr (.inl _) => true
  | _ => false
def av_isL : av_V → Bool
  | .inr (.inr (.inl _)) => true
  | _ => false
def av_isR : av_V → Bool
  | .inl (some _) => true
  | _ => false
def av_isA : av_V → Bool
  | .inl _ => true
  | .inr (.inr (.inr _)) => true
  | _ => false
def av_get (L : av_L) (i : Nat) : Option av_V := (L.find? (fun q => q.1 == i)).map Prod.snd
def av_set (L : av_L) (i : Nat) (v : av_V) : av_L := (i, v) :: L.filter (fun q => !(q.1 == i) && !(q.1 + 1 == i && av_isL q.2))
/-- always, never, or not known -/
def av_lt (a b : Int × Int) : Option Bool := bif decide (a.2 < b.1) then some true else bif decide (b.2 ≤ a.1) then some false else none
def av_eq (a b : Int × Int) : Option Bool := bif decide (a.1 = a.2) && (decide (b.1 = b.2) && decide (a.1 = b.1)) then some true else bif decide (a.2 < b.1) || decide (b.2 < a.1) then some false else none
def av_cmp (c : Jvm.ClassFile.Cond) (a b : Int × Int) : Option Bool := match c with
  | .lt => av_lt a b
  | .ge => (av_lt a b).map not
  | .gt => av_lt b a
  | .le => (av_lt b a).map not
  | .eq => av_eq a b
  | .ne => (av_eq a b).map not
def av_tgt (pc : Nat) (off : Int) : Nat := ((pc : Int) + off).toNat
def av_jmp (pc : Nat) (off : Int) : Bool := decide (((pc : Int) + off) = ((((pc : Int) + off).toNat : Nat) : Int))
def av_br (r : Option Bool) (t f : av_S) : List av_S := match r with
  | some true => [t]
  | some false => [f]
  | none => [t, f]
/-- does the value fit a place of this kind: 0 int, 1 byte, 2 boolean, 3 long, 4 and on references -/
def av_fit (t : Nat) (v : av_V) : Bool := match t, v with
  | 0, .inr (.inl _) => true
  | 1, .inr (.inl a) => decide (-128 ≤ a.1) && decide (a.2 ≤ 127)
  | 2, .inr (.inl a) => decide (0 ≤ a.1) && decide (a.2 ≤ 1)
  | 3, .inr (.inr (.inl _)) => true
  | 4, .inl _ => true
  | _, _ => false
/-- the hull of intervals -/
def av_hull : List av_V → Option (Int × Int)
  | [] => some (2147483647, -2147483648)
  | x :: l => match x, av_hull l with
    | .inr (.inl a), some b => some (bif decide (a.1 ≤ b.1) then a.1 else b.1, bif decide (a.2 ≤ b.2) then b.2 else a.2)
    | _, _ => none
/-- reading an array's element: kind t is wanted -/
def av_rd (xs : List av_V) (i : Int × Int) : Option av_V :=
  bif decide (0 ≤ i.1) && decide (i.2 < (xs.length : Int)) then
    bif decide (i.1 = i.2) then xs[i.1.toNat]? else (av_hull ((xs.drop i.1.toNat).take ((i.2 - i.1).toNat + 1))).map av_i
  else none
def av_dfl (t : Nat) : av_V := match t with
  | 3 => av_l (0, 0)
  | 4 => .inl none
  | 5 => .inl none
  | _ => av_i (0, 0)
/-- what an array's element may be: 0 int, 1 byte, 2 boolean, 3 long, 4 and 5 references -/
def av_ldk (q : Instr) : Option Nat := match q with
  | .iaload => some 0
  | .baload => some 1
  | .laload => some 3
  | .aaload => some 4
  | _ => none
def av_stk (q : Instr) : Option Nat := match q with
  | .iastore => some 0
  | .bastore => some 1
  | .aastore => some 4
  | _ => none
/-- static rows: the bytes of the text (1) and the script (2) -/
abbrev av_X : Type := List av_V × Option (List av_V)
def av_row (X : av_X) (j : Nat) : Option (List av_V) := match j with
  | 1 => some X.1
  | 2 => X.2
  | _ => none
/-- the kinds of the fields of a class's objects -/
abbrev av_F : Type := List (List Nat)
def av_one (X : av_X) (F : av_F) (q : av_Q) (S : av_S) : Option (List av_S) :=
  let pc := S.1
  let L := S.2.1
  let st := S.2.2.1
  let h := S.2.2.2.1
  let c := S.2.2.2.2.1
  let n := S.2.2.2.2.2
  let nx := pc + q.2.2.1
  match av_push q with
  | some v => some [(nx, L, v :: st, h, c, n)]
  | none =>
  match av_load q.2.1 with
  | some (i, k) => match av_get L i with
    | some v => bif (bif k == 1 then av_isI v else av_isA v) then some [(nx, L, v :: st, h, c, n)] else none
    | none => none
  | none =>
  match av_store q.2.1 with
  | some (i, k) => match st with
    | v :: st => bif (bif k == 1 then av_isI v else av_isR v) then some [(nx, av_set L i v, st, h, c, n)] else none
    | _ => none
  | none =>
  match av_bin q.2.1 with
  | some f => match st with
    | .inr (.inl b) :: .inr (.inl a) :: st => (f a b).map fun r => [(nx, L, av_i r :: st, h, c, n)]
    | _ => none
  | none =>
  match av_ldk q.2.1 with
  | some t => match st with
    | .inr (.inl i) :: .inl (some k) :: st => match h[k]? with
      | some (.inl (t', xs)) => bif t' == t || (t == 1 && t' == 2) || (t == 4 && t' == 5) then (av_rd xs i).map fun v => [(nx, L, v :: st, h, c, n)] else none
      | _ => none
    | .inr (.inl i) :: .inr (.inr (.inr j)) :: st => match av_row X j with
      | some xs => bif t + j == 2 then (av_rd xs i).map fun v => [(nx, L, v :: st, h, c, n)] else none
      | none => none
    | _ => none
  | none =>
  match av_stk q.2.1 with
  | some t => match st with
    | v :: .inr (.inl i) :: .inl (some k) :: st => match h[k]? with
      | some (.inl (t', xs)) => bif (t' == t || (t == 1 && t' == 2) || (t == 4 && t' == 5)) && (decide (i.1 = i.2) && (decide (0 ≤ i.1) && (decide (i.1 < (xs.length : Int)) && bif t == 4 then (match v with
          | .inl (some j) => match h[j]? with
            | some (.inr (ci, _)) => ci == (bif t' == 4 then 1 else 7)
            | _ => false
          | _ => false) else av_fit t' v)))
          then some [(nx, L, st, h.set k (.inl (t', xs.set i.1.toNat v)), c, n)] else none
      | _ => none
    | _ => none
  | none =>
  match q.2.1 with
  | .getfield _ => match st with
    | .inl (some k) :: st => match h[k]? with
      | some (.inr (ci, fs)) => bif ci == q.2.2.2.1 then (fs[q.2.2.2.2.1]?).map fun v => [(nx, L, v :: st, h, c, n)] else none
      | _ => none
    | .inr (.inr (.inr 0)) :: st => bif q.2.2.2.1 == 100 then some [(nx, L, (bif q.2.2.2.2.1 == 0 then av_s 1 else av_c 0) :: st, h, c, n)] else none
    | _ => none
  | .putfield _ => match st with
    | v :: .inl (some k) :: st => match h[k]? with
      | some (.inr (ci, fs)) => bif ci == q.2.2.2.1 && (decide (q.2.2.2.2.1 < fs.length) && av_fit q.2.2.2.2.2.toNat v) then some [(nx, L, st, h.set k (.inr (ci, fs.set q.2.2.2.2.1 v)), c, n)] else none
      | _ => none
    | _ => none
  | .iinc i z => match av_get L i with
    | some (.inr (.inl a)) => some [(nx, av_set L i (av_i (av_b2 (fun x y => x + y) a (z, z))), st, h, c, n)]
    | _ => none
  | .goto off => bif av_jmp pc off then some [(av_tgt pc off, L, st, h, c, n)] else none
  | .if_icmp o off => match st with
    | .inr (.inl b) :: .inr (.inl a) :: st => bif av_jmp pc off then some (av_br (av_cmp o a b) (av_tgt pc off, L, st, h, c, n) (nx, L, st, h, c, n)) else none
    | _ => none
  | .ifCond o off => match st with
    | .inr (.inl a) :: st => bif av_jmp pc off then some (av_br (av_cmp o a (0, 0)) (av_tgt pc off, L, st, h, c, n) (nx, L, st, h, c, n)) else none
    | _ => none
  | .dup => match st with
    | v :: st => bif !av_isL v then some [(nx, L, v :: v :: st, h, c, n)] else none
    | _ => none
  | .pop => match st with
    | v :: st => bif !av_isL v then some [(nx, L, st, h, c, n)] else none
    | _ => none
  | .dup2 => match st with
    | v :: w :: st => bif !av_isL v && !av_isL w then some [(nx, L, v :: w :: v :: w :: st, h, c, n)] else none
    | _ => none
  | .arraylength => match st with
    | .inl (some k) :: st => match h[k]? with
      | some (.inl (_, xs)) => some [(nx, L, av_c (Int32.ofNat xs.length) :: st, h, c, n)]
      | _ => none
    | .inr (.inr (.inr j)) :: st => (av_row X j).map fun xs => [(nx, L, av_c (Int32.ofNat xs.length) :: st, h, c, n)]
    | _ => none
  | .i2c => match st with
    | .inr (.inl a) :: st => some [(nx, L, av_i (av_u1 (fun x => (x.toUInt32 % 65536).toInt32) a) :: st, h, c, n)]
    | _ => none
  | .i2b => match st with
    | .inr (.inl a) :: st => some [(nx, L, av_i (bif decide (a.1 = a.2) then av_u1 (fun x => x.toInt8.toInt32) a else (-128, 127)) :: st, h, c, n)]
    | _ => none
  | .lcmp => match st with
    | .inr (.inr (.inl b)) :: .inr (.inr (.inl a)) :: st => bif decide (a.1 = a.2) && (decide (b.1 = b.2) && decide (a.1 = b.1)) then some [(nx, L, av_c 0 :: st, h, c, n)] else none
    | _ => none
  | .tableswitch d lo hi offs => match st with
    | .inr (.inl a) :: st => bif decide (a.2 < lo) || decide (hi < a.1) then (bif av_jmp pc d then some [(av_tgt pc d, L, st, h, c, n)] else none) else
      bif decide (a.1 = a.2) && (decide (lo ≤ a.1) && decide (a.1 ≤ hi)) then (match offs[(a.1 - lo).toNat]? with
        | some off => bif av_jmp pc off then some [(av_tgt pc off, L, st, h, c, n)] else none
        | none => none) else none
    | _ => none
  | _ => none
/-- what makes cells -/
def av_mk (mc ms : Nat) (F : av_F) (q : av_Q) (S : av_S) : Option av_S :=
  let pc := S.1
  let L := S.2.1
  let st := S.2.2.1
  let h := S.2.2.2.1
  let c := S.2.2.2.2.1
  let n := S.2.2.2.2.2
  let nx := pc + q.2.2.1
  match q.2.1 with
  | .new _ => match F[q.2.2.2.1]? with
    | some ks => bif decide (c + 1 ≤ mc) && decide (n + ks.length ≤ ms) then some (nx, L, av_r h.length :: st, h ++ [.inr (q.2.2.2.1, ks.map av_dfl)], c + 1, n + ks.length) else none
    | none => none
  | .newarray _ => match st with
    | .inr (.inl a) :: st => bif decide (a.1 = a.2) && (decide (0 ≤ a.1) && (decide (a.1 ≤ 10000) && (decide (q.2.2.2.1 ≤ 3) && (decide (c + 1 ≤ mc) && decide (n + a.1.toNat ≤ ms))))) then
        some (nx, L, av_r h.length :: st, h ++ [.inl (q.2.2.2.1, List.replicate a.1.toNat (av_dfl q.2.2.2.1))], c + 1, n + a.1.toNat) else none
    | _ => none
  | .anewarray _ => match st with
    | .inr (.inl a) :: st => bif decide (a.1 = a.2) && (decide (0 ≤ a.1) && (decide (a.1 ≤ 10000) && ((q.2.2.2.1 == 4 || q.2.2.2.1 == 5) && (decide (c + 1 ≤ mc) && decide (n + a.1.toNat ≤ ms))))) then
        some (nx, L, av_r h.length :: st, h ++ [.inl (q.2.2.2.1, List.replicate a.1.toNat (.inl none))], c + 1, n + a.1.toNat) else none
    | _ => none
  | _ => none
def av_all {α β : Type} (f : α → Option (List β)) : List α → Option (List β)
  | [] => some []
  | x :: l => match f x with
    | none => none
    | some a => match av_all f l with
      | none => none
      | some b => some (a ++ b)
def av_from (pc : Nat) : List av_Q → List av_Q
  | [] => []
  | q :: l => bif q.1 == pc then q :: l else av_from pc l
def av_ent (i : Nat) : List av_V → av_L
  | [] => []
  | v :: l => (i, v) :: av_ent (i + 1) l
def av_wid (st : List av_V) : Nat := (st.map fun v => bif av_isL v then 2 else 1).sum
/-- a callee's room within the caller's -/
def av_fits (M M' : av_M) (c n na : Nat) (rest : List av_V) : Bool :=
  decide (na ≤ M'.1.2.2.2.1) && (  decide (c + M'.2.2.1 ≤ M.2.2.1) && (decide (n + M'.2.2.2.1 ≤ M.2.2.2.1) && (decide (M'.2.2.2.2.1 + 1 ≤ M.2.2.2.2.1) && (decide (8 + (M'.1.2.2.2.1 + 11) + M'.2.2.2.2.2 ≤ M.2.2.2.2.2) && decide (av_wid rest ≤ 8)))))
/-- the call's callee, its arguments, the rest of the stack; 0 virtual, 1 special, 2 static -/
def av_call (q : av_Q) (S : av_S) : Option (Nat × List av_V × List av_V) :=
  let st := S.2.2.1
  let h := S.2.2.2.1
  let np := q.2.2.2.2.1
  bif decide (np ≤ st.length) && (st.take np).all (fun v => !av_isL v) then
    match q.2.1 with
    | .invokestatic _ => some (q.2.2.2.1, (st.take np).reverse, st.drop np)
    | .invokevirtual _ => match st.drop np with
      | .inl (some k) :: rest => match h[k]? with
        | some (.inr (ci, _)) => bif ci == q.2.2.2.2.2.toNat then some (q.2.2.2.1, av_r k :: (st.take np).reverse, rest) else none
        | _ => none
      | .inr (.inr (.inr 0)) :: rest => bif q.2.2.2.2.2.toNat == 100 then some (q.2.2.2.1, av_s 0 :: (st.take np).reverse, rest) else none
      | _ => none
    | .invokespecial _ => match st.drop np with
      | .inl (some k) :: rest => some (q.2.2.2.1, av_r k :: (st.take np).reverse, rest)
      | _ => none
    | _ => none
  else none
/-- a return: what is returned -/
def av_ret (M : av_M) (q : av_Q) (S : av_S) : Option (Option av_V) :=
  bif decide (S.2.2.2.2.1 ≤ M.2.2.1) && decide (S.2.2.2.2.2 ≤ M.2.2.2.1) then
  match q.2.1, S.2.2.1, M.1.2.2.2.2 with
  | .ireturn, [.inr (.inl a)], some .int => some (some (av_i a))
  | .ireturn, [.inr (.inl a)], some .boolean => bif av_fit 2 (av_i a) then some (some (av_i a)) else none
  | .ireturn, [.inr (.inl a)], some .byte => bif av_fit 1 (av_i a) then some (some (av_i a)) else none
  | .ireturn, [.inr (.inl a)], some .char => bif decide (0 ≤ a.1) && decide (a.2 ≤ 65535) then some (some (av_i a)) else none
  | .lreturn, [.inr (.inr (.inl a))], some .long => some (some (av_l a))
  | .return_, [], none => some none
  | _, _, _ => none
  else none
abbrev av_O : Type := List (Option av_V × av_H)
/-- Object.<init> -/
def av_obj (M : av_M) (q : av_Q) (S : av_S) : Option av_S := match q.2.1 with
  | .invokespecial _ => bif q.2.2.2.1 == 9999 then (match S.2.2.1 with
    | .inl (some _) :: rest => bif decide (1 ≤ M.2.2.2.2.1) && decide (av_wid rest + 12 ≤ M.2.2.2.2.2) then some (S.1 + q.2.2.1, S.2.1, rest, S.2.2.2) else none
    | _ => none) else none
  | .invokestatic _ => bif q.2.2.2.1 == 9001 || q.2.2.2.1 == 9002 then (match S.2.2.1 with
    | .inr (.inl b) :: .inr (.inl a) :: rest => bif decide (1 ≤ M.2.2.2.2.1) && (decide (av_wid rest + 13 ≤ M.2.2.2.2.2) && (decide (S.2.2.2.2.1 ≤ M.2.2.1) && decide (S.2.2.2.2.2 ≤ M.2.2.2.1))) then
        some (S.1 + q.2.2.1, S.2.1, av_i (bif q.2.2.2.1 == 9001 then av_b2 (fun x y => if x < y then y else x) a b else av_b2 (fun x y => if y < x then y else x) a b) :: rest, S.2.2.2) else none
    | _ => none) else none
  | _ => none
noncomputable def av_run (F : av_F) (mt : Nat → av_M) (fuel : Nat) : av_X → Nat → List av_Q → av_S → Option av_O :=
  Nat.rec (motive := fun _ => av_X → Nat → List av_Q → av_S → Option av_O) (fun _ _ _ _ => none) (fun _ ih X mi sfx S =>
    match sfx with
    | [] => none
    | q :: rest =>
      bif q.1 == S.1 then
        match av_one X F q S with
        | some ss => av_all (fun S' => ih X mi (bif S'.1 == S.1 + q.2.2.1 then rest else av_from S'.1 (mt mi).2.1) S') ss
        | none =>
        match av_mk (mt mi).2.2.1 (mt mi).2.2.2.1 F q S with
        | some S' => ih X mi rest S'
        | none =>
        match av_obj (mt mi) q S with
        | some S' => ih X mi rest S'
        | none =>
        match av_call q S with
        | some (j, args, stk) =>
          bif av_fits (mt mi) (mt j) S.2.2.2.2.1 S.2.2.2.2.2 args.length stk then
            match ih (X.1, none) j (mt j).2.1 (0, av_ent 0 args, [], S.2.2.2.1, 0, 0) with
            | some outs => av_all (fun (o : Option av_V × av_H) => ih X mi rest (S.1 + q.2.2.1, S.2.1, o.1.toList ++ stk, o.2, S.2.2.2.2.1 + (mt j).2.2.1, S.2.2.2.2.2 + (mt j).2.2.2.1)) outs
            | none => none
          else none
        | none =>
        match av_ret (mt mi) q S with
        | some r => some [(r, S.2.2.2.1)]
        | none => none
      else none) fuel
